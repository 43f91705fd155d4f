theorem m32 : (-1200 : Int) < FP.Core.b32.qmin := by decide
theorem m64 : (-1200 : Int) < FP.Core.b64.qmin := by decide
theorem two_m (a b : Nat) : (2 : Nat) ^ a * 2 ^ b = 2 ^ (a + b) := (Nat.pow_add 2 a b).symm
theorem iU_le {q : Int} {c k : Nat} (h : iU c q ≤ k * 2 ^ 1250) : iU c q ≤ iU k 50 := by
  have e : iU k 50 = k * 2 ^ 1250 := iU_n k 1250
  rw [e]; exact h
/-- a value of one format that stays within bounds, rounded to floats -/
theorem rnd32 {c k : Nat} {q : Int} (hq : -1200 ≤ q) (hk : k < 2 ^ 24) (h : iU c q ≤ k * 2 ^ 1250) : ∃ c' q', FP.Core.round FP.Core.b32 (.fin false c q) = .fin false c' q' ∧ iU c' q' ≤ k * 2 ^ 1250 := by
  have e : iU k 50 = k * 2 ^ 1250 := iU_n k 1250
  obtain ⟨c', q', h1, -, h3⟩ := rr_bd FP.Core.good_b32 (A := c) (B := 1) (c1 := 0) (c2 := k) (e := q) (q1 := 0) (q2 := 50) (by decide) m32 hq (by decide) (by decide) (by rw [show iU 0 0 = 0 from Nat.zero_mul _]; exact Nat.zero_le _) hk (by decide) (by decide) (by rw [e, Nat.mul_one]; exact h)
  exact ⟨c', q', h1, by rw [← e]; exact h3⟩
theorem rnd64 {c k : Nat} {q : Int} (hq : -1200 ≤ q) (hk : k < 2 ^ 53) (h : iU c q ≤ k * 2 ^ 1250) (hl : c = 0 ∨ 2 ^ 1051 ≤ iU c q) : ∃ c' q', FP.Core.round FP.Core.b64 (.fin false c q) = .fin false c' q' ∧ iU c' q' ≤ k * 2 ^ 1250 ∧ (c' = 0 ∨ 2 ^ 1051 ≤ iU c' q') := by
  have e : iU k 50 = k * 2 ^ 1250 := iU_n k 1250
  have e1 : iU 1 (-149) = 2 ^ 1051 := (iU_n 1 1051).trans (Nat.one_mul _)
  rcases hl with rfl | hl
  · exact ⟨0, _, rfl, by rw [show iU 0 FP.Core.b64.qmin = 0 from Nat.zero_mul _]; exact Nat.zero_le _, Or.inl rfl⟩
  · obtain ⟨c', q', h1, h2, h3⟩ := rr_bd FP.Core.good_b64 (A := c) (B := 1) (c1 := 1) (c2 := k) (e := q) (q1 := -149) (q2 := 50) (by decide) m64 hq (by decide) (by decide) (by rw [e1, Nat.mul_one]; exact hl) hk (by decide) (by decide) (by rw [e, Nat.mul_one]; exact h)
    exact ⟨c', q', h1, by rw [← e]; exact h3, Or.inr (by rw [← e1]; exact h2)⟩
/-- a value that is a number of the format, told by its units -/
theorem rex64 {A B c : Nat} {e q : Int} (hB : 0 < B) (he : -1200 ≤ e) (hc : c < 2 ^ 53) (h1 : -1074 ≤ q) (h2 : q < 971) (h : iU A e = iU c q * B) : ∃ c' q', FP.Core.roundRatio FP.Core.b64 false A B e = .fin false c' q' ∧ iU c' q' = iU c q := by
  obtain ⟨c', q', g1, g2, g3⟩ := rr_bd FP.Core.good_b64 (A := A) (B := B) (c1 := c) (c2 := c) (e := e) (q1 := q) (q2 := q) hB m64 he hc h1 (Nat.le_of_eq h.symm) hc h1 h2 (Nat.le_of_eq h)
  exact ⟨c', q', g1, Nat.le_antisymm g3 g2⟩
theorem rex32 {A B c : Nat} {e q : Int} (hB : 0 < B) (he : -1200 ≤ e) (hc : c < 2 ^ 24) (h1 : -149 ≤ q) (h2 : q < 104) (h : iU A e = iU c q * B) : ∃ c' q', FP.Core.roundRatio FP.Core.b32 false A B e = .fin false c' q' ∧ iU c' q' = iU c q := by
  obtain ⟨c', q', g1, g2, g3⟩ := rr_bd FP.Core.good_b32 (A := A) (B := B) (c1 := c) (c2 := c) (e := e) (q1 := q) (q2 := q) hB m32 he hc h1 (Nat.le_of_eq h.symm) hc h1 h2 (Nat.le_of_eq h)
  exact ⟨c', q', g1, Nat.le_antisymm g3 g2⟩
/-- sums -/
theorem sum_ff {c d : Nat} {q r : Int} (hq : -1200 ≤ q) (hr : -1200 ≤ r) : ∃ a e, FP.Core.exactSum (.fin false c q) (.fin false d r) = .fin false a e ∧ -1200 ≤ e ∧ iU a e = iU c q + iU d r := by
  have hu : FP.Core.sumUnits false c q false d r (min q r) = ((FP.Core.inUnits c q (min q r) + FP.Core.inUnits d r (min q r) : Nat) : Int) := by
    unfold FP.Core.sumUnits FP.Core.signed
    simp
  refine ⟨FP.Core.inUnits c q (min q r) + FP.Core.inUnits d r (min q r), min q r, ?_, by omega, ?_⟩
  · show FP.Core.Datum.fin (FP.Core.sumSign false false _) (FP.Core.sumUnits false c q false d r (min q r)).natAbs (min q r) = _
    rw [hu]
    have hs : FP.Core.sumSign false false ((FP.Core.inUnits c q (min q r) + FP.Core.inUnits d r (min q r) : Nat) : Int) = false := by
      unfold FP.Core.sumSign
      split
      · rfl
      · exact decide_eq_false (by omega)
    rw [hs]
    rfl
  · have h1 := FP.Core.inUnits_move c (q := q) (r := min q r) (e := -1200) (by omega) (by omega)
    have h2 := FP.Core.inUnits_move d (q := r) (r := min q r) (e := -1200) (by omega) (by omega)
    unfold iU
    rw [h1, h2]
    show (_ + _) * 2 ^ _ = _
    rw [Nat.add_mul]
theorem B32.add {k l : Nat} {x y : UInt32} (hx : B32 k x) (hy : B32 l y) (h : k + l < 2 ^ 24) : B32 (k + l) (FP.fadd x y) := by
  obtain ⟨c, q, h1, h2⟩ := hx
  obtain ⟨d, r, g1, g2⟩ := hy
  have b1 := bits32 h1
  have b2 := bits32 g1
  obtain ⟨a, e, s1, s2, s3⟩ := sum_ff (c := c) (d := d) (q := q) (r := r) (by omega) (by omega)
  obtain ⟨c', q', r1, r2⟩ := rnd32 (k := k + l) s2 h (by rw [s3, Nat.add_mul]; omega)
  exact ⟨c', q', by rw [show FP.fadd x y = FP.Core.fadd x y from rfl, FP.Core.val32_fadd, h1, g1, s1, r1], r2⟩
theorem B64.add {k l : Nat} {x y : UInt64} (hx : B64 k x) (hy : B64 l y) (h : k + l < 2 ^ 53) : B64 (k + l) (FP.dadd x y) := by
  obtain ⟨c, q, h1, h2, h3⟩ := hx
  obtain ⟨d, r, g1, g2, g3⟩ := hy
  have b1 := bits64 h1
  have b2 := bits64 g1
  obtain ⟨a, e, s1, s2, s3⟩ := sum_ff (c := c) (d := d) (q := q) (r := r) (by omega) (by omega)
  have hl : a = 0 ∨ 2 ^ 1051 ≤ iU a e := by
    rw [s3]
    generalize (2 : Nat) ^ 1051 = P at h3 g3 ⊢
    rcases h3 with z | z
    · rcases g3 with y | y
      · left
        subst z y
        have e0 : iU a e = 0 := by rw [s3, show iU 0 q = 0 from Nat.zero_mul _, show iU 0 r = 0 from Nat.zero_mul _]
        rw [iU_q s2] at e0
        rcases Nat.mul_eq_zero.mp e0 with w | w
        · exact w
        · exact absurd w (Nat.ne_of_gt (Nat.two_pow_pos _))
      · right; omega
    · right; omega
  obtain ⟨c', q', r1, r2, r3⟩ := rnd64 (k := k + l) s2 h (by rw [s3, Nat.add_mul]; omega) hl
  exact ⟨c', q', by rw [show FP.dadd x y = FP.Core.dadd x y from rfl, FP.Core.val64_dadd, h1, g1, s1, r1], r2, r3⟩
/-- whole numbers -/
theorem nat_i2f {n : Int32} (h0 : 0 ≤ n.toInt) (h : n.toInt < 16777216) : ∃ d r, FP.Core.val32 (FP.i2f n) = .fin false d r ∧ iU d r = iU n.toInt.toNat 0 ∧ -149 ≤ r := by
  have e1 : FP.Core.ofInt n.toInt = .fin false n.toInt.toNat 0 := by
    unfold FP.Core.ofInt
    rw [decide_eq_false (by omega), show n.toInt.natAbs = n.toInt.toNat by omega]
  obtain ⟨c', q', r1, r2⟩ := rex32 (A := n.toInt.toNat) (B := 1) (c := n.toInt.toNat) (e := 0) (q := 0) (by decide) (by decide) (by omega) (by decide) (by decide) (Nat.mul_one _).symm
  have e2 : FP.Core.val32 (FP.i2f n) = .fin false c' q' := by
    show FP.Core.val32 (FP.Core.i2f n) = _
    rw [FP.Core.val32_i2f, e1]; exact r1
  exact ⟨c', q', e2, r2, (bits32 e2).2.2.2.1⟩
theorem nat_l2d {n : Int64} (h0 : 0 ≤ n.toInt) (h : n.toInt < 9007199254740992) : ∃ d r, FP.Core.val64 (FP.l2d n) = .fin false d r ∧ iU d r = iU n.toInt.toNat 0 ∧ -1074 ≤ r := by
  have e1 : FP.Core.ofInt n.toInt = .fin false n.toInt.toNat 0 := by
    unfold FP.Core.ofInt
    rw [decide_eq_false (by omega), show n.toInt.natAbs = n.toInt.toNat by omega]
  obtain ⟨c', q', r1, r2⟩ := rex64 (A := n.toInt.toNat) (B := 1) (c := n.toInt.toNat) (e := 0) (q := 0) (by decide) (by decide) (by omega) (by decide) (by decide) (Nat.mul_one _).symm
  have e2 : FP.Core.val64 (FP.l2d n) = .fin false c' q' := by
    show FP.Core.val64 (FP.Core.l2d n) = _
    rw [FP.Core.val64_l2d, e1]; exact r1
  exact ⟨c', q', e2, r2, (bits64 e2).2.2.2.1⟩
/-- products -/
theorem iU_mul {c d : Nat} {q r : Int} (hq : -1200 ≤ q) (hr : -1200 ≤ r) (hs : -1200 ≤ q + r) : iU (c * d) (q + r) * 2 ^ 1200 = iU c q * iU d r := by
  rw [iU_q hq, iU_q hr, iU_q hs, Nat.mul_mul_mul_comm, Nat.mul_assoc (c * d), two_m, two_m]
  congr 2
  omega
theorem B32.mul {k l : Nat} {x y : UInt32} {d : Nat} {r : Int} (hx : B32 k x) (hy : FP.Core.val32 y = .fin false d r) (hl : iU d r ≤ l * 2 ^ 1200) (h : k * l < 2 ^ 24) : B32 (k * l) (FP.fmul x y) := by
  obtain ⟨c, q, h1, h2⟩ := hx
  have b1 := bits32 h1
  have b2 := bits32 hy
  have hm := iU_mul (c := c) (d := d) (q := q) (r := r) (by omega) (by omega) (by omega)
  have hle : iU (c * d) (q + r) ≤ k * l * 2 ^ 1250 := by
    refine Nat.le_of_mul_le_mul_right (c := 2 ^ 1200) ?_ (Nat.two_pow_pos _)
    rw [hm]
    refine Nat.le_trans (Nat.mul_le_mul h2 hl) (Nat.le_of_eq ?_)
    generalize (2 : Nat) ^ 1250 = a
    generalize (2 : Nat) ^ 1200 = b
    ac_rfl
  obtain ⟨c', q', r1, r2⟩ := rnd32 (c := c * d) (q := q + r) (k := k * l) (by omega) h hle
  refine ⟨c', q', ?_, r2⟩
  show FP.Core.val32 (FP.Core.fmul x y) = _
  rw [FP.Core.val32_fmul, h1, hy, ← r1]
  rfl
