theorem n64_fin {x : UInt64} {c : Nat} {q : Int} (h : FP.Core.val64 x = .fin false c q) : vf_n64 x := by
  have := (bits64 h).2.1
  unfold vf_n64
  rw [UInt64.le_iff_toNat_le, UInt64.toNat_and]
  refine Nat.le_trans Nat.and_le_left ?_
  show _ ≤ 9218868437227405312
  omega
theorem v_16f : FP.Core.val32 1098907648 = .fin false 8388608 (-19) := by decide +kernel
theorem v_1000f : FP.Core.val32 1148846080 = .fin false 16384000 (-14) := by decide +kernel
theorem v_2d : FP.Core.val64 4611686018427387904 = .fin false 4503599627370496 (-51) := by decide +kernel
theorem v_1d : FP.Core.val64 FP.dconst1 = .fin false 4503599627370496 (-52) := by decide +kernel
theorem v_0d : FP.Core.val64 FP.dconst0 = .fin false 0 (-1074) := by decide +kernel
theorem v_0f : FP.Core.val32 FP.fconst0 = .fin false 0 (-149) := by decide +kernel
theorem v_52d : FP.Core.val64 4841369599423283200 = .fin false 4503599627370496 0 := by decide +kernel
theorem iU_up {q : Int} (hq : -1200 ≤ q) (c n : Nat) : iU c (q + n) = iU c q * 2 ^ n := by
  rw [iU_q hq, iU_q (by omega), Nat.mul_assoc, two_m]
  congr 2
  omega
theorem B32.div16 {k : Nat} {x : UInt32} (hx : B32 (k * 16) x) (h : k < 2 ^ 24) : B32 k (FP.fdiv x 1098907648) := by
  obtain ⟨c, q, h1, h2⟩ := hx
  have b1 := bits32 h1
  have e : iU k 50 = k * 2 ^ 1250 := iU_n k 1250
  have e2 : iU c (q - -19) = iU c q * 2 ^ 19 := by
    have := iU_up (q := q) (by omega) c 19
    exact this
  have e3 : iU c q * 2 ^ 19 ≤ k * 2 ^ 1250 * 8388608 := by
    refine Nat.le_trans (Nat.mul_le_mul_right _ h2) (Nat.le_of_eq ?_)
    rw [show (2 : Nat) ^ 19 = 524288 from rfl]
    generalize (2 : Nat) ^ 1250 = a
    rw [show k * 16 * a = k * a * 16 by ac_rfl]
    generalize k * a = b
    omega
  obtain ⟨c', q', r1, -, r3⟩ := rr_bd FP.Core.good_b32 (A := c) (B := 8388608) (c1 := 0) (c2 := k) (e := q - -19) (q1 := 0) (q2 := 50) (by decide) m32 (by omega) (by decide) (by decide) (by rw [show iU 0 0 = 0 from Nat.zero_mul _, Nat.zero_mul]; exact Nat.zero_le _) h (by decide) (by decide) (by rw [e, e2]; exact e3)
  refine ⟨c', q', ?_, by rw [← e]; exact r3⟩
  show FP.Core.val32 (FP.Core.fdiv x 1098907648) = _
  rw [FP.Core.val32_fdiv, h1, v_16f, ← r1]
  rfl
theorem d2f_c {x : UInt64} {c : Nat} {q : Int} (h : FP.Core.val64 x = .fin false c q) : FP.d2f x = FP.Core.d2f x := by
  unfold FP.d2f
  have e : FP.Core.dIsNaN x = false := decide_eq_false (show ¬ FP.Core.val64 x = .nan by rw [h]; exact fun z => by cases z)
  rw [e]
  rfl
theorem f2d_c {x : UInt32} {c : Nat} {q : Int} (h : FP.Core.val32 x = .fin false c q) : FP.f2d x = FP.Core.f2d x := by
  unfold FP.f2d
  have e : FP.Core.fIsNaN x = false := decide_eq_false (show ¬ FP.Core.val32 x = .nan by rw [h]; exact fun z => by cases z)
  rw [e]
  rfl
theorem B64.d2f {k : Nat} {x : UInt64} (hx : B64 k x) (h : k < 2 ^ 24) : B32 k (FP.d2f x) := by
  obtain ⟨c, q, h1, h2, h3⟩ := hx
  have b1 := bits64 h1
  obtain ⟨c', q', r1, r2⟩ := rnd32 (c := c) (q := q) (k := k) (by omega) h h2
  exact ⟨c', q', by rw [d2f_c h1, FP.Core.val32_d2f, h1, r1], r2⟩
theorem f2d_ex {x : UInt32} {c : Nat} {q : Int} (h1 : FP.Core.val32 x = .fin false c q) : ∃ c' q', FP.Core.val64 (FP.f2d x) = .fin false c' q' ∧ iU c' q' = iU c q := by
  have b1 := bits32 h1
  obtain ⟨c', q', r1, r2⟩ := rex64 (A := c) (B := 1) (c := c) (e := q) (q := q) (by decide) (by omega) (by omega) (by omega) (by omega) (Nat.mul_one _).symm
  exact ⟨c', q', by rw [f2d_c h1, FP.Core.val64_f2d, h1]; exact r1, r2⟩
theorem iU_0 {c : Nat} {q : Int} (hq : -1200 ≤ q) : iU c q = 0 ↔ c = 0 := by
  rw [iU_q hq]
  constructor
  · intro h
    rcases Nat.mul_eq_zero.mp h with w | w
    · exact w
    · exact absurd w (Nat.ne_of_gt (Nat.two_pow_pos _))
  · rintro rfl; exact Nat.zero_mul _
theorem iU_lo {c : Nat} {q : Int} {n : Nat} (hq : (n : Int) - 1200 ≤ q) (hc : ¬ c = 0) : 2 ^ n ≤ iU c q := by
  rw [iU_q (by omega)]
  calc 2 ^ n ≤ 2 ^ (q + 1200).toNat := Nat.pow_le_pow_right (by decide) (by omega)
    _ = 1 * 2 ^ (q + 1200).toNat := (Nat.one_mul _).symm
    _ ≤ c * 2 ^ (q + 1200).toNat := Nat.mul_le_mul_right _ (by omega)
theorem B32.f2d {k : Nat} {x : UInt32} (hx : B32 k x) : B64 k (FP.f2d x) := by
  obtain ⟨c, q, h1, h2⟩ := hx
  have b1 := bits32 h1
  obtain ⟨c', q', r1, r2⟩ := f2d_ex h1
  have b2 := bits64 r1
  refine ⟨c', q', r1, by rw [r2]; exact h2, ?_⟩
  by_cases z : c = 0
  · left
    refine (iU_0 (q := q') (by omega)).mp ?_
    rw [r2]
    exact (iU_0 (by omega)).mpr z
  · right
    rw [r2]
    exact iU_lo (n := 1051) (by omega) z
theorem mea_b {B : LT} (h : Ph 1125899906842624 40 B) : B64 1 (meaO B) := by
  obtain ⟨p1, p2, -, p4, p5⟩ := id h
  have hs := shl_int (x := 1) (e := B.2.2.2.2) (n := 40) (by decide) ⟨p4, p5⟩ (by decide) (by decide)
  rw [show (1 : Int64).toInt = 1 from rfl, Int.one_mul] at hs
  obtain ⟨E, hE⟩ : ∃ E : Nat, B.2.2.2.2.toInt.toNat = E := ⟨_, rfl⟩
  rw [hE] at hs
  have hE40 : E ≤ 40 := by omega
  have hp1 := Nat.pow_le_pow_right (n := 2) (by decide) hE40
  have hp2 := Nat.two_pow_pos E
  have hs2 : (shlO 1 B.2.2.2.2).toInt = ((2 ^ E : Nat) : Int) := by rw [hs]; exact (Int.natCast_pow 2 E).symm
  obtain ⟨c, q, a1, a2, a3⟩ := nat_l2d (n := B.1) p1 (by omega)
  obtain ⟨d, r, d1, d2, d3⟩ := nat_l2d (n := shlO 1 B.2.2.2.2) (by omega) (by omega)
  have hI : (B.1.toInt.toNat : Nat) ≤ 2 ^ 50 := by
    show _ ≤ 1125899906842624
    omega
  generalize B.1.toInt.toNat = I at a2 hI
  rw [show (shlO 1 B.2.2.2.2).toInt.toNat = 2 ^ E by omega] at d2
  have k0 (n : Nat) : iU n 0 = n * 2 ^ 1200 := iU_n n 1200
  rw [k0] at a2 d2
  have bq := bits64 a1
  have br := bits64 d1
  have hd0 : ¬ d = 0 := fun z => by
    subst z
    rw [show iU 0 r = 0 from Nat.zero_mul _] at d2
    exact absurd d2.symm (Nat.ne_of_gt (Nat.mul_pos hp2 (Nat.two_pow_pos _)))
  have hval : FP.Core.val64 (meaO B) = FP.Core.roundRatio FP.Core.b64 false c d (q - r) := by
    show FP.Core.val64 (FP.Core.ddiv _ _) = _
    rw [FP.Core.val64_ddiv, a1, d1]
    show (if d = 0 then _ else FP.Core.roundRatio FP.Core.b64 (false != false) c d (q - r)) = _
    rw [if_neg hd0]
    rfl
  by_cases hI0 : I = 0
  · subst hI0
    rw [Nat.zero_mul] at a2
    have hc0 := (iU_0 (q := q) (by omega)).mp a2
    subst hc0
    exact ⟨0, FP.Core.b64.qmin, hval, by rw [show iU 0 FP.Core.b64.qmin = 0 from Nat.zero_mul _]; exact Nat.zero_le _, Or.inl rfl⟩
  · have hr : r ≤ 40 := by
      refine Int.not_lt.mp (fun z => ?_)
      have := iU_lo (c := d) (q := r) (n := 1241) (by omega) hd0
      rw [d2, two_m] at this
      have := (Nat.pow_le_pow_iff_right (a := 2) (by decide)).mp this
      omega
    have hq53 : -53 ≤ q := by
      refine Int.not_lt.mp (fun z => ?_)
      have h1 : iU c q < 2 ^ 53 * 2 ^ (q + 1200).toNat := by
        rw [iU_q (by omega)]
        exact Nat.mul_lt_mul_of_pos_right bq.2.2.1 (Nat.two_pow_pos _)
      have h2 : 2 ^ 53 * 2 ^ (q + 1200).toNat ≤ 2 ^ 1200 := by
        rw [two_m]
        exact Nat.pow_le_pow_right (by decide) (by omega)
      have h3 : 1 * 2 ^ 1200 ≤ I * 2 ^ 1200 := Nat.mul_le_mul_right _ (by omega)
      rw [a2] at h1
      generalize (2 : Nat) ^ 1200 = P at *
      omega
    have hm : iU c (q - r) * 2 ^ (r + 1200).toNat = I * 2 ^ 1200 * 2 ^ 1200 := by
      rw [← a2, iU_q (by omega), iU_q (by omega), Nat.mul_assoc, Nat.mul_assoc, two_m, two_m]
      congr 2
      omega
    have hdr : d * 2 ^ (r + 1200).toNat = 2 ^ E * 2 ^ 1200 := by rw [← d2, iU_q (by omega)]
    have e1 : iU 1 50 = 2 ^ 1250 := (iU_n 1 1250).trans (Nat.one_mul _)
    have e2 : iU 1 (-149) = 2 ^ 1051 := (iU_n 1 1051).trans (Nat.one_mul _)
    obtain ⟨c', q', r1, r2, r3⟩ := rr_bd FP.Core.good_b64 (A := c) (B := d) (c1 := 1) (c2 := 1) (e := q - r) (q1 := -149) (q2 := 50) (by omega) m64 (by omega) (by decide) (by decide) (by
        refine Nat.le_of_mul_le_mul_right (c := 2 ^ (r + 1200).toNat) ?_ (Nat.two_pow_pos _)
        rw [hm, Nat.mul_assoc I, Nat.mul_assoc (iU 1 (-149)), hdr, e2, two_m, two_m, two_m]
        calc 2 ^ (1051 + (E + 1200)) ≤ 2 ^ (1200 + 1200) := Nat.pow_le_pow_right (by decide) (by omega)
          _ = 1 * 2 ^ (1200 + 1200) := (Nat.one_mul _).symm
          _ ≤ I * 2 ^ (1200 + 1200) := Nat.mul_le_mul_right _ (by omega)) (by decide) (by decide) (by decide) (by
        refine Nat.le_of_mul_le_mul_right (c := 2 ^ (r + 1200).toNat) ?_ (Nat.two_pow_pos _)
        rw [hm, Nat.mul_assoc I, Nat.mul_assoc (iU 1 50), hdr, e1, two_m, two_m, two_m]
        calc I * 2 ^ (1200 + 1200) ≤ 2 ^ 50 * 2 ^ (1200 + 1200) := Nat.mul_le_mul_right _ hI
          _ = 2 ^ (50 + (1200 + 1200)) := two_m _ _
          _ ≤ 2 ^ (1250 + (E + 1200)) := Nat.pow_le_pow_right (by decide) (by omega))
    exact ⟨c', q', hval.trans r1, by rw [Nat.one_mul, ← e1]; exact r3, Or.inr (by rw [← e2]; exact r2)⟩
theorem iU_i2f {n : Nat} (h : n < 17) : ∃ d r, FP.Core.val32 (FP.i2f (nI n)) = .fin false d r ∧ iU d r ≤ 16 * 2 ^ 1200 := by
  have e : (nI n).toInt = n := nI_toInt (by omega)
  obtain ⟨d, r, h1, h2, -⟩ := nat_i2f (n := nI n) (by omega) (by omega)
  refine ⟨d, r, h1, ?_⟩
  rw [h2, e, show (n : Int).toNat = n from rfl, show iU n 0 = n * 2 ^ 1200 from iU_n n 1200]
  exact Nat.mul_le_mul_right _ (by omega)
theorem B32.dim {k : Nat} {x : UInt32} {n : Nat} (hx : B32 k x) (hn : n < 17) (h : k < 2 ^ 20) : B32 (k * 16) (FP.fmul x (FP.i2f (nI n))) ∧ B32 k (dimO x (nI n)) := by
  obtain ⟨d, r, h1, h2⟩ := iU_i2f hn
  have h3 := hx.mul h1 h2 (by omega)
  exact ⟨h3, h3.div16 (by omega)⟩
theorem B32.thou {k : Nat} {x : UInt32} (hx : B32 k x) (h : k < 2 ^ 14) : B32 (k * 1000) (FP.fmul x 1148846080) := by
  refine hx.mul v_1000f ?_ (by omega)
  rw [show iU 16384000 (-14) = 16384000 * 2 ^ 1186 from iU_n _ 1186, show (1000 : Nat) * 2 ^ 1200 = 16384000 * 2 ^ 1186 by rw [show (2 : Nat) ^ 1200 = 2 ^ 14 * 2 ^ 1186 from (two_m 14 1186).symm, ← Nat.mul_assoc]]
  exact Nat.le_refl _
theorem b0_32 : B32 0 FP.fconst0 := ⟨0, -149, v_0f, by rw [show iU 0 (-149) = 0 from Nat.zero_mul _]; exact Nat.zero_le _⟩
theorem b0_64 : B64 0 FP.dconst0 := ⟨0, -1074, v_0d, by rw [show iU 0 (-1074) = 0 from Nat.zero_mul _]; exact Nat.zero_le _, Or.inl rfl⟩
theorem sumN_b {f : Nat → UInt32} {k : Nat} (hk : k < 2 ^ 16) : ∀ n, n ≤ 8 → (∀ j, j < 8 → B32 k (f j)) → B32 (n * k) (sumN f n)
  | 0, _, _ => by rw [Nat.zero_mul]; exact b0_32
  | n + 1, hn, h => by
    have h1 := sumN_b hk n (by omega) h
    have h2 := B32.add h1 (h n (by omega)) (by have := Nat.mul_le_mul_right k (show n ≤ 8 by omega); omega)
    rw [Nat.add_mul, Nat.one_mul]
    exact h2
theorem sumW_b {f : Nat → UInt32} {k : Nat} (hk : k < 2 ^ 16) : ∀ n, n ≤ 8 → (∀ j, j < 8 → B32 k (f j)) → B64 (n * k) (sumW f n)
  | 0, _, _ => by rw [Nat.zero_mul]; exact b0_64
  | n + 1, hn, h => by
    have h1 := sumW_b hk n (by omega) h
    have h2 := B64.add h1 (h n (by omega)).f2d (by have := Nat.mul_le_mul_right k (show n ≤ 8 by omega); omega)
    rw [Nat.add_mul, Nat.one_mul]
    exact h2
