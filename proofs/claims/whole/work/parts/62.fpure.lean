/-! ===== floats: values in units of 2 to the -1200 ===== -/
def iU (c : Nat) (q : Int) : Nat := FP.Core.inUnits c q (-1200)
theorem iU_n (c Q : Nat) : iU c ((Q : Int) - 1200) = c * 2 ^ Q := by
  unfold iU FP.Core.inUnits
  rw [show ((Q : Int) - 1200 - -1200).toNat = Q by omega]
theorem iU_q {q : Int} (h : -1200 ≤ q) (c : Nat) : iU c q = c * 2 ^ (q + 1200).toNat := by
  unfold iU FP.Core.inUnits
  rw [show (q - -1200) = q + 1200 by omega]
theorem rr_cases (f : FP.Core.Fmt) (s : Bool) (A B : Nat) (e : Int) : (∃ c q, FP.Core.roundRatio f s A B e = .fin s c q) ∨ FP.Core.roundRatio f s A B e = .inf s := by
  unfold FP.Core.roundRatio FP.Core.roundAt FP.Core.settle FP.Core.bound
  repeat' split
  all_goals first | exact Or.inl ⟨_, _, rfl⟩ | exact Or.inr rfl
theorem rr_bd {f : FP.Core.Fmt} (hf : FP.Core.Good f) {A B c1 c2 : Nat} {e q1 q2 : Int} (hB : 0 < B) (hm : -1200 < f.qmin) (he : -1200 ≤ e) (l1 : c1 < 2 ^ f.p) (l2 : f.qmin ≤ q1) (l3 : iU c1 q1 * B ≤ iU A e) (u1 : c2 < 2 ^ f.p) (u2 : f.qmin ≤ q2) (u3 : q2 < f.qmax) (u4 : iU A e ≤ iU c2 q2 * B) : ∃ c q, FP.Core.roundRatio f false A B e = .fin false c q ∧ iU c1 q1 ≤ iU c q ∧ iU c q ≤ iU c2 q2 := by
  rcases rr_cases f false A B e with ⟨c, q, h⟩ | h
  · refine ⟨c, q, h, ?_, ?_⟩
    · have d := FP.Core.roundRatio_nearest hf hB h l1 l2 (e0 := -1200) (by omega) he
      unfold FP.Core.distance at d
      refine Nat.le_of_mul_le_mul_right (c := B) ?_ hB
      unfold iU at l3 ⊢
      simp only [← Int.natCast_mul] at d
      generalize FP.Core.inUnits c q (-1200) * B = x at d ⊢
      generalize FP.Core.inUnits c1 q1 (-1200) * B = y at d l3 ⊢
      generalize FP.Core.inUnits A e (-1200) = z at d l3
      omega
    · have d := FP.Core.roundRatio_nearest hf hB h u1 u2 (e0 := -1200) (by omega) he
      unfold FP.Core.distance at d
      refine Nat.le_of_mul_le_mul_right (c := B) ?_ hB
      unfold iU at u4 ⊢
      simp only [← Int.natCast_mul] at d
      generalize FP.Core.inUnits c q (-1200) * B = x at d ⊢
      generalize FP.Core.inUnits c2 q2 (-1200) * B = y at d u4 ⊢
      generalize FP.Core.inUnits A e (-1200) = z at d u4
      omega
  · exfalso
    have k := (FP.Core.roundRatio_inf hf hB hm he).mp h
    have k2 : iU c2 q2 ≤ 2 ^ f.p * 2 ^ (f.qmax - 1 - -1200).toNat := by
      unfold iU FP.Core.inUnits
      exact Nat.mul_le_mul (Nat.le_of_lt u1) (Nat.pow_le_pow_right (by decide) (by omega))
    have k3 : iU c2 q2 * B ≤ 2 ^ f.p * 2 ^ (f.qmax - 1 - -1200).toNat * B := Nat.mul_le_mul_right _ k2
    have k4 : (2 ^ (f.p + 1) - 1) * 2 ^ (f.qmax - 1 - -1200).toNat * B ≤ 2 ^ f.p * 2 ^ (f.qmax - 1 - -1200).toNat * B := Nat.le_trans k (Nat.le_trans u4 k3)
    have k5 := Nat.le_of_mul_le_mul_right k4 hB
    have k6 := Nat.le_of_mul_le_mul_right k5 (Nat.two_pow_pos _)
    have k7 := Nat.two_pow_pos f.p
    have k8 : 1 < 2 ^ f.p := Nat.one_lt_two_pow (by have := hf.2; omega)
    rw [Nat.pow_succ] at k6
    omega
/-- nonnegative, at most k times 2 to the 50 -/
def B32 (k : Nat) (x : UInt32) : Prop := ∃ c q, FP.Core.val32 x = .fin false c q ∧ iU c q ≤ k * 2 ^ 1250
/-- the same, and 0 or no less than the least float -/
def B64 (k : Nat) (x : UInt64) : Prop := ∃ c q, FP.Core.val64 x = .fin false c q ∧ iU c q ≤ k * 2 ^ 1250 ∧ (c = 0 ∨ 2 ^ 1051 ≤ iU c q)
theorem q32 : FP.Core.b32.qmin = -149 ∧ FP.Core.b32.qmax = 104 ∧ FP.Core.b32.p = 24 ∧ FP.Core.b32.tails = 8388608 ∧ FP.Core.b32.exps = 256 := by decide
theorem q64 : FP.Core.b64.qmin = -1074 ∧ FP.Core.b64.qmax = 971 ∧ FP.Core.b64.p = 53 ∧ FP.Core.b64.tails = 4503599627370496 ∧ FP.Core.b64.exps = 2048 := by decide
theorem B32.mono {k k' : Nat} {x : UInt32} (h : B32 k x) (hk : k ≤ k') : B32 k' x := by
  obtain ⟨c, q, h1, h2⟩ := h
  exact ⟨c, q, h1, Nat.le_trans h2 (Nat.mul_le_mul_right _ hk)⟩
theorem B64.mono {k k' : Nat} {x : UInt64} (h : B64 k x) (hk : k ≤ k') : B64 k' x := by
  obtain ⟨c, q, h1, h2, h3⟩ := h
  exact ⟨c, q, h1, Nat.le_trans h2 (Nat.mul_le_mul_right _ hk), h3⟩
theorem bits32 {x : UInt32} {c : Nat} {q : Int} (h : FP.Core.val32 x = .fin false c q) : x.toNat = (if c < 8388608 then c else ((q + 149).toNat + 1) * 8388608 + (c - 8388608)) ∧ x.toNat < 2139095040 ∧ c < 16777216 ∧ -149 ≤ q ∧ q ≤ 104 ∧ (q = -149 ∨ 8388608 ≤ c) := by
  have hf := FP.Core.val32_fits x
  rw [h] at hf
  obtain ⟨f1, f2, f3, f4⟩ := hf
  obtain ⟨z1, z2, z3, z4, z5⟩ := q32
  rw [z3] at f1
  rw [z1] at f2 f4
  rw [z2] at f3
  rw [z4] at f4
  have e := FP.Core.of32_val32 (a := x) (by rw [h]; exact fun z => by cases z)
  rw [h] at e
  have e2 : FP.Core.encode FP.Core.b32 (.fin false c q) = (if c < 8388608 then c else ((q + 149).toNat + 1) * 8388608 + (c - 8388608)) := by
    show (if c < FP.Core.b32.tails then FP.Core.assemble FP.Core.b32 false 0 c else FP.Core.assemble FP.Core.b32 false ((q - FP.Core.b32.qmin).toNat + 1) (c - FP.Core.b32.tails)) = _
    unfold FP.Core.assemble
    rw [z1, z4, z5, show q - -149 = q + 149 by omega]
    simp
  have e3 : (if c < 8388608 then c else ((q + 149).toNat + 1) * 8388608 + (c - 8388608)) < 2139095040 := by
    split <;> omega
  have e4 : x.toNat = FP.Core.encode FP.Core.b32 (.fin false c q) := by
    rw [← e]
    unfold FP.Core.of32
    rw [UInt32.toNat_ofNat', Nat.mod_eq_of_lt]
    rw [e2]; omega
  rw [e4, e2]
  exact ⟨rfl, e3, by omega, f2, f3, f4⟩
theorem bits64 {x : UInt64} {c : Nat} {q : Int} (h : FP.Core.val64 x = .fin false c q) : x.toNat = (if c < 4503599627370496 then c else ((q + 1074).toNat + 1) * 4503599627370496 + (c - 4503599627370496)) ∧ x.toNat < 9218868437227405312 ∧ c < 9007199254740992 ∧ -1074 ≤ q ∧ q ≤ 971 ∧ (q = -1074 ∨ 4503599627370496 ≤ c) := by
  have hf := FP.Core.val64_fits x
  rw [h] at hf
  obtain ⟨f1, f2, f3, f4⟩ := hf
  obtain ⟨z1, z2, z3, z4, z5⟩ := q64
  rw [z3] at f1
  rw [z1] at f2 f4
  rw [z2] at f3
  rw [z4] at f4
  have e := FP.Core.of64_val64 (a := x) (by rw [h]; exact fun z => by cases z)
  rw [h] at e
  have e2 : FP.Core.encode FP.Core.b64 (.fin false c q) = (if c < 4503599627370496 then c else ((q + 1074).toNat + 1) * 4503599627370496 + (c - 4503599627370496)) := by
    show (if c < FP.Core.b64.tails then FP.Core.assemble FP.Core.b64 false 0 c else FP.Core.assemble FP.Core.b64 false ((q - FP.Core.b64.qmin).toNat + 1) (c - FP.Core.b64.tails)) = _
    unfold FP.Core.assemble
    rw [z1, z4, z5, show q - -1074 = q + 1074 by omega]
    simp
  have e3 : (if c < 4503599627370496 then c else ((q + 1074).toNat + 1) * 4503599627370496 + (c - 4503599627370496)) < 9218868437227405312 := by
    split <;> omega
  have e4 : x.toNat = FP.Core.encode FP.Core.b64 (.fin false c q) := by
    rw [← e]
    unfold FP.Core.of64
    rw [UInt64.toNat_ofNat', Nat.mod_eq_of_lt]
    rw [e2]; omega
  rw [e4, e2]
  exact ⟨rfl, e3, by omega, f2, f3, f4⟩
theorem B32.n {k : Nat} {x : UInt32} (h : B32 k x) : vf_n32 x := by
  obtain ⟨c, q, h1, -⟩ := h
  have := (bits32 h1).2.1
  unfold vf_n32
  rw [UInt32.le_iff_toNat_le, UInt32.toNat_and]
  refine Nat.le_trans Nat.and_le_left ?_
  show _ ≤ 2139095040
  omega
theorem B64.n {k : Nat} {x : UInt64} (h : B64 k x) : vf_n64 x := by
  obtain ⟨c, q, h1, -⟩ := h
  have := (bits64 h1).2.1
  unfold vf_n64
  rw [UInt64.le_iff_toNat_le, UInt64.toNat_and]
  refine Nat.le_trans Nat.and_le_left ?_
  show _ ≤ 9218868437227405312
  omega
theorem B32.self {k : Nat} {x : UInt32} (h : B32 k x) : FP.fcmp x x = some .eq := by
  obtain ⟨c, q, h1, -⟩ := h
  show FP.Core.order (FP.Core.val32 x) (FP.Core.val32 x) = _
  rw [h1]
  unfold FP.Core.order
  simp
theorem B64.self {k : Nat} {x : UInt64} (h : B64 k x) : FP.dcmp x x = some .eq := by
  obtain ⟨c, q, h1, -⟩ := h
  show FP.Core.order (FP.Core.val64 x) (FP.Core.val64 x) = _
  rw [h1]
  unfold FP.Core.order
  simp
