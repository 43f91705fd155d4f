theorem wi_iff {i p : Int64} (hi : 0 ≤ i.toInt) : wiO i p = 0 ↔ ¬ (-i.toInt ≤ p.toInt ∧ p.toInt ≤ i.toInt) := by
  have hn : (-i).toInt = -i.toInt := i64_neg (by omega)
  unfold wiO
  by_cases h1 : p < -i
  · rw [if_pos h1]
    rw [Int64.lt_iff_toInt_lt, hn] at h1
    exact ⟨fun _ z => by omega, fun _ => rfl⟩
  · rw [if_neg h1]
    rw [Int64.lt_iff_toInt_lt, hn] at h1
    by_cases h2 : i < p
    · rw [if_pos h2]
      rw [Int64.lt_iff_toInt_lt] at h2
      exact ⟨fun _ z => by omega, fun _ => rfl⟩
    · rw [if_neg h2]
      rw [Int64.lt_iff_toInt_lt] at h2
      exact ⟨fun z => absurd z (by decide), fun z => absurd ⟨by omega, by omega⟩ z⟩
def MayP (L : LT) : Prop := (-L.1.toInt ≤ L.2.1.toInt ∧ L.2.1.toInt ≤ L.1.toInt) ∧ (-L.1.toInt ≤ L.2.2.1.toInt ∧ L.2.2.1.toInt ≤ L.1.toInt) ∧ (-L.1.toInt ≤ L.2.2.2.1.toInt ∧ L.2.2.2.1.toInt ≤ L.1.toInt) ∧ L.2.1.toInt * L.2.1.toInt + L.2.2.1.toInt * L.2.2.1.toInt + L.2.2.2.1.toInt * L.2.2.2.1.toInt ≤ L.1.toInt * L.1.toInt
theorem may_iff {L : LT} (h0 : 0 ≤ L.1.toInt) (h1 : L.1.toInt ≤ 1000000) : mayO L = 0 ↔ ¬ MayP L := by
  have hz : ¬ L.1 < 0 := fun z => by rw [Int64.lt_iff_toInt_lt, show (0 : Int64).toInt = 0 from rfl] at z; omega
  unfold mayO
  rw [if_neg hz]
  by_cases a1 : wiO L.1 L.2.1 = 0
  · rw [if_pos a1]
    exact ⟨fun _ z => (wi_iff h0).mp a1 z.1, fun _ => rfl⟩
  · rw [if_neg a1]
    by_cases a2 : wiO L.1 L.2.2.1 = 0
    · rw [if_pos a2]
      exact ⟨fun _ z => (wi_iff h0).mp a2 z.2.1, fun _ => rfl⟩
    · rw [if_neg a2]
      by_cases a3 : wiO L.1 L.2.2.2.1 = 0
      · rw [if_pos a3]
        exact ⟨fun _ z => (wi_iff h0).mp a3 z.2.2.1, fun _ => rfl⟩
      · rw [if_neg a3]
        have b1 : -L.1.toInt ≤ L.2.1.toInt ∧ L.2.1.toInt ≤ L.1.toInt := Decidable.byContradiction (fun z => a1 ((wi_iff h0).mpr z))
        have b2 : -L.1.toInt ≤ L.2.2.1.toInt ∧ L.2.2.1.toInt ≤ L.1.toInt := Decidable.byContradiction (fun z => a2 ((wi_iff h0).mpr z))
        have b3 : -L.1.toInt ≤ L.2.2.2.1.toInt ∧ L.2.2.2.1.toInt ≤ L.1.toInt := Decidable.byContradiction (fun z => a3 ((wi_iff h0).mpr z))
        have c0 := bnd_mul (x := L.1.toInt) (X := 1000000) (y := L.1.toInt) (Y := 1000000) (by omega) (by omega)
        have c1 := bnd_mul (x := L.2.1.toInt) (X := 1000000) (y := L.2.1.toInt) (Y := 1000000) (by omega) (by omega)
        have c2 := bnd_mul (x := L.2.2.1.toInt) (X := 1000000) (y := L.2.2.1.toInt) (Y := 1000000) (by omega) (by omega)
        have c3 := bnd_mul (x := L.2.2.2.1.toInt) (X := 1000000) (y := L.2.2.2.1.toInt) (Y := 1000000) (by omega) (by omega)
        have m0 := i64_mul (a := L.1) (b := L.1) (by omega) (by omega)
        have m1 := i64_mul (a := L.2.1) (b := L.2.1) (by omega) (by omega)
        have m2 := i64_mul (a := L.2.2.1) (b := L.2.2.1) (by omega) (by omega)
        have m3 := i64_mul (a := L.2.2.2.1) (b := L.2.2.2.1) (by omega) (by omega)
        have s1 : (L.2.1 * L.2.1 + L.2.2.1 * L.2.2.1).toInt = L.2.1.toInt * L.2.1.toInt + L.2.2.1.toInt * L.2.2.1.toInt := by rw [i64_add (by omega) (by omega), m1, m2]
        have s2 : (sqO L).toInt = L.2.1.toInt * L.2.1.toInt + L.2.2.1.toInt * L.2.2.1.toInt + L.2.2.2.1.toInt * L.2.2.2.1.toInt := by
          show (L.2.1 * L.2.1 + L.2.2.1 * L.2.2.1 + L.2.2.2.1 * L.2.2.2.1).toInt = _
          rw [i64_add (by omega) (by omega), s1, m3]
        have hlt : L.1 * L.1 < sqO L ↔ L.1.toInt * L.1.toInt < L.2.1.toInt * L.2.1.toInt + L.2.2.1.toInt * L.2.2.1.toInt + L.2.2.2.1.toInt * L.2.2.2.1.toInt := by rw [Int64.lt_iff_toInt_lt, m0, s2]
        by_cases a4 : L.1 * L.1 < sqO L
        · rw [if_pos a4]
          have := hlt.mp a4
          exact ⟨fun _ z => by have := z.2.2.2; omega, fun _ => rfl⟩
        · rw [if_neg a4]
          have : ¬ _ := fun z => a4 (hlt.mpr z)
          exact ⟨fun z => absurd z (by decide), fun z => absurd ⟨b1, b2, b3, by omega⟩ z⟩
theorem may_low : ∀ (n : Nat) (L : LT), 0 ≤ L.1.toInt → L.1.toInt ≤ 1000000 → mayO (lowN n L) = mayO L
  | 0, _, _, _ => rfl
  | n + 1, L, h0, h1 => by
    unfold lowN
    split
    · rfl
    · split
      · rename_i q1
        have e1 := half_sh L.1
        have e2 := half_sh L.2.1
        have e3 := half_sh L.2.2.1
        have e4 := half_sh L.2.2.2.1
        obtain ⟨k1, k2, k3, k4⟩ := (evn_iff L).mp q1
        have g0 : 0 ≤ (halfO L).1.toInt := by show 0 ≤ (L.1 >>> ((1 : Int32).toInt64 &&& 63)).toInt; omega
        have g1 : (halfO L).1.toInt ≤ 1000000 := by show (L.1 >>> ((1 : Int32).toInt64 &&& 63)).toInt ≤ _; omega
        rw [may_low n _ g0 g1]
        have hm : MayP (halfO L) ↔ MayP L := by
          unfold MayP
          show ((-(L.1 >>> ((1 : Int32).toInt64 &&& 63)).toInt ≤ (L.2.1 >>> ((1 : Int32).toInt64 &&& 63)).toInt ∧ (L.2.1 >>> ((1 : Int32).toInt64 &&& 63)).toInt ≤ (L.1 >>> ((1 : Int32).toInt64 &&& 63)).toInt) ∧ (-(L.1 >>> ((1 : Int32).toInt64 &&& 63)).toInt ≤ (L.2.2.1 >>> ((1 : Int32).toInt64 &&& 63)).toInt ∧ (L.2.2.1 >>> ((1 : Int32).toInt64 &&& 63)).toInt ≤ (L.1 >>> ((1 : Int32).toInt64 &&& 63)).toInt) ∧ (-(L.1 >>> ((1 : Int32).toInt64 &&& 63)).toInt ≤ (L.2.2.2.1 >>> ((1 : Int32).toInt64 &&& 63)).toInt ∧ (L.2.2.2.1 >>> ((1 : Int32).toInt64 &&& 63)).toInt ≤ (L.1 >>> ((1 : Int32).toInt64 &&& 63)).toInt) ∧ (L.2.1 >>> ((1 : Int32).toInt64 &&& 63)).toInt * (L.2.1 >>> ((1 : Int32).toInt64 &&& 63)).toInt + (L.2.2.1 >>> ((1 : Int32).toInt64 &&& 63)).toInt * (L.2.2.1 >>> ((1 : Int32).toInt64 &&& 63)).toInt + (L.2.2.2.1 >>> ((1 : Int32).toInt64 &&& 63)).toInt * (L.2.2.2.1 >>> ((1 : Int32).toInt64 &&& 63)).toInt ≤ (L.1 >>> ((1 : Int32).toInt64 &&& 63)).toInt * (L.1 >>> ((1 : Int32).toInt64 &&& 63)).toInt) ↔ _
          rw [e1, e2, e3, e4]
          have f1 : L.1.toInt = 2 * (L.1.toInt / 2) := by omega
          have f2 : L.2.1.toInt = 2 * (L.2.1.toInt / 2) := by omega
          have f3 : L.2.2.1.toInt = 2 * (L.2.2.1.toInt / 2) := by omega
          have f4 : L.2.2.2.1.toInt = 2 * (L.2.2.2.1.toInt / 2) := by omega
          generalize L.1.toInt / 2 = I at *
          generalize L.2.1.toInt / 2 = Q at *
          generalize L.2.2.1.toInt / 2 = U at *
          generalize L.2.2.2.1.toInt / 2 = W at *
          rw [f1, f2, f3, f4]
          have z : 2 * Q * (2 * Q) + 2 * U * (2 * U) + 2 * W * (2 * W) = 4 * (Q * Q + U * U + W * W) := by grind
          have z2 : 2 * I * (2 * I) = 4 * (I * I) := by grind
          rw [z, z2]
          omega
        rcases mayO_b (halfO L) with a | a <;> rcases mayO_b L with b | b
        · rw [a, b]
        · have := (may_iff g0 g1).mp a
          exact absurd ((may_iff h0 h1).mpr (fun z => this (hm.mpr z))) (by rw [b]; decide)
        · have := (may_iff h0 h1).mp b
          exact absurd ((may_iff g0 g1).mpr (fun z => this (hm.mp z))) (by rw [a]; decide)
        · rw [a, b]
      · rfl
