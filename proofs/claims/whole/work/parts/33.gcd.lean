/-! ===== Euclid's way ends ===== -/
def Fn : Nat → Int64 → Int64 → Prop
  | 0, _, y => y = 0
  | n + 1, x, y => y = 0 ∨ Fn n y (lrem x y)
theorem Fn.succ : ∀ {n : Nat} {x y : Int64}, Fn n x y → Fn (n + 1) x y
  | 0, _, _, h => Or.inl h
  | n + 1, _, _, h => h.elim Or.inl (fun q => Or.inr (Fn.succ q))
theorem Fn.mono {n m : Nat} {x y : Int64} (h : Fn n x y) (hm : n ≤ m) : Fn m x y := by
  induction hm with
  | refl => exact h
  | step _ ih => exact ih.succ
theorem lrem_int {x y : Int64} (hx : 0 ≤ x.toInt) (hy : 0 < y.toInt) : (lrem x y).toInt = x.toInt % y.toInt := by
  rw [lrem_mod, Int64.toInt_mod, Int.tmod_eq_emod_of_nonneg hx]
theorem fin_j : ∀ (j : Nat) (x y : Int64), 0 ≤ x.toInt → 0 ≤ y.toInt → y.toInt < 2 ^ j → Fn (2 * j + 1) x y
  | 0, x, y, hx, hy, hj => by
    refine Or.inl (Int64.toInt_inj.mp ?_)
    rw [show (0 : Int64).toInt = 0 from rfl]
    have : (2 : Int) ^ 0 = 1 := rfl
    omega
  | j + 1, x, y, hx, hy, hj => by
    rw [show 2 * (j + 1) + 1 = (2 * j + 1) + 1 + 1 by omega]
    by_cases e : y.toInt = 0
    · exact Or.inl (Int64.toInt_inj.mp e)
    · have hy1 : 0 < y.toInt := by omega
      refine Or.inr ?_
      have r1 := lrem_int hx hy1
      have b1 := Int.emod_nonneg x.toInt e
      have b2 := Int.emod_lt_of_pos x.toInt hy1
      by_cases e2 : (lrem x y).toInt = 0
      · exact Or.inl (Int64.toInt_inj.mp e2)
      · refine Or.inr (fin_j j _ _ (by omega) ?_ ?_)
        · rw [lrem_int hy (by omega)]
          exact Int.emod_nonneg _ e2
        · rw [lrem_int hy (by omega)]
          have c1 := Int.emod_nonneg y.toInt e2
          have c2 := Int.emod_lt_of_pos y.toInt (show 0 < (lrem x y).toInt by omega)
          have c3 := Int.emod_add_mul_ediv y.toInt (lrem x y).toInt
          have hp : (2 : Int) ^ (j + 1) = 2 * 2 ^ j := by rw [Int.pow_succ, Int.mul_comm]
          by_cases e3 : 2 * (lrem x y).toInt ≤ y.toInt
          · omega
          · have q1 : 1 ≤ y.toInt / (lrem x y).toInt := by
              rw [Int.le_ediv_iff_mul_le (by omega)]
              omega
            have q2 : (lrem x y).toInt * 1 ≤ (lrem x y).toInt * (y.toInt / (lrem x y).toInt) := Int.mul_le_mul_of_nonneg_left q1 (by omega)
            omega
theorem abs_int {a : Int64} (h : -2 ^ 63 < a.toInt) : 0 ≤ (absO a).toInt ∧ ((absO a).toInt = a.toInt ∨ (absO a).toInt = -a.toInt) := by
  unfold absO
  have hz : (0 ≤ a) ↔ 0 ≤ a.toInt := Int64.le_iff_toInt_le
  split
  · rename_i q
    exact ⟨hz.mp q, Or.inl rfl⟩
  · rename_i q
    rw [i64_neg h]
    have : ¬ 0 ≤ a.toInt := fun z => q (hz.mpr z)
    exact ⟨by omega, Or.inr rfl⟩
theorem fin_abs {a b : Int64} (ha : -2 ^ 63 < a.toInt) (hb : -2 ^ 63 < b.toInt) : Fn 200 (absO a) (absO b) := by
  have h1 := abs_int ha
  have h2 := abs_int hb
  exact (fin_j 63 _ _ h1.1 h2.1 ((absO b).toInt_lt)).mono (by decide)
theorem gcdN_0 : ∀ (n : Nat) (x : Int64), gcdN n x 0 = x
  | 0, _ => rfl
  | _ + 1, _ => if_pos rfl
/-- it is never 0 where one of the two isn't -/
theorem gcdN_pos : ∀ (n : Nat) (x y : Int64), 0 ≤ x.toInt → 0 ≤ y.toInt → 0 < x.toInt ∨ (0 < y.toInt ∧ 0 < n) → 0 < (gcdN n x y).toInt
  | 0, x, y, _, _, h => h.elim id (fun q => absurd q.2 (by decide))
  | n + 1, x, y, hx, hy, h => by
    unfold gcdN
    split
    · rename_i q
      rcases h with h | h
      · exact h
      · rw [q] at h
        exact absurd h.1 (by decide)
    · rename_i q
      have hy1 : 0 < y.toInt := by
        have : ¬ y.toInt = 0 := fun z => q (Int64.toInt_inj.mp z)
        omega
      exact gcdN_pos n y _ hy (by rw [lrem_int hx hy1]; exact Int.emod_nonneg _ (by omega)) (Or.inl hy1)
theorem gcdN_le : ∀ (n : Nat) (x y M : Int64), 0 ≤ x.toInt → 0 ≤ y.toInt → x.toInt ≤ M.toInt → y.toInt ≤ M.toInt → 0 ≤ (gcdN n x y).toInt ∧ (gcdN n x y).toInt ≤ M.toInt
  | 0, x, y, M, h1, _, h3, _ => ⟨h1, h3⟩
  | n + 1, x, y, M, h1, h2, h3, h4 => by
    unfold gcdN
    split
    · exact ⟨h1, h3⟩
    · rename_i q
      have hy1 : 0 < y.toInt := by
        have : ¬ y.toInt = 0 := fun z => q (Int64.toInt_inj.mp z)
        omega
      have r1 := lrem_int h1 hy1
      have b1 := Int.emod_nonneg x.toInt (show ¬ y.toInt = 0 by omega)
      have b2 := Int.emod_lt_of_pos x.toInt hy1
      exact gcdN_le n y _ M h2 (by omega) h4 (by omega)
/-- it divides both -/
theorem gcdN_dvd : ∀ (n : Nat) (x y : Int64), 0 ≤ x.toInt → 0 ≤ y.toInt → Fn n x y → (gcdN n x y).toInt ∣ x.toInt ∧ (gcdN n x y).toInt ∣ y.toInt
  | 0, x, y, _, _, h => by
    have h : y = 0 := h
    subst h
    exact ⟨Int.dvd_refl _, Int.dvd_zero _⟩
  | n + 1, x, y, hx, hy, h => by
    unfold gcdN
    split
    · rename_i q
      subst q
      exact ⟨Int.dvd_refl _, Int.dvd_zero _⟩
    · rename_i q
      have hy1 : 0 < y.toInt := by
        have : ¬ y.toInt = 0 := fun z => q (Int64.toInt_inj.mp z)
        omega
      have r1 := lrem_int hx hy1
      have b1 := Int.emod_nonneg x.toInt (show ¬ y.toInt = 0 by omega)
      obtain ⟨d1, d2⟩ := gcdN_dvd n y (lrem x y) hy (by omega) (h.resolve_left q)
      refine ⟨?_, d1⟩
      rw [r1] at d2
      have := Int.emod_add_mul_ediv x.toInt y.toInt
      rw [← this]
      exact Int.dvd_add d2 (Int.dvd_trans d1 (Int.dvd_mul_right _ _))
theorem gcdO_facts {a b : Int64} {M : Nat} (ha : -(M : Int) ≤ a.toInt ∧ a.toInt ≤ M) (hb : -(M : Int) ≤ b.toInt ∧ b.toInt ≤ M) (hM : M < 2 ^ 63) : 0 ≤ (gcdO a b).toInt ∧ (gcdO a b).toInt ≤ M ∧ (gcdO a b).toInt ∣ a.toInt ∧ (gcdO a b).toInt ∣ b.toInt ∧ (¬ a = 0 ∨ ¬ b = 0 → 0 < (gcdO a b).toInt) := by
  have h1 := abs_int (a := a) (by omega)
  have h2 := abs_int (a := b) (by omega)
  have hm : (Int64.ofNat M).toInt = M := Int64.toInt_ofNat_of_lt (by omega)
  have l := gcdN_le 200 (absO a) (absO b) (Int64.ofNat M) h1.1 h2.1 (by omega) (by omega)
  have dv := gcdN_dvd 200 (absO a) (absO b) h1.1 h2.1 (fin_abs (by omega) (by omega))
  refine ⟨l.1, by have := l.2; show (gcdN 200 (absO a) (absO b)).toInt ≤ M; omega, ?_, ?_, fun h => ?_⟩
  · rcases h1.2 with q | q
    · rw [← q]; exact dv.1
    · rw [← Int.neg_neg a.toInt, ← q]; exact (Int.dvd_neg).mpr dv.1
  · rcases h2.2 with q | q
    · rw [← q]; exact dv.2
    · rw [← Int.neg_neg b.toInt, ← q]; exact (Int.dvd_neg).mpr dv.2
  · refine gcdN_pos 200 _ _ h1.1 h2.1 ?_
    rcases h with h | h
    · have : ¬ a.toInt = 0 := fun z => h (Int64.toInt_inj.mp z)
      exact Or.inl (by omega)
    · have : ¬ b.toInt = 0 := fun z => h (Int64.toInt_inj.mp z)
      exact Or.inr ⟨by omega, by decide⟩
