/-! ===== numbers: rests, halves, wider ints ===== -/
theorem lrem_mod (x y : Int64) : lrem x y = x % y := by
  apply Int64.toInt_inj.mp
  show (x - x / y * y).toInt = _
  rw [Int64.toInt_sub, Int64.toInt_mul, Int64.toInt_div, Int64.toInt_mod, Int.bmod_mul_bmod, Int.sub_bmod_bmod]
  rw [show x.toInt - x.toInt.tdiv y.toInt * y.toInt = x.toInt.tmod y.toInt by rw [Int.tmod_def, Int.mul_comm]]
  rw [← Int64.toInt_mod]
  have h1 := (x % y).toInt_lt
  have h2 := (x % y).le_toInt
  revert h1 h2
  generalize (x % y).toInt = z
  intro h1 h2
  exact Int.bmod_eq_of_le (by simp; omega) (by simp; omega)
theorem even_and (x : Int64) : x &&& 1 = 0 ↔ x.toInt % 2 = 0 := by
  have hn : (x &&& 1).toBitVec.toNat = x.toBitVec.toNat % 2 := by
    show (x.toBitVec &&& (1 : Int64).toBitVec).toNat = _
    rw [BitVec.toNat_and, show (1 : Int64).toBitVec.toNat = 1 from rfl, Nat.and_one_is_mod]
  have hi : x.toInt % 2 = (x.toBitVec.toNat % 2 : Nat) := by
    show x.toBitVec.toInt % 2 = _
    rw [BitVec.toInt_eq_toNat_cond]
    split <;> omega
  rw [hi]
  constructor
  · intro h
    rw [h] at hn
    have : (0 : Int64).toBitVec.toNat = 0 := rfl
    omega
  · intro h
    apply Int64.toBitVec_inj.mp
    apply BitVec.eq_of_toNat_eq
    rw [hn]
    show _ = 0
    omega
theorem even_rem (x : Int64) : lrem x 2 = 0 ↔ x.toInt % 2 = 0 := by
  rw [lrem_mod, ← Int64.toInt_inj, Int64.toInt_mod, show (2 : Int64).toInt = 2 from rfl, show (0 : Int64).toInt = 0 from rfl]
  have := Int.tmod_add_mul_tdiv x.toInt 2
  constructor
  · intro h
    omega
  · intro h
    rw [Int.tmod_eq_emod]
    split <;> omega
theorem half_sh (x : Int64) : (x >>> ((1 : Int32).toInt64 &&& 63)).toInt = x.toInt / 2 := by
  show (x.toBitVec.sshiftRight' (((1 : Int32).toInt64 &&& 63).toBitVec.smod 64)).toInt = _
  rw [BitVec.toInt_sshiftRight', show (((1 : Int32).toInt64 &&& 63).toBitVec.smod 64).toNat = 1 by decide +kernel, Int.shiftRight_eq_div_pow]
  rfl
theorem half_div {x : Int64} (h : x.toInt % 2 = 0) : x / 2 = x >>> ((1 : Int32).toInt64 &&& 63) := by
  apply Int64.toInt_inj.mp
  rw [half_sh, Int64.toInt_div_of_ne_right _ _ (by decide), show (2 : Int64).toInt = 2 from rfl]
  have := Int.tmod_add_mul_tdiv x.toInt 2
  have h2 : x.toInt.tmod 2 = 0 := by rw [Int.tmod_eq_emod]; split <;> omega
  omega
theorem evn_iff (L : LT) : evnO L ↔ L.1.toInt % 2 = 0 ∧ L.2.1.toInt % 2 = 0 ∧ L.2.2.1.toInt % 2 = 0 ∧ L.2.2.2.1.toInt % 2 = 0 := by
  have hor : ∀ a b : Int64, (a ||| b) &&& 1 = 0 ↔ a &&& 1 = 0 ∧ b &&& 1 = 0 := fun a b => by
    have e : (a ||| b) &&& 1 = (a &&& 1) ||| (b &&& 1) := by
      apply Int64.toBitVec_inj.mp
      show (a.toBitVec ||| b.toBitVec) &&& (1 : Int64).toBitVec = _
      exact BitVec.and_or_distrib_right
    have z : ∀ u v : Int64, u ||| v = 0 ↔ u = 0 ∧ v = 0 := fun u v => by
      constructor
      · intro h
        have h1 := congrArg Int64.toBitVec h
        have h2 : u.toBitVec ||| v.toBitVec = 0#64 := h1
        rw [BitVec.or_eq_zero_iff] at h2
        exact ⟨Int64.toBitVec_inj.mp h2.1, Int64.toBitVec_inj.mp h2.2⟩
      · rintro ⟨rfl, rfl⟩
        rfl
    rw [e, z]
  show ((((L.1 ||| L.2.1) ||| L.2.2.1) ||| L.2.2.2.1) &&& 1 = 0) ↔ _
  rw [hor, hor, hor, even_and, even_and, even_and, even_and, and_assoc, and_assoc]
theorem w_add {a b : Int32} (h1 : -2 ^ 31 ≤ a.toInt + b.toInt) (h2 : a.toInt + b.toInt < 2 ^ 31) : (a + b).toInt64 = a.toInt64 + b.toInt64 := by
  apply Int64.toInt_inj.mp
  rw [Int32.toInt_toInt64, Int32.toInt_add, Int64.toInt_add, Int32.toInt_toInt64, Int32.toInt_toInt64, Int.bmod_eq_of_le (by simp; omega) (by simp; omega), Int.bmod_eq_of_le (by simp; omega) (by simp; omega)]
theorem w_sub {a b : Int32} (h1 : -2 ^ 31 ≤ a.toInt - b.toInt) (h2 : a.toInt - b.toInt < 2 ^ 31) : (a - b).toInt64 = a.toInt64 - b.toInt64 := by
  apply Int64.toInt_inj.mp
  rw [Int32.toInt_toInt64, Int32.toInt_sub, Int64.toInt_sub, Int32.toInt_toInt64, Int32.toInt_toInt64, Int.bmod_eq_of_le (by simp; omega) (by simp; omega), Int.bmod_eq_of_le (by simp; omega) (by simp; omega)]
theorem w_le0 (a : Int32) : a.toInt64 ≤ 0 ↔ a ≤ 0 := by
  rw [show (0 : Int64) = (0 : Int32).toInt64 from rfl, Int32.toInt64_le]
theorem w_lt0 (a : Int32) : a.toInt64 < 0 ↔ a < 0 := by
  rw [show (0 : Int64) = (0 : Int32).toInt64 from rfl, Int32.toInt64_lt]
/-! ===== CODES ===== -/
def Vc (c : Int32) : Prop := ∃ k a f : Nat, k < 7 ∧ a < 4 ∧ f < 17 ∧ c = cdO (nI k) (nI a) (nI f)
theorem vc_parts : ∀ k, k < 7 → ∀ a, a < 4 → ∀ f, f < 17 → kdO (cdO (nI k) (nI a) (nI f)) = nI k ∧ anO (cdO (nI k) (nI a) (nI f)) = nI a ∧ fgO (cdO (nI k) (nI a) (nI f)) = nI f ∧ ¬ cdO (nI k) (nI a) (nI f) < 0 := by decide +kernel
theorem vc_qt : ∀ f, f < 17 → irem (nI f) 4 = nI (f % 4) := by decide +kernel
theorem Vc.kd {c : Int32} (h : Vc c) : ∃ k, k < 7 ∧ kdO c = nI k := by
  obtain ⟨k, a, f, hk, ha, hf, rfl⟩ := h
  exact ⟨k, hk, (vc_parts k hk a ha f hf).1⟩
theorem Vc.an {c : Int32} (h : Vc c) : ∃ a, a < 4 ∧ anO c = nI a := by
  obtain ⟨k, a, f, hk, ha, hf, rfl⟩ := h
  exact ⟨a, ha, (vc_parts k hk a ha f hf).2.1⟩
theorem Vc.fg {c : Int32} (h : Vc c) : ∃ f, f < 17 ∧ fgO c = nI f := by
  obtain ⟨k, a, f, hk, ha, hf, rfl⟩ := h
  exact ⟨f, hf, (vc_parts k hk a ha f hf).2.2.1⟩
theorem Vc.mk {k a f : Nat} (hk : k < 7) (ha : a < 4) (hf : f < 17) : Vc (cdO (nI k) (nI a) (nI f)) := ⟨k, a, f, hk, ha, hf, rfl⟩
theorem sheet_num (p : Bool) : ∀ f, f < 17 → (let a : Int32 := if p then 4 else nI f / 4; let b : Int32 := if p then 0 else irem (nI f) 4; (a * a + b * b).toInt64 = a.toInt64 * a.toInt64 + b.toInt64 * b.toInt64 ∧ (a * a - b * b).toInt64 = a.toInt64 * a.toInt64 - b.toInt64 * b.toInt64 ∧ (2 * a * b).toInt64 = 2 * a.toInt64 * b.toInt64) := by cases p <;> decide +kernel
theorem Vc.sheet {c : Int32} (h : Vc c) : (alO c * alO c + acO c * acO c).toInt64 = (alO c).toInt64 * (alO c).toInt64 + (acO c).toInt64 * (acO c).toInt64 ∧ (alO c * alO c - acO c * acO c).toInt64 = (alO c).toInt64 * (alO c).toInt64 - (acO c).toInt64 * (acO c).toInt64 ∧ (2 * alO c * acO c).toInt64 = 2 * (alO c).toInt64 * (acO c).toInt64 := by
  obtain ⟨f, hf, he⟩ := h.fg
  have h1 := sheet_num true f hf
  have h2 := sheet_num false f hf
  by_cases hk : kdO c = 3
  · simp only [alO, acO, if_pos hk]
    exact h1
  · simp only [alO, acO, if_neg hk, he]
    exact h2
/-! ===== lights in rows of five longs ===== -/
def lvO (L : LT) : Nat → Int64
  | 0 => L.1
  | 1 => L.2.1
  | 2 => L.2.2.1
  | 3 => L.2.2.2.1
  | _ => L.2.2.2.2.toInt64
abbrev mlg (L : LT) : va_E := arJ 5 (lvO L)
theorem all5 {P : Nat → Prop} (h0 : P 0) (h1 : P 1) (h2 : P 2) (h3 : P 3) (h4 : P 4) : ∀ j, j < 5 → P j := fun j hj => by
  match j, hj with
  | 0, _ => exact h0
  | 1, _ => exact h1
  | 2, _ => exact h2
  | 3, _ => exact h3
  | 4, _ => exact h4
/-- E from 0 on, no more than n -/
def Eb (n : Nat) (L : LT) : Prop := 0 ≤ L.2.2.2.2.toInt ∧ L.2.2.2.2.toInt ≤ n
theorem lowN_e : ∀ (m n : Nat) (L : LT), Eb n L → Eb n (lowN m L)
  | 0, _, _, h => h
  | m + 1, n, L, h => by
    unfold lowN
    split
    · exact h
    · rename_i he
      split
      · refine lowN_e m n _ ?_
        have h1 : (L.2.2.2.2 - 1).toInt = L.2.2.2.2.toInt - 1 := by
          rw [Int32.toInt_sub]
          have := L.2.2.2.2.toInt_lt
          have := h.1
          exact Int.bmod_eq_of_le (by simp; omega) (by simp; omega)
        have h2 : ¬ L.2.2.2.2.toInt ≤ 0 := fun z => he (Int32.le_iff_toInt_le.mpr z)
        refine ⟨?_, ?_⟩
        · show 0 ≤ (L.2.2.2.2 - 1).toInt
          omega
        · show (L.2.2.2.2 - 1).toInt ≤ n
          have := h.2
          omega
      · exact h
theorem lowO_e {n : Nat} {L : LT} (h : Eb n L) : Eb n (lowO L) := lowN_e _ n L h
theorem turnO_e {n : Nat} {a : Int32} {L : LT} (h : Eb n L) : Eb n (turnO a L) := by
  unfold turnO
  repeat' split
  all_goals exact h
theorem turnsO_e {n : Nat} {a : Int32} : ∀ (m : Nat) {L : LT}, Eb n L → Eb n (turnsO m a L)
  | 0, _, h => h
  | m + 1, _, h => turnsO_e m (turnO_e h)
theorem e_add {n k : Nat} {e : Int32} (h : 0 ≤ e.toInt ∧ e.toInt ≤ n) (hn : n + k < 2 ^ 31) : 0 ≤ (e + nI k).toInt ∧ (e + nI k).toInt ≤ (n + k : Nat) := by
  have h1 : (e + nI k).toInt = e.toInt + k := by
    rw [Int32.toInt_add, nI_toInt (by omega)]
    exact Int.bmod_eq_of_le (by simp; omega) (by simp; omega)
  rw [h1]
  omega
theorem goO_e {n : Nat} {c : Int32} {L : LT} (h : Eb n L) (hn : n < 2 ^ 30) : Eb (n + 5) (goO c L) := by
  have h5 : Eb (n + 5) L := ⟨h.1, by have := h.2; omega⟩
  have hg : ∀ x y, Eb (n + 5) (greyO x y L) := fun x y => by
    have := e_add (k := 4) h (by omega)
    exact ⟨this.1, by have := this.2; show (L.2.2.2.2 + nI 4).toInt ≤ _; omega⟩
  have hs : ∀ g a b, Eb (n + 5) (sheetO g a b L) := fun g a b => by
    have := e_add (k := 5) h (by omega)
    unfold sheetO
    by_cases hq : irem g 2 = 0
    · simp only [if_pos hq]
      exact this
    · simp only [if_neg hq]
      exact this
  unfold goO
  split
  · exact hg _ _
  · split
    · exact hs _ _ _
    · split
      · exact hs _ _ _
      · split
        · exact turnsO_e _ h5
        · split
          · exact turnsO_e _ h5
          · split
            · exact hg _ _
            · exact h5
theorem passO_e {n : Nat} {c : Int32} {L : LT} (h : Eb n L) (hn : n < 2 ^ 30) : Eb (n + 5) (passO c L) := lowO_e (goO_e h hn)
theorem runO_e : ∀ (l : List Int32) {n : Nat} {L : LT}, Eb n L → n + 5 * l.length < 2 ^ 30 → Eb (n + 5 * l.length) (runO l L)
  | [], n, L, h, _ => h
  | c :: r, n, L, h, hn => by
    rw [List.length_cons] at hn ⊢
    rw [runO_cons, show n + 5 * (r.length + 1) = n + 5 + 5 * r.length by omega]
    exact runO_e r (passO_e h (by omega)) (by omega)
/-- an array's places are all that counts -/
theorem arr_eq {n : Nat} {f g : Nat → Value} (c : ClassId) (h : ∀ j, j < n → f j = g j) : arrV c n f = arrV c n g := by
  unfold arrV
  congr 1
  apply Array.ext
  · simp
  · intro i h1 h2
    simp at h1 ⊢
    exact h i h1
