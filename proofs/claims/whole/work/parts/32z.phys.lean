/-! ===== LIGHT stays LIGHT ===== -/
theorem sq_le {a b : Int} (hb : 0 ≤ b) (h : a * a ≤ b * b) : -b ≤ a ∧ a ≤ b := by
  constructor
  · apply Int.not_lt.mp
    intro q
    have h1 : b < -a := by omega
    have := Int.mul_self_lt_mul_self hb h1
    rw [Int.neg_mul_neg] at this
    omega
  · apply Int.not_lt.mp
    intro q
    have := Int.mul_self_lt_mul_self hb q
    omega
theorem sq_nn (a : Int) : 0 ≤ a * a := by
  rcases Int.le_total 0 a with h | h
  · exact Int.mul_nonneg h h
  · have := Int.mul_nonneg (show 0 ≤ -a by omega) (show 0 ≤ -a by omega)
    rw [Int.neg_mul_neg] at this
    exact this
def Ph (B n : Nat) (L : LT) : Prop := 0 ≤ L.1.toInt ∧ L.1.toInt ≤ B ∧ L.2.1.toInt * L.2.1.toInt + L.2.2.1.toInt * L.2.2.1.toInt + L.2.2.2.1.toInt * L.2.2.2.1.toInt ≤ L.1.toInt * L.1.toInt ∧ Eb n L
theorem Ph.le {B n : Nat} {L : LT} (h : Ph B n L) : (-L.1.toInt ≤ L.2.1.toInt ∧ L.2.1.toInt ≤ L.1.toInt) ∧ (-L.1.toInt ≤ L.2.2.1.toInt ∧ L.2.2.1.toInt ≤ L.1.toInt) ∧ (-L.1.toInt ≤ L.2.2.2.1.toInt ∧ L.2.2.2.1.toInt ≤ L.1.toInt) := by
  obtain ⟨h1, h2, h3, -⟩ := h
  have a1 := sq_nn L.2.1.toInt
  have a2 := sq_nn L.2.2.1.toInt
  have a3 := sq_nn L.2.2.2.1.toInt
  exact ⟨sq_le h1 (by omega), sq_le h1 (by omega), sq_le h1 (by omega)⟩
theorem i64_mul {a b : Int64} (h1 : -2 ^ 63 ≤ a.toInt * b.toInt) (h2 : a.toInt * b.toInt < 2 ^ 63) : (a * b).toInt = a.toInt * b.toInt := by
  rw [Int64.toInt_mul]
  exact Int.bmod_eq_of_le (by simp; omega) (by simp; omega)
theorem i64_add {a b : Int64} (h1 : -2 ^ 63 ≤ a.toInt + b.toInt) (h2 : a.toInt + b.toInt < 2 ^ 63) : (a + b).toInt = a.toInt + b.toInt := by
  rw [Int64.toInt_add]
  exact Int.bmod_eq_of_le (by simp; omega) (by simp; omega)
theorem i64_sub {a b : Int64} (h1 : -2 ^ 63 ≤ a.toInt - b.toInt) (h2 : a.toInt - b.toInt < 2 ^ 63) : (a - b).toInt = a.toInt - b.toInt := by
  rw [Int64.toInt_sub]
  exact Int.bmod_eq_of_le (by simp; omega) (by simp; omega)
theorem i64_neg {a : Int64} (h1 : -2 ^ 63 < a.toInt) : (-a).toInt = -a.toInt := by
  rw [Int64.toInt_neg]
  have := a.toInt_lt
  exact Int.bmod_eq_of_le (by simp; omega) (by simp; omega)
/-- a product within bounds -/
theorem bnd_mul {x y X Y : Int} (hx : -X ≤ x ∧ x ≤ X) (hy : -Y ≤ y ∧ y ≤ Y) : -(X * Y) ≤ x * y ∧ x * y ≤ X * Y := by
  have hX : 0 ≤ X := by omega
  have hY : 0 ≤ Y := by omega
  rcases Int.le_total 0 x with h1 | h1 <;> rcases Int.le_total 0 y with h2 | h2
  · have a := Int.mul_nonneg h1 h2
    have b := Int.mul_le_mul hx.2 hy.2 h2 hX
    have c := Int.mul_nonneg hX hY
    omega
  · have a := Int.mul_nonneg h1 (show 0 ≤ -y by omega)
    have b := Int.mul_le_mul hx.2 (show -y ≤ Y by omega) (by omega) hX
    have c := Int.mul_nonneg hX hY
    rw [Int.mul_neg] at a b
    omega
  · have a := Int.mul_nonneg (show 0 ≤ -x by omega) h2
    have b := Int.mul_le_mul (show -x ≤ X by omega) hy.2 h2 hX
    have c := Int.mul_nonneg hX hY
    rw [Int.neg_mul] at a b
    omega
  · have a := Int.mul_nonneg (show 0 ≤ -x by omega) (show 0 ≤ -y by omega)
    have b := Int.mul_le_mul (show -x ≤ X by omega) (show -y ≤ Y by omega) (by omega) hX
    have c := Int.mul_nonneg hX hY
    rw [Int.neg_mul_neg] at a b
    omega
theorem grey_ph {B n : Nat} {L : LT} {x y : Nat} (h : Ph B n L) (hx : x ≤ 16) (hy : y ≤ x) (hB : 32 * B < 2 ^ 62) (hn : n < 2 ^ 30) : Ph (32 * B) (n + 5) (greyO (nI x) (nI y) L) := by
  obtain ⟨hq, hu, hv⟩ := h.le
  obtain ⟨h1, h2, h3, h4⟩ := h
  have ex : (nI x).toInt64.toInt = x := by rw [Int32.toInt_toInt64, nI_toInt (by omega)]
  have ey : (nI y).toInt64.toInt = y := by rw [Int32.toInt_toInt64, nI_toInt (by omega)]
  have bx : -(16 : Int) ≤ x ∧ (x : Int) ≤ 16 := by omega
  have byy : -(16 : Int) ≤ y ∧ (y : Int) ≤ 16 := by omega
  have bI := bnd_mul bx (show -(B : Int) ≤ L.1.toInt ∧ L.1.toInt ≤ B by omega)
  have bq := bnd_mul byy (show -(B : Int) ≤ L.2.1.toInt ∧ L.2.1.toInt ≤ B by omega)
  have bu := bnd_mul byy (show -(B : Int) ≤ L.2.2.1.toInt ∧ L.2.2.1.toInt ≤ B by omega)
  have bv := bnd_mul byy (show -(B : Int) ≤ L.2.2.2.1.toInt ∧ L.2.2.2.1.toInt ≤ B by omega)
  have e1 : ((nI x).toInt64 * L.1).toInt = x * L.1.toInt := by rw [i64_mul (by rw [ex]; omega) (by rw [ex]; omega), ex]
  have e2 : ((nI y).toInt64 * L.2.1).toInt = y * L.2.1.toInt := by rw [i64_mul (by rw [ey]; omega) (by rw [ey]; omega), ey]
  have e3 : ((nI y).toInt64 * L.2.2.1).toInt = y * L.2.2.1.toInt := by rw [i64_mul (by rw [ey]; omega) (by rw [ey]; omega), ey]
  have e4 : ((nI y).toInt64 * L.2.2.2.1).toInt = y * L.2.2.2.1.toInt := by rw [i64_mul (by rw [ey]; omega) (by rw [ey]; omega), ey]
  have hE := e_add (k := 4) h4 (by omega)
  refine ⟨?_, ?_, ?_, hE.1, by have := hE.2; show (L.2.2.2.2 + nI 4).toInt ≤ _; omega⟩
  · show 0 ≤ ((nI x).toInt64 * L.1).toInt
    rw [e1]
    exact Int.mul_nonneg (by omega) h1
  · show ((nI x).toInt64 * L.1).toInt ≤ _
    rw [e1]
    omega
  · show ((nI y).toInt64 * L.2.1).toInt * ((nI y).toInt64 * L.2.1).toInt + ((nI y).toInt64 * L.2.2.1).toInt * ((nI y).toInt64 * L.2.2.1).toInt + ((nI y).toInt64 * L.2.2.2.1).toInt * ((nI y).toInt64 * L.2.2.2.1).toInt ≤ ((nI x).toInt64 * L.1).toInt * ((nI x).toInt64 * L.1).toInt
    rw [e1, e2, e3, e4]
    have k1 : (y : Int) * y ≤ x * x := Int.mul_le_mul (by omega) (by omega) (by omega) (by omega)
    have k2 := Int.mul_le_mul k1 h3 (by have := sq_nn L.2.1.toInt; have := sq_nn L.2.2.1.toInt; have := sq_nn L.2.2.2.1.toInt; omega) (sq_nn (x : Int))
    generalize L.1.toInt = I at *
    generalize L.2.1.toInt = Q at *
    generalize L.2.2.1.toInt = U at *
    generalize L.2.2.2.1.toInt = W at *
    have z1 : (y : Int) * Q * (y * Q) + y * U * (y * U) + y * W * (y * W) = y * y * (Q * Q + U * U + W * W) := by grind
    have z2 : (x : Int) * I * (x * I) = x * x * (I * I) := by grind
    rw [z1, z2]
    exact k2
/-- what a SHEET does to I and the part on its axis, in whole numbers -/
theorem sheet_int {I P U W a b : Int} (ha : 0 ≤ a ∧ a ≤ 4) (hb : 0 ≤ b ∧ b ≤ 4) (hI : 0 ≤ I) (hP : -I ≤ P ∧ P ≤ I) (hs : P * P + U * U + W * W ≤ I * I) :
    0 ≤ (a * a + b * b) * I + (a * a - b * b) * P ∧ (a * a + b * b) * I + (a * a - b * b) * P ≤ 32 * I ∧
    ((a * a - b * b) * I + (a * a + b * b) * P) * ((a * a - b * b) * I + (a * a + b * b) * P) + (2 * a * b * U) * (2 * a * b * U) + (2 * a * b * W) * (2 * a * b * W) ≤ ((a * a + b * b) * I + (a * a - b * b) * P) * ((a * a + b * b) * I + (a * a - b * b) * P) := by
  have h1 : (a * a + b * b) * I + (a * a - b * b) * P = a * a * (I + P) + b * b * (I - P) := by grind
  have ka : 0 ≤ a * a := sq_nn a
  have kb : 0 ≤ b * b := sq_nn b
  have ka2 : a * a ≤ 16 := Int.mul_le_mul (c := 4) (d := 4) ha.2 ha.2 ha.1 (by decide)
  have kb2 : b * b ≤ 16 := Int.mul_le_mul (c := 4) (d := 4) hb.2 hb.2 hb.1 (by decide)
  have m1 : 0 ≤ a * a * (I + P) := Int.mul_nonneg ka (by omega)
  have m2 : 0 ≤ b * b * (I - P) := Int.mul_nonneg kb (by omega)
  have m3 : a * a * (I + P) ≤ 16 * (I + P) := Int.mul_le_mul_of_nonneg_right ka2 (by omega)
  have m4 : b * b * (I - P) ≤ 16 * (I - P) := Int.mul_le_mul_of_nonneg_right kb2 (by omega)
  refine ⟨by rw [h1]; omega, by rw [h1]; omega, ?_⟩
  have hd : ((a * a + b * b) * I + (a * a - b * b) * P) * ((a * a + b * b) * I + (a * a - b * b) * P) - (((a * a - b * b) * I + (a * a + b * b) * P) * ((a * a - b * b) * I + (a * a + b * b) * P) + (2 * a * b * U) * (2 * a * b * U) + (2 * a * b * W) * (2 * a * b * W)) = (2 * a * b) * (2 * a * b) * (I * I - (P * P + U * U + W * W)) := by grind
  have hp := Int.mul_nonneg (sq_nn (2 * a * b)) (show 0 ≤ I * I - (P * P + U * U + W * W) by omega)
  omega
theorem ab_num : ∀ A, A < 5 → ∀ B, B < 5 → (nI A * nI A + nI B * nI B).toInt64.toInt = (A : Int) * A + B * B ∧ (nI A * nI A - nI B * nI B).toInt64.toInt = (A : Int) * A - B * B ∧ (2 * nI A * nI B).toInt64.toInt = 2 * (A : Int) * B := by decide +kernel
theorem al_num : ∀ f, f < 17 → (∃ A, A < 5 ∧ nI f / 4 = nI A) ∧ (∃ B, B < 5 ∧ irem (nI f) 4 = nI B) := by decide +kernel
theorem Vc.ab {c : Int32} (h : Vc c) : (∃ A, A < 5 ∧ alO c = nI A) ∧ (∃ B, B < 5 ∧ acO c = nI B) := by
  obtain ⟨f, hf, he⟩ := h.fg
  have := al_num f hf
  by_cases hk : kdO c = 3
  · simp only [alO, acO, if_pos hk]
    exact ⟨⟨4, by decide, rfl⟩, ⟨0, by decide, rfl⟩⟩
  · simp only [alO, acO, if_neg hk, he]
    exact this
theorem sheet_core {s f t I P X Y : Int64} {A B : Int} {M : Nat} (hA : 0 ≤ A ∧ A ≤ 4) (hB : 0 ≤ B ∧ B ≤ 4) (es : s.toInt = A * A + B * B) (ef : f.toInt = A * A - B * B) (et : t.toInt = 2 * A * B) (hI : 0 ≤ I.toInt) (hM : I.toInt ≤ M) (hM2 : 32 * M < 2 ^ 62) (hP : -I.toInt ≤ P.toInt ∧ P.toInt ≤ I.toInt) (hX : -I.toInt ≤ X.toInt ∧ X.toInt ≤ I.toInt) (hY : -I.toInt ≤ Y.toInt ∧ Y.toInt ≤ I.toInt) :
    (s * I + f * P).toInt = (A * A + B * B) * I.toInt + (A * A - B * B) * P.toInt ∧ (f * I + s * P).toInt = (A * A - B * B) * I.toInt + (A * A + B * B) * P.toInt ∧ (t * X).toInt = 2 * A * B * X.toInt ∧ (t * Y).toInt = 2 * A * B * Y.toInt := by
  have ka : 0 ≤ A * A := sq_nn A
  have kb : 0 ≤ B * B := sq_nn B
  have ka2 : A * A ≤ 16 := Int.mul_le_mul (c := 4) (d := 4) hA.2 hA.2 hA.1 (by decide)
  have kb2 : B * B ≤ 16 := Int.mul_le_mul (c := 4) (d := 4) hB.2 hB.2 hB.1 (by decide)
  have kc : 0 ≤ A * B := Int.mul_nonneg hA.1 hB.1
  have kc2 : A * B ≤ 16 := Int.mul_le_mul (c := 4) (d := 4) hA.2 hB.2 hB.1 (by decide)
  have kt : 2 * A * B = 2 * (A * B) := by rw [Int.mul_assoc]
  have b1 := bnd_mul (x := s.toInt) (X := 32) (y := I.toInt) (Y := M) (by omega) (by omega)
  have b2 := bnd_mul (x := f.toInt) (X := 32) (y := P.toInt) (Y := M) (by omega) (by omega)
  have b3 := bnd_mul (x := f.toInt) (X := 32) (y := I.toInt) (Y := M) (by omega) (by omega)
  have b4 := bnd_mul (x := s.toInt) (X := 32) (y := P.toInt) (Y := M) (by omega) (by omega)
  have b5 := bnd_mul (x := t.toInt) (X := 32) (y := X.toInt) (Y := M) (by omega) (by omega)
  have b6 := bnd_mul (x := t.toInt) (X := 32) (y := Y.toInt) (Y := M) (by omega) (by omega)
  have c1 := i64_mul (a := s) (b := I) (by omega) (by omega)
  have c2 := i64_mul (a := f) (b := P) (by omega) (by omega)
  have c3 := i64_mul (a := f) (b := I) (by omega) (by omega)
  have c4 := i64_mul (a := s) (b := P) (by omega) (by omega)
  refine ⟨?_, ?_, ?_, ?_⟩
  · rw [i64_add (by omega) (by omega), c1, c2, es, ef]
  · rw [i64_add (by omega) (by omega), c3, c4, es, ef]
  · rw [i64_mul (by omega) (by omega), et]
  · rw [i64_mul (by omega) (by omega), et]
theorem sg_mul {g : Int32} {x : Int64} {M : Int} (h : -M ≤ x.toInt ∧ x.toInt ≤ M) (hM : M < 2 ^ 63) : (((if g < 2 then 1 else -1 : Int64) * x).toInt = x.toInt) ∨ (((if g < 2 then 1 else -1 : Int64) * x).toInt = -x.toInt) := by
  by_cases hg : g < 2
  · rw [if_pos hg, i64_mul (by rw [show (1 : Int64).toInt = 1 from rfl]; omega) (by rw [show (1 : Int64).toInt = 1 from rfl]; omega), show (1 : Int64).toInt = 1 from rfl]
    exact Or.inl (by omega)
  · rw [if_neg hg, i64_mul (by rw [show (-1 : Int64).toInt = -1 from rfl]; omega) (by rw [show (-1 : Int64).toInt = -1 from rfl]; omega), show (-1 : Int64).toInt = -1 from rfl]
    exact Or.inr (by omega)
theorem sheet_ph {B n : Nat} {L : LT} {c g : Int32} (h : Ph B n L) (hc : Vc c) (hB : 32 * B < 2 ^ 62) (hn : n < 2 ^ 30) : Ph (32 * B) (n + 5) (sheetO g (alO c) (acO c) L) := by
  obtain ⟨⟨A, hA, eA⟩, ⟨C, hC, eC⟩⟩ := hc.ab
  obtain ⟨es, ef, et⟩ := ab_num A hA C hC
  obtain ⟨hq, hu, hv⟩ := h.le
  obtain ⟨h1, h2, h3, h4⟩ := h
  have hE := e_add (k := 5) h4 (by omega)
  rw [eA, eC]
  unfold sheetO
  generalize hs : (nI A * nI A + nI C * nI C).toInt64 = s at es
  generalize hf : (nI A * nI A - nI C * nI C).toInt64 = f at ef
  generalize ht : (2 * nI A * nI C).toInt64 = t at et
  have hA2 : (0 : Int) ≤ A ∧ (A : Int) ≤ 4 := by omega
  have hC2 : (0 : Int) ≤ C ∧ (C : Int) ≤ 4 := by omega
  by_cases hg : irem g 2 = 0
  · simp only [if_pos hg]
    have hp := sg_mul (g := g) (x := L.2.1) (M := B) (by omega) (by omega)
    generalize hP : (if g < 2 then 1 else -1 : Int64) * L.2.1 = P at hp
    obtain ⟨k1, k2, k3, k4⟩ := sheet_core (s := s) (f := f) (t := t) (P := P) (X := L.2.2.1) (Y := L.2.2.2.1) hA2 hC2 es ef et h1 h2 hB (by omega) hu hv
    have hPP : P.toInt * P.toInt = L.2.1.toInt * L.2.1.toInt := by
      rcases hp with q | q
      · rw [q]
      · rw [q, Int.neg_mul_neg]
    obtain ⟨m1, m2, m3⟩ := sheet_int (P := P.toInt) (U := L.2.2.1.toInt) (W := L.2.2.2.1.toInt) hA2 hC2 h1 (by omega) (by rw [hPP]; exact h3)
    rw [← k1, ← k2, ← k3, ← k4] at m3
    rw [← k1] at m1 m2
    have hz := sq_le (a := (f * L.1 + s * P).toInt) m1 (by have := sq_nn (t * L.2.2.1).toInt; have := sq_nn (t * L.2.2.2.1).toInt; omega)
    have hr := sg_mul (g := g) (x := f * L.1 + s * P) (M := 32 * B) (by omega) (by omega)
    refine ⟨m1, by show (s * L.1 + f * P).toInt ≤ _; omega, ?_, hE⟩
    show ((if g < 2 then 1 else -1 : Int64) * (f * L.1 + s * P)).toInt * ((if g < 2 then 1 else -1 : Int64) * (f * L.1 + s * P)).toInt + (t * L.2.2.1).toInt * (t * L.2.2.1).toInt + (t * L.2.2.2.1).toInt * (t * L.2.2.2.1).toInt ≤ (s * L.1 + f * P).toInt * (s * L.1 + f * P).toInt
    rcases hr with q | q <;> rw [q]
    · exact m3
    · rw [Int.neg_mul_neg]; exact m3
  · simp only [if_neg hg]
    have hp := sg_mul (g := g) (x := L.2.2.1) (M := B) (by omega) (by omega)
    generalize hP : (if g < 2 then 1 else -1 : Int64) * L.2.2.1 = P at hp
    obtain ⟨k1, k2, k3, k4⟩ := sheet_core (s := s) (f := f) (t := t) (P := P) (X := L.2.1) (Y := L.2.2.2.1) hA2 hC2 es ef et h1 h2 hB (by omega) hq hv
    have hPP : P.toInt * P.toInt = L.2.2.1.toInt * L.2.2.1.toInt := by
      rcases hp with q | q
      · rw [q]
      · rw [q, Int.neg_mul_neg]
    obtain ⟨m1, m2, m3⟩ := sheet_int (P := P.toInt) (U := L.2.1.toInt) (W := L.2.2.2.1.toInt) hA2 hC2 h1 (by omega) (by rw [hPP]; omega)
    rw [← k1, ← k2, ← k3, ← k4] at m3
    rw [← k1] at m1 m2
    have hz := sq_le (a := (f * L.1 + s * P).toInt) m1 (by have := sq_nn (t * L.2.1).toInt; have := sq_nn (t * L.2.2.2.1).toInt; omega)
    have hr := sg_mul (g := g) (x := f * L.1 + s * P) (M := 32 * B) (by omega) (by omega)
    refine ⟨m1, by show (s * L.1 + f * P).toInt ≤ _; omega, ?_, hE⟩
    show (t * L.2.1).toInt * (t * L.2.1).toInt + ((if g < 2 then 1 else -1 : Int64) * (f * L.1 + s * P)).toInt * ((if g < 2 then 1 else -1 : Int64) * (f * L.1 + s * P)).toInt + (t * L.2.2.2.1).toInt * (t * L.2.2.2.1).toInt ≤ (s * L.1 + f * P).toInt * (s * L.1 + f * P).toInt
    rcases hr with q | q <;> rw [q]
    · omega
    · rw [Int.neg_mul_neg]; omega
theorem turn_ph {B n : Nat} {L : LT} {a : Int32} (h : Ph B n L) (hB : B < 2 ^ 62) : Ph B n (turnO a L) := by
  obtain ⟨hq, hu, hv⟩ := h.le
  obtain ⟨h1, h2, h3, h4⟩ := h
  have eq1 : (-L.2.1).toInt * (-L.2.1).toInt = L.2.1.toInt * L.2.1.toInt := by rw [i64_neg (by omega), Int.neg_mul_neg]
  have eu : (-L.2.2.1).toInt * (-L.2.2.1).toInt = L.2.2.1.toInt * L.2.2.1.toInt := by rw [i64_neg (by omega), Int.neg_mul_neg]
  have ev : (-L.2.2.2.1).toInt * (-L.2.2.2.1).toInt = L.2.2.2.1.toInt * L.2.2.2.1.toInt := by rw [i64_neg (by omega), Int.neg_mul_neg]
  unfold turnO
  split
  · refine ⟨h1, h2, ?_, h4⟩
    show L.2.1.toInt * L.2.1.toInt + L.2.2.2.1.toInt * L.2.2.2.1.toInt + (-L.2.2.1).toInt * (-L.2.2.1).toInt ≤ L.1.toInt * L.1.toInt
    omega
  · split
    · refine ⟨h1, h2, ?_, h4⟩
      show (-L.2.2.2.1).toInt * (-L.2.2.2.1).toInt + L.2.2.1.toInt * L.2.2.1.toInt + L.2.1.toInt * L.2.1.toInt ≤ L.1.toInt * L.1.toInt
      omega
    · split
      · refine ⟨h1, h2, ?_, h4⟩
        show L.2.1.toInt * L.2.1.toInt + (-L.2.2.2.1).toInt * (-L.2.2.2.1).toInt + L.2.2.1.toInt * L.2.2.1.toInt ≤ L.1.toInt * L.1.toInt
        omega
      · split
        · refine ⟨h1, h2, ?_, h4⟩
          show L.2.2.2.1.toInt * L.2.2.2.1.toInt + L.2.2.1.toInt * L.2.2.1.toInt + (-L.2.1).toInt * (-L.2.1).toInt ≤ L.1.toInt * L.1.toInt
          omega
        · refine ⟨h1, h2, ?_, h4⟩
          show (-L.2.2.1).toInt * (-L.2.2.1).toInt + L.2.1.toInt * L.2.1.toInt + L.2.2.2.1.toInt * L.2.2.2.1.toInt ≤ L.1.toInt * L.1.toInt
          omega
theorem turns_ph {B n : Nat} {a : Int32} (hB : B < 2 ^ 62) : ∀ (m : Nat) {L : LT}, Ph B n L → Ph B n (turnsO m a L)
  | 0, _, h => h
  | m + 1, _, h => turns_ph hB m (turn_ph h hB)
theorem low_ph {B n : Nat} : ∀ (m : Nat) (L : LT), Ph B n L → Ph B n (lowN m L)
  | 0, _, h => h
  | m + 1, L, h => by
    have he := lowN_e (m + 1) n L h.2.2.2
    unfold lowN at he ⊢
    split
    · exact h
    · rename_i q0
      rw [if_neg q0] at he
      split
      · rename_i q1
        refine low_ph m _ ?_
        obtain ⟨k1, k2, k3, k4⟩ := (evn_iff L).mp q1
        obtain ⟨h1, h2, h3, h4⟩ := h
        have e1 := half_sh L.1
        have e2 := half_sh L.2.1
        have e3 := half_sh L.2.2.1
        have e4 := half_sh L.2.2.2.1
        have hE : Eb n (halfO L) := by
          have hx : (L.2.2.2.2 - 1).toInt = L.2.2.2.2.toInt - 1 := by
            rw [Int32.toInt_sub]
            have := L.2.2.2.2.toInt_lt
            have := h4.1
            exact Int.bmod_eq_of_le (by simp; omega) (by simp; omega)
          have hy : ¬ L.2.2.2.2.toInt ≤ 0 := fun z => q0 (Int32.le_iff_toInt_le.mpr z)
          exact ⟨by show 0 ≤ (L.2.2.2.2 - 1).toInt; omega, by show (L.2.2.2.2 - 1).toInt ≤ n; have := h4.2; omega⟩
        refine ⟨by show 0 ≤ (L.1 >>> ((1 : Int32).toInt64 &&& 63)).toInt; omega, by show (L.1 >>> ((1 : Int32).toInt64 &&& 63)).toInt ≤ B; omega, ?_, hE⟩
        show (L.2.1 >>> ((1 : Int32).toInt64 &&& 63)).toInt * (L.2.1 >>> ((1 : Int32).toInt64 &&& 63)).toInt + (L.2.2.1 >>> ((1 : Int32).toInt64 &&& 63)).toInt * (L.2.2.1 >>> ((1 : Int32).toInt64 &&& 63)).toInt + (L.2.2.2.1 >>> ((1 : Int32).toInt64 &&& 63)).toInt * (L.2.2.2.1 >>> ((1 : Int32).toInt64 &&& 63)).toInt ≤ (L.1 >>> ((1 : Int32).toInt64 &&& 63)).toInt * (L.1 >>> ((1 : Int32).toInt64 &&& 63)).toInt
        rw [e1, e2, e3, e4]
        have f1 : L.1.toInt = 2 * (L.1.toInt / 2) := by omega
        have f2 : L.2.1.toInt = 2 * (L.2.1.toInt / 2) := by omega
        have f3 : L.2.2.1.toInt = 2 * (L.2.2.1.toInt / 2) := by omega
        have f4 : L.2.2.2.1.toInt = 2 * (L.2.2.2.1.toInt / 2) := by omega
        rw [f1, f2, f3, f4] at h3
        generalize L.1.toInt / 2 = I at *
        generalize L.2.1.toInt / 2 = Q at *
        generalize L.2.2.1.toInt / 2 = U at *
        generalize L.2.2.2.1.toInt / 2 = W at *
        have z : 2 * Q * (2 * Q) + 2 * U * (2 * U) + 2 * W * (2 * W) = 4 * (Q * Q + U * U + W * W) := by grind
        have z2 : 2 * I * (2 * I) = 4 * (I * I) := by grind
        omega
      · exact h
theorem Ph.mono {B B' n n' : Nat} {L : LT} (h : Ph B n L) (hB : B ≤ B') (hn : n ≤ n') : Ph B' n' L := ⟨h.1, by have := h.2.1; omega, h.2.2.1, h.2.2.2.1, by have := h.2.2.2.2; omega⟩
theorem pass_ph {B n : Nat} {L : LT} {c : Int32} (h : Ph B n L) (hc : Vc c) (hB : 32 * B < 2 ^ 62) (hn : n < 2 ^ 30) : Ph (32 * B) (n + 5) (passO c L) := by
  refine low_ph _ _ ?_
  obtain ⟨f, hf, he⟩ := hc.fg
  have hm := h.mono (B' := 32 * B) (n' := n + 5) (by omega) (by omega)
  by_cases k1 : kdO c = 1
  · rw [show goO c L = greyO (fgO c) (fgO c) L from if_pos k1, he]
    exact grey_ph h (by omega) (Nat.le_refl _) hB hn
  by_cases k2 : kdO c = 2
  · rw [show goO c L = sheetO (anO c) (alO c) (acO c) L from (if_neg k1).trans (if_pos k2)]
    exact sheet_ph h hc hB hn
  by_cases k3 : kdO c = 3
  · rw [show goO c L = sheetO (anO c) (alO c) (acO c) L from (if_neg k1).trans ((if_neg k2).trans (if_pos k3))]
    exact sheet_ph h hc hB hn
  by_cases k4 : kdO c = 4
  · rw [show goO c L = turnsO (qtO c).toNatClampNeg (if kdO c = 5 then 4 else anO c) L from (if_neg k1).trans ((if_neg k2).trans ((if_neg k3).trans (if_pos k4)))]
    exact turns_ph hB _ hm
  by_cases k5 : kdO c = 5
  · rw [show goO c L = turnsO (qtO c).toNatClampNeg (if kdO c = 5 then 4 else anO c) L from (if_neg k1).trans ((if_neg k2).trans ((if_neg k3).trans ((if_neg k4).trans (if_pos k5))))]
    exact turns_ph hB _ hm
  by_cases k6 : kdO c = 6
  · rw [show goO c L = greyO (nI 16) (fgO c) L from (if_neg k1).trans ((if_neg k2).trans ((if_neg k3).trans ((if_neg k4).trans ((if_neg k5).trans (if_pos k6))))), he]
    exact grey_ph (x := 16) h (by omega) (by omega) hB hn
  · rw [show goO c L = L from (if_neg k1).trans ((if_neg k2).trans ((if_neg k3).trans ((if_neg k4).trans ((if_neg k5).trans (if_neg k6)))))]
    exact hm
theorem run_ph : ∀ (l : List Int32) {B n : Nat} {L : LT}, Ph B n L → (∀ c ∈ l, Vc c) → 32 ^ l.length * B < 2 ^ 62 → n + 5 * l.length < 2 ^ 30 → Ph (32 ^ l.length * B) (n + 5 * l.length) (runO l L)
  | [], B, n, L, h, _, _, _ => by
    show Ph (32 ^ 0 * B) (n + 0) L
    rw [Nat.pow_zero, Nat.one_mul]
    exact h
  | c :: r, B, n, L, h, hv, hB, hn => by
    rw [List.length_cons] at hB hn ⊢
    have hp : 32 ^ (r.length + 1) * B = 32 ^ r.length * (32 * B) := by rw [Nat.pow_succ, Nat.mul_assoc]
    have h1 : 1 ≤ 32 ^ r.length := Nat.pow_pos (by decide)
    have h2 : 32 * B ≤ 32 ^ r.length * (32 * B) := Nat.le_mul_of_pos_left _ h1
    rw [runO_cons, hp, show n + 5 * (r.length + 1) = n + 5 + 5 * r.length by omega]
    exact run_ph r (pass_ph h (hv c List.mem_cons_self) (by omega) (by omega)) (fun x hx => hv x (List.mem_cons_of_mem _ hx)) (by omega) (by omega)
/-- LIGHT that a lamp sends through no more than eight FILTERS -/
theorem run8_ph {l : List Int32} {L : LT} (h : Ph 1000 0 L) (hv : ∀ c ∈ l, Vc c) (h8 : l.length ≤ 8) : Ph 1125899906842624 40 (runO l L) := by
  have hp : 32 ^ l.length ≤ 1099511627776 := Nat.le_trans (Nat.pow_le_pow_right (n := 32) (by decide) h8) (Nat.le_of_ble_eq_true rfl)
  have hr := run_ph l h hv
  generalize 32 ^ l.length = X at hp hr
  exact (hr (by omega) (by omega)).mono (by omega) (by omega)
