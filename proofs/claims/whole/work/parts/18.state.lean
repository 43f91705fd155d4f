/-! ===== the state: what both hold ===== -/
/-- lamp, PILE, film, RACKS, what they take -/
abbrev BN : Type := LT × List Int32 × (Nat → UInt32) × (Nat → Nat → Int32) × (Nat → Int32)
/-- bench, THE IMAGE, LISTS, their lengths (-1: MISSING), THE TAPE, TROUBLES -/
abbrev ST : Type := BN × Option BN × (Nat → Nat → Int64) × (Nat → Int32) × List Int32 × (Nat × (Nat → Int32) × (Nat → Int32))
abbrev sB (σ : ST) : BN := σ.1
abbrev sM (σ : ST) : LT := σ.1.1
abbrev sP (σ : ST) : List Int32 := σ.1.2.1
abbrev sF (σ : ST) : Nat → UInt32 := σ.1.2.2.1
abbrev sR (σ : ST) : Nat → Nat → Int32 := σ.1.2.2.2.1
abbrev sK (σ : ST) : Nat → Int32 := σ.1.2.2.2.2
abbrev sI (σ : ST) : Option BN := σ.2.1
abbrev sL (σ : ST) : Nat → Nat → Int64 := σ.2.2.1
abbrev sZ (σ : ST) : Nat → Int32 := σ.2.2.2.1
abbrev sT (σ : ST) : List Int32 := σ.2.2.2.2.1
abbrev sW (σ : ST) : Nat × (Nat → Int32) × (Nat → Int32) := σ.2.2.2.2.2
abbrev toM (σ : ST) (L : LT) : ST := ((L, σ.1.2), σ.2)
abbrev toP (σ : ST) (l : List Int32) : ST := ((σ.1.1, l, σ.1.2.2), σ.2)
abbrev toF (σ : ST) (f : Nat → UInt32) : ST := ((σ.1.1, σ.1.2.1, f, σ.1.2.2.2), σ.2)
abbrev toR (σ : ST) (r : Nat → Nat → Int32) : ST := ((σ.1.1, σ.1.2.1, σ.1.2.2.1, r, σ.1.2.2.2.2), σ.2)
abbrev toK (σ : ST) (t : Nat → Int32) : ST := ((σ.1.1, σ.1.2.1, σ.1.2.2.1, σ.1.2.2.2.1, t), σ.2)
abbrev toB (σ : ST) (b : BN) : ST := (b, σ.2)
abbrev toI (σ : ST) (i : Option BN) : ST := (σ.1, i, σ.2.2)
abbrev toL (σ : ST) (f : Nat → Nat → Int64) : ST := (σ.1, σ.2.1, f, σ.2.2.2)
abbrev toZ (σ : ST) (z : Nat → Int32) : ST := (σ.1, σ.2.1, σ.2.2.1, z, σ.2.2.2.2)
abbrev toT (σ : ST) (t : List Int32) : ST := (σ.1, σ.2.1, σ.2.2.1, σ.2.2.2.1, t, σ.2.2.2.2.2)
abbrev toW (σ : ST) (w : Nat × (Nat → Int32) × (Nat → Int32)) : ST := (σ.1, σ.2.1, σ.2.2.1, σ.2.2.2.1, σ.2.2.2.2.1, w)
abbrev rowU {A : Type} (f : Nat → A) (r : Nat) (x : A) : Nat → A := fun j => if j = r then x else f j
/-! the class's cells -/
abbrev filC (hi : Int32) : va_E := .inr (7, [.ref 1, .ref 11, .int hi, .ref 20, .ref 24, .ref 25, .ref 29, .ref 32, .ref 37, .ref 45, .ref 50, .ref 51, .ref 52])
def hiO (o : Option BN) : Int32 := match o with
  | none => 0
  | some _ => 1
def llF (z : Nat → Int32) : Nat → Int32 := fun t => if z t = -1 then -11 else z t
def capO (w : Nat) : Nat := if w = 0 then 16 else if w = 1 then 34 else 70

def Bn1 (L : LT) (l : List Int32) (f : Nat → UInt32) (r : Nat → Nat → Int32) (t : Nat → Int32) (μ : Hp) : Prop := ∃ (p : Nat → Int32), μ 1 = some (benC 2 3 (nI l.length) 4 5 9) ∧ μ 2 = some (ligL L) ∧ μ 3 = some (arI 8 p) ∧ μ 4 = some (arF 8 f) ∧ μ 5 = some (arR 4 3 (rowF 6 3)) ∧ μ 6 = some (arI 4 (r 0)) ∧ μ 7 = some (arI 4 (r 1)) ∧ μ 8 = some (arI 4 (r 2)) ∧ μ 9 = some (arI 3 t) ∧ Pl l p
theorem Bn1.kept {L : LT} {l : List Int32} {f : Nat → UInt32} {r : Nat → Nat → Int32} {t : Nat → Int32} {μ μ2 : Hp} (h : Bn1 L l f r t μ) (hf : ∀ i, 1 ≤ i → i ≤ 9 → μ2 i = μ i) : Bn1 L l f r t μ2 := by
  obtain ⟨p, h1, h2, h3, h4, h5, h6, h7, h8, h9, hp⟩ := h
  exact ⟨p, (hf _ (by omega) (by omega)).trans h1, (hf _ (by omega) (by omega)).trans h2, (hf _ (by omega) (by omega)).trans h3, (hf _ (by omega) (by omega)).trans h4, (hf _ (by omega) (by omega)).trans h5, (hf _ (by omega) (by omega)).trans h6, (hf _ (by omega) (by omega)).trans h7, (hf _ (by omega) (by omega)).trans h8, (hf _ (by omega) (by omega)).trans h9, hp⟩
def Bn2 (b : BN) (μ : Hp) : Prop := ∃ (p : Nat → Int32), μ 11 = some (benC 12 13 (nI b.2.1.length) 14 15 19) ∧ μ 12 = some (ligL b.1) ∧ μ 13 = some (arI 8 p) ∧ μ 14 = some (arF 8 b.2.2.1) ∧ μ 15 = some (arR 4 3 (rowF 16 3)) ∧ μ 16 = some (arI 4 (b.2.2.2.1 0)) ∧ μ 17 = some (arI 4 (b.2.2.2.1 1)) ∧ μ 18 = some (arI 4 (b.2.2.2.1 2)) ∧ μ 19 = some (arI 3 b.2.2.2.2) ∧ Pl b.2.1 p
theorem Bn2.kept {b : BN} {μ μ2 : Hp} (h : Bn2 b μ) (hf : ∀ i, 11 ≤ i → i ≤ 19 → μ2 i = μ i) : Bn2 b μ2 := by
  obtain ⟨p, h11, h12, h13, h14, h15, h16, h17, h18, h19, hp⟩ := h
  exact ⟨p, (hf _ (by omega) (by omega)).trans h11, (hf _ (by omega) (by omega)).trans h12, (hf _ (by omega) (by omega)).trans h13, (hf _ (by omega) (by omega)).trans h14, (hf _ (by omega) (by omega)).trans h15, (hf _ (by omega) (by omega)).trans h16, (hf _ (by omega) (by omega)).trans h17, (hf _ (by omega) (by omega)).trans h18, (hf _ (by omega) (by omega)).trans h19, hp⟩
def Kp (o : Option BN) (μ : Hp) : Prop := ∃ b : BN, (∀ k, o = some k → b = k) ∧ Bn2 b μ
theorem Kp.kept {o : Option BN} {μ μ2 : Hp} (h : Kp o μ) (hf : ∀ i, 11 ≤ i → i ≤ 19 → μ2 i = μ i) : Kp o μ2 := by
  obtain ⟨b, h1, h2⟩ := h
  exact ⟨b, h1, h2.kept hf⟩
def Lx (f : Nat → Nat → Int64) (z : Nat → Int32) (μ : Hp) : Prop := μ 20 = some (arR 5 3 (rowF 21 3)) ∧ μ 21 = some (arJ 12 (f 0)) ∧ μ 22 = some (arJ 12 (f 1)) ∧ μ 23 = some (arJ 12 (f 2)) ∧ μ 24 = some (arI 3 (llF z))
theorem Lx.kept {f : Nat → Nat → Int64} {z : Nat → Int32} {μ μ2 : Hp} (h : Lx f z μ) (hf : ∀ i, 20 ≤ i → i ≤ 24 → μ2 i = μ i) : Lx f z μ2 := by
  obtain ⟨h20, h21, h22, h23, h24⟩ := h
  exact ⟨(hf _ (by omega) (by omega)).trans h20, (hf _ (by omega) (by omega)).trans h21, (hf _ (by omega) (by omega)).trans h22, (hf _ (by omega) (by omega)).trans h23, (hf _ (by omega) (by omega)).trans h24⟩
def Tx (tp : List Int32) (μ : Hp) : Prop := ∃ (t ops cd : Nat → Int32) (k p f : Int32), μ 25 = some (redC (nI tp.length) k p f) ∧ μ 26 = some (arI 60 t) ∧ μ 27 = some (arI 3 ops) ∧ μ 28 = some (arI 8 cd) ∧ Pl tp t ∧ tp.length ≤ 60
theorem Tx.kept {tp : List Int32} {μ μ2 : Hp} (h : Tx tp μ) (hf : ∀ i, 25 ≤ i → i ≤ 28 → μ2 i = μ i) : Tx tp μ2 := by
  obtain ⟨t, ops, cd, k, p, f, h25, h26, h27, h28, hp, h60⟩ := h
  exact ⟨t, ops, cd, k, p, f, (hf _ (by omega) (by omega)).trans h25, (hf _ (by omega) (by omega)).trans h26, (hf _ (by omega) (by omega)).trans h27, (hf _ (by omega) (by omega)).trans h28, hp, h60⟩
def Wx (w : Nat × (Nat → Int32) × (Nat → Int32)) (μ : Hp) : Prop := μ 29 = some (troC (nI w.1)) ∧ μ 30 = some (arI 4 w.2.1) ∧ μ 31 = some (arI 4 w.2.2)
theorem Wx.kept {w : Nat × (Nat → Int32) × (Nat → Int32)} {μ μ2 : Hp} (h : Wx w μ) (hf : ∀ i, 29 ≤ i → i ≤ 31 → μ2 i = μ i) : Wx w μ2 := by
  obtain ⟨h29, h30, h31⟩ := h
  exact ⟨(hf _ (by omega) (by omega)).trans h29, (hf _ (by omega) (by omega)).trans h30, (hf _ (by omega) (by omega)).trans h31⟩
def Ox (μ : Hp) : Prop := (∃ c : OC, Oc c μ) ∧ μ 37 = some (.inr (3, [.ref 38])) ∧ μ 38 = some (arR 6 6 (rowF 39 6)) ∧ ∀ x, x ≤ 5 → ∃ K, μ (39 + x) = some (ligL K)
theorem Ox.kept {μ μ2 : Hp} (h : Ox μ) (hf : ∀ i, 32 ≤ i → i ≤ 44 → μ2 i = μ i) : Ox μ2 := by
  obtain ⟨⟨c, h1⟩, h2, h3, h4⟩ := h
  refine ⟨⟨c, h1.kept (fun i a b => hf i a (by omega))⟩, (hf _ (by omega) (by omega)).trans h2, (hf _ (by omega) (by omega)).trans h3, fun x hx => ?_⟩
  obtain ⟨K, hK⟩ := h4 x hx
  exact ⟨K, (hf _ (by omega) (by omega)).trans hK⟩
def Sx (μ : Hp) : Prop := ∃ (w : Nat) (f : Nat → Int32) (ml : Int32) (n : Nat), (w < 3 ∧ n ≤ 70 ∧ sb_Fit f) ∧ μ 45 = some (.inr (0, [.ref (46 + w), .int 0, .int ml, .int (nI n)])) ∧ μ (46 + w) = some (arB (capO w) f) ∧ ∀ j, w < j → j < 3 → μ (46 + j) = none
theorem Sx.kept {μ μ2 : Hp} (h : Sx μ) (hf : ∀ i, 45 ≤ i → i ≤ 48 → μ2 i = μ i) : Sx μ2 := by
  obtain ⟨w, f, ml, n, hw, h1, h2, h3⟩ := h
  exact ⟨w, f, ml, n, hw, (hf _ (by omega) (by omega)).trans h1, (hf _ (by omega) (by omega)).trans h2, fun j a b => (hf _ (by omega) (by omega)).trans (h3 j a b)⟩
def Bx (μ : Hp) : Prop := ∃ K0 K1 K2 : LT, μ 50 = some (ligL K0) ∧ μ 51 = some (ligL K1) ∧ μ 52 = some (ligL K2)
theorem Bx.kept {μ μ2 : Hp} (h : Bx μ) (hf : ∀ i, 50 ≤ i → i ≤ 52 → μ2 i = μ i) : Bx μ2 := by
  obtain ⟨a, b, c, h1, h2, h3⟩ := h
  exact ⟨a, b, c, (hf _ (by omega) (by omega)).trans h1, (hf _ (by omega) (by omega)).trans h2, (hf _ (by omega) (by omega)).trans h3⟩
/-- the class's cells hold σ -/
def Cl (σ : ST) (μ : Hp) : Prop := μ 0 = some (filC (hiO (sI σ))) ∧ Bn1 (sM σ) (sP σ) (sF σ) (sR σ) (sK σ) μ ∧ Kp (sI σ) μ ∧ Lx (sL σ) (sZ σ) μ ∧ Tx (sT σ) μ ∧ Wx (sW σ) μ ∧ Ox μ ∧ Sx μ ∧ Bx μ
/-- nothing of the reference has changed -/
def Fo (μ2 μ : Hp) : Prop := ∀ i, 60 ≤ i → μ2 i = μ i
theorem Fo.rf (μ : Hp) : Fo μ μ := fun _ _ => rfl
theorem Fo.up {μ2 μ : Hp} (h : Fo μ2 μ) {k : Nat} (hk : k < 60) (e : va_E) : Fo (up μ2 k e) μ := fun i hi => (up_n (by omega) rfl).trans (h i hi)
theorem Fo.tr {μ3 μ2 μ : Hp} (h : Fo μ3 μ2) (h2 : Fo μ2 μ) : Fo μ3 μ := fun i hi => (h i hi).trans (h2 i hi)
theorem Cl.beam {σ : ST} {μ : Hp} (h : Cl σ μ) (L : LT)  : Cl (σ) (up μ 50 (ligL L)) := by
  obtain ⟨h0, g1, g2, g3, g4, g5, g6, g7, g8⟩ := h
  refine ⟨by repeat (first | exact h0 | refine up_n (by omega) ?_), g1.kept (fun i a b => by repeat (first | rfl | refine up_n (by omega) ?_)), g2.kept (fun i a b => by repeat (first | rfl | refine up_n (by omega) ?_)), g3.kept (fun i a b => by repeat (first | rfl | refine up_n (by omega) ?_)), g4.kept (fun i a b => by repeat (first | rfl | refine up_n (by omega) ?_)), g5.kept (fun i a b => by repeat (first | rfl | refine up_n (by omega) ?_)), g6.kept (fun i a b => by repeat (first | rfl | refine up_n (by omega) ?_)), g7.kept (fun i a b => by repeat (first | rfl | refine up_n (by omega) ?_)), ?_⟩
  · obtain ⟨K0, K1, K2, q0, q1, q2⟩ := g8
    exact ⟨L, K1, K2, (by repeat (first | assumption | exact up_s _ _ _ | refine up_n (by omega) ?_)), (by repeat (first | assumption | exact up_s _ _ _ | refine up_n (by omega) ?_)), (by repeat (first | assumption | exact up_s _ _ _ | refine up_n (by omega) ?_))⟩
theorem Cl.aside {σ : ST} {μ : Hp} (h : Cl σ μ) (L : LT)  : Cl (σ) (up μ 51 (ligL L)) := by
  obtain ⟨h0, g1, g2, g3, g4, g5, g6, g7, g8⟩ := h
  refine ⟨by repeat (first | exact h0 | refine up_n (by omega) ?_), g1.kept (fun i a b => by repeat (first | rfl | refine up_n (by omega) ?_)), g2.kept (fun i a b => by repeat (first | rfl | refine up_n (by omega) ?_)), g3.kept (fun i a b => by repeat (first | rfl | refine up_n (by omega) ?_)), g4.kept (fun i a b => by repeat (first | rfl | refine up_n (by omega) ?_)), g5.kept (fun i a b => by repeat (first | rfl | refine up_n (by omega) ?_)), g6.kept (fun i a b => by repeat (first | rfl | refine up_n (by omega) ?_)), g7.kept (fun i a b => by repeat (first | rfl | refine up_n (by omega) ?_)), ?_⟩
  · obtain ⟨K0, K1, K2, q0, q1, q2⟩ := g8
    exact ⟨K0, L, K2, (by repeat (first | assumption | exact up_s _ _ _ | refine up_n (by omega) ?_)), (by repeat (first | assumption | exact up_s _ _ _ | refine up_n (by omega) ?_)), (by repeat (first | assumption | exact up_s _ _ _ | refine up_n (by omega) ?_))⟩
theorem Cl.told {σ : ST} {μ : Hp} (h : Cl σ μ) (L : LT)  : Cl (σ) (up μ 52 (ligL L)) := by
  obtain ⟨h0, g1, g2, g3, g4, g5, g6, g7, g8⟩ := h
  refine ⟨by repeat (first | exact h0 | refine up_n (by omega) ?_), g1.kept (fun i a b => by repeat (first | rfl | refine up_n (by omega) ?_)), g2.kept (fun i a b => by repeat (first | rfl | refine up_n (by omega) ?_)), g3.kept (fun i a b => by repeat (first | rfl | refine up_n (by omega) ?_)), g4.kept (fun i a b => by repeat (first | rfl | refine up_n (by omega) ?_)), g5.kept (fun i a b => by repeat (first | rfl | refine up_n (by omega) ?_)), g6.kept (fun i a b => by repeat (first | rfl | refine up_n (by omega) ?_)), g7.kept (fun i a b => by repeat (first | rfl | refine up_n (by omega) ?_)), ?_⟩
  · obtain ⟨K0, K1, K2, q0, q1, q2⟩ := g8
    exact ⟨K0, K1, L, (by repeat (first | assumption | exact up_s _ _ _ | refine up_n (by omega) ?_)), (by repeat (first | assumption | exact up_s _ _ _ | refine up_n (by omega) ?_)), (by repeat (first | assumption | exact up_s _ _ _ | refine up_n (by omega) ?_))⟩
theorem Cl.lamp {σ : ST} {μ : Hp} (h : Cl σ μ) (L : LT)  : Cl (toM σ L) (up μ 2 (ligL L)) := by
  obtain ⟨h0, g1, g2, g3, g4, g5, g6, g7, g8⟩ := h
  refine ⟨by repeat (first | exact h0 | refine up_n (by omega) ?_), ?_, g2.kept (fun i a b => by repeat (first | rfl | refine up_n (by omega) ?_)), g3.kept (fun i a b => by repeat (first | rfl | refine up_n (by omega) ?_)), g4.kept (fun i a b => by repeat (first | rfl | refine up_n (by omega) ?_)), g5.kept (fun i a b => by repeat (first | rfl | refine up_n (by omega) ?_)), g6.kept (fun i a b => by repeat (first | rfl | refine up_n (by omega) ?_)), g7.kept (fun i a b => by repeat (first | rfl | refine up_n (by omega) ?_)), g8.kept (fun i a b => by repeat (first | rfl | refine up_n (by omega) ?_))⟩
  · obtain ⟨p, h1, h2, h3, h4, h5, h6, h7, h8, h9, hp⟩ := g1
    exact ⟨p, (by repeat (first | assumption | exact up_s _ _ _ | refine up_n (by omega) ?_)), (by repeat (first | assumption | exact up_s _ _ _ | refine up_n (by omega) ?_)), (by repeat (first | assumption | exact up_s _ _ _ | refine up_n (by omega) ?_)), (by repeat (first | assumption | exact up_s _ _ _ | refine up_n (by omega) ?_)), (by repeat (first | assumption | exact up_s _ _ _ | refine up_n (by omega) ?_)), (by repeat (first | assumption | exact up_s _ _ _ | refine up_n (by omega) ?_)), (by repeat (first | assumption | exact up_s _ _ _ | refine up_n (by omega) ?_)), (by repeat (first | assumption | exact up_s _ _ _ | refine up_n (by omega) ?_)), (by repeat (first | assumption | exact up_s _ _ _ | refine up_n (by omega) ?_)), hp⟩
theorem Cl.pile {σ : ST} {μ : Hp} (h : Cl σ μ) {l : List Int32} {q : Nat → Int32} (hq : Pl l q) : Cl (toP σ l) (up (up μ 3 (arI 8 q)) 1 (benC 2 3 (nI l.length) 4 5 9)) := by
  obtain ⟨h0, g1, g2, g3, g4, g5, g6, g7, g8⟩ := h
  refine ⟨by repeat (first | exact h0 | refine up_n (by omega) ?_), ?_, g2.kept (fun i a b => by repeat (first | rfl | refine up_n (by omega) ?_)), g3.kept (fun i a b => by repeat (first | rfl | refine up_n (by omega) ?_)), g4.kept (fun i a b => by repeat (first | rfl | refine up_n (by omega) ?_)), g5.kept (fun i a b => by repeat (first | rfl | refine up_n (by omega) ?_)), g6.kept (fun i a b => by repeat (first | rfl | refine up_n (by omega) ?_)), g7.kept (fun i a b => by repeat (first | rfl | refine up_n (by omega) ?_)), g8.kept (fun i a b => by repeat (first | rfl | refine up_n (by omega) ?_))⟩
  · obtain ⟨p, h1, h2, h3, h4, h5, h6, h7, h8, h9, hp⟩ := g1
    exact ⟨q, (by repeat (first | assumption | exact up_s _ _ _ | refine up_n (by omega) ?_)), (by repeat (first | assumption | exact up_s _ _ _ | refine up_n (by omega) ?_)), (by repeat (first | assumption | exact up_s _ _ _ | refine up_n (by omega) ?_)), (by repeat (first | assumption | exact up_s _ _ _ | refine up_n (by omega) ?_)), (by repeat (first | assumption | exact up_s _ _ _ | refine up_n (by omega) ?_)), (by repeat (first | assumption | exact up_s _ _ _ | refine up_n (by omega) ?_)), (by repeat (first | assumption | exact up_s _ _ _ | refine up_n (by omega) ?_)), (by repeat (first | assumption | exact up_s _ _ _ | refine up_n (by omega) ?_)), (by repeat (first | assumption | exact up_s _ _ _ | refine up_n (by omega) ?_)), hq⟩
theorem Cl.pileS {σ : ST} {μ : Hp} (h : Cl σ μ) {l : List Int32} {q : Nat → Int32} (hq : Pl l q) (hl : l.length = (sP σ).length) : Cl (toP σ l) (up μ 3 (arI 8 q)) := by
  obtain ⟨h0, g1, g2, g3, g4, g5, g6, g7, g8⟩ := h
  refine ⟨by repeat (first | exact h0 | refine up_n (by omega) ?_), ?_, g2.kept (fun i a b => by repeat (first | rfl | refine up_n (by omega) ?_)), g3.kept (fun i a b => by repeat (first | rfl | refine up_n (by omega) ?_)), g4.kept (fun i a b => by repeat (first | rfl | refine up_n (by omega) ?_)), g5.kept (fun i a b => by repeat (first | rfl | refine up_n (by omega) ?_)), g6.kept (fun i a b => by repeat (first | rfl | refine up_n (by omega) ?_)), g7.kept (fun i a b => by repeat (first | rfl | refine up_n (by omega) ?_)), g8.kept (fun i a b => by repeat (first | rfl | refine up_n (by omega) ?_))⟩
  · obtain ⟨p, h1, h2, h3, h4, h5, h6, h7, h8, h9, hp⟩ := g1
    have h1b : μ 1 = some (benC 2 3 (nI l.length) 4 5 9) := by rw [hl]; exact h1
    exact ⟨q, (by repeat (first | assumption | exact up_s _ _ _ | refine up_n (by omega) ?_)), (by repeat (first | assumption | exact up_s _ _ _ | refine up_n (by omega) ?_)), (by repeat (first | assumption | exact up_s _ _ _ | refine up_n (by omega) ?_)), (by repeat (first | assumption | exact up_s _ _ _ | refine up_n (by omega) ?_)), (by repeat (first | assumption | exact up_s _ _ _ | refine up_n (by omega) ?_)), (by repeat (first | assumption | exact up_s _ _ _ | refine up_n (by omega) ?_)), (by repeat (first | assumption | exact up_s _ _ _ | refine up_n (by omega) ?_)), (by repeat (first | assumption | exact up_s _ _ _ | refine up_n (by omega) ?_)), (by repeat (first | assumption | exact up_s _ _ _ | refine up_n (by omega) ?_)), hq⟩
theorem Cl.clear {σ : ST} {μ : Hp} (h : Cl σ μ)   : Cl (toP σ []) (up μ 1 (benC 2 3 0 4 5 9)) := by
  obtain ⟨h0, g1, g2, g3, g4, g5, g6, g7, g8⟩ := h
  refine ⟨by repeat (first | exact h0 | refine up_n (by omega) ?_), ?_, g2.kept (fun i a b => by repeat (first | rfl | refine up_n (by omega) ?_)), g3.kept (fun i a b => by repeat (first | rfl | refine up_n (by omega) ?_)), g4.kept (fun i a b => by repeat (first | rfl | refine up_n (by omega) ?_)), g5.kept (fun i a b => by repeat (first | rfl | refine up_n (by omega) ?_)), g6.kept (fun i a b => by repeat (first | rfl | refine up_n (by omega) ?_)), g7.kept (fun i a b => by repeat (first | rfl | refine up_n (by omega) ?_)), g8.kept (fun i a b => by repeat (first | rfl | refine up_n (by omega) ?_))⟩
  · obtain ⟨p, h1, h2, h3, h4, h5, h6, h7, h8, h9, hp⟩ := g1
    exact ⟨p, up_s _ _ _, (by repeat (first | assumption | exact up_s _ _ _ | refine up_n (by omega) ?_)), (by repeat (first | assumption | exact up_s _ _ _ | refine up_n (by omega) ?_)), (by repeat (first | assumption | exact up_s _ _ _ | refine up_n (by omega) ?_)), (by repeat (first | assumption | exact up_s _ _ _ | refine up_n (by omega) ?_)), (by repeat (first | assumption | exact up_s _ _ _ | refine up_n (by omega) ?_)), (by repeat (first | assumption | exact up_s _ _ _ | refine up_n (by omega) ?_)), (by repeat (first | assumption | exact up_s _ _ _ | refine up_n (by omega) ?_)), (by repeat (first | assumption | exact up_s _ _ _ | refine up_n (by omega) ?_)), fun j hj => absurd hj (Nat.not_lt_zero j)⟩
theorem Cl.film {σ : ST} {μ : Hp} (h : Cl σ μ) (f : Nat → UInt32)  : Cl (toF σ f) (up μ 4 (arF 8 f)) := by
  obtain ⟨h0, g1, g2, g3, g4, g5, g6, g7, g8⟩ := h
  refine ⟨by repeat (first | exact h0 | refine up_n (by omega) ?_), ?_, g2.kept (fun i a b => by repeat (first | rfl | refine up_n (by omega) ?_)), g3.kept (fun i a b => by repeat (first | rfl | refine up_n (by omega) ?_)), g4.kept (fun i a b => by repeat (first | rfl | refine up_n (by omega) ?_)), g5.kept (fun i a b => by repeat (first | rfl | refine up_n (by omega) ?_)), g6.kept (fun i a b => by repeat (first | rfl | refine up_n (by omega) ?_)), g7.kept (fun i a b => by repeat (first | rfl | refine up_n (by omega) ?_)), g8.kept (fun i a b => by repeat (first | rfl | refine up_n (by omega) ?_))⟩
  · obtain ⟨p, h1, h2, h3, h4, h5, h6, h7, h8, h9, hp⟩ := g1
    exact ⟨p, (by repeat (first | assumption | exact up_s _ _ _ | refine up_n (by omega) ?_)), (by repeat (first | assumption | exact up_s _ _ _ | refine up_n (by omega) ?_)), (by repeat (first | assumption | exact up_s _ _ _ | refine up_n (by omega) ?_)), (by repeat (first | assumption | exact up_s _ _ _ | refine up_n (by omega) ?_)), (by repeat (first | assumption | exact up_s _ _ _ | refine up_n (by omega) ?_)), (by repeat (first | assumption | exact up_s _ _ _ | refine up_n (by omega) ?_)), (by repeat (first | assumption | exact up_s _ _ _ | refine up_n (by omega) ?_)), (by repeat (first | assumption | exact up_s _ _ _ | refine up_n (by omega) ?_)), (by repeat (first | assumption | exact up_s _ _ _ | refine up_n (by omega) ?_)), hp⟩
theorem Cl.takes {σ : ST} {μ : Hp} (h : Cl σ μ) (t : Nat → Int32)  : Cl (toK σ t) (up μ 9 (arI 3 t)) := by
  obtain ⟨h0, g1, g2, g3, g4, g5, g6, g7, g8⟩ := h
  refine ⟨by repeat (first | exact h0 | refine up_n (by omega) ?_), ?_, g2.kept (fun i a b => by repeat (first | rfl | refine up_n (by omega) ?_)), g3.kept (fun i a b => by repeat (first | rfl | refine up_n (by omega) ?_)), g4.kept (fun i a b => by repeat (first | rfl | refine up_n (by omega) ?_)), g5.kept (fun i a b => by repeat (first | rfl | refine up_n (by omega) ?_)), g6.kept (fun i a b => by repeat (first | rfl | refine up_n (by omega) ?_)), g7.kept (fun i a b => by repeat (first | rfl | refine up_n (by omega) ?_)), g8.kept (fun i a b => by repeat (first | rfl | refine up_n (by omega) ?_))⟩
  · obtain ⟨p, h1, h2, h3, h4, h5, h6, h7, h8, h9, hp⟩ := g1
    exact ⟨p, (by repeat (first | assumption | exact up_s _ _ _ | refine up_n (by omega) ?_)), (by repeat (first | assumption | exact up_s _ _ _ | refine up_n (by omega) ?_)), (by repeat (first | assumption | exact up_s _ _ _ | refine up_n (by omega) ?_)), (by repeat (first | assumption | exact up_s _ _ _ | refine up_n (by omega) ?_)), (by repeat (first | assumption | exact up_s _ _ _ | refine up_n (by omega) ?_)), (by repeat (first | assumption | exact up_s _ _ _ | refine up_n (by omega) ?_)), (by repeat (first | assumption | exact up_s _ _ _ | refine up_n (by omega) ?_)), (by repeat (first | assumption | exact up_s _ _ _ | refine up_n (by omega) ?_)), (by repeat (first | assumption | exact up_s _ _ _ | refine up_n (by omega) ?_)), hp⟩
theorem Cl.rack0 {σ : ST} {μ : Hp} (h : Cl σ μ) (f : Nat → Int32)  : Cl (toR σ (rowU (sR σ) 0 f)) (up μ 6 (arI 4 f)) := by
  obtain ⟨h0, g1, g2, g3, g4, g5, g6, g7, g8⟩ := h
  refine ⟨by repeat (first | exact h0 | refine up_n (by omega) ?_), ?_, g2.kept (fun i a b => by repeat (first | rfl | refine up_n (by omega) ?_)), g3.kept (fun i a b => by repeat (first | rfl | refine up_n (by omega) ?_)), g4.kept (fun i a b => by repeat (first | rfl | refine up_n (by omega) ?_)), g5.kept (fun i a b => by repeat (first | rfl | refine up_n (by omega) ?_)), g6.kept (fun i a b => by repeat (first | rfl | refine up_n (by omega) ?_)), g7.kept (fun i a b => by repeat (first | rfl | refine up_n (by omega) ?_)), g8.kept (fun i a b => by repeat (first | rfl | refine up_n (by omega) ?_))⟩
  · obtain ⟨p, h1, h2, h3, h4, h5, h6, h7, h8, h9, hp⟩ := g1
    exact ⟨p, (by repeat (first | assumption | exact up_s _ _ _ | refine up_n (by omega) ?_)), (by repeat (first | assumption | exact up_s _ _ _ | refine up_n (by omega) ?_)), (by repeat (first | assumption | exact up_s _ _ _ | refine up_n (by omega) ?_)), (by repeat (first | assumption | exact up_s _ _ _ | refine up_n (by omega) ?_)), (by repeat (first | assumption | exact up_s _ _ _ | refine up_n (by omega) ?_)), (by repeat (first | assumption | exact up_s _ _ _ | refine up_n (by omega) ?_)), (by repeat (first | assumption | exact up_s _ _ _ | refine up_n (by omega) ?_)), (by repeat (first | assumption | exact up_s _ _ _ | refine up_n (by omega) ?_)), (by repeat (first | assumption | exact up_s _ _ _ | refine up_n (by omega) ?_)), hp⟩
theorem Cl.rack1 {σ : ST} {μ : Hp} (h : Cl σ μ) (f : Nat → Int32)  : Cl (toR σ (rowU (sR σ) 1 f)) (up μ 7 (arI 4 f)) := by
  obtain ⟨h0, g1, g2, g3, g4, g5, g6, g7, g8⟩ := h
  refine ⟨by repeat (first | exact h0 | refine up_n (by omega) ?_), ?_, g2.kept (fun i a b => by repeat (first | rfl | refine up_n (by omega) ?_)), g3.kept (fun i a b => by repeat (first | rfl | refine up_n (by omega) ?_)), g4.kept (fun i a b => by repeat (first | rfl | refine up_n (by omega) ?_)), g5.kept (fun i a b => by repeat (first | rfl | refine up_n (by omega) ?_)), g6.kept (fun i a b => by repeat (first | rfl | refine up_n (by omega) ?_)), g7.kept (fun i a b => by repeat (first | rfl | refine up_n (by omega) ?_)), g8.kept (fun i a b => by repeat (first | rfl | refine up_n (by omega) ?_))⟩
  · obtain ⟨p, h1, h2, h3, h4, h5, h6, h7, h8, h9, hp⟩ := g1
    exact ⟨p, (by repeat (first | assumption | exact up_s _ _ _ | refine up_n (by omega) ?_)), (by repeat (first | assumption | exact up_s _ _ _ | refine up_n (by omega) ?_)), (by repeat (first | assumption | exact up_s _ _ _ | refine up_n (by omega) ?_)), (by repeat (first | assumption | exact up_s _ _ _ | refine up_n (by omega) ?_)), (by repeat (first | assumption | exact up_s _ _ _ | refine up_n (by omega) ?_)), (by repeat (first | assumption | exact up_s _ _ _ | refine up_n (by omega) ?_)), (by repeat (first | assumption | exact up_s _ _ _ | refine up_n (by omega) ?_)), (by repeat (first | assumption | exact up_s _ _ _ | refine up_n (by omega) ?_)), (by repeat (first | assumption | exact up_s _ _ _ | refine up_n (by omega) ?_)), hp⟩
theorem Cl.rack2 {σ : ST} {μ : Hp} (h : Cl σ μ) (f : Nat → Int32)  : Cl (toR σ (rowU (sR σ) 2 f)) (up μ 8 (arI 4 f)) := by
  obtain ⟨h0, g1, g2, g3, g4, g5, g6, g7, g8⟩ := h
  refine ⟨by repeat (first | exact h0 | refine up_n (by omega) ?_), ?_, g2.kept (fun i a b => by repeat (first | rfl | refine up_n (by omega) ?_)), g3.kept (fun i a b => by repeat (first | rfl | refine up_n (by omega) ?_)), g4.kept (fun i a b => by repeat (first | rfl | refine up_n (by omega) ?_)), g5.kept (fun i a b => by repeat (first | rfl | refine up_n (by omega) ?_)), g6.kept (fun i a b => by repeat (first | rfl | refine up_n (by omega) ?_)), g7.kept (fun i a b => by repeat (first | rfl | refine up_n (by omega) ?_)), g8.kept (fun i a b => by repeat (first | rfl | refine up_n (by omega) ?_))⟩
  · obtain ⟨p, h1, h2, h3, h4, h5, h6, h7, h8, h9, hp⟩ := g1
    exact ⟨p, (by repeat (first | assumption | exact up_s _ _ _ | refine up_n (by omega) ?_)), (by repeat (first | assumption | exact up_s _ _ _ | refine up_n (by omega) ?_)), (by repeat (first | assumption | exact up_s _ _ _ | refine up_n (by omega) ?_)), (by repeat (first | assumption | exact up_s _ _ _ | refine up_n (by omega) ?_)), (by repeat (first | assumption | exact up_s _ _ _ | refine up_n (by omega) ?_)), (by repeat (first | assumption | exact up_s _ _ _ | refine up_n (by omega) ?_)), (by repeat (first | assumption | exact up_s _ _ _ | refine up_n (by omega) ?_)), (by repeat (first | assumption | exact up_s _ _ _ | refine up_n (by omega) ?_)), (by repeat (first | assumption | exact up_s _ _ _ | refine up_n (by omega) ?_)), hp⟩
theorem Cl.rack {σ : ST} {μ : Hp} (h : Cl σ μ) {r : Nat} (hr : r < 3) (f : Nat → Int32) : Cl (toR σ (rowU (sR σ) r f)) (up μ (6 + r) (arI 4 f)) := by
  match r, hr with
  | 0, _ => exact h.rack0 f
  | 1, _ => exact h.rack1 f
  | 2, _ => exact h.rack2 f
theorem Cl.list0 {σ : ST} {μ : Hp} (h : Cl σ μ) (f : Nat → Int64)  : Cl (toL σ (rowU (sL σ) 0 f)) (up μ 21 (arJ 12 f)) := by
  obtain ⟨h0, g1, g2, g3, g4, g5, g6, g7, g8⟩ := h
  refine ⟨by repeat (first | exact h0 | refine up_n (by omega) ?_), g1.kept (fun i a b => by repeat (first | rfl | refine up_n (by omega) ?_)), g2.kept (fun i a b => by repeat (first | rfl | refine up_n (by omega) ?_)), ?_, g4.kept (fun i a b => by repeat (first | rfl | refine up_n (by omega) ?_)), g5.kept (fun i a b => by repeat (first | rfl | refine up_n (by omega) ?_)), g6.kept (fun i a b => by repeat (first | rfl | refine up_n (by omega) ?_)), g7.kept (fun i a b => by repeat (first | rfl | refine up_n (by omega) ?_)), g8.kept (fun i a b => by repeat (first | rfl | refine up_n (by omega) ?_))⟩
  · obtain ⟨h20, h21, h22, h23, h24⟩ := g3
    exact ⟨(by repeat (first | assumption | exact up_s _ _ _ | refine up_n (by omega) ?_)), (by repeat (first | assumption | exact up_s _ _ _ | refine up_n (by omega) ?_)), (by repeat (first | assumption | exact up_s _ _ _ | refine up_n (by omega) ?_)), (by repeat (first | assumption | exact up_s _ _ _ | refine up_n (by omega) ?_)), (by repeat (first | assumption | exact up_s _ _ _ | refine up_n (by omega) ?_))⟩
theorem Cl.list1 {σ : ST} {μ : Hp} (h : Cl σ μ) (f : Nat → Int64)  : Cl (toL σ (rowU (sL σ) 1 f)) (up μ 22 (arJ 12 f)) := by
  obtain ⟨h0, g1, g2, g3, g4, g5, g6, g7, g8⟩ := h
  refine ⟨by repeat (first | exact h0 | refine up_n (by omega) ?_), g1.kept (fun i a b => by repeat (first | rfl | refine up_n (by omega) ?_)), g2.kept (fun i a b => by repeat (first | rfl | refine up_n (by omega) ?_)), ?_, g4.kept (fun i a b => by repeat (first | rfl | refine up_n (by omega) ?_)), g5.kept (fun i a b => by repeat (first | rfl | refine up_n (by omega) ?_)), g6.kept (fun i a b => by repeat (first | rfl | refine up_n (by omega) ?_)), g7.kept (fun i a b => by repeat (first | rfl | refine up_n (by omega) ?_)), g8.kept (fun i a b => by repeat (first | rfl | refine up_n (by omega) ?_))⟩
  · obtain ⟨h20, h21, h22, h23, h24⟩ := g3
    exact ⟨(by repeat (first | assumption | exact up_s _ _ _ | refine up_n (by omega) ?_)), (by repeat (first | assumption | exact up_s _ _ _ | refine up_n (by omega) ?_)), (by repeat (first | assumption | exact up_s _ _ _ | refine up_n (by omega) ?_)), (by repeat (first | assumption | exact up_s _ _ _ | refine up_n (by omega) ?_)), (by repeat (first | assumption | exact up_s _ _ _ | refine up_n (by omega) ?_))⟩
theorem Cl.list2 {σ : ST} {μ : Hp} (h : Cl σ μ) (f : Nat → Int64)  : Cl (toL σ (rowU (sL σ) 2 f)) (up μ 23 (arJ 12 f)) := by
  obtain ⟨h0, g1, g2, g3, g4, g5, g6, g7, g8⟩ := h
  refine ⟨by repeat (first | exact h0 | refine up_n (by omega) ?_), g1.kept (fun i a b => by repeat (first | rfl | refine up_n (by omega) ?_)), g2.kept (fun i a b => by repeat (first | rfl | refine up_n (by omega) ?_)), ?_, g4.kept (fun i a b => by repeat (first | rfl | refine up_n (by omega) ?_)), g5.kept (fun i a b => by repeat (first | rfl | refine up_n (by omega) ?_)), g6.kept (fun i a b => by repeat (first | rfl | refine up_n (by omega) ?_)), g7.kept (fun i a b => by repeat (first | rfl | refine up_n (by omega) ?_)), g8.kept (fun i a b => by repeat (first | rfl | refine up_n (by omega) ?_))⟩
  · obtain ⟨h20, h21, h22, h23, h24⟩ := g3
    exact ⟨(by repeat (first | assumption | exact up_s _ _ _ | refine up_n (by omega) ?_)), (by repeat (first | assumption | exact up_s _ _ _ | refine up_n (by omega) ?_)), (by repeat (first | assumption | exact up_s _ _ _ | refine up_n (by omega) ?_)), (by repeat (first | assumption | exact up_s _ _ _ | refine up_n (by omega) ?_)), (by repeat (first | assumption | exact up_s _ _ _ | refine up_n (by omega) ?_))⟩
theorem Cl.list {σ : ST} {μ : Hp} (h : Cl σ μ) {r : Nat} (hr : r < 3) (f : Nat → Int64) : Cl (toL σ (rowU (sL σ) r f)) (up μ (21 + r) (arJ 12 f)) := by
  match r, hr with
  | 0, _ => exact h.list0 f
  | 1, _ => exact h.list1 f
  | 2, _ => exact h.list2 f
theorem Cl.size {σ : ST} {μ : Hp} (h : Cl σ μ) (z : Nat → Int32)  : Cl (toZ σ z) (up μ 24 (arI 3 (llF z))) := by
  obtain ⟨h0, g1, g2, g3, g4, g5, g6, g7, g8⟩ := h
  refine ⟨by repeat (first | exact h0 | refine up_n (by omega) ?_), g1.kept (fun i a b => by repeat (first | rfl | refine up_n (by omega) ?_)), g2.kept (fun i a b => by repeat (first | rfl | refine up_n (by omega) ?_)), ?_, g4.kept (fun i a b => by repeat (first | rfl | refine up_n (by omega) ?_)), g5.kept (fun i a b => by repeat (first | rfl | refine up_n (by omega) ?_)), g6.kept (fun i a b => by repeat (first | rfl | refine up_n (by omega) ?_)), g7.kept (fun i a b => by repeat (first | rfl | refine up_n (by omega) ?_)), g8.kept (fun i a b => by repeat (first | rfl | refine up_n (by omega) ?_))⟩
  · obtain ⟨h20, h21, h22, h23, h24⟩ := g3
    exact ⟨(by repeat (first | assumption | exact up_s _ _ _ | refine up_n (by omega) ?_)), (by repeat (first | assumption | exact up_s _ _ _ | refine up_n (by omega) ?_)), (by repeat (first | assumption | exact up_s _ _ _ | refine up_n (by omega) ?_)), (by repeat (first | assumption | exact up_s _ _ _ | refine up_n (by omega) ?_)), (by repeat (first | assumption | exact up_s _ _ _ | refine up_n (by omega) ?_))⟩
theorem Cl.feed {σ : ST} {μ : Hp} (h : Cl σ μ) {tp : List Int32} {t : Nat → Int32} {k p f : Int32} (ht : Pl tp t) (hl : tp.length ≤ 60) : Cl (toT σ tp) (up (up μ 26 (arI 60 t)) 25 (redC (nI tp.length) k p f)) := by
  obtain ⟨h0, g1, g2, g3, g4, g5, g6, g7, g8⟩ := h
  refine ⟨by repeat (first | exact h0 | refine up_n (by omega) ?_), g1.kept (fun i a b => by repeat (first | rfl | refine up_n (by omega) ?_)), g2.kept (fun i a b => by repeat (first | rfl | refine up_n (by omega) ?_)), g3.kept (fun i a b => by repeat (first | rfl | refine up_n (by omega) ?_)), ?_, g5.kept (fun i a b => by repeat (first | rfl | refine up_n (by omega) ?_)), g6.kept (fun i a b => by repeat (first | rfl | refine up_n (by omega) ?_)), g7.kept (fun i a b => by repeat (first | rfl | refine up_n (by omega) ?_)), g8.kept (fun i a b => by repeat (first | rfl | refine up_n (by omega) ?_))⟩
  · obtain ⟨t0, ops, cd, k0, p0, f0, h25, h26, h27, h28, hp, h60⟩ := g4
    exact ⟨t, ops, cd, k, p, f, (by repeat (first | assumption | exact up_s _ _ _ | refine up_n (by omega) ?_)), (by repeat (first | assumption | exact up_s _ _ _ | refine up_n (by omega) ?_)), (by repeat (first | assumption | exact up_s _ _ _ | refine up_n (by omega) ?_)), (by repeat (first | assumption | exact up_s _ _ _ | refine up_n (by omega) ?_)), ht, hl⟩
theorem Cl.wipe {σ : ST} {μ : Hp} (h : Cl σ μ) {k p f : Int32}  : Cl (toT σ []) (up μ 25 (redC 0 k p f)) := by
  obtain ⟨h0, g1, g2, g3, g4, g5, g6, g7, g8⟩ := h
  refine ⟨by repeat (first | exact h0 | refine up_n (by omega) ?_), g1.kept (fun i a b => by repeat (first | rfl | refine up_n (by omega) ?_)), g2.kept (fun i a b => by repeat (first | rfl | refine up_n (by omega) ?_)), g3.kept (fun i a b => by repeat (first | rfl | refine up_n (by omega) ?_)), ?_, g5.kept (fun i a b => by repeat (first | rfl | refine up_n (by omega) ?_)), g6.kept (fun i a b => by repeat (first | rfl | refine up_n (by omega) ?_)), g7.kept (fun i a b => by repeat (first | rfl | refine up_n (by omega) ?_)), g8.kept (fun i a b => by repeat (first | rfl | refine up_n (by omega) ?_))⟩
  · obtain ⟨t0, ops, cd, k0, p0, f0, h25, h26, h27, h28, hp, h60⟩ := g4
    exact ⟨t0, ops, cd, k, p, f, up_s _ _ _, (by repeat (first | assumption | exact up_s _ _ _ | refine up_n (by omega) ?_)), (by repeat (first | assumption | exact up_s _ _ _ | refine up_n (by omega) ?_)), (by repeat (first | assumption | exact up_s _ _ _ | refine up_n (by omega) ?_)), fun j hj => absurd hj (Nat.not_lt_zero j), Nat.zero_le _⟩
theorem Cl.forget {σ : ST} {μ : Hp} (h : Cl σ μ)   : Cl (toW σ (0, (sW σ).2)) (up μ 29 (troC 0)) := by
  obtain ⟨h0, g1, g2, g3, g4, g5, g6, g7, g8⟩ := h
  refine ⟨by repeat (first | exact h0 | refine up_n (by omega) ?_), g1.kept (fun i a b => by repeat (first | rfl | refine up_n (by omega) ?_)), g2.kept (fun i a b => by repeat (first | rfl | refine up_n (by omega) ?_)), g3.kept (fun i a b => by repeat (first | rfl | refine up_n (by omega) ?_)), g4.kept (fun i a b => by repeat (first | rfl | refine up_n (by omega) ?_)), ?_, g6.kept (fun i a b => by repeat (first | rfl | refine up_n (by omega) ?_)), g7.kept (fun i a b => by repeat (first | rfl | refine up_n (by omega) ?_)), g8.kept (fun i a b => by repeat (first | rfl | refine up_n (by omega) ?_))⟩
  · obtain ⟨h29, h30, h31⟩ := g5
    exact ⟨up_s _ _ _, (by repeat (first | assumption | exact up_s _ _ _ | refine up_n (by omega) ?_)), (by repeat (first | assumption | exact up_s _ _ _ | refine up_n (by omega) ?_))⟩
theorem Cl.note {σ : ST} {μ : Hp} (h : Cl σ μ) (k : Nat) (f g : Nat → Int32)  : Cl (toW σ (k, f, g)) (up (up (up μ 30 (arI 4 f)) 31 (arI 4 g)) 29 (troC (nI k))) := by
  obtain ⟨h0, g1, g2, g3, g4, g5, g6, g7, g8⟩ := h
  refine ⟨by repeat (first | exact h0 | refine up_n (by omega) ?_), g1.kept (fun i a b => by repeat (first | rfl | refine up_n (by omega) ?_)), g2.kept (fun i a b => by repeat (first | rfl | refine up_n (by omega) ?_)), g3.kept (fun i a b => by repeat (first | rfl | refine up_n (by omega) ?_)), g4.kept (fun i a b => by repeat (first | rfl | refine up_n (by omega) ?_)), ?_, g6.kept (fun i a b => by repeat (first | rfl | refine up_n (by omega) ?_)), g7.kept (fun i a b => by repeat (first | rfl | refine up_n (by omega) ?_)), g8.kept (fun i a b => by repeat (first | rfl | refine up_n (by omega) ?_))⟩
  · obtain ⟨h29, h30, h31⟩ := g5
    exact ⟨up_s _ _ _, (by repeat (first | assumption | exact up_s _ _ _ | refine up_n (by omega) ?_)), (by repeat (first | assumption | exact up_s _ _ _ | refine up_n (by omega) ?_))⟩
/-- what changes only the orders' cells (or others that are no cells of the state) -/
theorem Cl.scratch {σ : ST} {μ μ2 : Hp} (h : Cl σ μ) (hf : ∀ i, i < 32 ∨ 44 < i → μ2 i = μ i) (ho : Ox μ2) : Cl σ μ2 := by
  obtain ⟨h0, g1, g2, g3, g4, g5, g6, g7, g8⟩ := h
  exact ⟨(hf _ (by omega)).trans h0, g1.kept (fun i a b => hf i (by omega)), g2.kept (fun i a b => hf i (by omega)), g3.kept (fun i a b => hf i (by omega)), g4.kept (fun i a b => hf i (by omega)), g5.kept (fun i a b => hf i (by omega)), ho, g7.kept (fun i a b => hf i (by omega)), g8.kept (fun i a b => hf i (by omega))⟩
/-- only the reader's cells have changed -/
theorem Cl.read {σ : ST} {μ μ2 : Hp} (h : Cl σ μ) {tp : List Int32} (hf : ∀ i, i < 25 ∨ 28 < i → μ2 i = μ i) (ho : Tx tp μ2) : Cl (toT σ tp) μ2 := by
  obtain ⟨h0, g1, g2, g3, g4, g5, g6, g7, g8⟩ := h
  exact ⟨(hf _ (by omega)).trans h0, g1.kept (fun i a b => hf i (by omega)), g2.kept (fun i a b => hf i (by omega)), g3.kept (fun i a b => hf i (by omega)), ho, g5.kept (fun i a b => hf i (by omega)), g6.kept (fun i a b => hf i (by omega)), g7.kept (fun i a b => hf i (by omega)), g8.kept (fun i a b => hf i (by omega))⟩
theorem Cl.spell {σ : ST} {μ μ2 : Hp} (h : Cl σ μ) (hf : ∀ i, i < 45 ∨ 48 < i → μ2 i = μ i) (ho : Sx μ2) : Cl σ μ2 := by
  obtain ⟨h0, g1, g2, g3, g4, g5, g6, g7, g8⟩ := h
  exact ⟨(hf _ (by omega)).trans h0, g1.kept (fun i a b => hf i (by omega)), g2.kept (fun i a b => hf i (by omega)), g3.kept (fun i a b => hf i (by omega)), g4.kept (fun i a b => hf i (by omega)), g5.kept (fun i a b => hf i (by omega)), g6.kept (fun i a b => hf i (by omega)), ho, g8.kept (fun i a b => hf i (by omega))⟩
theorem Cl.image {σ : ST} {μ : Hp} (h : Cl σ μ) {b : BN} {p : Nat → Int32} (hp : Pl b.2.1 p) : Cl (toI σ (some b)) (up (up (up (up (up (up (up (up (up μ 12 (ligL b.1)) 11 (benC 12 13 (nI b.2.1.length) 14 15 19)) 13 (arI 8 p)) 14 (arF 8 b.2.2.1)) 19 (arI 3 b.2.2.2.2)) 16 (arI 4 (b.2.2.2.1 0))) 17 (arI 4 (b.2.2.2.1 1))) 18 (arI 4 (b.2.2.2.1 2))) 0 (filC 1)) := by
  obtain ⟨h0, g1, g2, g3, g4, g5, g6, g7, g8⟩ := h
  refine ⟨?_, g1.kept (fun i a b => by repeat (first | rfl | refine up_n (by omega) ?_)), ?_, g3.kept (fun i a b => by repeat (first | rfl | refine up_n (by omega) ?_)), g4.kept (fun i a b => by repeat (first | rfl | refine up_n (by omega) ?_)), g5.kept (fun i a b => by repeat (first | rfl | refine up_n (by omega) ?_)), g6.kept (fun i a b => by repeat (first | rfl | refine up_n (by omega) ?_)), g7.kept (fun i a b => by repeat (first | rfl | refine up_n (by omega) ?_)), g8.kept (fun i a b => by repeat (first | rfl | refine up_n (by omega) ?_))⟩
  · exact up_s _ _ _
  · obtain ⟨b0, -, p0, h11, h12, h13, h14, h15, h16, h17, h18, h19, -⟩ := g2
    exact ⟨b, fun k e => Option.some.inj e, p, (by repeat (first | assumption | exact up_s _ _ _ | refine up_n (by omega) ?_)), (by repeat (first | assumption | exact up_s _ _ _ | refine up_n (by omega) ?_)), (by repeat (first | assumption | exact up_s _ _ _ | refine up_n (by omega) ?_)), (by repeat (first | assumption | exact up_s _ _ _ | refine up_n (by omega) ?_)), (by repeat (first | assumption | exact up_s _ _ _ | refine up_n (by omega) ?_)), (by repeat (first | assumption | exact up_s _ _ _ | refine up_n (by omega) ?_)), (by repeat (first | assumption | exact up_s _ _ _ | refine up_n (by omega) ?_)), (by repeat (first | assumption | exact up_s _ _ _ | refine up_n (by omega) ?_)), (by repeat (first | assumption | exact up_s _ _ _ | refine up_n (by omega) ?_)), hp⟩
theorem Cl.undo {σ : ST} {μ : Hp} (h : Cl σ μ) {b : BN} {p : Nat → Int32} (hp : Pl b.2.1 p) : Cl (toB σ b) (up (up (up (up (up (up (up (up μ 2 (ligL b.1)) 1 (benC 2 3 (nI b.2.1.length) 4 5 9)) 3 (arI 8 p)) 4 (arF 8 b.2.2.1)) 9 (arI 3 b.2.2.2.2)) 6 (arI 4 (b.2.2.2.1 0))) 7 (arI 4 (b.2.2.2.1 1))) 8 (arI 4 (b.2.2.2.1 2))) := by
  obtain ⟨h0, g1, g2, g3, g4, g5, g6, g7, g8⟩ := h
  refine ⟨by repeat (first | exact h0 | refine up_n (by omega) ?_), ?_, g2.kept (fun i a b => by repeat (first | rfl | refine up_n (by omega) ?_)), g3.kept (fun i a b => by repeat (first | rfl | refine up_n (by omega) ?_)), g4.kept (fun i a b => by repeat (first | rfl | refine up_n (by omega) ?_)), g5.kept (fun i a b => by repeat (first | rfl | refine up_n (by omega) ?_)), g6.kept (fun i a b => by repeat (first | rfl | refine up_n (by omega) ?_)), g7.kept (fun i a b => by repeat (first | rfl | refine up_n (by omega) ?_)), g8.kept (fun i a b => by repeat (first | rfl | refine up_n (by omega) ?_))⟩
  · obtain ⟨p0, h1, h2, h3, h4, h5, h6, h7, h8, h9, -⟩ := g1
    exact ⟨p, (by repeat (first | assumption | exact up_s _ _ _ | refine up_n (by omega) ?_)), (by repeat (first | assumption | exact up_s _ _ _ | refine up_n (by omega) ?_)), (by repeat (first | assumption | exact up_s _ _ _ | refine up_n (by omega) ?_)), (by repeat (first | assumption | exact up_s _ _ _ | refine up_n (by omega) ?_)), (by repeat (first | assumption | exact up_s _ _ _ | refine up_n (by omega) ?_)), (by repeat (first | assumption | exact up_s _ _ _ | refine up_n (by omega) ?_)), (by repeat (first | assumption | exact up_s _ _ _ | refine up_n (by omega) ?_)), (by repeat (first | assumption | exact up_s _ _ _ | refine up_n (by omega) ?_)), (by repeat (first | assumption | exact up_s _ _ _ | refine up_n (by omega) ?_)), hp⟩
