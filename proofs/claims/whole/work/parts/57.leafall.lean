theorem bit_shr : ∀ u, u < 32 → ∀ j, j < 5 → ((nI u >>> (nI j &&& 31)) &&& 1 = 0 ↔ u.testBit j = false) := by decide +kernel
def Oq (m le at9 fa op tr sg hm hi : Int32) (co wh : Int64) (c : OC) (μ : Hp) : Prop := ∃ (lr mr hr : Int32) (s : Nat → Int64) (t : Nat → Int32) (x7 x8 nw : Nat → Int64), μ 60 = some (modC m co wh (nI c.1.length) lr mr hr le at9 fa op tr sg hm hi) ∧ μ 63 = some (arJ 5 nw) ∧ μ 65 = some (arJ 600 s) ∧ μ 66 = some (arI 120 t) ∧ μ 67 = some (arJ 5 x7) ∧ μ 68 = some (arJ 5 x8) ∧ Sn c.1 s t ∧ ((c.1 = [] ∧ hr = 0) ∨ (¬ c.1 = [] ∧ hr = 1 ∧ lr = c.2.1.2 ∧ mr = c.2.2.2 ∧ x7 = lvO c.2.1.1 ∧ x8 = lvO c.2.2.1 ∧ Eb 1000 c.2.1.1 ∧ Eb 1000 c.2.2.1))
theorem remO_ne (L : LT) (ls : List (LT × Nat)) : ¬ remO L ls = [] := by
  cases ls with
  | nil => simp [remO]
  | cons x r => unfold remO; split <;> simp
theorem gor_base {G : Cx} (d : Nat) {μ : Hp} {l : List Int32} {p ro : Nat → Int32} {L0 : LT} {ρ : List Nat} {a9 u9 : Int32} {c : OC} {le at9 fa op tr sg hm hi : Int32} {co wh : Int64} (hq : Oq (nI l.length) le at9 fa op tr sg hm hi co wh c μ) (hlen : c.1.length < 120) (h61 : μ 61 = some (mlg L0)) (h62 : μ 62 = some (arI 8 p)) (h64 : μ 64 = some (arI 5 ro)) (hpl : Pl l p) (hw : Wp l) (h5 : l.length ≤ 5) (hl9 : ρ.length = l.length) (hro : ∀ k, k < ρ.length → ro k = nI (ρ.getD k 0) ∧ ρ.getD k 0 < l.length) (he : Eb 20 L0) :
    V G M_X7_goesOrders (d + 4) 0 0 (fun r μ' => r = none ∧ Oq (nI l.length) le at9 fa op tr sg hm hi co wh (meetO c (rowL l ρ L0, rowD ρ 0)) μ' ∧ ∀ i, i < 60 ∨ i = 61 ∨ i = 62 ∨ i = 64 ∨ 68 < i → μ' i = μ i) 52 [(0, .ref 60), (1, .int a9), (2, .int u9)] [] μ := by
  obtain ⟨lr, mr, hr, s, t, x7, x8, nw, h60, h63, h65, h66, h67, h68, hs, hc⟩ := hq
  obtain ⟨ls, A, B⟩ := c
  refine gor_go d h60 h61 h62 h63 h64 hpl hw h5 hl9 hro he ?_
  have hE := rowL_e l ρ L0 20 he (by omega)
  have hE : Eb 1000 (rowL l ρ L0) := ⟨hE.1, by have := hE.2; omega⟩
  generalize rowL l ρ L0 = L at hE ⊢
  generalize rowD ρ 0 = dg
  rcases hc with ⟨e1, e2⟩ | ⟨e1, e2, e3, e4, e5, e6, e7, e8⟩
  · have e1 : ls = [] := e1
    subst e1 e2
    refine v_post (gor_leaf0 d (A := A) (B := B) (up_n (by decide) h60) (up_s _ _ _) (up_n (by decide) h65) (up_n (by decide) h66) (up_n (by decide) h67) (up_n (by decide) h68)) ?_
    rintro r μ' ⟨q1, q2, ⟨s', t', q3, q4, q5⟩, q6, q7, q8⟩
    refine ⟨q1, ⟨_, _, _, s', t', _, _, _, q2, (q8 63 (by omega)).trans (up_s _ _ _), q3, q4, q6, q7, q5, Or.inr ⟨?_, rfl, rfl, rfl, rfl, rfl, ?_, ?_⟩⟩, fun i hi => (q8 i (by omega)).trans (up_n (by omega) rfl)⟩
    · rw [meet_0]; simp
    · rw [meet_0]; exact hE
    · rw [meet_0]; exact hE
  · have e1 : ¬ ls = [] := e1
    subst e2 e3 e4 e5 e6
    have hlen : ls.length < 120 := hlen
    have hne : ¬ nI ls.length = 0 := fun z => e1 (List.length_eq_zero_iff.mp ((nI_eq (b := 0) (by omega) (by decide)).mp z))
    refine v_post (gor_leaf1 d (A := A) (B := B) (up_n (by decide) h60) (up_s _ _ _) (up_n (by decide) h65) (up_n (by decide) h66) (up_n (by decide) h67) (up_n (by decide) h68) hs hlen hne hE e7 e8) ?_
    rintro r μ' ⟨q1, q2, ⟨s', t', q3, q4, q5⟩, q6, q7, q8⟩
    refine ⟨q1, ⟨_, _, _, s', t', _, _, _, q2, (q8 63 (by omega)).trans (up_s _ _ _), q3, q4, q6, q7, q5, Or.inr ⟨remO_ne _ _, rfl, rfl, rfl, rfl, rfl, ?_, ?_⟩⟩, fun i hi => (q8 i (by omega)).trans (up_n (by omega) rfl)⟩
    · show Eb 1000 (if nI ls.length = 0 then (L, dg) else if cmpI L A.1 < 0 then (L, dg) else A).1
      rw [if_neg hne]
      split
      · exact hE
      · exact e7
    · show Eb 1000 (if nI ls.length = 0 then (L, dg) else if 0 < cmpI L B.1 then (L, dg) else B).1
      rw [if_neg hne]
      split
      · exact hE
      · exact e8
