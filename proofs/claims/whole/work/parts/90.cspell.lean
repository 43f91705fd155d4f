theorem fil_len {c : Int32} (hc : Vc c) : (filS c).length ≤ 5 := by
  obtain ⟨a9, ha4, han⟩ := hc.an
  have hna : (numS (anO c).toNatClampNeg).length = 1 := by rw [han, clamp (by omega)]; exact num_len1 (by omega)
  have hnf := num_len (fgO c).toNatClampNeg
  unfold filS
  simp only [List.length_append, List.length_singleton]
  split <;> split <;> simp only [List.length_nil, List.length_singleton] <;> omega
theorem spell_nx {l : List Int32} {j : Nat} (hj : j < l.length) : spell (l.take (j + 1)) = if j = 0 then spell (l.take j) ++ filS (l.getD j 0) else spell (l.take j) ++ [59] ++ filS (l.getD j 0) := by
  rw [take_app hj]
  by_cases h : j = 0
  · subst h
    rw [if_pos rfl, List.take_zero, List.nil_append, spell_1]
    rfl
  · rw [if_neg h, spell_s (fun z => by have := congrArg List.length z; rw [List.length_take, List.length_nil] at this; omega), List.append_assoc]
    rfl
theorem pile_at {l : List Int32} {p : Nat → Int32} (h : Pl l p) {j : Nat} (hj : j < l.length) (h2 : j < 2 ^ 31) : p (nI j).toNatClampNeg = l.getD j 0 := by
  rw [clamp h2]
  exact (getD_at h hj).symm
set_option maxRecDepth 20000 in
set_option maxHeartbeats 4000000 in
theorem spc_loop {G : Cx} (d : Nat) {σ : ST} {p : Nat → Int32} {hi : Int32} {μ0 : Hp} (hw : Wp (sP σ)) (hpl : Pl (sP σ) p) : ∀ (k9 : Nat) (j : Nat) (μ : Hp), j + k9 = (sP σ).length → Sc (spell ((sP σ).take j)).length (spell ((sP σ).take j)) μ → (spell ((sP σ).take j)).length ≤ 6 * j → μ 0 = some (filC hi) → μ 1 = some (benC 2 3 (nI (sP σ).length) 4 5 9) → μ 3 = some (arI 8 p) → Fw μ μ0 → V G M_X6_spell (d + 7) (5 * k9) (350 * k9) (fun r μ' => r = none ∧ Sc (spell (sP σ)).length (spell (sP σ)) μ' ∧ (spell (sP σ)).length ≤ 48 ∧ Fw μ' μ0) 10 [(1, .int (nI j)), (0, .ref 0)] [] μ := by
  intro k9
  induction k9 with
  | zero =>
    intro j μ hj hS hlo h0 h1 h3 hF
    have hl8 := hw.1
    obtain ⟨b0, ml0, h45⟩ := hS.at45
    refine v_iload_n 0 dX6_spell_10 rfl rfl ?_
    refine v_aload_n 1 dX6_spell_11 rfl rfl ?_
    refine v_get fl_X6_12 dX6_spell_12 h0 rfl ?_
    refine v_get fl_X6_140 dX6_spell_15 h1 rfl ?_
    refine v_icmp_ge (tgt := 54) dX6_spell_18 (by decide) (fun hc18 => ?_) (fun hc18 => ?_)
    ·
      refine v_vret dX6_spell_54 rfl ?_
      rw [List.take_of_length_le (by omega)] at hS hlo
      exact ⟨rfl, hS, by omega, hF⟩
    · exact absurd ((nI_leI (by omega) (by omega)).mpr (by omega)) hc18
  | succ k9 ih =>
    intro j μ hj hS hlo h0 h1 h3 hF
    have hl8 := hw.1
    have hj9 : j < (sP σ).length := by omega
    have hfl := fil_len (hw.at hj9)
    have hnx := spell_nx hj9
    obtain ⟨b0, ml0, h45⟩ := hS.at45
    refine v_bud (mc1 := 5 * k9 + 5) (ms1 := 350 * k9 + 350) (by omega) (by omega) ?_
    refine v_iload_n 0 dX6_spell_10 rfl rfl ?_
    refine v_aload_n 1 dX6_spell_11 rfl rfl ?_
    refine v_get fl_X6_12 dX6_spell_12 h0 rfl ?_
    refine v_get fl_X6_140 dX6_spell_15 h1 rfl ?_
    refine v_icmp_ge (tgt := 54) dX6_spell_18 (by decide) (fun hc18 => ?_) (fun hc18 => ?_)
    · have := (nI_leI (by omega) (by omega)).mp hc18
      omega
    ·
      refine v_iload_n 0 dX6_spell_21 rfl rfl ?_
      refine v_if_le (tgt := 35) dX6_spell_22 (by decide) (fun hcj => ?_) (fun hcj => ?_)
      ·
        have hj0 : j = 0 := by
          have := (nI_leI (b := 0) (by omega) (by decide)).mp hcj
          omega
        refine v_aload_n 1 dX6_spell_35 rfl rfl ?_
        refine v_aload_n 1 dX6_spell_36 rfl rfl ?_
        refine v_get fl_X6_12 dX6_spell_37 h0 rfl ?_
        refine v_get fl_X6_118 dX6_spell_40 h1 rfl ?_
        refine v_iload_n 0 dX6_spell_43 rfl rfl ?_
        refine v_iald dX6_spell_44 h3 (nI_in' (k := j) (by omega) (by decide)) ?_
        rw [pile_at hpl hj9 (by omega)]
        refine v_bud (mc1 := (5 * k9 + 1) + 4) (ms1 := (350 * k9 + 70) + 280) (by omega) (by omega) ?_
        refine v_callV (mc := 5 * k9 + 1) (ms := 350 * k9 + 70) (c_X6_spellFilter d h0 hS (by omega) (hw.at hj9)) cs_X6_441 dX6_spell_45 h0 rfl rfl (Nat.le_of_ble_eq_true rfl) ?_
        rintro _ n2 ⟨rfl, g2, f2⟩
        refine v_iinc (v := 1) 0 dX6_spell_48 rfl rfl (by decide) (fun j2 e_j2 => ?_)
        refine v_ls (ls' := [(1, .int j2), (0, .ref 0)]) rfl ?_
        obtain rfl : j2 = nI (j + 1) := by rw [e_j2]; exact nI_1 j
        refine v_goto (tgt := 10) dX6_spell_51 (by decide) ?_
        rw [if_pos hj0] at hnx
        rw [← hnx] at g2
        refine v_bud (mc1 := 5 * k9) (ms1 := 350 * k9) (by omega) (by omega) ?_
        exact ih (j + 1) _ (by omega) g2 (by rw [hnx]; simp only [List.length_append, List.length_singleton]; omega) ((f2 0 (by decide)).trans h0) ((f2 1 (by decide)).trans h1) ((f2 3 (by decide)).trans h3) (f2.tr hF)
      ·
        have hj0 : ¬ j = 0 := fun z => hcj (by rw [z]; decide)
        refine v_aload_n 1 dX6_spell_25 rfl rfl ?_
        refine v_get fl_X6_61 dX6_spell_26 h0 rfl ?_
        refine v_bipush (v := 59) dX6_spell_29 (by first | rfl | decide) ?_
        refine v_bud (mc1 := (5 * k9 + 4) + 1) (ms1 := (350 * k9 + 280) + 70) (by omega) (by omega) ?_
        refine v_callV (mc := 5 * k9 + 4) (ms := 350 * k9 + 280) (c_appC (d + 1) hS (by omega) ⟨59, by decide, by decide⟩) cs_X6_438 dX6_spell_31 h45 rfl rfl (Nat.le_of_ble_eq_true rfl) ?_
        rintro _ n1 ⟨rfl, g1, f1⟩
        obtain ⟨b1, ml1, g45⟩ := g1.at45
        refine v_pop dX6_spell_34 rfl ?_
        refine v_aload_n 1 dX6_spell_35 rfl rfl ?_
        refine v_aload_n 1 dX6_spell_36 rfl rfl ?_
        refine v_get fl_X6_12 dX6_spell_37 ((f1 0 (by decide)).trans h0) rfl ?_
        refine v_get fl_X6_118 dX6_spell_40 ((f1 1 (by decide)).trans h1) rfl ?_
        refine v_iload_n 0 dX6_spell_43 rfl rfl ?_
        refine v_iald dX6_spell_44 ((f1 3 (by decide)).trans h3) (nI_in' (k := j) (by omega) (by decide)) ?_
        rw [pile_at hpl hj9 (by omega)]
        refine v_callV (mc := 5 * k9) (ms := 350 * k9) (c_X6_spellFilter d ((f1 0 (by decide)).trans h0) g1 (by simp only [List.length_append, List.length_singleton]; omega) (hw.at hj9)) cs_X6_441 dX6_spell_45 ((f1 0 (by decide)).trans h0) rfl rfl (Nat.le_of_ble_eq_true rfl) ?_
        rintro _ n2 ⟨rfl, g2, f2⟩
        refine v_iinc (v := 1) 0 dX6_spell_48 rfl rfl (by decide) (fun j2 e_j2 => ?_)
        refine v_ls (ls' := [(1, .int j2), (0, .ref 0)]) rfl ?_
        obtain rfl : j2 = nI (j + 1) := by rw [e_j2]; exact nI_1 j
        refine v_goto (tgt := 10) dX6_spell_51 (by decide) ?_
        rw [if_neg hj0] at hnx
        rw [← hnx] at g2
        refine v_bud (mc1 := 5 * k9) (ms1 := 350 * k9) (by omega) (by omega) ?_
        exact ih (j + 1) _ (by omega) g2 (by rw [hnx]; simp only [List.length_append, List.length_singleton]; omega) ((f2 0 (by decide)).trans ((f1 0 (by decide)).trans h0)) ((f2 1 (by decide)).trans ((f1 1 (by decide)).trans h1)) ((f2 3 (by decide)).trans ((f1 3 (by decide)).trans h3)) (f2.tr (f1.tr hF))

set_option maxRecDepth 20000 in
set_option maxHeartbeats 4000000 in
theorem c_X6_spell {G : Cx} (d : Nat) {μ : Hp} {σ : ST} (h : Cl σ μ) (hw : Wp (sP σ)) : Ct G (d + 7) 41 2870 M_X6_spell [.ref 0] μ (fun r μ' => r = none ∧ Sc (spell (sP σ)).length (spell (sP σ)) μ' ∧ (spell (sP σ)).length ≤ 48 ∧ Fw μ' μ) := by
  refine Ct.ofV (by decide +kernel) (Nat.le_of_ble_eq_true rfl) ?_
  refine v_ls (ls' := [(0, .ref 0)]) rfl ?_
  obtain ⟨h0, ⟨p, h1, h2, h3, h4, h5, h6, h7, h8, h9, hpl⟩, -, -, -, -, -, hsx, -⟩ := id h
  have hl8 := hw.1
  obtain ⟨w0, f0, ml0, n0, hw0, h45, -⟩ := id hsx
  refine v_aload_n 0 dX6_spell_0 rfl rfl ?_
  refine v_get fl_X6_61 dX6_spell_1 h0 rfl ?_
  refine v_iconst (v := 0) dX6_spell_4 (by first | rfl | decide) ?_
  refine v_callV (mc := 40) (ms := 2800) (c_setL (d + 1) hsx) cs_X6_435 dX6_spell_5 h45 rfl rfl (Nat.le_of_ble_eq_true rfl) ?_
  rintro _ n1 ⟨rfl, g1, f1⟩
  refine v_iconst (v := 0) dX6_spell_8 (by first | rfl | decide) ?_
  refine v_istore_n dX6_spell_9 rfl (by decide) (fun j0 e_j0 => ?_)
  refine v_ls (ls' := [(1, .int j0), (0, .ref 0)]) rfl ?_
  subst e_j0
  refine v_bud (mc1 := 5 * (sP σ).length) (ms1 := 350 * (sP σ).length) (by omega) (by omega) ?_
  exact spc_loop d hw hpl (sP σ).length 0 _ (by omega) g1 (Nat.zero_le _) ((f1 0 (by decide)).trans h0) ((f1 1 (by decide)).trans h1) ((f1 3 (by decide)).trans h3) f1

set_option maxRecDepth 20000 in
set_option maxHeartbeats 4000000 in
theorem c_X6_spelled {G : Cx} (d : Nat) {μ : Hp} {σ : ST} {i : Int32} (h : Cl σ μ) (hw : Wp (sP σ)) : Ct G (d + 8) 41 2870 M_X6_spelled [.ref 0, .int i] μ (Po σ (.int (rSpelled σ i)) μ) := by
  refine Ct.ofV (by decide +kernel) (Nat.le_of_ble_eq_true rfl) ?_
  refine v_ls (ls' := [(0, .ref 0), (1, .int i)]) rfl ?_
  have h0 := h.1
  have hl8 := hw.1
  refine v_aload_n 0 dX6_spelled_0 rfl rfl ?_
  refine v_callV (mc := 0) (ms := 0) (c_X6_spell d h hw) cs_X6_384 dX6_spelled_1 h0 rfl rfl (Nat.le_of_ble_eq_true rfl) ?_
  rintro _ n1 ⟨rfl, g1, hlen, f1⟩
  obtain ⟨b1, ml1, g45⟩ := g1.at45
  have hcl : Cl σ n1 := h.spell f1 (g1.sx (by omega))
  have hfo : Fo n1 μ := fun i hi => f1 i (by omega)
  refine v_iload_n 1 dX6_spelled_4 rfl rfl ?_
  refine v_iconst (v := -1) dX6_spelled_5 (by first | rfl | decide) ?_
  refine v_icmp_ne (tgt := 17) dX6_spelled_6 (by decide) (fun hc6 => ?_) (fun hc6 => ?_)
  ·
    refine v_iload_n 1 dX6_spelled_17 rfl rfl ?_
    refine v_if_lt (tgt := 43) dX6_spelled_18 (by decide) (fun hlt => ?_) (fun hlt => ?_)
    ·
      refine v_iconst (v := -1) dX6_spelled_43 (by first | rfl | decide) ?_
      refine v_iret dX6_spelled_44 rfl (by first | rfl | decide | exact nar_b (by first | assumption | rfl)) ?_
      exact ⟨by rw [rSpelled, if_neg hc6]; rw [if_pos (show inO i (nI (spell (sP σ)).length) = 0 by simp only [inO, if_pos hlt])], hcl, hfo⟩
    ·
      refine v_iload_n 1 dX6_spelled_21 rfl rfl ?_
      refine v_aload_n 0 dX6_spelled_22 rfl rfl ?_
      refine v_get fl_X6_61 dX6_spelled_23 ((f1 0 (by decide)).trans h0) rfl ?_
      refine v_callV (c_J4_length_8abf5 (d + 6) g45) cs_X6_387 dX6_spelled_26 g45 rfl rfl (Nat.le_of_ble_eq_true rfl) ?_
      refine rt_k ?_
      refine v_icmp_ge (tgt := 43) dX6_spelled_29 (by decide) (fun hge => ?_) (fun hge => ?_)
      ·
        refine v_iconst (v := -1) dX6_spelled_43 (by first | rfl | decide) ?_
        refine v_iret dX6_spelled_44 rfl (by first | rfl | decide | exact nar_b (by first | assumption | rfl)) ?_
        exact ⟨by rw [rSpelled, if_neg hc6]; rw [if_pos (show inO i (nI (spell (sP σ)).length) = 0 by simp only [inO, if_neg hlt, if_pos hge])], hcl, hfo⟩
      ·
        refine v_aload_n 0 dX6_spelled_32 rfl rfl ?_
        refine v_get fl_X6_61 dX6_spelled_33 ((f1 0 (by decide)).trans h0) rfl ?_
        refine v_iload_n 1 dX6_spelled_36 rfl rfl ?_
        obtain ⟨j, hj31, rfl⟩ := nI_of hlt
        have hj : j < (spell (sP σ)).length := Nat.not_le.mp (fun z => hge ((nI_leI (by omega) (by omega)).mpr z))
        refine v_callV (c_J4_charAt_5068e (d + 4) g1 hj) cs_X6_389 dX6_spelled_37 g45 rfl rfl (Nat.le_of_ble_eq_true rfl) ?_
        refine rt_k ?_
        refine v_goto (tgt := 44) dX6_spelled_40 (by decide) ?_
        refine v_iret dX6_spelled_44 rfl (by first | rfl | decide | exact nar_b (by first | assumption | rfl)) ?_
        exact ⟨by rw [rSpelled, if_neg hc6]; rw [if_neg (show ¬ inO (nI j) (nI (spell (sP σ)).length) = 0 by simp only [inO, if_neg hlt, if_neg hge]; decide), clamp hj31], hcl, hfo⟩
  ·
    refine v_aload_n 0 dX6_spelled_9 rfl rfl ?_
    refine v_get fl_X6_61 dX6_spelled_10 ((f1 0 (by decide)).trans h0) rfl ?_
    refine v_callV (c_J4_length_8abf5 (d + 6) g45) cs_X6_387 dX6_spelled_13 g45 rfl rfl (Nat.le_of_ble_eq_true rfl) ?_
    refine rt_k ?_
    refine v_iret dX6_spelled_16 rfl (by first | rfl | decide | exact nar_b (by first | assumption | rfl)) ?_
    exact ⟨by rw [rSpelled, if_pos hc6], hcl, hfo⟩

