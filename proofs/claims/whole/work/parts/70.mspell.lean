def Sq (m un lr mr hr le at9 fa op tr hm hi : Int32) (co wh : Int64) (out : List Int32) (μ : Hp) : Option Value → Hp → Prop := fun r μ' => r = none ∧ μ' 60 = some (modC m co wh un lr mr hr le at9 fa op tr (nI out.length) hm hi) ∧ (∃ f, μ' 80 = some (arI 48 f) ∧ Pl out f) ∧ ∀ i, i ≠ 60 → i ≠ 80 → μ' i = μ i
theorem num_len (v : Nat) : (numS v).length ≤ 2 := by
  unfold numS
  split <;> simp
theorem num_len1 {v : Nat} (h : v < 10) : (numS v).length = 1 := by
  unfold numS
  rw [if_pos h]
  rfl
theorem spl_app : ∀ (a : List Int32) (c : Int32), splS (a ++ [c]) = splS a ++ 59 :: filS c
  | [], c => by simp [splS]
  | x :: r, c => by
    rw [List.cons_append]
    unfold splS
    rw [spl_app r c]
    simp
theorem spell_1 (c : Int32) : spell [c] = filS c := by
  unfold spell splS
  simp [splS]
theorem spell_s {a : List Int32} (h : ¬ a = []) (c : Int32) : spell (a ++ [c]) = spell a ++ 59 :: filS c := by
  unfold spell
  rw [spl_app]
  cases a with
  | nil => exact absurd rfl h
  | cons x r => simp [splS]
theorem take_app {l : List Int32} {j : Nat} (h : j < l.length) : l.take (j + 1) = l.take j ++ [l.getD j 0] := by
  have e : l.getD j 0 = l[j] := by simp [List.getD, List.getElem?_eq_getElem h]
  rw [List.take_succ_eq_append_getElem h, e]
set_option maxRecDepth 20000 in
set_option maxHeartbeats 4000000 in
theorem c_X7_spells {G : Cx} (d : Nat) {μ : Hp} {out : List Int32} {f : Nat → Int32} {m un lr mr hr le at9 fa op tr hm hi : Int32} {co wh : Int64} {c : Int32} (h60 : μ 60 = some (modC m co wh un lr mr hr le at9 fa op tr (nI out.length) hm hi)) (h80 : μ 80 = some (arI 48 f)) (hpo : Pl out f) (hlen : out.length < 48) : Ct G (d) 0 0 M_X7_spells [.ref 60, .int c] μ (Sq m un lr mr hr le at9 fa op tr hm hi co wh (out ++ [c]) μ) := by
  refine Ct.ofV (by decide +kernel) (Nat.le_of_ble_eq_true rfl) ?_
  refine v_ls (ls' := [(0, .ref 60), (1, .int c)]) rfl ?_
  refine v_aload_n 0 dX7_spells_0 rfl rfl ?_
  refine v_get fl_X7_73 dX7_spells_1 h60 rfl ?_
  refine v_aload_n 0 dX7_spells_4 rfl rfl ?_
  refine v_get fl_X7_365 dX7_spells_5 h60 rfl ?_
  refine v_iload_n 1 dX7_spells_8 rfl rfl ?_
  refine v_iast dX7_spells_9 h80 (nI_in' hlen) ?_
  refine v_aload_n 0 dX7_spells_10 rfl rfl ?_
  refine v_dup dX7_spells_11 rfl ?_
  refine v_get fl_X7_365 dX7_spells_12 (up_n (by decide) h60) rfl ?_
  refine v_iconst (v := 1) dX7_spells_15 (by first | rfl | decide) ?_
  refine v_iadd dX7_spells_16 ?_
  refine v_put fp_X7_365 dX7_spells_17 (up_n (by decide) h60) (Nat.le_of_ble_eq_true rfl) (by first | rfl | decide) (by first | rfl | decide) ?_
  refine v_vret dX7_spells_20 rfl ?_
  refine ⟨rfl, ?_, ⟨_, up_n (by decide) (up_s _ _ _), ?_⟩, fun i a b => up_n a (up_n b rfl)⟩
  · rw [up_s, nI_1, List.length_append, List.length_singleton]
    rfl
  · rw [clamp (by omega)]; exact hpo.app c

set_option maxRecDepth 20000 in
set_option maxHeartbeats 4000000 in
theorem c_X7_spellsNumber {G : Cx} (d : Nat) {μ : Hp} {out : List Int32} {f : Nat → Int32} {m un lr mr hr le at9 fa op tr hm hi : Int32} {co wh : Int64} {n : Nat} (h60 : μ 60 = some (modC m co wh un lr mr hr le at9 fa op tr (nI out.length) hm hi)) (h80 : μ 80 = some (arI 48 f)) (hpo : Pl out f) (hn : n < 100) (hlen : out.length + (numS n).length ≤ 48) : Ct G (d + 1) 0 0 M_X7_spellsNumber [.ref 60, .int (nI n)] μ (Sq m un lr mr hr le at9 fa op tr hm hi co wh (out ++ numS n) μ) := by
  refine Ct.ofV (by decide +kernel) (Nat.le_of_ble_eq_true rfl) ?_
  refine v_ls (ls' := [(0, .ref 60), (1, .int (nI n))]) rfl ?_
  refine v_iload_n 1 dX7_spellsNumber_0 rfl rfl ?_
  refine v_bipush (v := 10) dX7_spellsNumber_1 (by first | rfl | decide) ?_
  refine v_icmp_lt (tgt := 17) dX7_spellsNumber_3 (by decide) (fun hc3 => ?_) (fun hc3 => ?_)
  ·
    refine v_aload_n 0 dX7_spellsNumber_17 rfl rfl ?_
    refine v_bipush (v := 48) dX7_spellsNumber_18 (by first | rfl | decide) ?_
    refine v_iload_n 1 dX7_spellsNumber_20 rfl rfl ?_
    refine v_bipush (v := 10) dX7_spellsNumber_21 (by first | rfl | decide) ?_
    refine v_irem dX7_spellsNumber_23 (by decide) ?_
    refine v_iadd dX7_spellsNumber_24 ?_
    rw [show (48 : Int32) + (nI n - nI n / 10 * 10) = nI (48 + n % 10) by rw [show nI n - nI n / 10 * 10 = nI (n % 10) from pk_rem (d := 10) (by omega) (by decide) (by decide), show (48 : Int32) = nI 48 from rfl, nI_add]]
    have hn9 : n < 10 := (nI_ltI (b := 10) (by omega) (by decide)).mp hc3
    have hnl : numS n = [nI (48 + n)] := if_pos hn9
    rw [hnl] at hlen
    rw [Nat.mod_eq_of_lt hn9]
    refine v_callV (c_X7_spells d h60 h80 hpo (by have : out.length + 1 ≤ 48 := hlen; omega)) cs_X7_368 dX7_spellsNumber_25 h60 rfl rfl (Nat.le_of_ble_eq_true rfl) ?_
    rintro _ n1 ⟨rfl, s601, ⟨f1, s801, pl1⟩, fr1⟩
    refine v_vret dX7_spellsNumber_28 rfl ?_
    rw [hnl]
    exact ⟨rfl, s601, ⟨f1, s801, pl1⟩, fr1⟩
  ·
    refine v_aload_n 0 dX7_spellsNumber_6 rfl rfl ?_
    refine v_bipush (v := 48) dX7_spellsNumber_7 (by first | rfl | decide) ?_
    refine v_iload_n 1 dX7_spellsNumber_9 rfl rfl ?_
    refine v_bipush (v := 10) dX7_spellsNumber_10 (by first | rfl | decide) ?_
    refine v_idiv dX7_spellsNumber_12 (by decide) ?_
    refine v_iadd dX7_spellsNumber_13 ?_
    have hn9 : ¬ n < 10 := fun z => hc3 ((nI_ltI (b := 10) (by omega) (by decide)).mpr z)
    have hnl : numS n = [nI (48 + n / 10), nI (48 + n % 10)] := if_neg hn9
    rw [hnl] at hlen
    rw [show (48 : Int32) + nI n / 10 = nI (48 + n / 10) by rw [show nI n / 10 = nI (n / 10) from pk_div (d := 10) (by omega) (by decide) (by decide), show (48 : Int32) = nI 48 from rfl, nI_add]]
    refine v_callV (c_X7_spells d h60 h80 hpo (by have : out.length + 2 ≤ 48 := hlen; omega)) cs_X7_368 dX7_spellsNumber_14 h60 rfl rfl (Nat.le_of_ble_eq_true rfl) ?_
    rintro _ n1 ⟨rfl, s601, ⟨f1, s801, pl1⟩, fr1⟩
    refine v_aload_n 0 dX7_spellsNumber_17 rfl rfl ?_
    refine v_bipush (v := 48) dX7_spellsNumber_18 (by first | rfl | decide) ?_
    refine v_iload_n 1 dX7_spellsNumber_20 rfl rfl ?_
    refine v_bipush (v := 10) dX7_spellsNumber_21 (by first | rfl | decide) ?_
    refine v_irem dX7_spellsNumber_23 (by decide) ?_
    refine v_iadd dX7_spellsNumber_24 ?_
    rw [show (48 : Int32) + (nI n - nI n / 10 * 10) = nI (48 + n % 10) by rw [show nI n - nI n / 10 * 10 = nI (n % 10) from pk_rem (d := 10) (by omega) (by decide) (by decide), show (48 : Int32) = nI 48 from rfl, nI_add]]
    refine v_callV (c_X7_spells d s601 s801 pl1 (by have : out.length + 2 ≤ 48 := hlen; rw [List.length_append, List.length_singleton]; omega)) cs_X7_368 dX7_spellsNumber_25 s601 rfl rfl (Nat.le_of_ble_eq_true rfl) ?_
    rintro _ n2 ⟨rfl, s602, ⟨f2, s802, pl2⟩, fr2⟩
    refine v_vret dX7_spellsNumber_28 rfl ?_
    rw [hnl]
    rw [List.append_assoc] at s602 pl2
    exact ⟨rfl, s602, ⟨f2, s802, pl2⟩, fun i a b => (fr2 i a b).trans (fr1 i a b)⟩

set_option maxRecDepth 20000 in
set_option maxHeartbeats 4000000 in
theorem c_X7_letterOf {G : Cx} (d : Nat) {μ : Hp} {k : Nat} (hk : k < 7) : Ct G (d) 0 0 M_X7_letterOf [.int (nI k)] μ (Rt (some (.int (letS (nI k)))) μ) := by
  refine Ct.ofV (by decide +kernel) (Nat.le_of_ble_eq_true rfl) ?_
  refine v_ls (ls' := [(0, .int (nI k))]) rfl ?_
  refine v_iload_n 0 dX7_letterOf_0 rfl rfl ?_
  by_cases cl1 : (nI k).toInt < 0
  · refine v_tableOut (tgt := 58) dX7_letterOf_1 (Or.inl cl1) (by decide) ?_
    have cs1_0 : ¬ nI k = 0 := sw_lo cl1 (by decide)
    have cs1_1 : ¬ nI k = 1 := sw_lo cl1 (by decide)
    have cs1_2 : ¬ nI k = 2 := sw_lo cl1 (by decide)
    have cs1_3 : ¬ nI k = 3 := sw_lo cl1 (by decide)
    have cs1_4 : ¬ nI k = 4 := sw_lo cl1 (by decide)
    have cs1_5 : ¬ nI k = 5 := sw_lo cl1 (by decide)
    refine v_bipush (v := 102) dX7_letterOf_58 (by first | rfl | decide) ?_
    refine v_iret dX7_letterOf_60 rfl (by first | rfl | decide | exact nar_b (by first | assumption | rfl)) ?_
    exact ⟨by simp only [letS, if_neg cs1_0, if_neg cs1_1, if_neg cs1_2, if_neg cs1_3, if_neg cs1_4, if_neg cs1_5], rfl⟩
  by_cases ch1 : 5 < (nI k).toInt
  · refine v_tableOut (tgt := 58) dX7_letterOf_1 (Or.inr ch1) (by decide) ?_
    have cs1_0 : ¬ nI k = 0 := sw_hi ch1 (by decide)
    have cs1_1 : ¬ nI k = 1 := sw_hi ch1 (by decide)
    have cs1_2 : ¬ nI k = 2 := sw_hi ch1 (by decide)
    have cs1_3 : ¬ nI k = 3 := sw_hi ch1 (by decide)
    have cs1_4 : ¬ nI k = 4 := sw_hi ch1 (by decide)
    have cs1_5 : ¬ nI k = 5 := sw_hi ch1 (by decide)
    refine v_bipush (v := 102) dX7_letterOf_58 (by first | rfl | decide) ?_
    refine v_iret dX7_letterOf_60 rfl (by first | rfl | decide | exact nar_b (by first | assumption | rfl)) ?_
    exact ⟨by simp only [letS, if_neg cs1_0, if_neg cs1_1, if_neg cs1_2, if_neg cs1_3, if_neg cs1_4, if_neg cs1_5], rfl⟩
  by_cases cs1_0 : nI k = 0
  · refine v_tableIn (off := 39) (tgt := 40) dX7_letterOf_1 cl1 ch1 (by rw [cs1_0]; rfl) (by decide) ?_
    refine v_bipush (v := 103) dX7_letterOf_40 (by first | rfl | decide) ?_
    refine v_iret dX7_letterOf_42 rfl (by first | rfl | decide | exact nar_b (by first | assumption | rfl)) ?_
    exact ⟨by rw [cs1_0]; rfl, rfl⟩
  by_cases cs1_1 : nI k = 1
  · refine v_tableIn (off := 42) (tgt := 43) dX7_letterOf_1 cl1 ch1 (by rw [cs1_1]; rfl) (by decide) ?_
    refine v_bipush (v := 121) dX7_letterOf_43 (by first | rfl | decide) ?_
    refine v_iret dX7_letterOf_45 rfl (by first | rfl | decide | exact nar_b (by first | assumption | rfl)) ?_
    exact ⟨by rw [cs1_1]; rfl, rfl⟩
  by_cases cs1_2 : nI k = 2
  · refine v_tableIn (off := 45) (tgt := 46) dX7_letterOf_1 cl1 ch1 (by rw [cs1_2]; rfl) (by decide) ?_
    refine v_bipush (v := 115) dX7_letterOf_46 (by first | rfl | decide) ?_
    refine v_iret dX7_letterOf_48 rfl (by first | rfl | decide | exact nar_b (by first | assumption | rfl)) ?_
    exact ⟨by rw [cs1_2]; rfl, rfl⟩
  by_cases cs1_3 : nI k = 3
  · refine v_tableIn (off := 48) (tgt := 49) dX7_letterOf_1 cl1 ch1 (by rw [cs1_3]; rfl) (by decide) ?_
    refine v_bipush (v := 112) dX7_letterOf_49 (by first | rfl | decide) ?_
    refine v_iret dX7_letterOf_51 rfl (by first | rfl | decide | exact nar_b (by first | assumption | rfl)) ?_
    exact ⟨by rw [cs1_3]; rfl, rfl⟩
  by_cases cs1_4 : nI k = 4
  · refine v_tableIn (off := 51) (tgt := 52) dX7_letterOf_1 cl1 ch1 (by rw [cs1_4]; rfl) (by decide) ?_
    refine v_bipush (v := 119) dX7_letterOf_52 (by first | rfl | decide) ?_
    refine v_iret dX7_letterOf_54 rfl (by first | rfl | decide | exact nar_b (by first | assumption | rfl)) ?_
    exact ⟨by rw [cs1_4]; rfl, rfl⟩
  by_cases cs1_5 : nI k = 5
  · refine v_tableIn (off := 54) (tgt := 55) dX7_letterOf_1 cl1 ch1 (by rw [cs1_5]; rfl) (by decide) ?_
    refine v_bipush (v := 114) dX7_letterOf_55 (by first | rfl | decide) ?_
    refine v_iret dX7_letterOf_57 rfl (by first | rfl | decide | exact nar_b (by first | assumption | rfl)) ?_
    exact ⟨by rw [cs1_5]; rfl, rfl⟩
  exfalso
  have q1_0 := lv_neT (a := 0) cs1_0 (by decide)
  have q1_1 := lv_neT (a := 1) cs1_1 (by decide)
  have q1_2 := lv_neT (a := 2) cs1_2 (by decide)
  have q1_3 := lv_neT (a := 3) cs1_3 (by decide)
  have q1_4 := lv_neT (a := 4) cs1_4 (by decide)
  have q1_5 := lv_neT (a := 5) cs1_5 (by decide)
  omega

set_option maxRecDepth 20000 in
set_option maxHeartbeats 4000000 in
theorem spl_loop {G : Cx} (d : Nat) {σ : ST} {p : Nat → Int32} {un lr mr hr le at9 fa op tr hm hi : Int32} {co wh : Int64} (hw : Wp (sP σ)) (hpl : Pl (sP σ) p) : ∀ (k9 : Nat) (j : Nat) (out : List Int32) (f : Nat → Int32) (μ : Hp), j + k9 = (sP σ).length → out = spell ((sP σ).take j) → out.length ≤ 6 * j → Pl out f → μ 60 = some (modC (nI (sP σ).length) co wh un lr mr hr le at9 fa op tr (nI out.length) hm hi) → μ 80 = some (arI 48 f) → μ 62 = some (arI 8 p) → V G M_X7_spellsAll (d + 2) 0 0 (fun r μ' => r = none ∧ μ' 60 = some (modC (nI (sP σ).length) co wh un lr mr hr le at9 fa op tr (nI (spell (sP σ)).length) hm hi) ∧ (∃ f, μ' 80 = some (arI 48 f) ∧ Pl (spell (sP σ)) f) ∧ (spell (sP σ)).length ≤ 48 ∧ ∀ i, i ≠ 60 → i ≠ 80 → μ' i = μ i) 7 [(1, .int (nI j)), (0, .ref 60)] [] (μ) := by
  intro k9
  induction k9 with
  | zero =>
    intro j out f μ hj hout hlo hpo h60 h80 h62
    have hl8 := hw.1
    refine v_iload_n 0 dX7_spellsAll_7 rfl rfl ?_
    refine v_aload_n 1 dX7_spellsAll_8 rfl rfl ?_
    refine v_get fl_X7_91 dX7_spellsAll_9 h60 rfl ?_
    refine v_icmp_ge (tgt := 115) dX7_spellsAll_12 (by decide) (fun hc12 => ?_) (fun hc12 => ?_)
    ·
      refine v_vret dX7_spellsAll_115 rfl ?_
      have ho : out = spell (sP σ) := by rw [hout, List.take_of_length_le (by omega)]
      rw [← ho]
      exact ⟨rfl, h60, ⟨f, h80, hpo⟩, by omega, fun _ _ _ => rfl⟩
    · exact absurd ((nI_leI (by omega) (by omega)).mpr (by omega)) hc12
  | succ k9 ih =>
    intro j out f μ hj hout hlo hpo h60 h80 h62
    have hl8 := hw.1
    refine v_iload_n 0 dX7_spellsAll_7 rfl rfl ?_
    refine v_aload_n 1 dX7_spellsAll_8 rfl rfl ?_
    refine v_get fl_X7_91 dX7_spellsAll_9 h60 rfl ?_
    refine v_icmp_ge (tgt := 115) dX7_spellsAll_12 (by decide) (fun hc12 => ?_) (fun hc12 => ?_)
    · have := (nI_leI (by omega) (by omega)).mp hc12
      omega
    ·
      have hj9 : j < (sP σ).length := by omega
      obtain ⟨kn, hk7, hkn⟩ := (hw.at hj9).kd
      obtain ⟨a9, ha4, han⟩ := (hw.at hj9).an
      obtain ⟨f9, hf17, hfn⟩ := (hw.at hj9).fg
      have hca : (anO ((sP σ).getD j 0)).toNatClampNeg = a9 := by rw [han]; exact clamp (by omega)
      have hcf : (fgO ((sP σ).getD j 0)).toNatClampNeg = f9 := by rw [hfn]; exact clamp (by omega)
      have hna : (numS a9).length = 1 := num_len1 (by omega)
      have hnf := num_len f9
      refine v_aload_n 1 dX7_spellsAll_15 rfl rfl ?_
      refine v_get fl_X7_17 dX7_spellsAll_16 h60 rfl ?_
      refine v_iload_n 0 dX7_spellsAll_19 rfl rfl ?_
      refine v_iald dX7_spellsAll_20 h62 (nI_in' (by omega)) ?_
      rw [clamp (show j < 2 ^ 31 by omega), ← getD_at hpl (show j < (sP σ).length by omega)]
      refine v_callS (c_X7_kindOf (d + 1) ) cs_X7_101 dX7_spellsAll_21 rfl rfl (Nat.le_of_ble_eq_true rfl) ?_
      refine rt_k ?_
      refine v_istore_n dX7_spellsAll_24 rfl (by decide) (fun y2 e_y2 => ?_)
      refine v_ls (ls' := [(2, .int y2), (1, .int (nI j)), (0, .ref 60)]) rfl ?_
      subst e_y2
      refine v_iload_n 1 dX7_spellsAll_25 rfl rfl ?_
      refine v_if_le (tgt := 35) dX7_spellsAll_26 (by decide) (fun hc26 => ?_) (fun hc26 => ?_)
      ·
        refine v_aload_n 2 dX7_spellsAll_35 rfl rfl ?_
        refine v_iload_n 0 dX7_spellsAll_36 rfl rfl ?_
        rw [hkn]
        refine v_callS (c_X7_letterOf (d + 1) hk7) cs_X7_371 dX7_spellsAll_37 rfl rfl (Nat.le_of_ble_eq_true rfl) ?_
        refine rt_k ?_
        rw [← hkn]
        refine v_callV (c_X7_spells (d + 1) h60 h80 hpo (by first | omega | (simp only [List.length_append, List.length_cons, List.length_nil]; omega))) cs_X7_368 dX7_spellsAll_40 h60 rfl rfl (Nat.le_of_ble_eq_true rfl) ?_
        rintro _ n1 ⟨rfl, s601, ⟨f1, s801, pl1⟩, fr1⟩
        refine v_iload_n 0 dX7_spellsAll_43 rfl rfl ?_
        refine v_iconst (v := 2) dX7_spellsAll_44 (by first | rfl | decide) ?_
        refine v_icmp_eq (tgt := 58) dX7_spellsAll_45 (by decide) (fun hc45 => ?_) (fun hc45 => ?_)
        ·
          refine v_aload_n 2 dX7_spellsAll_58 rfl rfl ?_
          refine v_aload_n 2 dX7_spellsAll_59 rfl rfl ?_
          refine v_get fl_X7_17 dX7_spellsAll_60 s601 rfl ?_
          refine v_iload_n 1 dX7_spellsAll_63 rfl rfl ?_
          refine v_iald dX7_spellsAll_64 ((fr1 62 (by decide) (by decide)).trans h62) (nI_in' (by omega)) ?_
          rw [clamp (show j < 2 ^ 31 by omega), ← getD_at hpl (show j < (sP σ).length by omega)]
          refine v_callS (c_X7_angleOf (d + 1) ) cs_X7_114 dX7_spellsAll_65 rfl rfl (Nat.le_of_ble_eq_true rfl) ?_
          refine rt_k ?_
          rw [han]
          refine v_callV (c_X7_spellsNumber d s601 s801 pl1 (by omega) (by first | omega | (simp only [List.length_append, List.length_cons, List.length_nil]; omega))) cs_X7_374 dX7_spellsAll_68 s601 rfl rfl (Nat.le_of_ble_eq_true rfl) ?_
          rintro _ n2 ⟨rfl, s602, ⟨f2, s802, pl2⟩, fr2⟩
          refine v_iload_n 0 dX7_spellsAll_71 rfl rfl ?_
          refine v_iconst (v := 2) dX7_spellsAll_72 (by first | rfl | decide) ?_
          refine v_icmp_eq (tgt := 81) dX7_spellsAll_73 (by decide) (fun hc73 => ?_) (fun hc73 => ?_)
          ·
            refine v_aload_n 2 dX7_spellsAll_81 rfl rfl ?_
            refine v_bipush (v := 44) dX7_spellsAll_82 (by first | rfl | decide) ?_
            refine v_callV (c_X7_spells (d + 1) s602 s802 pl2 (by first | omega | (simp only [List.length_append, List.length_cons, List.length_nil]; omega))) cs_X7_368 dX7_spellsAll_84 s602 rfl rfl (Nat.le_of_ble_eq_true rfl) ?_
            rintro _ n3 ⟨rfl, s603, ⟨f3, s803, pl3⟩, fr3⟩
            refine v_iload_n 0 dX7_spellsAll_87 rfl rfl ?_
            refine v_if_eq (tgt := 109) dX7_spellsAll_88 (by decide) (fun hc88 => ?_) (fun hc88 => ?_)
            · exact absurd (hc45.symm.trans hc88) (by decide)
            ·
              refine v_iload_n 0 dX7_spellsAll_91 rfl rfl ?_
              refine v_iconst (v := 3) dX7_spellsAll_92 (by first | rfl | decide) ?_
              refine v_icmp_eq (tgt := 109) dX7_spellsAll_93 (by decide) (fun hc93 => ?_) (fun hc93 => ?_)
              · exact absurd (hc45.symm.trans hc93) (by decide)
              ·
                refine v_aload_n 2 dX7_spellsAll_96 rfl rfl ?_
                refine v_aload_n 2 dX7_spellsAll_97 rfl rfl ?_
                refine v_get fl_X7_17 dX7_spellsAll_98 s603 rfl ?_
                refine v_iload_n 1 dX7_spellsAll_101 rfl rfl ?_
                refine v_iald dX7_spellsAll_102 ((fr3 62 (by decide) (by decide)).trans ((fr2 62 (by decide) (by decide)).trans ((fr1 62 (by decide) (by decide)).trans h62))) (nI_in' (by omega)) ?_
                rw [clamp (show j < 2 ^ 31 by omega), ← getD_at hpl (show j < (sP σ).length by omega)]
                refine v_callS (c_X7_figureOf (d + 1) ) cs_X7_105 dX7_spellsAll_103 rfl rfl (Nat.le_of_ble_eq_true rfl) ?_
                refine rt_k ?_
                rw [hfn]
                refine v_callV (c_X7_spellsNumber d s603 s803 pl3 (by omega) (by first | omega | (simp only [List.length_append, List.length_cons, List.length_nil]; omega))) cs_X7_374 dX7_spellsAll_106 s603 rfl rfl (Nat.le_of_ble_eq_true rfl) ?_
                rintro _ n4 ⟨rfl, s604, ⟨f4, s804, pl4⟩, fr4⟩
                refine v_iinc (v := 1) 1 dX7_spellsAll_109 rfl rfl (by decide) (fun z e_z => ?_)
                refine v_ls (ls' := [(1, .int z), (2, .int (kdO ((sP σ).getD j 0))), (0, .ref 60)]) rfl ?_
                rw [nI_1] at e_z
                subst e_z
                refine v_goto (tgt := 7) dX7_spellsAll_112 (by decide) ?_
                have hta := (show ¬ taO (kdO ((sP σ).getD j 0)) = 0 by rw [hc45]; decide)
                have htf := (show ¬ tfO (kdO ((sP σ).getD j 0)) = 0 by rw [hc45]; decide)
                have hfs : filS ((sP σ).getD j 0) = [letS (kdO ((sP σ).getD j 0))] ++ numS a9 ++ [44] ++ numS f9 := by
                  simp only [filS, if_neg hta, if_neg htf, hca, hcf]
                have hj0 : j = 0 := by
                  have := (nI_leI (b := 0) (by omega) (by decide)).mp hc26
                  omega
                have hsp : spell ((sP σ).take (j + 1)) = ((((out ++ [letS (kdO ((sP σ).getD j 0))]) ++ numS a9) ++ [44]) ++ numS f9) := by
                  rw [take_app hj9, hj0, List.take_zero, List.nil_append, spell_1]
                  rw [hj0] at hfs hout
                  rw [hfs, hout, List.take_zero, show spell [] = [] from rfl]
                  simp
                refine v_pick [0, 2] rfl ?_
                refine v_post (ih (j + 1) _ _ _ (by omega) hsp.symm (by first | omega | (simp only [List.length_append, List.length_cons, List.length_nil]; omega)) pl4 s604 s804 ((fr4 62 (by decide) (by decide)).trans ((fr3 62 (by decide) (by decide)).trans ((fr2 62 (by decide) (by decide)).trans ((fr1 62 (by decide) (by decide)).trans h62))))) ?_
                rintro r9 m9 ⟨q1, q2, q3, q4, q5⟩
                exact ⟨q1, q2, q3, q4, fun i a b => (q5 i a b).trans ((fr4 i a b).trans ((fr3 i a b).trans ((fr2 i a b).trans ((fr1 i a b)))))⟩
                
          · exact absurd hc45 hc73
        ·
          refine v_iload_n 0 dX7_spellsAll_48 rfl rfl ?_
          refine v_iconst (v := 3) dX7_spellsAll_49 (by first | rfl | decide) ?_
          refine v_icmp_eq (tgt := 58) dX7_spellsAll_50 (by decide) (fun hc50 => ?_) (fun hc50 => ?_)
          ·
            refine v_aload_n 2 dX7_spellsAll_58 rfl rfl ?_
            refine v_aload_n 2 dX7_spellsAll_59 rfl rfl ?_
            refine v_get fl_X7_17 dX7_spellsAll_60 s601 rfl ?_
            refine v_iload_n 1 dX7_spellsAll_63 rfl rfl ?_
            refine v_iald dX7_spellsAll_64 ((fr1 62 (by decide) (by decide)).trans h62) (nI_in' (by omega)) ?_
            rw [clamp (show j < 2 ^ 31 by omega), ← getD_at hpl (show j < (sP σ).length by omega)]
            refine v_callS (c_X7_angleOf (d + 1) ) cs_X7_114 dX7_spellsAll_65 rfl rfl (Nat.le_of_ble_eq_true rfl) ?_
            refine rt_k ?_
            rw [han]
            refine v_callV (c_X7_spellsNumber d s601 s801 pl1 (by omega) (by first | omega | (simp only [List.length_append, List.length_cons, List.length_nil]; omega))) cs_X7_374 dX7_spellsAll_68 s601 rfl rfl (Nat.le_of_ble_eq_true rfl) ?_
            rintro _ n2 ⟨rfl, s602, ⟨f2, s802, pl2⟩, fr2⟩
            refine v_iload_n 0 dX7_spellsAll_71 rfl rfl ?_
            refine v_iconst (v := 2) dX7_spellsAll_72 (by first | rfl | decide) ?_
            refine v_icmp_eq (tgt := 81) dX7_spellsAll_73 (by decide) (fun hc73 => ?_) (fun hc73 => ?_)
            · exact absurd (hc50.symm.trans hc73) (by decide)
            ·
              refine v_iload_n 0 dX7_spellsAll_76 rfl rfl ?_
              refine v_iconst (v := 4) dX7_spellsAll_77 (by first | rfl | decide) ?_
              refine v_icmp_ne (tgt := 87) dX7_spellsAll_78 (by decide) (fun hc78 => ?_) (fun hc78 => ?_)
              ·
                refine v_iload_n 0 dX7_spellsAll_87 rfl rfl ?_
                refine v_if_eq (tgt := 109) dX7_spellsAll_88 (by decide) (fun hc88 => ?_) (fun hc88 => ?_)
                · exact absurd (hc50.symm.trans hc88) (by decide)
                ·
                  refine v_iload_n 0 dX7_spellsAll_91 rfl rfl ?_
                  refine v_iconst (v := 3) dX7_spellsAll_92 (by first | rfl | decide) ?_
                  refine v_icmp_eq (tgt := 109) dX7_spellsAll_93 (by decide) (fun hc93 => ?_) (fun hc93 => ?_)
                  ·
                    refine v_iinc (v := 1) 1 dX7_spellsAll_109 rfl rfl (by decide) (fun z e_z => ?_)
                    refine v_ls (ls' := [(1, .int z), (2, .int (kdO ((sP σ).getD j 0))), (0, .ref 60)]) rfl ?_
                    rw [nI_1] at e_z
                    subst e_z
                    refine v_goto (tgt := 7) dX7_spellsAll_112 (by decide) ?_
                    have hta := (show ¬ taO (kdO ((sP σ).getD j 0)) = 0 by rw [hc50]; decide)
                    have htf := (show tfO (kdO ((sP σ).getD j 0)) = 0 by rw [hc50]; decide)
                    have hfs : filS ((sP σ).getD j 0) = [letS (kdO ((sP σ).getD j 0))] ++ numS a9 ++ [] ++ [] := by
                      simp only [filS, if_neg hta, if_pos htf, hca, hcf]
                    have hj0 : j = 0 := by
                      have := (nI_leI (b := 0) (by omega) (by decide)).mp hc26
                      omega
                    have hsp : spell ((sP σ).take (j + 1)) = ((out ++ [letS (kdO ((sP σ).getD j 0))]) ++ numS a9) := by
                      rw [take_app hj9, hj0, List.take_zero, List.nil_append, spell_1]
                      rw [hj0] at hfs hout
                      rw [hfs, hout, List.take_zero, show spell [] = [] from rfl]
                      simp
                    refine v_pick [0, 2] rfl ?_
                    refine v_post (ih (j + 1) _ _ _ (by omega) hsp.symm (by first | omega | (simp only [List.length_append, List.length_cons, List.length_nil]; omega)) pl2 s602 s802 ((fr2 62 (by decide) (by decide)).trans ((fr1 62 (by decide) (by decide)).trans h62))) ?_
                    rintro r9 m9 ⟨q1, q2, q3, q4, q5⟩
                    exact ⟨q1, q2, q3, q4, fun i a b => (q5 i a b).trans ((fr2 i a b).trans ((fr1 i a b)))⟩
                    
                  · exact absurd hc50 hc93
              · exact absurd (hc50.symm.trans hc78) (by decide)
          ·
            refine v_iload_n 0 dX7_spellsAll_53 rfl rfl ?_
            refine v_iconst (v := 4) dX7_spellsAll_54 (by first | rfl | decide) ?_
            refine v_icmp_ne (tgt := 71) dX7_spellsAll_55 (by decide) (fun hc55 => ?_) (fun hc55 => ?_)
            ·
              refine v_iload_n 0 dX7_spellsAll_71 rfl rfl ?_
              refine v_iconst (v := 2) dX7_spellsAll_72 (by first | rfl | decide) ?_
              refine v_icmp_eq (tgt := 81) dX7_spellsAll_73 (by decide) (fun hc73 => ?_) (fun hc73 => ?_)
              · exact absurd hc73 hc45
              ·
                refine v_iload_n 0 dX7_spellsAll_76 rfl rfl ?_
                refine v_iconst (v := 4) dX7_spellsAll_77 (by first | rfl | decide) ?_
                refine v_icmp_ne (tgt := 87) dX7_spellsAll_78 (by decide) (fun hc78 => ?_) (fun hc78 => ?_)
                ·
                  refine v_iload_n 0 dX7_spellsAll_87 rfl rfl ?_
                  refine v_if_eq (tgt := 109) dX7_spellsAll_88 (by decide) (fun hc88 => ?_) (fun hc88 => ?_)
                  ·
                    refine v_iinc (v := 1) 1 dX7_spellsAll_109 rfl rfl (by decide) (fun z e_z => ?_)
                    refine v_ls (ls' := [(1, .int z), (2, .int (kdO ((sP σ).getD j 0))), (0, .ref 60)]) rfl ?_
                    rw [nI_1] at e_z
                    subst e_z
                    refine v_goto (tgt := 7) dX7_spellsAll_112 (by decide) ?_
                    have hta := (show taO (kdO ((sP σ).getD j 0)) = 0 by simp only [taO, if_neg hc45, if_neg hc50, if_neg hc55])
                    have htf := (show tfO (kdO ((sP σ).getD j 0)) = 0 by rw [hc88]; decide)
                    have hfs : filS ((sP σ).getD j 0) = [letS (kdO ((sP σ).getD j 0))] ++ [] ++ [] ++ [] := by
                      simp only [filS, if_pos hta, if_pos htf, hca, hcf]
                    have hj0 : j = 0 := by
                      have := (nI_leI (b := 0) (by omega) (by decide)).mp hc26
                      omega
                    have hsp : spell ((sP σ).take (j + 1)) = (out ++ [letS (kdO ((sP σ).getD j 0))]) := by
                      rw [take_app hj9, hj0, List.take_zero, List.nil_append, spell_1]
                      rw [hj0] at hfs hout
                      rw [hfs, hout, List.take_zero, show spell [] = [] from rfl]
                      simp
                    refine v_pick [0, 2] rfl ?_
                    refine v_post (ih (j + 1) _ _ _ (by omega) hsp.symm (by first | omega | (simp only [List.length_append, List.length_cons, List.length_nil]; omega)) pl1 s601 s801 ((fr1 62 (by decide) (by decide)).trans h62)) ?_
                    rintro r9 m9 ⟨q1, q2, q3, q4, q5⟩
                    exact ⟨q1, q2, q3, q4, fun i a b => (q5 i a b).trans ((fr1 i a b))⟩
                    
                  ·
                    refine v_iload_n 0 dX7_spellsAll_91 rfl rfl ?_
                    refine v_iconst (v := 3) dX7_spellsAll_92 (by first | rfl | decide) ?_
                    refine v_icmp_eq (tgt := 109) dX7_spellsAll_93 (by decide) (fun hc93 => ?_) (fun hc93 => ?_)
                    · exact absurd hc93 hc50
                    ·
                      refine v_aload_n 2 dX7_spellsAll_96 rfl rfl ?_
                      refine v_aload_n 2 dX7_spellsAll_97 rfl rfl ?_
                      refine v_get fl_X7_17 dX7_spellsAll_98 s601 rfl ?_
                      refine v_iload_n 1 dX7_spellsAll_101 rfl rfl ?_
                      refine v_iald dX7_spellsAll_102 ((fr1 62 (by decide) (by decide)).trans h62) (nI_in' (by omega)) ?_
                      rw [clamp (show j < 2 ^ 31 by omega), ← getD_at hpl (show j < (sP σ).length by omega)]
                      refine v_callS (c_X7_figureOf (d + 1) ) cs_X7_105 dX7_spellsAll_103 rfl rfl (Nat.le_of_ble_eq_true rfl) ?_
                      refine rt_k ?_
                      rw [hfn]
                      refine v_callV (c_X7_spellsNumber d s601 s801 pl1 (by omega) (by first | omega | (simp only [List.length_append, List.length_cons, List.length_nil]; omega))) cs_X7_374 dX7_spellsAll_106 s601 rfl rfl (Nat.le_of_ble_eq_true rfl) ?_
                      rintro _ n2 ⟨rfl, s602, ⟨f2, s802, pl2⟩, fr2⟩
                      refine v_iinc (v := 1) 1 dX7_spellsAll_109 rfl rfl (by decide) (fun z e_z => ?_)
                      refine v_ls (ls' := [(1, .int z), (2, .int (kdO ((sP σ).getD j 0))), (0, .ref 60)]) rfl ?_
                      rw [nI_1] at e_z
                      subst e_z
                      refine v_goto (tgt := 7) dX7_spellsAll_112 (by decide) ?_
                      have hta := (show taO (kdO ((sP σ).getD j 0)) = 0 by simp only [taO, if_neg hc45, if_neg hc50, if_neg hc55])
                      have htf := (show ¬ tfO (kdO ((sP σ).getD j 0)) = 0 by simp only [tfO, if_neg hc88, if_neg hc50]; decide)
                      have hfs : filS ((sP σ).getD j 0) = [letS (kdO ((sP σ).getD j 0))] ++ [] ++ [] ++ numS f9 := by
                        simp only [filS, if_pos hta, if_neg htf, hca, hcf]
                      have hj0 : j = 0 := by
                        have := (nI_leI (b := 0) (by omega) (by decide)).mp hc26
                        omega
                      have hsp : spell ((sP σ).take (j + 1)) = ((out ++ [letS (kdO ((sP σ).getD j 0))]) ++ numS f9) := by
                        rw [take_app hj9, hj0, List.take_zero, List.nil_append, spell_1]
                        rw [hj0] at hfs hout
                        rw [hfs, hout, List.take_zero, show spell [] = [] from rfl]
                        simp
                      refine v_pick [0, 2] rfl ?_
                      refine v_post (ih (j + 1) _ _ _ (by omega) hsp.symm (by first | omega | (simp only [List.length_append, List.length_cons, List.length_nil]; omega)) pl2 s602 s802 ((fr2 62 (by decide) (by decide)).trans ((fr1 62 (by decide) (by decide)).trans h62))) ?_
                      rintro r9 m9 ⟨q1, q2, q3, q4, q5⟩
                      exact ⟨q1, q2, q3, q4, fun i a b => (q5 i a b).trans ((fr2 i a b).trans ((fr1 i a b)))⟩
                      
                · exact absurd hc78 hc55
            ·
              refine v_aload_n 2 dX7_spellsAll_58 rfl rfl ?_
              refine v_aload_n 2 dX7_spellsAll_59 rfl rfl ?_
              refine v_get fl_X7_17 dX7_spellsAll_60 s601 rfl ?_
              refine v_iload_n 1 dX7_spellsAll_63 rfl rfl ?_
              refine v_iald dX7_spellsAll_64 ((fr1 62 (by decide) (by decide)).trans h62) (nI_in' (by omega)) ?_
              rw [clamp (show j < 2 ^ 31 by omega), ← getD_at hpl (show j < (sP σ).length by omega)]
              refine v_callS (c_X7_angleOf (d + 1) ) cs_X7_114 dX7_spellsAll_65 rfl rfl (Nat.le_of_ble_eq_true rfl) ?_
              refine rt_k ?_
              rw [han]
              refine v_callV (c_X7_spellsNumber d s601 s801 pl1 (by omega) (by first | omega | (simp only [List.length_append, List.length_cons, List.length_nil]; omega))) cs_X7_374 dX7_spellsAll_68 s601 rfl rfl (Nat.le_of_ble_eq_true rfl) ?_
              rintro _ n2 ⟨rfl, s602, ⟨f2, s802, pl2⟩, fr2⟩
              refine v_iload_n 0 dX7_spellsAll_71 rfl rfl ?_
              refine v_iconst (v := 2) dX7_spellsAll_72 (by first | rfl | decide) ?_
              refine v_icmp_eq (tgt := 81) dX7_spellsAll_73 (by decide) (fun hc73 => ?_) (fun hc73 => ?_)
              · exact absurd (hc55.symm.trans hc73) (by decide)
              ·
                refine v_iload_n 0 dX7_spellsAll_76 rfl rfl ?_
                refine v_iconst (v := 4) dX7_spellsAll_77 (by first | rfl | decide) ?_
                refine v_icmp_ne (tgt := 87) dX7_spellsAll_78 (by decide) (fun hc78 => ?_) (fun hc78 => ?_)
                · exact absurd hc55 hc78
                ·
                  refine v_aload_n 2 dX7_spellsAll_81 rfl rfl ?_
                  refine v_bipush (v := 44) dX7_spellsAll_82 (by first | rfl | decide) ?_
                  refine v_callV (c_X7_spells (d + 1) s602 s802 pl2 (by first | omega | (simp only [List.length_append, List.length_cons, List.length_nil]; omega))) cs_X7_368 dX7_spellsAll_84 s602 rfl rfl (Nat.le_of_ble_eq_true rfl) ?_
                  rintro _ n3 ⟨rfl, s603, ⟨f3, s803, pl3⟩, fr3⟩
                  refine v_iload_n 0 dX7_spellsAll_87 rfl rfl ?_
                  refine v_if_eq (tgt := 109) dX7_spellsAll_88 (by decide) (fun hc88 => ?_) (fun hc88 => ?_)
                  · exact absurd (hc55.symm.trans hc88) (by decide)
                  ·
                    refine v_iload_n 0 dX7_spellsAll_91 rfl rfl ?_
                    refine v_iconst (v := 3) dX7_spellsAll_92 (by first | rfl | decide) ?_
                    refine v_icmp_eq (tgt := 109) dX7_spellsAll_93 (by decide) (fun hc93 => ?_) (fun hc93 => ?_)
                    · exact absurd (hc55.symm.trans hc93) (by decide)
                    ·
                      refine v_aload_n 2 dX7_spellsAll_96 rfl rfl ?_
                      refine v_aload_n 2 dX7_spellsAll_97 rfl rfl ?_
                      refine v_get fl_X7_17 dX7_spellsAll_98 s603 rfl ?_
                      refine v_iload_n 1 dX7_spellsAll_101 rfl rfl ?_
                      refine v_iald dX7_spellsAll_102 ((fr3 62 (by decide) (by decide)).trans ((fr2 62 (by decide) (by decide)).trans ((fr1 62 (by decide) (by decide)).trans h62))) (nI_in' (by omega)) ?_
                      rw [clamp (show j < 2 ^ 31 by omega), ← getD_at hpl (show j < (sP σ).length by omega)]
                      refine v_callS (c_X7_figureOf (d + 1) ) cs_X7_105 dX7_spellsAll_103 rfl rfl (Nat.le_of_ble_eq_true rfl) ?_
                      refine rt_k ?_
                      rw [hfn]
                      refine v_callV (c_X7_spellsNumber d s603 s803 pl3 (by omega) (by first | omega | (simp only [List.length_append, List.length_cons, List.length_nil]; omega))) cs_X7_374 dX7_spellsAll_106 s603 rfl rfl (Nat.le_of_ble_eq_true rfl) ?_
                      rintro _ n4 ⟨rfl, s604, ⟨f4, s804, pl4⟩, fr4⟩
                      refine v_iinc (v := 1) 1 dX7_spellsAll_109 rfl rfl (by decide) (fun z e_z => ?_)
                      refine v_ls (ls' := [(1, .int z), (2, .int (kdO ((sP σ).getD j 0))), (0, .ref 60)]) rfl ?_
                      rw [nI_1] at e_z
                      subst e_z
                      refine v_goto (tgt := 7) dX7_spellsAll_112 (by decide) ?_
                      have hta := (show ¬ taO (kdO ((sP σ).getD j 0)) = 0 by rw [hc55]; decide)
                      have htf := (show ¬ tfO (kdO ((sP σ).getD j 0)) = 0 by rw [hc55]; decide)
                      have hfs : filS ((sP σ).getD j 0) = [letS (kdO ((sP σ).getD j 0))] ++ numS a9 ++ [44] ++ numS f9 := by
                        simp only [filS, if_neg hta, if_neg htf, hca, hcf]
                      have hj0 : j = 0 := by
                        have := (nI_leI (b := 0) (by omega) (by decide)).mp hc26
                        omega
                      have hsp : spell ((sP σ).take (j + 1)) = ((((out ++ [letS (kdO ((sP σ).getD j 0))]) ++ numS a9) ++ [44]) ++ numS f9) := by
                        rw [take_app hj9, hj0, List.take_zero, List.nil_append, spell_1]
                        rw [hj0] at hfs hout
                        rw [hfs, hout, List.take_zero, show spell [] = [] from rfl]
                        simp
                      refine v_pick [0, 2] rfl ?_
                      refine v_post (ih (j + 1) _ _ _ (by omega) hsp.symm (by first | omega | (simp only [List.length_append, List.length_cons, List.length_nil]; omega)) pl4 s604 s804 ((fr4 62 (by decide) (by decide)).trans ((fr3 62 (by decide) (by decide)).trans ((fr2 62 (by decide) (by decide)).trans ((fr1 62 (by decide) (by decide)).trans h62))))) ?_
                      rintro r9 m9 ⟨q1, q2, q3, q4, q5⟩
                      exact ⟨q1, q2, q3, q4, fun i a b => (q5 i a b).trans ((fr4 i a b).trans ((fr3 i a b).trans ((fr2 i a b).trans ((fr1 i a b)))))⟩
                      
      ·
        refine v_aload_n 2 dX7_spellsAll_29 rfl rfl ?_
        refine v_bipush (v := 59) dX7_spellsAll_30 (by first | rfl | decide) ?_
        refine v_callV (c_X7_spells (d + 1) h60 h80 hpo (by first | omega | (simp only [List.length_append, List.length_cons, List.length_nil]; omega))) cs_X7_368 dX7_spellsAll_32 h60 rfl rfl (Nat.le_of_ble_eq_true rfl) ?_
        rintro _ n1 ⟨rfl, s601, ⟨f1, s801, pl1⟩, fr1⟩
        refine v_aload_n 2 dX7_spellsAll_35 rfl rfl ?_
        refine v_iload_n 0 dX7_spellsAll_36 rfl rfl ?_
        rw [hkn]
        refine v_callS (c_X7_letterOf (d + 1) hk7) cs_X7_371 dX7_spellsAll_37 rfl rfl (Nat.le_of_ble_eq_true rfl) ?_
        refine rt_k ?_
        rw [← hkn]
        refine v_callV (c_X7_spells (d + 1) s601 s801 pl1 (by first | omega | (simp only [List.length_append, List.length_cons, List.length_nil]; omega))) cs_X7_368 dX7_spellsAll_40 s601 rfl rfl (Nat.le_of_ble_eq_true rfl) ?_
        rintro _ n2 ⟨rfl, s602, ⟨f2, s802, pl2⟩, fr2⟩
        refine v_iload_n 0 dX7_spellsAll_43 rfl rfl ?_
        refine v_iconst (v := 2) dX7_spellsAll_44 (by first | rfl | decide) ?_
        refine v_icmp_eq (tgt := 58) dX7_spellsAll_45 (by decide) (fun hc45 => ?_) (fun hc45 => ?_)
        ·
          refine v_aload_n 2 dX7_spellsAll_58 rfl rfl ?_
          refine v_aload_n 2 dX7_spellsAll_59 rfl rfl ?_
          refine v_get fl_X7_17 dX7_spellsAll_60 s602 rfl ?_
          refine v_iload_n 1 dX7_spellsAll_63 rfl rfl ?_
          refine v_iald dX7_spellsAll_64 ((fr2 62 (by decide) (by decide)).trans ((fr1 62 (by decide) (by decide)).trans h62)) (nI_in' (by omega)) ?_
          rw [clamp (show j < 2 ^ 31 by omega), ← getD_at hpl (show j < (sP σ).length by omega)]
          refine v_callS (c_X7_angleOf (d + 1) ) cs_X7_114 dX7_spellsAll_65 rfl rfl (Nat.le_of_ble_eq_true rfl) ?_
          refine rt_k ?_
          rw [han]
          refine v_callV (c_X7_spellsNumber d s602 s802 pl2 (by omega) (by first | omega | (simp only [List.length_append, List.length_cons, List.length_nil]; omega))) cs_X7_374 dX7_spellsAll_68 s602 rfl rfl (Nat.le_of_ble_eq_true rfl) ?_
          rintro _ n3 ⟨rfl, s603, ⟨f3, s803, pl3⟩, fr3⟩
          refine v_iload_n 0 dX7_spellsAll_71 rfl rfl ?_
          refine v_iconst (v := 2) dX7_spellsAll_72 (by first | rfl | decide) ?_
          refine v_icmp_eq (tgt := 81) dX7_spellsAll_73 (by decide) (fun hc73 => ?_) (fun hc73 => ?_)
          ·
            refine v_aload_n 2 dX7_spellsAll_81 rfl rfl ?_
            refine v_bipush (v := 44) dX7_spellsAll_82 (by first | rfl | decide) ?_
            refine v_callV (c_X7_spells (d + 1) s603 s803 pl3 (by first | omega | (simp only [List.length_append, List.length_cons, List.length_nil]; omega))) cs_X7_368 dX7_spellsAll_84 s603 rfl rfl (Nat.le_of_ble_eq_true rfl) ?_
            rintro _ n4 ⟨rfl, s604, ⟨f4, s804, pl4⟩, fr4⟩
            refine v_iload_n 0 dX7_spellsAll_87 rfl rfl ?_
            refine v_if_eq (tgt := 109) dX7_spellsAll_88 (by decide) (fun hc88 => ?_) (fun hc88 => ?_)
            · exact absurd (hc45.symm.trans hc88) (by decide)
            ·
              refine v_iload_n 0 dX7_spellsAll_91 rfl rfl ?_
              refine v_iconst (v := 3) dX7_spellsAll_92 (by first | rfl | decide) ?_
              refine v_icmp_eq (tgt := 109) dX7_spellsAll_93 (by decide) (fun hc93 => ?_) (fun hc93 => ?_)
              · exact absurd (hc45.symm.trans hc93) (by decide)
              ·
                refine v_aload_n 2 dX7_spellsAll_96 rfl rfl ?_
                refine v_aload_n 2 dX7_spellsAll_97 rfl rfl ?_
                refine v_get fl_X7_17 dX7_spellsAll_98 s604 rfl ?_
                refine v_iload_n 1 dX7_spellsAll_101 rfl rfl ?_
                refine v_iald dX7_spellsAll_102 ((fr4 62 (by decide) (by decide)).trans ((fr3 62 (by decide) (by decide)).trans ((fr2 62 (by decide) (by decide)).trans ((fr1 62 (by decide) (by decide)).trans h62)))) (nI_in' (by omega)) ?_
                rw [clamp (show j < 2 ^ 31 by omega), ← getD_at hpl (show j < (sP σ).length by omega)]
                refine v_callS (c_X7_figureOf (d + 1) ) cs_X7_105 dX7_spellsAll_103 rfl rfl (Nat.le_of_ble_eq_true rfl) ?_
                refine rt_k ?_
                rw [hfn]
                refine v_callV (c_X7_spellsNumber d s604 s804 pl4 (by omega) (by first | omega | (simp only [List.length_append, List.length_cons, List.length_nil]; omega))) cs_X7_374 dX7_spellsAll_106 s604 rfl rfl (Nat.le_of_ble_eq_true rfl) ?_
                rintro _ n5 ⟨rfl, s605, ⟨f5, s805, pl5⟩, fr5⟩
                refine v_iinc (v := 1) 1 dX7_spellsAll_109 rfl rfl (by decide) (fun z e_z => ?_)
                refine v_ls (ls' := [(1, .int z), (2, .int (kdO ((sP σ).getD j 0))), (0, .ref 60)]) rfl ?_
                rw [nI_1] at e_z
                subst e_z
                refine v_goto (tgt := 7) dX7_spellsAll_112 (by decide) ?_
                have hta := (show ¬ taO (kdO ((sP σ).getD j 0)) = 0 by rw [hc45]; decide)
                have htf := (show ¬ tfO (kdO ((sP σ).getD j 0)) = 0 by rw [hc45]; decide)
                have hfs : filS ((sP σ).getD j 0) = [letS (kdO ((sP σ).getD j 0))] ++ numS a9 ++ [44] ++ numS f9 := by
                  simp only [filS, if_neg hta, if_neg htf, hca, hcf]
                have hj0 : ¬ (sP σ).take j = [] := fun z => by
                  have z2 := congrArg List.length z
                  rw [List.length_take] at z2
                  have z3 : min j (sP σ).length = 0 := z2
                  have : j = 0 := by omega
                  rw [this] at hc26
                  exact hc26 (by decide)
                have hsp : spell ((sP σ).take (j + 1)) = (((((out ++ [59]) ++ [letS (kdO ((sP σ).getD j 0))]) ++ numS a9) ++ [44]) ++ numS f9) := by
                  rw [take_app hj9, spell_s hj0, hfs, hout]
                  simp
                refine v_pick [0, 2] rfl ?_
                refine v_post (ih (j + 1) _ _ _ (by omega) hsp.symm (by first | omega | (simp only [List.length_append, List.length_cons, List.length_nil]; omega)) pl5 s605 s805 ((fr5 62 (by decide) (by decide)).trans ((fr4 62 (by decide) (by decide)).trans ((fr3 62 (by decide) (by decide)).trans ((fr2 62 (by decide) (by decide)).trans ((fr1 62 (by decide) (by decide)).trans h62)))))) ?_
                rintro r9 m9 ⟨q1, q2, q3, q4, q5⟩
                exact ⟨q1, q2, q3, q4, fun i a b => (q5 i a b).trans ((fr5 i a b).trans ((fr4 i a b).trans ((fr3 i a b).trans ((fr2 i a b).trans ((fr1 i a b))))))⟩
                
          · exact absurd hc45 hc73
        ·
          refine v_iload_n 0 dX7_spellsAll_48 rfl rfl ?_
          refine v_iconst (v := 3) dX7_spellsAll_49 (by first | rfl | decide) ?_
          refine v_icmp_eq (tgt := 58) dX7_spellsAll_50 (by decide) (fun hc50 => ?_) (fun hc50 => ?_)
          ·
            refine v_aload_n 2 dX7_spellsAll_58 rfl rfl ?_
            refine v_aload_n 2 dX7_spellsAll_59 rfl rfl ?_
            refine v_get fl_X7_17 dX7_spellsAll_60 s602 rfl ?_
            refine v_iload_n 1 dX7_spellsAll_63 rfl rfl ?_
            refine v_iald dX7_spellsAll_64 ((fr2 62 (by decide) (by decide)).trans ((fr1 62 (by decide) (by decide)).trans h62)) (nI_in' (by omega)) ?_
            rw [clamp (show j < 2 ^ 31 by omega), ← getD_at hpl (show j < (sP σ).length by omega)]
            refine v_callS (c_X7_angleOf (d + 1) ) cs_X7_114 dX7_spellsAll_65 rfl rfl (Nat.le_of_ble_eq_true rfl) ?_
            refine rt_k ?_
            rw [han]
            refine v_callV (c_X7_spellsNumber d s602 s802 pl2 (by omega) (by first | omega | (simp only [List.length_append, List.length_cons, List.length_nil]; omega))) cs_X7_374 dX7_spellsAll_68 s602 rfl rfl (Nat.le_of_ble_eq_true rfl) ?_
            rintro _ n3 ⟨rfl, s603, ⟨f3, s803, pl3⟩, fr3⟩
            refine v_iload_n 0 dX7_spellsAll_71 rfl rfl ?_
            refine v_iconst (v := 2) dX7_spellsAll_72 (by first | rfl | decide) ?_
            refine v_icmp_eq (tgt := 81) dX7_spellsAll_73 (by decide) (fun hc73 => ?_) (fun hc73 => ?_)
            · exact absurd (hc50.symm.trans hc73) (by decide)
            ·
              refine v_iload_n 0 dX7_spellsAll_76 rfl rfl ?_
              refine v_iconst (v := 4) dX7_spellsAll_77 (by first | rfl | decide) ?_
              refine v_icmp_ne (tgt := 87) dX7_spellsAll_78 (by decide) (fun hc78 => ?_) (fun hc78 => ?_)
              ·
                refine v_iload_n 0 dX7_spellsAll_87 rfl rfl ?_
                refine v_if_eq (tgt := 109) dX7_spellsAll_88 (by decide) (fun hc88 => ?_) (fun hc88 => ?_)
                · exact absurd (hc50.symm.trans hc88) (by decide)
                ·
                  refine v_iload_n 0 dX7_spellsAll_91 rfl rfl ?_
                  refine v_iconst (v := 3) dX7_spellsAll_92 (by first | rfl | decide) ?_
                  refine v_icmp_eq (tgt := 109) dX7_spellsAll_93 (by decide) (fun hc93 => ?_) (fun hc93 => ?_)
                  ·
                    refine v_iinc (v := 1) 1 dX7_spellsAll_109 rfl rfl (by decide) (fun z e_z => ?_)
                    refine v_ls (ls' := [(1, .int z), (2, .int (kdO ((sP σ).getD j 0))), (0, .ref 60)]) rfl ?_
                    rw [nI_1] at e_z
                    subst e_z
                    refine v_goto (tgt := 7) dX7_spellsAll_112 (by decide) ?_
                    have hta := (show ¬ taO (kdO ((sP σ).getD j 0)) = 0 by rw [hc50]; decide)
                    have htf := (show tfO (kdO ((sP σ).getD j 0)) = 0 by rw [hc50]; decide)
                    have hfs : filS ((sP σ).getD j 0) = [letS (kdO ((sP σ).getD j 0))] ++ numS a9 ++ [] ++ [] := by
                      simp only [filS, if_neg hta, if_pos htf, hca, hcf]
                    have hj0 : ¬ (sP σ).take j = [] := fun z => by
                      have z2 := congrArg List.length z
                      rw [List.length_take] at z2
                      have z3 : min j (sP σ).length = 0 := z2
                      have : j = 0 := by omega
                      rw [this] at hc26
                      exact hc26 (by decide)
                    have hsp : spell ((sP σ).take (j + 1)) = (((out ++ [59]) ++ [letS (kdO ((sP σ).getD j 0))]) ++ numS a9) := by
                      rw [take_app hj9, spell_s hj0, hfs, hout]
                      simp
                    refine v_pick [0, 2] rfl ?_
                    refine v_post (ih (j + 1) _ _ _ (by omega) hsp.symm (by first | omega | (simp only [List.length_append, List.length_cons, List.length_nil]; omega)) pl3 s603 s803 ((fr3 62 (by decide) (by decide)).trans ((fr2 62 (by decide) (by decide)).trans ((fr1 62 (by decide) (by decide)).trans h62)))) ?_
                    rintro r9 m9 ⟨q1, q2, q3, q4, q5⟩
                    exact ⟨q1, q2, q3, q4, fun i a b => (q5 i a b).trans ((fr3 i a b).trans ((fr2 i a b).trans ((fr1 i a b))))⟩
                    
                  · exact absurd hc50 hc93
              · exact absurd (hc50.symm.trans hc78) (by decide)
          ·
            refine v_iload_n 0 dX7_spellsAll_53 rfl rfl ?_
            refine v_iconst (v := 4) dX7_spellsAll_54 (by first | rfl | decide) ?_
            refine v_icmp_ne (tgt := 71) dX7_spellsAll_55 (by decide) (fun hc55 => ?_) (fun hc55 => ?_)
            ·
              refine v_iload_n 0 dX7_spellsAll_71 rfl rfl ?_
              refine v_iconst (v := 2) dX7_spellsAll_72 (by first | rfl | decide) ?_
              refine v_icmp_eq (tgt := 81) dX7_spellsAll_73 (by decide) (fun hc73 => ?_) (fun hc73 => ?_)
              · exact absurd hc73 hc45
              ·
                refine v_iload_n 0 dX7_spellsAll_76 rfl rfl ?_
                refine v_iconst (v := 4) dX7_spellsAll_77 (by first | rfl | decide) ?_
                refine v_icmp_ne (tgt := 87) dX7_spellsAll_78 (by decide) (fun hc78 => ?_) (fun hc78 => ?_)
                ·
                  refine v_iload_n 0 dX7_spellsAll_87 rfl rfl ?_
                  refine v_if_eq (tgt := 109) dX7_spellsAll_88 (by decide) (fun hc88 => ?_) (fun hc88 => ?_)
                  ·
                    refine v_iinc (v := 1) 1 dX7_spellsAll_109 rfl rfl (by decide) (fun z e_z => ?_)
                    refine v_ls (ls' := [(1, .int z), (2, .int (kdO ((sP σ).getD j 0))), (0, .ref 60)]) rfl ?_
                    rw [nI_1] at e_z
                    subst e_z
                    refine v_goto (tgt := 7) dX7_spellsAll_112 (by decide) ?_
                    have hta := (show taO (kdO ((sP σ).getD j 0)) = 0 by simp only [taO, if_neg hc45, if_neg hc50, if_neg hc55])
                    have htf := (show tfO (kdO ((sP σ).getD j 0)) = 0 by rw [hc88]; decide)
                    have hfs : filS ((sP σ).getD j 0) = [letS (kdO ((sP σ).getD j 0))] ++ [] ++ [] ++ [] := by
                      simp only [filS, if_pos hta, if_pos htf, hca, hcf]
                    have hj0 : ¬ (sP σ).take j = [] := fun z => by
                      have z2 := congrArg List.length z
                      rw [List.length_take] at z2
                      have z3 : min j (sP σ).length = 0 := z2
                      have : j = 0 := by omega
                      rw [this] at hc26
                      exact hc26 (by decide)
                    have hsp : spell ((sP σ).take (j + 1)) = ((out ++ [59]) ++ [letS (kdO ((sP σ).getD j 0))]) := by
                      rw [take_app hj9, spell_s hj0, hfs, hout]
                      simp
                    refine v_pick [0, 2] rfl ?_
                    refine v_post (ih (j + 1) _ _ _ (by omega) hsp.symm (by first | omega | (simp only [List.length_append, List.length_cons, List.length_nil]; omega)) pl2 s602 s802 ((fr2 62 (by decide) (by decide)).trans ((fr1 62 (by decide) (by decide)).trans h62))) ?_
                    rintro r9 m9 ⟨q1, q2, q3, q4, q5⟩
                    exact ⟨q1, q2, q3, q4, fun i a b => (q5 i a b).trans ((fr2 i a b).trans ((fr1 i a b)))⟩
                    
                  ·
                    refine v_iload_n 0 dX7_spellsAll_91 rfl rfl ?_
                    refine v_iconst (v := 3) dX7_spellsAll_92 (by first | rfl | decide) ?_
                    refine v_icmp_eq (tgt := 109) dX7_spellsAll_93 (by decide) (fun hc93 => ?_) (fun hc93 => ?_)
                    · exact absurd hc93 hc50
                    ·
                      refine v_aload_n 2 dX7_spellsAll_96 rfl rfl ?_
                      refine v_aload_n 2 dX7_spellsAll_97 rfl rfl ?_
                      refine v_get fl_X7_17 dX7_spellsAll_98 s602 rfl ?_
                      refine v_iload_n 1 dX7_spellsAll_101 rfl rfl ?_
                      refine v_iald dX7_spellsAll_102 ((fr2 62 (by decide) (by decide)).trans ((fr1 62 (by decide) (by decide)).trans h62)) (nI_in' (by omega)) ?_
                      rw [clamp (show j < 2 ^ 31 by omega), ← getD_at hpl (show j < (sP σ).length by omega)]
                      refine v_callS (c_X7_figureOf (d + 1) ) cs_X7_105 dX7_spellsAll_103 rfl rfl (Nat.le_of_ble_eq_true rfl) ?_
                      refine rt_k ?_
                      rw [hfn]
                      refine v_callV (c_X7_spellsNumber d s602 s802 pl2 (by omega) (by first | omega | (simp only [List.length_append, List.length_cons, List.length_nil]; omega))) cs_X7_374 dX7_spellsAll_106 s602 rfl rfl (Nat.le_of_ble_eq_true rfl) ?_
                      rintro _ n3 ⟨rfl, s603, ⟨f3, s803, pl3⟩, fr3⟩
                      refine v_iinc (v := 1) 1 dX7_spellsAll_109 rfl rfl (by decide) (fun z e_z => ?_)
                      refine v_ls (ls' := [(1, .int z), (2, .int (kdO ((sP σ).getD j 0))), (0, .ref 60)]) rfl ?_
                      rw [nI_1] at e_z
                      subst e_z
                      refine v_goto (tgt := 7) dX7_spellsAll_112 (by decide) ?_
                      have hta := (show taO (kdO ((sP σ).getD j 0)) = 0 by simp only [taO, if_neg hc45, if_neg hc50, if_neg hc55])
                      have htf := (show ¬ tfO (kdO ((sP σ).getD j 0)) = 0 by simp only [tfO, if_neg hc88, if_neg hc50]; decide)
                      have hfs : filS ((sP σ).getD j 0) = [letS (kdO ((sP σ).getD j 0))] ++ [] ++ [] ++ numS f9 := by
                        simp only [filS, if_pos hta, if_neg htf, hca, hcf]
                      have hj0 : ¬ (sP σ).take j = [] := fun z => by
                        have z2 := congrArg List.length z
                        rw [List.length_take] at z2
                        have z3 : min j (sP σ).length = 0 := z2
                        have : j = 0 := by omega
                        rw [this] at hc26
                        exact hc26 (by decide)
                      have hsp : spell ((sP σ).take (j + 1)) = (((out ++ [59]) ++ [letS (kdO ((sP σ).getD j 0))]) ++ numS f9) := by
                        rw [take_app hj9, spell_s hj0, hfs, hout]
                        simp
                      refine v_pick [0, 2] rfl ?_
                      refine v_post (ih (j + 1) _ _ _ (by omega) hsp.symm (by first | omega | (simp only [List.length_append, List.length_cons, List.length_nil]; omega)) pl3 s603 s803 ((fr3 62 (by decide) (by decide)).trans ((fr2 62 (by decide) (by decide)).trans ((fr1 62 (by decide) (by decide)).trans h62)))) ?_
                      rintro r9 m9 ⟨q1, q2, q3, q4, q5⟩
                      exact ⟨q1, q2, q3, q4, fun i a b => (q5 i a b).trans ((fr3 i a b).trans ((fr2 i a b).trans ((fr1 i a b))))⟩
                      
                · exact absurd hc78 hc55
            ·
              refine v_aload_n 2 dX7_spellsAll_58 rfl rfl ?_
              refine v_aload_n 2 dX7_spellsAll_59 rfl rfl ?_
              refine v_get fl_X7_17 dX7_spellsAll_60 s602 rfl ?_
              refine v_iload_n 1 dX7_spellsAll_63 rfl rfl ?_
              refine v_iald dX7_spellsAll_64 ((fr2 62 (by decide) (by decide)).trans ((fr1 62 (by decide) (by decide)).trans h62)) (nI_in' (by omega)) ?_
              rw [clamp (show j < 2 ^ 31 by omega), ← getD_at hpl (show j < (sP σ).length by omega)]
              refine v_callS (c_X7_angleOf (d + 1) ) cs_X7_114 dX7_spellsAll_65 rfl rfl (Nat.le_of_ble_eq_true rfl) ?_
              refine rt_k ?_
              rw [han]
              refine v_callV (c_X7_spellsNumber d s602 s802 pl2 (by omega) (by first | omega | (simp only [List.length_append, List.length_cons, List.length_nil]; omega))) cs_X7_374 dX7_spellsAll_68 s602 rfl rfl (Nat.le_of_ble_eq_true rfl) ?_
              rintro _ n3 ⟨rfl, s603, ⟨f3, s803, pl3⟩, fr3⟩
              refine v_iload_n 0 dX7_spellsAll_71 rfl rfl ?_
              refine v_iconst (v := 2) dX7_spellsAll_72 (by first | rfl | decide) ?_
              refine v_icmp_eq (tgt := 81) dX7_spellsAll_73 (by decide) (fun hc73 => ?_) (fun hc73 => ?_)
              · exact absurd (hc55.symm.trans hc73) (by decide)
              ·
                refine v_iload_n 0 dX7_spellsAll_76 rfl rfl ?_
                refine v_iconst (v := 4) dX7_spellsAll_77 (by first | rfl | decide) ?_
                refine v_icmp_ne (tgt := 87) dX7_spellsAll_78 (by decide) (fun hc78 => ?_) (fun hc78 => ?_)
                · exact absurd hc55 hc78
                ·
                  refine v_aload_n 2 dX7_spellsAll_81 rfl rfl ?_
                  refine v_bipush (v := 44) dX7_spellsAll_82 (by first | rfl | decide) ?_
                  refine v_callV (c_X7_spells (d + 1) s603 s803 pl3 (by first | omega | (simp only [List.length_append, List.length_cons, List.length_nil]; omega))) cs_X7_368 dX7_spellsAll_84 s603 rfl rfl (Nat.le_of_ble_eq_true rfl) ?_
                  rintro _ n4 ⟨rfl, s604, ⟨f4, s804, pl4⟩, fr4⟩
                  refine v_iload_n 0 dX7_spellsAll_87 rfl rfl ?_
                  refine v_if_eq (tgt := 109) dX7_spellsAll_88 (by decide) (fun hc88 => ?_) (fun hc88 => ?_)
                  · exact absurd (hc55.symm.trans hc88) (by decide)
                  ·
                    refine v_iload_n 0 dX7_spellsAll_91 rfl rfl ?_
                    refine v_iconst (v := 3) dX7_spellsAll_92 (by first | rfl | decide) ?_
                    refine v_icmp_eq (tgt := 109) dX7_spellsAll_93 (by decide) (fun hc93 => ?_) (fun hc93 => ?_)
                    · exact absurd (hc55.symm.trans hc93) (by decide)
                    ·
                      refine v_aload_n 2 dX7_spellsAll_96 rfl rfl ?_
                      refine v_aload_n 2 dX7_spellsAll_97 rfl rfl ?_
                      refine v_get fl_X7_17 dX7_spellsAll_98 s604 rfl ?_
                      refine v_iload_n 1 dX7_spellsAll_101 rfl rfl ?_
                      refine v_iald dX7_spellsAll_102 ((fr4 62 (by decide) (by decide)).trans ((fr3 62 (by decide) (by decide)).trans ((fr2 62 (by decide) (by decide)).trans ((fr1 62 (by decide) (by decide)).trans h62)))) (nI_in' (by omega)) ?_
                      rw [clamp (show j < 2 ^ 31 by omega), ← getD_at hpl (show j < (sP σ).length by omega)]
                      refine v_callS (c_X7_figureOf (d + 1) ) cs_X7_105 dX7_spellsAll_103 rfl rfl (Nat.le_of_ble_eq_true rfl) ?_
                      refine rt_k ?_
                      rw [hfn]
                      refine v_callV (c_X7_spellsNumber d s604 s804 pl4 (by omega) (by first | omega | (simp only [List.length_append, List.length_cons, List.length_nil]; omega))) cs_X7_374 dX7_spellsAll_106 s604 rfl rfl (Nat.le_of_ble_eq_true rfl) ?_
                      rintro _ n5 ⟨rfl, s605, ⟨f5, s805, pl5⟩, fr5⟩
                      refine v_iinc (v := 1) 1 dX7_spellsAll_109 rfl rfl (by decide) (fun z e_z => ?_)
                      refine v_ls (ls' := [(1, .int z), (2, .int (kdO ((sP σ).getD j 0))), (0, .ref 60)]) rfl ?_
                      rw [nI_1] at e_z
                      subst e_z
                      refine v_goto (tgt := 7) dX7_spellsAll_112 (by decide) ?_
                      have hta := (show ¬ taO (kdO ((sP σ).getD j 0)) = 0 by rw [hc55]; decide)
                      have htf := (show ¬ tfO (kdO ((sP σ).getD j 0)) = 0 by rw [hc55]; decide)
                      have hfs : filS ((sP σ).getD j 0) = [letS (kdO ((sP σ).getD j 0))] ++ numS a9 ++ [44] ++ numS f9 := by
                        simp only [filS, if_neg hta, if_neg htf, hca, hcf]
                      have hj0 : ¬ (sP σ).take j = [] := fun z => by
                        have z2 := congrArg List.length z
                        rw [List.length_take] at z2
                        have z3 : min j (sP σ).length = 0 := z2
                        have : j = 0 := by omega
                        rw [this] at hc26
                        exact hc26 (by decide)
                      have hsp : spell ((sP σ).take (j + 1)) = (((((out ++ [59]) ++ [letS (kdO ((sP σ).getD j 0))]) ++ numS a9) ++ [44]) ++ numS f9) := by
                        rw [take_app hj9, spell_s hj0, hfs, hout]
                        simp
                      refine v_pick [0, 2] rfl ?_
                      refine v_post (ih (j + 1) _ _ _ (by omega) hsp.symm (by first | omega | (simp only [List.length_append, List.length_cons, List.length_nil]; omega)) pl5 s605 s805 ((fr5 62 (by decide) (by decide)).trans ((fr4 62 (by decide) (by decide)).trans ((fr3 62 (by decide) (by decide)).trans ((fr2 62 (by decide) (by decide)).trans ((fr1 62 (by decide) (by decide)).trans h62)))))) ?_
                      rintro r9 m9 ⟨q1, q2, q3, q4, q5⟩
                      exact ⟨q1, q2, q3, q4, fun i a b => (q5 i a b).trans ((fr5 i a b).trans ((fr4 i a b).trans ((fr3 i a b).trans ((fr2 i a b).trans ((fr1 i a b))))))⟩
                      

set_option maxRecDepth 20000 in
set_option maxHeartbeats 4000000 in
theorem c_X7_spellsAll {G : Cx} (d : Nat) {μ : Hp} {σ : ST} {p f : Nat → Int32} {un lr mr hr le at9 fa op tr sg hm hi : Int32} {co wh : Int64} (hw : Wp (sP σ)) (hpl : Pl (sP σ) p) (h60 : μ 60 = some (modC (nI (sP σ).length) co wh un lr mr hr le at9 fa op tr sg hm hi)) (h62 : μ 62 = some (arI 8 p)) (h80 : μ 80 = some (arI 48 f)) : Ct G (d + 2) 0 0 M_X7_spellsAll [.ref 60] μ (fun r μ' => r = none ∧ μ' 60 = some (modC (nI (sP σ).length) co wh un lr mr hr le at9 fa op tr (nI (spell (sP σ)).length) hm hi) ∧ (∃ f, μ' 80 = some (arI 48 f) ∧ Pl (spell (sP σ)) f) ∧ (spell (sP σ)).length ≤ 48 ∧ ∀ i, i ≠ 60 → i ≠ 80 → μ' i = μ i) := by
  refine Ct.ofV (by decide +kernel) (Nat.le_of_ble_eq_true rfl) ?_
  refine v_ls (ls' := [(0, .ref 60)]) rfl ?_
  refine v_aload_n 0 dX7_spellsAll_0 rfl rfl ?_
  refine v_iconst (v := 0) dX7_spellsAll_1 (by first | rfl | decide) ?_
  refine v_put fp_X7_365 dX7_spellsAll_2 h60 (Nat.le_of_ble_eq_true rfl) (by first | rfl | decide) (by first | rfl | decide) ?_
  refine v_iconst (v := 0) dX7_spellsAll_5 (by first | rfl | decide) ?_
  refine v_istore_n dX7_spellsAll_6 rfl (by decide) (fun y1 e_y1 => ?_)
  refine v_ls (ls' := [(1, .int y1), (0, .ref 60)]) rfl ?_
  subst e_y1
  refine v_post (spl_loop d hw hpl (sP σ).length 0 [] f _ (by omega) rfl (Nat.zero_le _) (fun j hj => absurd hj (Nat.not_lt_zero j)) (up_s _ _ _) (up_n (by decide) h80) (up_n (by decide) h62)) ?_
  rintro r9 m9 ⟨q1, q2, q3, q4, q5⟩
  exact ⟨q1, q2, q3, q4, fun i a b => (q5 i a b).trans (up_n a rfl)⟩
  

theorem in_sub {x : Int32} {n : Nat} (hn : n + 1 < 2 ^ 31) : frO x.toInt64 0 (nI n - 1).toInt64 = inO x (nI n) := by
  cases n with
  | zero =>
    have h1 : (nI 0 - 1).toInt64 = -1 := by decide
    rw [h1]
    unfold frO inO
    by_cases q : x < 0
    · rw [if_pos q, if_pos ((w_lt0 x).mpr q)]
    · have h0 : nI 0 ≤ x := Int32.not_lt.mp q
      have h2 : ¬ x.toInt64 < 0 := fun z => q ((w_lt0 x).mp z)
      have h3 : (-1 : Int64) < x.toInt64 := by
        have := Int64.not_lt.mp h2
        rw [Int64.le_iff_toInt_le] at this
        rw [Int64.lt_iff_toInt_lt]
        rw [show (0 : Int64).toInt = 0 from rfl] at this
        rw [show (-1 : Int64).toInt = -1 from rfl]
        omega
      rw [if_neg q, if_pos h0, if_neg h2]
      first
        | rw [if_neg (Int64.not_le.mpr h3)]
        | rw [if_pos h3]
  | succ n =>
    rw [nI_sub1 (by omega)]
    exact fr_in x n (by omega)
set_option maxRecDepth 20000 in
set_option maxHeartbeats 4000000 in
theorem c_X7_spelled {G : Cx} (d : Nat) {μ : Hp} {σ : ST} {w : Int32} (h : Mo σ μ) (hw : Wp (sP σ)) : Ct G (d + 3) 0 0 M_X7_spelled [.ref 60, .int w] μ (Pm (σ) (.int (rSpelled σ w)) μ) := by
  refine Ct.ofV (by decide +kernel) (Nat.le_of_ble_eq_true rfl) ?_
  refine v_ls (ls' := [(0, .ref 60), (1, .int w)]) rfl ?_
  obtain ⟨co, wh, un, lr, mr, hr, at9, fa, op, sg, hm, p, tt, ro, og, tc, op9, sp, nw, se, le, mo, ot, h60, h61, h62, h63, h64, h65, h66, h67, h68, h69, h70, h71, h72, h73, h74, h75, h76, h77, h78, h79, h80, hmk, hpl, htp, ht60⟩ := id h
  have hl8 := hw.1
  refine v_aload_n 0 dX7_spelled_0 rfl rfl ?_
  refine v_callV (c_X7_spellsAll d hw hpl h60 h62 h80) cs_X7_377 dX7_spelled_1 h60 rfl rfl (Nat.le_of_ble_eq_true rfl) ?_
  rintro _ m2 ⟨rfl, g60, ⟨f2, g80, pl2⟩, hle, fr2⟩
  have hMo : Mo σ m2 := ⟨co, wh, un, lr, mr, hr, at9, fa, op, _, hm, p, tt, ro, og, tc, op9, f2, nw, se, le, mo, ot, g60, ((fr2 61 (by decide) (by decide)).trans h61), ((fr2 62 (by decide) (by decide)).trans h62), ((fr2 63 (by decide) (by decide)).trans h63), ((fr2 64 (by decide) (by decide)).trans h64), ((fr2 65 (by decide) (by decide)).trans h65), ((fr2 66 (by decide) (by decide)).trans h66), ((fr2 67 (by decide) (by decide)).trans h67), ((fr2 68 (by decide) (by decide)).trans h68), ((fr2 69 (by decide) (by decide)).trans h69), ((fr2 70 (by decide) (by decide)).trans h70), ((fr2 71 (by decide) (by decide)).trans h71), ((fr2 72 (by decide) (by decide)).trans h72), ((fr2 73 (by decide) (by decide)).trans h73), ((fr2 74 (by decide) (by decide)).trans h74), ((fr2 75 (by decide) (by decide)).trans h75), ((fr2 76 (by decide) (by decide)).trans h76), ((fr2 77 (by decide) (by decide)).trans h77), ((fr2 78 (by decide) (by decide)).trans h78), ((fr2 79 (by decide) (by decide)).trans h79), g80, (hmk.kept (fun i a b => fr2 i (by omega) (by omega))), hpl, htp, ht60⟩
  have hFp : Fp m2 μ := fun i hi => fr2 i (by omega) (by omega)
  refine v_iload_n 1 dX7_spelled_4 rfl rfl ?_
  refine v_iconst (v := -1) dX7_spelled_5 (by first | rfl | decide) ?_
  refine v_icmp_ne (tgt := 16) dX7_spelled_6 (by decide) (fun hc6 => ?_) (fun hc6 => ?_)
  ·
    refine v_iload_n 1 dX7_spelled_16 rfl rfl ?_
    refine v_i2l dX7_spelled_17 ?_
    refine v_lconst (v := 0) dX7_spelled_18 (by first | rfl | decide) ?_
    refine v_aload_n 0 dX7_spelled_19 rfl rfl ?_
    refine v_get fl_X7_365 dX7_spelled_20 g60 rfl ?_
    refine v_iconst (v := 1) dX7_spelled_23 (by first | rfl | decide) ?_
    refine v_isub dX7_spelled_24 ?_
    refine v_i2l dX7_spelled_25 ?_
    refine v_callS (c_X7_in (d + 2)) cs_X7_95 dX7_spelled_26 rfl rfl (Nat.le_of_ble_eq_true rfl) ?_
    refine rt_k ?_
    rw [in_sub (by omega)]
    refine v_if_eq (tgt := 41) dX7_spelled_29 (by decide) (fun hc29 => ?_) (fun hc29 => ?_)
    ·
      refine v_iconst (v := -1) dX7_spelled_41 (by first | rfl | decide) ?_
      refine v_iret dX7_spelled_42 rfl (by first | rfl | decide | exact nar_b (by first | assumption | rfl)) ?_
      have hE : rSpelled σ w = -1 := by simp only [rSpelled, if_neg hc6, if_pos hc29]
      rw [hE]
      exact ⟨rfl, hMo, hFp⟩
    ·
      refine v_aload_n 0 dX7_spelled_32 rfl rfl ?_
      refine v_get fl_X7_73 dX7_spelled_33 g60 rfl ?_
      refine v_iload_n 1 dX7_spelled_36 rfl rfl ?_
      refine v_iald dX7_spelled_37 g80 (by obtain ⟨k, hk, rfl⟩ := in_ix (by omega) hc29; exact nI_in' (by omega)) ?_
      refine v_goto (tgt := 42) dX7_spelled_38 (by decide) ?_
      refine v_iret dX7_spelled_42 rfl (by first | rfl | decide | exact nar_b (by first | assumption | rfl)) ?_
      have hE : rSpelled σ w = f2 w.toNatClampNeg := by
        simp only [rSpelled, if_neg hc6, if_neg hc29]
        obtain ⟨k, hk, rfl⟩ := in_ix (by omega) hc29
        rw [clamp (by omega)]
        exact getD_at pl2 hk
      rw [hE]
      exact ⟨rfl, hMo, hFp⟩
  ·
    refine v_aload_n 0 dX7_spelled_9 rfl rfl ?_
    refine v_get fl_X7_365 dX7_spelled_10 g60 rfl ?_
    refine v_goto (tgt := 42) dX7_spelled_13 (by decide) ?_
    refine v_iret dX7_spelled_42 rfl (by first | rfl | decide | exact nar_b (by first | assumption | rfl)) ?_
    have hE : rSpelled σ w = nI (spell (sP σ)).length := by simp only [rSpelled, if_pos hc6]
    rw [hE]
    exact ⟨rfl, hMo, hFp⟩

