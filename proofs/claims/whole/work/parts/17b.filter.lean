theorem nx_lt {tp : List Int32} {k : Nat} (h : ¬ nxP tp k = 0) : k < tp.length := by
  apply Nat.lt_of_not_le
  intro q
  apply h
  rw [nxP, List.getD_eq_getElem?_getD, List.getElem?_eq_none q]
  rfl
theorem fig_lt {tp : List Int32} {k : Nat} {m : Int32} (h : ¬ figP tp k m < 0) : k < tp.length := by
  apply nx_lt
  intro q
  apply h
  rw [figP, q, if_pos (by decide)]
  decide
theorem fig_ge {tp : List Int32} {k : Nat} {m : Int32} (h : figP tp k m < 0) : figP tp k m = -1 := by
  unfold figP at h ⊢
  split
  · rfl
  · rename_i q1
    split
    · rename_i q2
      rw [if_neg q1, if_pos q2] at h
      exact absurd h q1
    · rfl
set_option maxRecDepth 20000 in
set_option maxHeartbeats 4000000 in
theorem c_X4_takeNumber {G : Cx} (d : Nat) {μ : Hp} {tp : List Int32} {t : Nat → Int32} {k : Nat} {p f : Int32} (h25 : μ 25 = some (redC (nI tp.length) (nI k) p f)) (h26 : μ 26 = some (arI 60 t)) (hp : Pl tp t) (h60 : tp.length ≤ 60) (hk : k ≤ tp.length) : Ct G (d + 2) 0 0 M_X4_takeNumber [.ref 25] μ (Rt (some (.int (numP tp k).1)) (up μ 25 (redC (nI tp.length) (nI (numP tp k).2) p f))) := by
  refine Ct.ofV (by decide +kernel) (Nat.le_of_ble_eq_true rfl) ?_
  refine v_ls (ls' := [(0, .ref 25)]) rfl ?_
  refine v_aload_n 0 dX4_takeNumber_0 rfl rfl ?_
  refine v_bipush (v := 9) dX4_takeNumber_1 (by first | rfl | decide) ?_
  refine v_callV (c_X4_takeFigure d h25 h26 hp h60 (by omega)) cs_X4_64 dX4_takeNumber_3 h25 rfl rfl (Nat.le_of_ble_eq_true rfl) ?_
  refine rt_k ?_
  refine v_istore_n dX4_takeNumber_6 rfl (by decide) (fun x1_1 e_x1_1 => ?_)
  refine v_ls (ls' := [(1, .int x1_1), (0, .ref 25)]) rfl ?_
  subst e_x1_1
  refine v_iload_n 0 dX4_takeNumber_7 rfl rfl ?_
  refine v_if_ge (tgt := 13) dX4_takeNumber_8 (by decide) (fun hc8 => ?_) (fun hc8 => ?_)
  ·
    have hq : ¬ figP tp k 9 < 0 := Int32.not_lt.mpr hc8
    have hkl := fig_lt hq
    rw [if_neg hq]
    refine v_aload_n 1 dX4_takeNumber_13 rfl rfl ?_
    refine v_callV (c_X4_next (d + 1) (up_s _ _ _) (up_n (by decide) h26) hp h60 (by omega)) cs_X4_38 dX4_takeNumber_14 (up_s _ _ _) rfl rfl (Nat.le_of_ble_eq_true rfl) ?_
    refine rt_k ?_
    refine v_bipush (v := 48) dX4_takeNumber_17 (by first | rfl | decide) ?_
    refine v_isub dX4_takeNumber_19 ?_
    refine v_istore_n dX4_takeNumber_20 rfl (by decide) (fun x2_1 e_x2_1 => ?_)
    refine v_ls (ls' := [(2, .int x2_1), (1, _), (0, .ref 25)]) rfl ?_
    subst e_x2_1
    refine v_iload_n 0 dX4_takeNumber_21 rfl rfl ?_
    refine v_if_lt (tgt := 31) dX4_takeNumber_22 (by decide) (fun hc22 => ?_) (fun hc22 => ?_)
    ·
      refine v_iload_n 1 dX4_takeNumber_31 rfl rfl ?_
      refine v_iret dX4_takeNumber_32 rfl (by first | rfl | decide | exact nar_b (by first | assumption | rfl)) ?_
      have h2 : figP tp (k + 1) 9 = -1 := by simp only [figP, if_pos hc8, if_neg (Int32.not_lt.mpr hc8), if_pos hc22, if_neg (Int32.not_le.mpr hc22)]
      have h1 : numP tp k = (figP tp k 9, k + 1) := by simp only [numP, if_neg hq, h2]; rfl
      exact ⟨by rw [h1], by rw [h1]⟩
    ·
      refine v_iload_n 0 dX4_takeNumber_25 rfl rfl ?_
      refine v_bipush (v := 9) dX4_takeNumber_26 (by first | rfl | decide) ?_
      refine v_icmp_le (tgt := 33) dX4_takeNumber_28 (by decide) (fun hc28 => ?_) (fun hc28 => ?_)
      ·
        have h2 : figP tp (k + 1) 9 = nxP tp (k + 1) - 48 := by simp only [figP, if_neg hc22, if_pos hc28]
        have h3 : ¬ figP tp (k + 1) 9 < 0 := by rw [h2]; exact hc22
        rw [← h2]
        refine v_bipush (v := 10) dX4_takeNumber_33 (by first | rfl | decide) ?_
        refine v_iload_n 1 dX4_takeNumber_35 rfl rfl ?_
        refine v_imul dX4_takeNumber_36 ?_
        refine v_iload_n 0 dX4_takeNumber_37 rfl rfl ?_
        refine v_iadd dX4_takeNumber_38 ?_
        refine v_callSN (c_X6_isFigure (d + 1) ) cs_X4_88 dX4_takeNumber_39 rfl rfl (Nat.le_of_ble_eq_true rfl) ?_
        refine rt_k ?_
        refine v_if_ne (tgt := 47) dX4_takeNumber_42 (by decide) (fun hc42 => ?_) (fun hc42 => ?_)
        ·
          refine v_aload_n 2 dX4_takeNumber_47 rfl rfl ?_
          refine v_dup dX4_takeNumber_48 rfl ?_
          refine v_get fl_X4_21 dX4_takeNumber_49 (up_s _ _ _) rfl ?_
          refine v_iconst (v := 1) dX4_takeNumber_52 (by first | rfl | decide) ?_
          refine v_iadd dX4_takeNumber_53 ?_
          refine v_put fp_X4_21 dX4_takeNumber_54 (up_s _ _ _) (Nat.le_of_ble_eq_true rfl) (by first | rfl | decide) (by first | rfl | decide) ?_
          refine v_hp (up_up _ _ _ _) ?_
          refine v_bipush (v := 10) dX4_takeNumber_57 (by first | rfl | decide) ?_
          refine v_iload_n 1 dX4_takeNumber_59 rfl rfl ?_
          refine v_imul dX4_takeNumber_60 ?_
          refine v_iload_n 0 dX4_takeNumber_61 rfl rfl ?_
          refine v_iadd dX4_takeNumber_62 ?_
          refine v_iret dX4_takeNumber_63 rfl (by first | rfl | decide | exact nar_b (by first | assumption | rfl)) ?_
          have h1 : numP tp k = (10 * figP tp k 9 + figP tp (k + 1) 9, k + 2) := by simp only [numP, if_neg hq, if_neg h3, if_neg hc42]
          exact ⟨by rw [h1], by rw [h1, nI_1]; rfl⟩
        ·
          refine v_iconst (v := -1) dX4_takeNumber_45 (by first | rfl | decide) ?_
          refine v_iret dX4_takeNumber_46 rfl (by first | rfl | decide | exact nar_b (by first | assumption | rfl)) ?_
          have h1 : numP tp k = (-1, k + 1) := by simp only [numP, if_neg hq, if_neg h3, if_pos hc42]
          exact ⟨by rw [h1], by rw [h1]⟩
      ·
        refine v_iload_n 1 dX4_takeNumber_31 rfl rfl ?_
        refine v_iret dX4_takeNumber_32 rfl (by first | rfl | decide | exact nar_b (by first | assumption | rfl)) ?_
        have h2 : figP tp (k + 1) 9 = -1 := by simp only [figP, if_pos hc8, if_neg (Int32.not_lt.mpr hc8), if_neg hc22, if_pos (Int32.not_lt.mp hc22), if_neg hc28, if_pos (Int32.not_le.mp hc28)]
        have h1 : numP tp k = (figP tp k 9, k + 1) := by simp only [numP, if_neg hq, h2]; rfl
        exact ⟨by rw [h1], by rw [h1]⟩
  ·
    refine v_iconst (v := -1) dX4_takeNumber_11 (by first | rfl | decide) ?_
    refine v_iret dX4_takeNumber_12 rfl (by first | rfl | decide | exact nar_b (by first | assumption | rfl)) ?_
    have hq : figP tp k 9 < 0 := Int32.not_le.mp hc8
    have h1 : numP tp k = (-1, k) := by simp only [numP, if_pos hq]
    exact ⟨by rw [h1], by rw [h1, if_pos hq]⟩

/-- the reader stands at s -/
def Rd (tp : List Int32) (s : PS) (μ : Hp) : Prop := ∃ t ops cd : Nat → Int32, μ 25 = some (redC (nI tp.length) (nI s.1) (nI s.2.1.length) (nI s.2.2.length)) ∧ μ 26 = some (arI 60 t) ∧ μ 27 = some (arI 3 ops) ∧ μ 28 = some (arI 8 cd) ∧ Pl tp t ∧ tp.length ≤ 60 ∧ s.1 ≤ tp.length ∧ (∀ j, j < s.2.1.length → ops j = nI (s.2.1.getD j 0)) ∧ C8 s.2.2 cd
def RP (tp : List Int32) (x : Bool × PS) (μ : Hp) : Option Value → Hp → Prop := fun r μ' => r = some (.int (if x.1 = true then 1 else 0)) ∧ Rd tp x.2 μ' ∧ ∀ i, i < 25 ∨ 28 < i → μ' i = μ i
theorem num_le {tp : List Int32} {k : Nat} (h : k ≤ tp.length) : (numP tp k).2 ≤ tp.length ∧ k ≤ (numP tp k).2 := by
  unfold numP
  split
  · exact ⟨h, Nat.le_refl _⟩
  · rename_i q
    have := fig_lt q
    split
    · exact ⟨this, Nat.le_succ _⟩
    · rename_i q2
      have := fig_lt q2
      split
      · exact ⟨by show k + 1 ≤ _; omega, Nat.le_succ _⟩
      · exact ⟨this, by show k ≤ k + 2; omega⟩
set_option maxRecDepth 20000 in
set_option maxHeartbeats 4000000 in
theorem c_X4_readsFilter {G : Cx} (d : Nat) {μ : Hp} {tp : List Int32} {s : PS} {kind : Int32} (hr : Rd tp s μ) (hs : s.2.2.length < 2 ^ 20) : Ct G (d + 3) 0 0 M_X4_readsFilter [.ref 25, .int kind] μ (RP tp (filP tp kind s) μ) := by
  refine Ct.ofV (by decide +kernel) (Nat.le_of_ble_eq_true rfl) ?_
  refine v_ls (ls' := [(0, .ref 25), (1, .int kind)]) rfl ?_
  obtain ⟨t, ops, cd, h25, h26, h27, h28, hp, h60, hkl, hop, h8⟩ := hr
  refine v_iconst (v := 0) dX4_readsFilter_0 (by first | rfl | decide) ?_
  refine v_istore_n dX4_readsFilter_1 rfl (by decide) (fun x2_1 e_x2_1 => ?_)
  refine v_ls (ls' := [(2, .int x2_1), (0, .ref 25), (1, .int kind)]) rfl ?_
  subst e_x2_1
  refine v_iconst (v := 0) dX4_readsFilter_2 (by first | rfl | decide) ?_
  refine v_istore_n dX4_readsFilter_3 rfl (by decide) (fun x3_1 e_x3_1 => ?_)
  refine v_ls (ls' := [(3, .int x3_1), (2, .int (0)), (0, .ref 25), (1, .int kind)]) rfl ?_
  subst e_x3_1
  refine v_iload_n 3 dX4_readsFilter_4 rfl rfl ?_
  refine v_callSN (c_X6_tellsAngle (d + 2) ) cs_X4_75 dX4_readsFilter_5 rfl rfl (Nat.le_of_ble_eq_true rfl) ?_
  refine rt_k ?_
  refine v_if_eq (tgt := 23) dX4_readsFilter_8 (by decide) (fun hc8 => ?_) (fun hc8 => ?_)
  ·
    refine v_iload_n 3 dX4_readsFilter_23 rfl rfl ?_
    refine v_callSN (c_X6_tellsAngle (d + 2) ) cs_X4_75 dX4_readsFilter_24 rfl rfl (Nat.le_of_ble_eq_true rfl) ?_
    refine rt_k ?_
    refine v_if_eq (tgt := 48) dX4_readsFilter_27 (by decide) (fun hd27 => ?_) (fun hd27 => ?_)
    ·
      refine v_iload_n 3 dX4_readsFilter_48 rfl rfl ?_
      refine v_callSN (c_X6_tellsFigure (d + 2) ) cs_X4_78 dX4_readsFilter_49 rfl rfl (Nat.le_of_ble_eq_true rfl) ?_
      refine rt_k ?_
      refine v_if_eq (tgt := 66) dX4_readsFilter_52 (by decide) (fun hc52 => ?_) (fun hc52 => ?_)
      ·
        refine v_aload_n 2 dX4_readsFilter_66 rfl rfl ?_
        refine v_iload_n 3 dX4_readsFilter_67 rfl rfl ?_
        refine v_iload_n 1 dX4_readsFilter_68 rfl rfl ?_
        refine v_iload_n 0 dX4_readsFilter_69 rfl rfl ?_
        refine v_callSN (c_X6_codeOf (d + 2) ) cs_X4_84 dX4_readsFilter_70 rfl rfl (Nat.le_of_ble_eq_true rfl) ?_
        refine rt_k ?_
        refine v_callV (c_X4_keep (d + 2) h25 h28 h8 (by omega)) cs_X4_71 dX4_readsFilter_73 h25 rfl rfl (Nat.le_of_ble_eq_true rfl) ?_
        rintro _ m2 ⟨rfl, cd2, hm2, hcd2⟩
        refine v_iconst (v := 1) dX4_readsFilter_76 (by first | rfl | decide) ?_
        refine v_iret dX4_readsFilter_77 rfl (by first | rfl | decide | exact nar_b (by first | assumption | rfl)) ?_
        have hF : filP tp kind s = (true, (s.1, s.2.1, s.2.2 ++ [cdO kind (0) (0)])) := by simp only [filP, filN, if_pos hc8, if_pos hc52]
        rw [hF]
        refine ⟨rfl, ⟨t, ops, cd2, ?_, ?_, ?_, ?_, hp, h60, ?_, hop, hcd2 _ (fun _ => rfl)⟩, ?_⟩
        · rw [hm2, up_s, List.length_append]; rfl
        · rw [hm2]; repeat (first | assumption | exact up_s _ _ _ | refine up_n (by decide) ?_)
        · rw [hm2]; repeat (first | assumption | exact up_s _ _ _ | refine up_n (by decide) ?_)
        · rw [hm2]; repeat (first | assumption | exact up_s _ _ _ | refine up_n (by decide) ?_)
        · show s.1 ≤ _
          omega
        · rw [hm2]; exact fun i hi => by repeat (first | rfl | refine up_n (by omega) ?_)
      ·
        refine v_aload_n 2 dX4_readsFilter_55 rfl rfl ?_
        refine v_callV (c_X4_takeNumber d h25 h26 hp h60 (by omega)) cs_X4_81 dX4_readsFilter_56 h25 rfl rfl (Nat.le_of_ble_eq_true rfl) ?_
        refine rt_k ?_
        refine v_istore_n dX4_readsFilter_59 rfl (by decide) (fun x3_2 e_x3_2 => ?_)
        refine v_ls (ls' := [(3, .int x3_2), (2, .int (0)), (0, .ref 25), (1, .int kind)]) rfl ?_
        subst e_x3_2
        refine v_iload_n 0 dX4_readsFilter_60 rfl rfl ?_
        refine v_if_ge (tgt := 66) dX4_readsFilter_61 (by decide) (fun hc61 => ?_) (fun hc61 => ?_)
        ·
          have hg3 := Int32.not_lt.mpr hc61
          refine v_aload_n 2 dX4_readsFilter_66 rfl rfl ?_
          refine v_iload_n 3 dX4_readsFilter_67 rfl rfl ?_
          refine v_iload_n 1 dX4_readsFilter_68 rfl rfl ?_
          refine v_iload_n 0 dX4_readsFilter_69 rfl rfl ?_
          refine v_callSN (c_X6_codeOf (d + 2) ) cs_X4_84 dX4_readsFilter_70 rfl rfl (Nat.le_of_ble_eq_true rfl) ?_
          refine rt_k ?_
          refine v_callV (c_X4_keep (d + 2) (up_s _ _ _) (up_n (by decide) h28) h8 (by omega)) cs_X4_71 dX4_readsFilter_73 (up_s _ _ _) rfl rfl (Nat.le_of_ble_eq_true rfl) ?_
          rintro _ m2 ⟨rfl, cd2, hm2, hcd2⟩
          refine v_iconst (v := 1) dX4_readsFilter_76 (by first | rfl | decide) ?_
          refine v_iret dX4_readsFilter_77 rfl (by first | rfl | decide | exact nar_b (by first | assumption | rfl)) ?_
          have hF : filP tp kind s = (true, ((numP tp (s.1)).2, s.2.1, s.2.2 ++ [cdO kind (0) ((numP tp (s.1)).1)])) := by simp only [filP, filN, if_pos hc8, if_neg hc52, if_neg hg3]
          rw [hF]
          refine ⟨rfl, ⟨t, ops, cd2, ?_, ?_, ?_, ?_, hp, h60, ?_, hop, hcd2 _ (fun _ => rfl)⟩, ?_⟩
          · rw [hm2, up_s, List.length_append]; rfl
          · rw [hm2]; repeat (first | assumption | exact up_s _ _ _ | refine up_n (by decide) ?_)
          · rw [hm2]; repeat (first | assumption | exact up_s _ _ _ | refine up_n (by decide) ?_)
          · rw [hm2]; repeat (first | assumption | exact up_s _ _ _ | refine up_n (by decide) ?_)
          · exact (num_le (by show s.1 ≤ _; omega)).1
          · rw [hm2]; exact fun i hi => by repeat (first | rfl | refine up_n (by omega) ?_)
        ·
          refine v_iconst (v := 0) dX4_readsFilter_64 (by first | rfl | decide) ?_
          refine v_iret dX4_readsFilter_65 rfl (by first | rfl | decide | exact nar_b (by first | assumption | rfl)) ?_
          have hg3 := Int32.not_le.mp hc61
          have hF : filP tp kind s = (false, ((numP tp (s.1)).2, s.2)) := by simp only [filP, filN, if_pos hc8, if_neg hc52, if_pos hg3]
          rw [hF]
          refine ⟨rfl, ⟨t, ops, cd, ?_, ?_, ?_, ?_, hp, h60, (num_le (by show s.1 ≤ _; omega)).1, hop, h8⟩, fun i hi => by repeat (first | rfl | refine up_n (by omega) ?_)⟩
          · rw [up_s]
          · repeat (first | assumption | exact up_s _ _ _ | refine up_n (by decide) ?_)
          · repeat (first | assumption | exact up_s _ _ _ | refine up_n (by decide) ?_)
          · repeat (first | assumption | exact up_s _ _ _ | refine up_n (by decide) ?_)
    · exact absurd hc8 hd27
  ·
    refine v_aload_n 2 dX4_readsFilter_11 rfl rfl ?_
    refine v_iconst (v := 3) dX4_readsFilter_12 (by first | rfl | decide) ?_
    refine v_callV (c_X4_takeFigure (d + 1) h25 h26 hp h60 (by omega)) cs_X4_64 dX4_readsFilter_13 h25 rfl rfl (Nat.le_of_ble_eq_true rfl) ?_
    refine rt_k ?_
    refine v_istore_n dX4_readsFilter_16 rfl (by decide) (fun x2_2 e_x2_2 => ?_)
    refine v_ls (ls' := [(2, .int x2_2), (3, .int (0)), (0, .ref 25), (1, .int kind)]) rfl ?_
    subst e_x2_2
    refine v_iload_n 0 dX4_readsFilter_17 rfl rfl ?_
    refine v_if_ge (tgt := 23) dX4_readsFilter_18 (by decide) (fun hc18 => ?_) (fun hc18 => ?_)
    ·
      have hg1 := Int32.not_lt.mpr hc18
      have hl1 := fig_lt hg1
      rw [if_neg hg1]
      refine v_iload_n 3 dX4_readsFilter_23 rfl rfl ?_
      refine v_callSN (c_X6_tellsAngle (d + 2) ) cs_X4_75 dX4_readsFilter_24 rfl rfl (Nat.le_of_ble_eq_true rfl) ?_
      refine rt_k ?_
      refine v_if_eq (tgt := 48) dX4_readsFilter_27 (by decide) (fun hd27 => ?_) (fun hd27 => ?_)
      · exact absurd hd27 hc8
      ·
        refine v_iload_n 3 dX4_readsFilter_30 rfl rfl ?_
        refine v_callSN (c_X6_tellsFigure (d + 2) ) cs_X4_78 dX4_readsFilter_31 rfl rfl (Nat.le_of_ble_eq_true rfl) ?_
        refine rt_k ?_
        refine v_if_eq (tgt := 48) dX4_readsFilter_34 (by decide) (fun hc34 => ?_) (fun hc34 => ?_)
        ·
          refine v_iload_n 3 dX4_readsFilter_48 rfl rfl ?_
          refine v_callSN (c_X6_tellsFigure (d + 2) ) cs_X4_78 dX4_readsFilter_49 rfl rfl (Nat.le_of_ble_eq_true rfl) ?_
          refine rt_k ?_
          refine v_if_eq (tgt := 66) dX4_readsFilter_52 (by decide) (fun hc52 => ?_) (fun hc52 => ?_)
          ·
            refine v_aload_n 2 dX4_readsFilter_66 rfl rfl ?_
            refine v_iload_n 3 dX4_readsFilter_67 rfl rfl ?_
            refine v_iload_n 0 dX4_readsFilter_68 rfl rfl ?_
            refine v_iload_n 1 dX4_readsFilter_69 rfl rfl ?_
            refine v_callSN (c_X6_codeOf (d + 2) ) cs_X4_84 dX4_readsFilter_70 rfl rfl (Nat.le_of_ble_eq_true rfl) ?_
            refine rt_k ?_
            refine v_callV (c_X4_keep (d + 2) (up_s _ _ _) (up_n (by decide) h28) h8 (by omega)) cs_X4_71 dX4_readsFilter_73 (up_s _ _ _) rfl rfl (Nat.le_of_ble_eq_true rfl) ?_
            rintro _ m2 ⟨rfl, cd2, hm2, hcd2⟩
            refine v_iconst (v := 1) dX4_readsFilter_76 (by first | rfl | decide) ?_
            refine v_iret dX4_readsFilter_77 rfl (by first | rfl | decide | exact nar_b (by first | assumption | rfl)) ?_
            have hF : filP tp kind s = (true, (s.1 + 1, s.2.1, s.2.2 ++ [cdO kind (figP tp s.1 3) (0)])) := by simp only [filP, filN, if_neg hc8, if_neg hg1, if_pos hc52]
            rw [hF]
            refine ⟨rfl, ⟨t, ops, cd2, ?_, ?_, ?_, ?_, hp, h60, ?_, hop, hcd2 _ (fun _ => rfl)⟩, ?_⟩
            · rw [hm2, up_s, List.length_append]; rfl
            · rw [hm2]; repeat (first | assumption | exact up_s _ _ _ | refine up_n (by decide) ?_)
            · rw [hm2]; repeat (first | assumption | exact up_s _ _ _ | refine up_n (by decide) ?_)
            · rw [hm2]; repeat (first | assumption | exact up_s _ _ _ | refine up_n (by decide) ?_)
            · show s.1 + 1 ≤ _
              omega
            · rw [hm2]; exact fun i hi => by repeat (first | rfl | refine up_n (by omega) ?_)
          · exact absurd hc34 hc52
        ·
          refine v_aload_n 2 dX4_readsFilter_37 rfl rfl ?_
          refine v_bipush (v := 44) dX4_readsFilter_38 (by first | rfl | decide) ?_
          refine v_callV (c_X4_takes (d + 1) (up_s _ _ _) (up_n (by decide) h26) hp h60 (by omega)) cs_X4_45 dX4_readsFilter_40 (up_s _ _ _) rfl rfl (Nat.le_of_ble_eq_true rfl) ?_
          refine rt_k ?_
          refine v_hp (up_up _ _ _ _) ?_
          refine v_if_ne (tgt := 48) dX4_readsFilter_43 (by decide) (fun hc43 => ?_) (fun hc43 => ?_)
          ·
            have hg2 : nxP tp (s.1 + 1) = 44 := by
              by_cases z : nxP tp (s.1 + 1) = 44
              · exact z
              · exact absurd (if_neg z) hc43
            have hl2 := nx_lt (tp := tp) (k := s.1 + 1) (by rw [hg2]; decide)
            rw [if_pos hg2]
            refine v_iload_n 3 dX4_readsFilter_48 rfl rfl ?_
            refine v_callSN (c_X6_tellsFigure (d + 2) ) cs_X4_78 dX4_readsFilter_49 rfl rfl (Nat.le_of_ble_eq_true rfl) ?_
            refine rt_k ?_
            refine v_if_eq (tgt := 66) dX4_readsFilter_52 (by decide) (fun hc52 => ?_) (fun hc52 => ?_)
            · exact absurd hc52 hc34
            ·
              refine v_aload_n 2 dX4_readsFilter_55 rfl rfl ?_
              refine v_callV (c_X4_takeNumber d (up_s _ _ _) (up_n (by decide) h26) hp h60 (by omega)) cs_X4_81 dX4_readsFilter_56 (up_s _ _ _) rfl rfl (Nat.le_of_ble_eq_true rfl) ?_
              refine rt_k ?_
              refine v_hp (up_up _ _ _ _) ?_
              refine v_istore_n dX4_readsFilter_59 rfl (by decide) (fun x3_3 e_x3_3 => ?_)
              refine v_ls (ls' := [(3, .int x3_3), (2, _), (0, .ref 25), (1, .int kind)]) rfl ?_
              subst e_x3_3
              refine v_iload_n 0 dX4_readsFilter_60 rfl rfl ?_
              refine v_if_ge (tgt := 66) dX4_readsFilter_61 (by decide) (fun hc61 => ?_) (fun hc61 => ?_)
              ·
                have hg3 := Int32.not_lt.mpr hc61
                refine v_aload_n 2 dX4_readsFilter_66 rfl rfl ?_
                refine v_iload_n 3 dX4_readsFilter_67 rfl rfl ?_
                refine v_iload_n 1 dX4_readsFilter_68 rfl rfl ?_
                refine v_iload_n 0 dX4_readsFilter_69 rfl rfl ?_
                refine v_callSN (c_X6_codeOf (d + 2) ) cs_X4_84 dX4_readsFilter_70 rfl rfl (Nat.le_of_ble_eq_true rfl) ?_
                refine rt_k ?_
                refine v_callV (c_X4_keep (d + 2) (up_s _ _ _) (up_n (by decide) h28) h8 (by omega)) cs_X4_71 dX4_readsFilter_73 (up_s _ _ _) rfl rfl (Nat.le_of_ble_eq_true rfl) ?_
                rintro _ m2 ⟨rfl, cd2, hm2, hcd2⟩
                refine v_iconst (v := 1) dX4_readsFilter_76 (by first | rfl | decide) ?_
                refine v_iret dX4_readsFilter_77 rfl (by first | rfl | decide | exact nar_b (by first | assumption | rfl)) ?_
                have hF : filP tp kind s = (true, ((numP tp (s.1 + 2)).2, s.2.1, s.2.2 ++ [cdO kind (figP tp s.1 3) ((numP tp (s.1 + 2)).1)])) := by simp only [filP, filN, if_neg hc8, if_neg hg1, if_neg hc34, if_pos hg2, if_neg hc52, if_neg hg3]
                rw [hF]
                refine ⟨rfl, ⟨t, ops, cd2, ?_, ?_, ?_, ?_, hp, h60, ?_, hop, hcd2 _ (fun _ => rfl)⟩, ?_⟩
                · rw [hm2, up_s, List.length_append]; rfl
                · rw [hm2]; repeat (first | assumption | exact up_s _ _ _ | refine up_n (by decide) ?_)
                · rw [hm2]; repeat (first | assumption | exact up_s _ _ _ | refine up_n (by decide) ?_)
                · rw [hm2]; repeat (first | assumption | exact up_s _ _ _ | refine up_n (by decide) ?_)
                · exact (num_le (by show s.1 + 2 ≤ _; omega)).1
                · rw [hm2]; exact fun i hi => by repeat (first | rfl | refine up_n (by omega) ?_)
              ·
                refine v_iconst (v := 0) dX4_readsFilter_64 (by first | rfl | decide) ?_
                refine v_iret dX4_readsFilter_65 rfl (by first | rfl | decide | exact nar_b (by first | assumption | rfl)) ?_
                have hg3 := Int32.not_le.mp hc61
                have hF : filP tp kind s = (false, ((numP tp (s.1 + 2)).2, s.2)) := by simp only [filP, filN, if_neg hc8, if_neg hg1, if_neg hc34, if_pos hg2, if_neg hc52, if_pos hg3]
                rw [hF]
                refine ⟨rfl, ⟨t, ops, cd, ?_, ?_, ?_, ?_, hp, h60, (num_le (by show s.1 + 2 ≤ _; omega)).1, hop, h8⟩, fun i hi => by repeat (first | rfl | refine up_n (by omega) ?_)⟩
                · rw [up_s]
                · repeat (first | assumption | exact up_s _ _ _ | refine up_n (by decide) ?_)
                · repeat (first | assumption | exact up_s _ _ _ | refine up_n (by decide) ?_)
                · repeat (first | assumption | exact up_s _ _ _ | refine up_n (by decide) ?_)
          ·
            refine v_iconst (v := 0) dX4_readsFilter_46 (by first | rfl | decide) ?_
            refine v_iret dX4_readsFilter_47 rfl (by first | rfl | decide | exact nar_b (by first | assumption | rfl)) ?_
            have hg2 : ¬ nxP tp (s.1 + 1) = 44 := fun z => by rw [if_pos z] at hc43; exact absurd hc43 (by decide)
            rw [if_neg hg2]
            have hF : filP tp kind s = (false, (s.1 + 1, s.2)) := by simp only [filP, if_neg hc8, if_neg hg1, if_neg hc34, if_neg hg2]
            rw [hF]
            refine ⟨rfl, ⟨t, ops, cd, ?_, ?_, ?_, ?_, hp, h60, hl1, hop, h8⟩, fun i hi => by repeat (first | rfl | refine up_n (by omega) ?_)⟩
            · rw [up_s]
            · repeat (first | assumption | exact up_s _ _ _ | refine up_n (by decide) ?_)
            · repeat (first | assumption | exact up_s _ _ _ | refine up_n (by decide) ?_)
            · repeat (first | assumption | exact up_s _ _ _ | refine up_n (by decide) ?_)
    ·
      refine v_iconst (v := 0) dX4_readsFilter_21 (by first | rfl | decide) ?_
      refine v_iret dX4_readsFilter_22 rfl (by first | rfl | decide | exact nar_b (by first | assumption | rfl)) ?_
      have hg1 := Int32.not_le.mp hc18
      rw [if_pos hg1]
      have hF : filP tp kind s = (false, (s.1, s.2)) := by simp only [filP, if_neg hc8, if_pos hg1]
      rw [hF]
      refine ⟨rfl, ⟨t, ops, cd, ?_, ?_, ?_, ?_, hp, h60, hkl, hop, h8⟩, fun i hi => by repeat (first | rfl | refine up_n (by omega) ?_)⟩
      · rw [up_s]
      · repeat (first | assumption | exact up_s _ _ _ | refine up_n (by decide) ?_)
      · repeat (first | assumption | exact up_s _ _ _ | refine up_n (by decide) ?_)
      · repeat (first | assumption | exact up_s _ _ _ | refine up_n (by decide) ?_)

