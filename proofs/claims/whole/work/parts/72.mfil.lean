set_option maxRecDepth 20000 in
set_option maxHeartbeats 4000000 in
theorem c_X7_angleTold {G : Cx} (d : Nat) {μ : Hp} {tp : List Int32} {t : Nat → Int32} {k : Nat} {m un lr mr hr fa op tr sg hm hi : Int32} {co wh : Int64} (h60 : μ 60 = some (modC m co wh un lr mr hr (nI tp.length) (nI k) fa op tr sg hm hi)) (h75 : μ 75 = some (arI 60 t)) (hp : Pl tp t) (ht60 : tp.length ≤ 60) (hk : k ≤ tp.length) (hT : Tb1 tp) (hfa : fa < 0) : Ct G (d + 2) 0 0 M_X7_angleTold [.ref 60] μ (fun r μ' => ∃ (v : Int32) (k' : Nat) (fa' : Int32), r = some (.int v) ∧ μ' = up μ 60 (modC m co wh un lr mr hr (nI tp.length) (nI k') fa' op tr sg hm hi) ∧ k' ≤ tp.length ∧ (figP tp k 3 < 0 → v = 0 ∧ k' = k ∧ fa' = nI k) ∧ (¬ figP tp k 3 < 0 → v = figP tp k 3 ∧ k' = k + 1 ∧ fa' = fa)) := by
  refine Ct.ofV (by decide +kernel) (Nat.le_of_ble_eq_true rfl) ?_
  refine v_ls (ls' := [(0, .ref 60)]) rfl ?_
  refine v_aload_n 0 dX7_angleTold_0 rfl rfl ?_
  refine v_iconst (v := 0) dX7_angleTold_1 (by first | rfl | decide) ?_
  refine v_iconst (v := 3) dX7_angleTold_2 (by first | rfl | decide) ?_
  refine v_callV (c_X7_isFigure d h60 h75 hp ht60 (hk)) cs_X7_341 dX7_angleTold_3 h60 rfl rfl (Nat.le_of_ble_eq_true rfl) ?_
  refine rt_k ?_
  refine v_if_ne (tgt := 19) dX7_angleTold_6 (by decide) (fun hc6 => ?_) (fun hc6 => ?_)
  ·
    have hq : ¬ figP tp k 3 < 0 := fun z => hc6 ((isf hT (m := 3) (by decide) k).mpr z)
    obtain ⟨a, ha1, ha2, ha3, hkl⟩ := fig_nat hT (m := 3) (by decide) hq
    have ha2 : figP tp k 3 = nI a := ha2
    refine v_aload_n 0 dX7_angleTold_19 rfl rfl ?_
    refine v_dup dX7_angleTold_20 rfl ?_
    refine v_get fl_X7_331 dX7_angleTold_21 h60 rfl ?_
    refine v_iconst (v := 1) dX7_angleTold_24 (by first | rfl | decide) ?_
    refine v_iadd dX7_angleTold_25 ?_
    refine v_put fp_X7_331 dX7_angleTold_26 h60 (Nat.le_of_ble_eq_true rfl) (by first | rfl | decide) (by first | rfl | decide) ?_
    rw [nI_1]
    refine v_aload_n 0 dX7_angleTold_29 rfl rfl ?_
    refine v_get fl_X7_58 dX7_angleTold_30 (up_s _ _ _) rfl ?_
    refine v_aload_n 0 dX7_angleTold_33 rfl rfl ?_
    refine v_get fl_X7_331 dX7_angleTold_34 (up_s _ _ _) rfl ?_
    refine v_iconst (v := 1) dX7_angleTold_37 (by first | rfl | decide) ?_
    refine v_isub dX7_angleTold_38 ?_
    rw [show nI (k + 1) - 1 = nI k from nI_sub1 (by omega)]
    refine v_iald dX7_angleTold_39 (up_n (by decide) h75) (nI_in' (by omega)) ?_
    refine v_bipush (v := 48) dX7_angleTold_40 (by first | rfl | decide) ?_
    refine v_isub dX7_angleTold_42 ?_
    rw [clamp (show k < 2 ^ 31 by omega), ← getD_at hp hkl, show tp.getD k 0 - 48 = figP tp k 3 from ha3.trans ha2.symm]
    refine v_iret dX7_angleTold_43 rfl (by first | rfl | decide | exact nar_b (by first | assumption | rfl)) ?_
    exact ⟨_, k + 1, fa, rfl, rfl, by omega, fun z => absurd z hq, fun _ => ⟨rfl, rfl, rfl⟩⟩
  ·
    refine v_aload_n 0 dX7_angleTold_9 rfl rfl ?_
    refine v_aload_n 0 dX7_angleTold_10 rfl rfl ?_
    refine v_get fl_X7_331 dX7_angleTold_11 h60 rfl ?_
    refine v_callV (c_X7_faulty (d + 1) h60) cs_X7_344 dX7_angleTold_14 h60 rfl rfl (Nat.le_of_ble_eq_true rfl) ?_
    refine rt_k ?_
    refine v_iconst (v := 0) dX7_angleTold_17 (by first | rfl | decide) ?_
    refine v_iret dX7_angleTold_18 rfl (by first | rfl | decide | exact nar_b (by first | assumption | rfl)) ?_
    have hq : figP tp k 3 < 0 := (isf hT (m := 3) (by decide) k).mp hc6
    exact ⟨0, k, nI k, rfl, by rw [if_pos hfa], hk, fun _ => ⟨rfl, rfl, rfl⟩, fun z => absurd hq z⟩

theorem fxI_0 {tp : List Int32} {k : Nat} (h : nxP tp k = 103) : fxI tp k = fxP tp 0 (k + 1) := by
  unfold fxI
  rw [h, show ixP 103 = 0 by decide, if_neg (by decide)]
theorem fxI_1 {tp : List Int32} {k : Nat} (h : nxP tp k = 121) : fxI tp k = fxP tp 1 (k + 1) := by
  unfold fxI
  rw [h, show ixP 121 = 1 by decide, if_neg (by decide)]
theorem fxI_2 {tp : List Int32} {k : Nat} (h : nxP tp k = 115) : fxI tp k = fxP tp 2 (k + 1) := by
  unfold fxI
  rw [h, show ixP 115 = 2 by decide, if_neg (by decide)]
theorem fxI_3 {tp : List Int32} {k : Nat} (h : nxP tp k = 112) : fxI tp k = fxP tp 3 (k + 1) := by
  unfold fxI
  rw [h, show ixP 112 = 3 by decide, if_neg (by decide)]
theorem fxI_4 {tp : List Int32} {k : Nat} (h : nxP tp k = 119) : fxI tp k = fxP tp 4 (k + 1) := by
  unfold fxI
  rw [h, show ixP 119 = 4 by decide, if_neg (by decide)]
theorem fxI_5 {tp : List Int32} {k : Nat} (h : nxP tp k = 114) : fxI tp k = fxP tp 5 (k + 1) := by
  unfold fxI
  rw [h, show ixP 114 = 5 by decide, if_neg (by decide)]
theorem fxI_6 {tp : List Int32} {k : Nat} (h : nxP tp k = 102) : fxI tp k = fxP tp 6 (k + 1) := by
  unfold fxI
  rw [h, show ixP 102 = 6 by decide, if_neg (by decide)]
theorem fxI_n {tp : List Int32} {k : Nat} (h : ixP (nxP tp k) = -1) : fxI tp k = (false, k, 0) := by
  unfold fxI
  rw [h, if_pos (by decide)]
theorem fx_0 (tp : List Int32) (k : Nat) : fxP tp 0 k = (true, k, cdO 0 0 0) := by
  unfold fxP fxN
  rw [if_pos (by decide), if_pos (by decide)]
set_option maxRecDepth 20000 in
set_option maxHeartbeats 4000000 in
theorem c_X7_filterTold {G : Cx} (d : Nat) {μ : Hp} {tp : List Int32} {t : Nat → Int32} {k : Nat} {m un lr mr hr op tr sg hm hi : Int32} {co wh : Int64} (h60 : μ 60 = some (modC m co wh un lr mr hr (nI tp.length) (nI k) (-1) op tr sg hm hi)) (h75 : μ 75 = some (arI 60 t)) (hp : Pl tp t) (ht60 : tp.length ≤ 60) (hk : k ≤ tp.length) (hT : Tb1 tp) : Ct G (d + 3) 0 0 M_X7_filterTold [.ref 60] μ (fun r μ' => ∃ (v : Int32) (k' : Nat) (fa' : Int32), r = some (.int v) ∧ μ' = up μ 60 (modC m co wh un lr mr hr (nI tp.length) (nI k') fa' op tr sg hm hi) ∧ k' ≤ tp.length ∧ ((fxI tp k).1 = true → fa' = -1 ∧ k' = (fxI tp k).2.1 ∧ v = (fxI tp k).2.2) ∧ ((fxI tp k).1 = false → fa' = nI (fxI tp k).2.1)) := by
  refine Ct.ofV (by decide +kernel) (Nat.le_of_ble_eq_true rfl) ?_
  refine v_ls (ls' := [(0, .ref 60)]) rfl ?_
  refine v_aload_n 0 dX7_filterTold_0 rfl rfl ?_
  refine v_callV (c_X7_next (d + 2) h60 h75 hp ht60 (hk)) cs_X7_334 dX7_filterTold_1 h60 rfl rfl (Nat.le_of_ble_eq_true rfl) ?_
  refine rt_k ?_
  refine v_istore_n dX7_filterTold_4 rfl (by decide) (fun y1 e_y1 => ?_)
  refine v_ls (ls' := [(1, .int y1), (0, .ref 60)]) rfl ?_
  refine v_iload_n 0 dX7_filterTold_5 rfl rfl ?_
  refine v_bipush (v := 103) dX7_filterTold_6 (by first | rfl | decide) ?_
  refine v_icmp_ne (tgt := 15) dX7_filterTold_8 (by decide) (fun hc8 => ?_) (fun hc8 => ?_)
  ·
    refine v_iload_n 0 dX7_filterTold_15 rfl rfl ?_
    refine v_bipush (v := 121) dX7_filterTold_16 (by first | rfl | decide) ?_
    refine v_icmp_ne (tgt := 25) dX7_filterTold_18 (by decide) (fun hc18 => ?_) (fun hc18 => ?_)
    ·
      refine v_iload_n 0 dX7_filterTold_25 rfl rfl ?_
      refine v_bipush (v := 115) dX7_filterTold_26 (by first | rfl | decide) ?_
      refine v_icmp_ne (tgt := 35) dX7_filterTold_28 (by decide) (fun hc28 => ?_) (fun hc28 => ?_)
      ·
        refine v_iload_n 0 dX7_filterTold_35 rfl rfl ?_
        refine v_bipush (v := 112) dX7_filterTold_36 (by first | rfl | decide) ?_
        refine v_icmp_ne (tgt := 45) dX7_filterTold_38 (by decide) (fun hc38 => ?_) (fun hc38 => ?_)
        ·
          refine v_iload_n 0 dX7_filterTold_45 rfl rfl ?_
          refine v_bipush (v := 119) dX7_filterTold_46 (by first | rfl | decide) ?_
          refine v_icmp_ne (tgt := 55) dX7_filterTold_48 (by decide) (fun hc48 => ?_) (fun hc48 => ?_)
          ·
            refine v_iload_n 0 dX7_filterTold_55 rfl rfl ?_
            refine v_bipush (v := 114) dX7_filterTold_56 (by first | rfl | decide) ?_
            refine v_icmp_ne (tgt := 65) dX7_filterTold_58 (by decide) (fun hc58 => ?_) (fun hc58 => ?_)
            ·
              refine v_iload_n 0 dX7_filterTold_65 rfl rfl ?_
              refine v_bipush (v := 102) dX7_filterTold_66 (by first | rfl | decide) ?_
              refine v_icmp_ne (tgt := 76) dX7_filterTold_68 (by decide) (fun hc68 => ?_) (fun hc68 => ?_)
              ·
                refine v_iconst (v := -1) dX7_filterTold_76 (by first | rfl | decide) ?_
                refine v_istore_n dX7_filterTold_77 rfl (by decide) (fun x2_1 e_x2_1 => ?_)
                refine v_ls (ls' := [(2, .int x2_1), (1, .int y1), (0, .ref 60)]) rfl ?_
                subst e_x2_1
                refine v_iload_n 0 dX7_filterTold_78 rfl rfl ?_
                refine v_iconst (v := -1) dX7_filterTold_79 (by first | rfl | decide) ?_
                refine v_icmp_ne (tgt := 93) dX7_filterTold_80 (by decide) (fun hc80 => ?_) (fun hc80 => ?_)
                · exact absurd (by decide) hc80
                ·
                  refine v_aload_n 2 dX7_filterTold_83 rfl rfl ?_
                  refine v_aload_n 2 dX7_filterTold_84 rfl rfl ?_
                  refine v_get fl_X7_331 dX7_filterTold_85 h60 rfl ?_
                  refine v_callV (c_X7_faulty (d + 2) h60) cs_X7_344 dX7_filterTold_88 h60 rfl rfl (Nat.le_of_ble_eq_true rfl) ?_
                  refine rt_k ?_
                  refine v_iconst (v := 0) dX7_filterTold_91 (by first | rfl | decide) ?_
                  refine v_iret dX7_filterTold_92 rfl (by first | rfl | decide | exact nar_b (by first | assumption | rfl)) ?_
                  have h8 : ¬ nxP tp k = 103 := fun z => hc8 (e_y1.trans ((nx_eq hT (by decide) (by decide)).mpr z))
                  have h18 : ¬ nxP tp k = 121 := fun z => hc18 (e_y1.trans ((nx_eq hT (by decide) (by decide)).mpr z))
                  have h28 : ¬ nxP tp k = 115 := fun z => hc28 (e_y1.trans ((nx_eq hT (by decide) (by decide)).mpr z))
                  have h38 : ¬ nxP tp k = 112 := fun z => hc38 (e_y1.trans ((nx_eq hT (by decide) (by decide)).mpr z))
                  have h48 : ¬ nxP tp k = 119 := fun z => hc48 (e_y1.trans ((nx_eq hT (by decide) (by decide)).mpr z))
                  have h58 : ¬ nxP tp k = 114 := fun z => hc58 (e_y1.trans ((nx_eq hT (by decide) (by decide)).mpr z))
                  have h68 : ¬ nxP tp k = 102 := fun z => hc68 (e_y1.trans ((nx_eq hT (by decide) (by decide)).mpr z))
                  have hX : fxI tp k = (false, k, 0) := by
                    have hix : ixP (nxP tp k) = -1 := by simp only [ixP, if_neg h8, if_neg h18, if_neg h28, if_neg h38, if_neg h48, if_neg h58, if_neg h68]
                    exact fxI_n hix
                  refine ⟨_, _, _, rfl, rfl, by omega, fun z => ?_, fun _ => ?_⟩
                  · rw [hX] at z; cases (show false = true from z)
                  · rw [hX]
                    all_goals rfl
              ·
                refine v_bipush (v := 6) dX7_filterTold_71 (by first | rfl | decide) ?_
                refine v_goto (tgt := 77) dX7_filterTold_73 (by decide) ?_
                refine v_istore_n dX7_filterTold_77 rfl (by decide) (fun x2_2 e_x2_2 => ?_)
                refine v_ls (ls' := [(2, .int x2_2), (1, .int y1), (0, .ref 60)]) rfl ?_
                subst e_x2_2
                refine v_iload_n 0 dX7_filterTold_78 rfl rfl ?_
                refine v_iconst (v := -1) dX7_filterTold_79 (by first | rfl | decide) ?_
                refine v_icmp_ne (tgt := 93) dX7_filterTold_80 (by decide) (fun hc80 => ?_) (fun hc80 => ?_)
                ·
                  have hnx : nxP tp k = 102 := (nx_eq hT (by decide) (by decide)).mp (e_y1.symm.trans hc68)
                  have hkl : k < tp.length := nx_lt (by rw [hnx]; decide)
                  have hI : fxI tp k = fxP tp 6 (k + 1) := fxI_6 hnx
                  refine v_aload_n 2 dX7_filterTold_93 rfl rfl ?_
                  refine v_dup dX7_filterTold_94 rfl ?_
                  refine v_get fl_X7_331 dX7_filterTold_95 h60 rfl ?_
                  refine v_iconst (v := 1) dX7_filterTold_98 (by first | rfl | decide) ?_
                  refine v_iadd dX7_filterTold_99 ?_
                  refine v_put fp_X7_331 dX7_filterTold_100 h60 (Nat.le_of_ble_eq_true rfl) (by first | rfl | decide) (by first | rfl | decide) ?_
                  rw [nI_1]
                  refine v_iload_n 0 dX7_filterTold_103 rfl rfl ?_
                  refine v_iconst (v := 2) dX7_filterTold_104 (by first | rfl | decide) ?_
                  refine v_icmp_eq (tgt := 118) dX7_filterTold_105 (by decide) (fun hc105 => ?_) (fun hc105 => ?_)
                  · exact absurd hc105 (by decide)
                  ·
                    refine v_iload_n 0 dX7_filterTold_108 rfl rfl ?_
                    refine v_iconst (v := 3) dX7_filterTold_109 (by first | rfl | decide) ?_
                    refine v_icmp_eq (tgt := 118) dX7_filterTold_110 (by decide) (fun hc110 => ?_) (fun hc110 => ?_)
                    · exact absurd hc110 (by decide)
                    ·
                      refine v_iload_n 0 dX7_filterTold_113 rfl rfl ?_
                      refine v_iconst (v := 4) dX7_filterTold_114 (by first | rfl | decide) ?_
                      refine v_icmp_ne (tgt := 125) dX7_filterTold_115 (by decide) (fun hc115 => ?_) (fun hc115 => ?_)
                      ·
                        refine v_iconst (v := 0) dX7_filterTold_125 (by first | rfl | decide) ?_
                        refine v_istore_n dX7_filterTold_126 rfl (by decide) (fun x3_1 e_x3_1 => ?_)
                        refine v_ls (ls' := [(3, .int x3_1), (2, .int (6)), (1, .int y1), (0, .ref 60)]) rfl ?_
                        subst e_x3_1
                        refine v_iconst (v := 0) dX7_filterTold_127 (by first | rfl | decide) ?_
                        refine v_istore dX7_filterTold_128 (by decide) (fun x4_1 e_x4_1 => ?_)
                        refine v_ls (ls' := [(4, .int x4_1), (3, .int (0)), (2, .int (6)), (1, .int y1), (0, .ref 60)]) rfl ?_
                        subst e_x4_1
                        refine v_iload_n 2 dX7_filterTold_130 rfl rfl ?_
                        refine v_iconst (v := 2) dX7_filterTold_131 (by first | rfl | decide) ?_
                        refine v_icmp_eq (tgt := 140) dX7_filterTold_132 (by decide) (fun hc132 => ?_) (fun hc132 => ?_)
                        · exact absurd hc132 (by decide)
                        ·
                          refine v_iload_n 2 dX7_filterTold_135 rfl rfl ?_
                          refine v_iconst (v := 4) dX7_filterTold_136 (by first | rfl | decide) ?_
                          refine v_icmp_ne (tgt := 169) dX7_filterTold_137 (by decide) (fun hc137 => ?_) (fun hc137 => ?_)
                          ·
                            refine v_iload_n 2 dX7_filterTold_169 rfl rfl ?_
                            refine v_if_eq (tgt := 199) dX7_filterTold_170 (by decide) (fun hc170 => ?_) (fun hc170 => ?_)
                            · exact absurd hc170 (by decide)
                            ·
                              refine v_iload_n 2 dX7_filterTold_173 rfl rfl ?_
                              refine v_iconst (v := 3) dX7_filterTold_174 (by first | rfl | decide) ?_
                              refine v_icmp_eq (tgt := 199) dX7_filterTold_175 (by decide) (fun hc175 => ?_) (fun hc175 => ?_)
                              · exact absurd hc175 (by decide)
                              ·
                                refine v_aload_n 4 dX7_filterTold_178 rfl rfl ?_
                                refine v_callV (c_X7_figureTold d (up_s _ _ _) (up_n (by decide) h75) hp ht60 (by omega) hT) cs_X7_350 dX7_filterTold_179 (up_s _ _ _) rfl rfl (Nat.le_of_ble_eq_true rfl) ?_
                                rintro _ _ ⟨v4, k4, fa4, rfl, rfl, hk4, hf1, hf2⟩
                                refine v_hp (up_up _ _ _ _) ?_
                                refine v_istore dX7_filterTold_182 (by decide) (fun y4 e_y4 => ?_)
                                refine v_ls (ls' := [(4, .int y4), (3, .int (0)), (2, .int (6)), (1, .int y1), (0, .ref 60)]) rfl ?_
                                have hv40 := e_y4
                                refine v_iload 0 dX7_filterTold_184 rfl ?_
                                refine v_if_ge (tgt := 199) dX7_filterTold_186 (by decide) (fun hv4x => ?_) (fun hv4x => ?_)
                                ·
                                  have hv4 : ¬ v4 < 0 := by rw [← e_y4]; exact Int32.not_lt.mpr hv4x
                                  refine v_iload_n 2 dX7_filterTold_199 rfl rfl ?_
                                  refine v_iload_n 1 dX7_filterTold_200 rfl rfl ?_
                                  refine v_iload 0 dX7_filterTold_201 rfl ?_
                                  refine v_callS (c_X7_codeOf (d + 2) ) cs_X7_162 dX7_filterTold_203 rfl rfl (Nat.le_of_ble_eq_true rfl) ?_
                                  refine rt_k ?_
                                  refine v_iret dX7_filterTold_206 rfl (by first | rfl | decide | exact nar_b (by first | assumption | rfl)) ?_
                                  by_cases hnum : (numP tp (k + 1)).1 < 0
                                  · have hX : fxI tp k = (false, (numP tp (k + 1)).2, 0) := by
                                      rw [hI, fx_f (c := 6) (by decide) (by decide), if_pos hnum]
                                    rcases (hf1 (by decide)).1 hnum with ⟨g1, g2, g3⟩ | ⟨g1, g2⟩
                                    · exact absurd g1 hv4
                                    · subst g2
                                      refine ⟨_, _, _, rfl, rfl, by omega, fun z => ?_, fun _ => ?_⟩
                                      · rw [hX] at z; cases (show false = true from z)
                                      · rw [hX]
                                  · have hX : fxI tp k = (true, (numP tp (k + 1)).2, cdO 6 0 (numP tp (k + 1)).1) := by
                                      rw [hI, fx_f (c := 6) (by decide) (by decide), if_neg hnum]
                                    obtain ⟨g1, g2, g3⟩ := (hf1 (by decide)).2 hnum
                                    subst g2 g3
                                    refine ⟨_, _, _, rfl, rfl, by omega, fun _ => ?_, fun z => ?_⟩
                                    · rw [hX]; exact ⟨rfl, rfl, by rw [e_y4, g1]⟩
                                    · rw [hX] at z; cases (show true = false from z)
                                ·
                                  have hv4 : v4 < 0 := by rw [← e_y4]; exact Int32.not_le.mp hv4x
                                  refine v_aload_n 4 dX7_filterTold_189 rfl rfl ?_
                                  refine v_aload_n 4 dX7_filterTold_190 rfl rfl ?_
                                  refine v_get fl_X7_331 dX7_filterTold_191 (up_s _ _ _) rfl ?_
                                  refine v_callV (c_X7_faulty (d + 2) (up_s _ _ _)) cs_X7_344 dX7_filterTold_194 (up_s _ _ _) rfl rfl (Nat.le_of_ble_eq_true rfl) ?_
                                  refine rt_k ?_
                                  refine v_hp (up_up _ _ _ _) ?_
                                  refine v_iconst (v := 0) dX7_filterTold_197 (by first | rfl | decide) ?_
                                  refine v_iret dX7_filterTold_198 rfl (by first | rfl | decide | exact nar_b (by first | assumption | rfl)) ?_
                                  by_cases hnum : (numP tp (k + 1)).1 < 0
                                  · have hX : fxI tp k = (false, (numP tp (k + 1)).2, 0) := by
                                      rw [hI, fx_f (c := 6) (by decide) (by decide), if_pos hnum]
                                    rcases (hf1 (by decide)).1 hnum with ⟨g1, g2, g3⟩ | ⟨g1, g2⟩
                                    · subst g2 g3
                                      refine ⟨_, _, _, rfl, rfl, by omega, fun z => ?_, fun _ => ?_⟩
                                      · rw [hX] at z; cases (show false = true from z)
                                      · rw [hX]; exact if_pos (by decide)
                                    · exact absurd (by first | exact hv4 | exact e_y4 ▸ hv4) g1
                                  · obtain ⟨g1, g2, g3⟩ := (hf1 (by decide)).2 hnum
                                    rw [g1] at hv4
                                    exact absurd hv4 hnum
                          · exact absurd hc137 (by decide)
                      · exact absurd hc115 (by decide)
                · exact absurd hc80 (by decide)
            ·
              refine v_iconst (v := 5) dX7_filterTold_61 (by first | rfl | decide) ?_
              refine v_goto (tgt := 77) dX7_filterTold_62 (by decide) ?_
              refine v_istore_n dX7_filterTold_77 rfl (by decide) (fun x2_3 e_x2_3 => ?_)
              refine v_ls (ls' := [(2, .int x2_3), (1, .int y1), (0, .ref 60)]) rfl ?_
              subst e_x2_3
              refine v_iload_n 0 dX7_filterTold_78 rfl rfl ?_
              refine v_iconst (v := -1) dX7_filterTold_79 (by first | rfl | decide) ?_
              refine v_icmp_ne (tgt := 93) dX7_filterTold_80 (by decide) (fun hc80 => ?_) (fun hc80 => ?_)
              ·
                have hnx : nxP tp k = 114 := (nx_eq hT (by decide) (by decide)).mp (e_y1.symm.trans hc58)
                have hkl : k < tp.length := nx_lt (by rw [hnx]; decide)
                have hI : fxI tp k = fxP tp 5 (k + 1) := fxI_5 hnx
                refine v_aload_n 2 dX7_filterTold_93 rfl rfl ?_
                refine v_dup dX7_filterTold_94 rfl ?_
                refine v_get fl_X7_331 dX7_filterTold_95 h60 rfl ?_
                refine v_iconst (v := 1) dX7_filterTold_98 (by first | rfl | decide) ?_
                refine v_iadd dX7_filterTold_99 ?_
                refine v_put fp_X7_331 dX7_filterTold_100 h60 (Nat.le_of_ble_eq_true rfl) (by first | rfl | decide) (by first | rfl | decide) ?_
                rw [nI_1]
                refine v_iload_n 0 dX7_filterTold_103 rfl rfl ?_
                refine v_iconst (v := 2) dX7_filterTold_104 (by first | rfl | decide) ?_
                refine v_icmp_eq (tgt := 118) dX7_filterTold_105 (by decide) (fun hc105 => ?_) (fun hc105 => ?_)
                · exact absurd hc105 (by decide)
                ·
                  refine v_iload_n 0 dX7_filterTold_108 rfl rfl ?_
                  refine v_iconst (v := 3) dX7_filterTold_109 (by first | rfl | decide) ?_
                  refine v_icmp_eq (tgt := 118) dX7_filterTold_110 (by decide) (fun hc110 => ?_) (fun hc110 => ?_)
                  · exact absurd hc110 (by decide)
                  ·
                    refine v_iload_n 0 dX7_filterTold_113 rfl rfl ?_
                    refine v_iconst (v := 4) dX7_filterTold_114 (by first | rfl | decide) ?_
                    refine v_icmp_ne (tgt := 125) dX7_filterTold_115 (by decide) (fun hc115 => ?_) (fun hc115 => ?_)
                    ·
                      refine v_iconst (v := 0) dX7_filterTold_125 (by first | rfl | decide) ?_
                      refine v_istore_n dX7_filterTold_126 rfl (by decide) (fun x3_2 e_x3_2 => ?_)
                      refine v_ls (ls' := [(3, .int x3_2), (2, .int (5)), (1, .int y1), (0, .ref 60)]) rfl ?_
                      subst e_x3_2
                      refine v_iconst (v := 0) dX7_filterTold_127 (by first | rfl | decide) ?_
                      refine v_istore dX7_filterTold_128 (by decide) (fun x4_2 e_x4_2 => ?_)
                      refine v_ls (ls' := [(4, .int x4_2), (3, .int (0)), (2, .int (5)), (1, .int y1), (0, .ref 60)]) rfl ?_
                      subst e_x4_2
                      refine v_iload_n 2 dX7_filterTold_130 rfl rfl ?_
                      refine v_iconst (v := 2) dX7_filterTold_131 (by first | rfl | decide) ?_
                      refine v_icmp_eq (tgt := 140) dX7_filterTold_132 (by decide) (fun hc132 => ?_) (fun hc132 => ?_)
                      · exact absurd hc132 (by decide)
                      ·
                        refine v_iload_n 2 dX7_filterTold_135 rfl rfl ?_
                        refine v_iconst (v := 4) dX7_filterTold_136 (by first | rfl | decide) ?_
                        refine v_icmp_ne (tgt := 169) dX7_filterTold_137 (by decide) (fun hc137 => ?_) (fun hc137 => ?_)
                        ·
                          refine v_iload_n 2 dX7_filterTold_169 rfl rfl ?_
                          refine v_if_eq (tgt := 199) dX7_filterTold_170 (by decide) (fun hc170 => ?_) (fun hc170 => ?_)
                          · exact absurd hc170 (by decide)
                          ·
                            refine v_iload_n 2 dX7_filterTold_173 rfl rfl ?_
                            refine v_iconst (v := 3) dX7_filterTold_174 (by first | rfl | decide) ?_
                            refine v_icmp_eq (tgt := 199) dX7_filterTold_175 (by decide) (fun hc175 => ?_) (fun hc175 => ?_)
                            · exact absurd hc175 (by decide)
                            ·
                              refine v_aload_n 4 dX7_filterTold_178 rfl rfl ?_
                              refine v_callV (c_X7_figureTold d (up_s _ _ _) (up_n (by decide) h75) hp ht60 (by omega) hT) cs_X7_350 dX7_filterTold_179 (up_s _ _ _) rfl rfl (Nat.le_of_ble_eq_true rfl) ?_
                              rintro _ _ ⟨v4, k4, fa4, rfl, rfl, hk4, hf1, hf2⟩
                              refine v_hp (up_up _ _ _ _) ?_
                              refine v_istore dX7_filterTold_182 (by decide) (fun y4 e_y4 => ?_)
                              refine v_ls (ls' := [(4, .int y4), (3, .int (0)), (2, .int (5)), (1, .int y1), (0, .ref 60)]) rfl ?_
                              have hv40 := e_y4
                              refine v_iload 0 dX7_filterTold_184 rfl ?_
                              refine v_if_ge (tgt := 199) dX7_filterTold_186 (by decide) (fun hv4x => ?_) (fun hv4x => ?_)
                              ·
                                have hv4 : ¬ v4 < 0 := by rw [← e_y4]; exact Int32.not_lt.mpr hv4x
                                refine v_iload_n 2 dX7_filterTold_199 rfl rfl ?_
                                refine v_iload_n 1 dX7_filterTold_200 rfl rfl ?_
                                refine v_iload 0 dX7_filterTold_201 rfl ?_
                                refine v_callS (c_X7_codeOf (d + 2) ) cs_X7_162 dX7_filterTold_203 rfl rfl (Nat.le_of_ble_eq_true rfl) ?_
                                refine rt_k ?_
                                refine v_iret dX7_filterTold_206 rfl (by first | rfl | decide | exact nar_b (by first | assumption | rfl)) ?_
                                by_cases hnum : (numP tp (k + 1)).1 < 0
                                · have hX : fxI tp k = (false, (numP tp (k + 1)).2, 0) := by
                                    rw [hI, fx_f (c := 5) (by decide) (by decide), if_pos hnum]
                                  rcases (hf1 (by decide)).1 hnum with ⟨g1, g2, g3⟩ | ⟨g1, g2⟩
                                  · exact absurd g1 hv4
                                  · subst g2
                                    refine ⟨_, _, _, rfl, rfl, by omega, fun z => ?_, fun _ => ?_⟩
                                    · rw [hX] at z; cases (show false = true from z)
                                    · rw [hX]
                                · have hX : fxI tp k = (true, (numP tp (k + 1)).2, cdO 5 0 (numP tp (k + 1)).1) := by
                                    rw [hI, fx_f (c := 5) (by decide) (by decide), if_neg hnum]
                                  obtain ⟨g1, g2, g3⟩ := (hf1 (by decide)).2 hnum
                                  subst g2 g3
                                  refine ⟨_, _, _, rfl, rfl, by omega, fun _ => ?_, fun z => ?_⟩
                                  · rw [hX]; exact ⟨rfl, rfl, by rw [e_y4, g1]⟩
                                  · rw [hX] at z; cases (show true = false from z)
                              ·
                                have hv4 : v4 < 0 := by rw [← e_y4]; exact Int32.not_le.mp hv4x
                                refine v_aload_n 4 dX7_filterTold_189 rfl rfl ?_
                                refine v_aload_n 4 dX7_filterTold_190 rfl rfl ?_
                                refine v_get fl_X7_331 dX7_filterTold_191 (up_s _ _ _) rfl ?_
                                refine v_callV (c_X7_faulty (d + 2) (up_s _ _ _)) cs_X7_344 dX7_filterTold_194 (up_s _ _ _) rfl rfl (Nat.le_of_ble_eq_true rfl) ?_
                                refine rt_k ?_
                                refine v_hp (up_up _ _ _ _) ?_
                                refine v_iconst (v := 0) dX7_filterTold_197 (by first | rfl | decide) ?_
                                refine v_iret dX7_filterTold_198 rfl (by first | rfl | decide | exact nar_b (by first | assumption | rfl)) ?_
                                by_cases hnum : (numP tp (k + 1)).1 < 0
                                · have hX : fxI tp k = (false, (numP tp (k + 1)).2, 0) := by
                                    rw [hI, fx_f (c := 5) (by decide) (by decide), if_pos hnum]
                                  rcases (hf1 (by decide)).1 hnum with ⟨g1, g2, g3⟩ | ⟨g1, g2⟩
                                  · subst g2 g3
                                    refine ⟨_, _, _, rfl, rfl, by omega, fun z => ?_, fun _ => ?_⟩
                                    · rw [hX] at z; cases (show false = true from z)
                                    · rw [hX]; exact if_pos (by decide)
                                  · exact absurd (by first | exact hv4 | exact e_y4 ▸ hv4) g1
                                · obtain ⟨g1, g2, g3⟩ := (hf1 (by decide)).2 hnum
                                  rw [g1] at hv4
                                  exact absurd hv4 hnum
                        · exact absurd hc137 (by decide)
                    · exact absurd hc115 (by decide)
              · exact absurd hc80 (by decide)
          ·
            refine v_iconst (v := 4) dX7_filterTold_51 (by first | rfl | decide) ?_
            refine v_goto (tgt := 77) dX7_filterTold_52 (by decide) ?_
            refine v_istore_n dX7_filterTold_77 rfl (by decide) (fun x2_4 e_x2_4 => ?_)
            refine v_ls (ls' := [(2, .int x2_4), (1, .int y1), (0, .ref 60)]) rfl ?_
            subst e_x2_4
            refine v_iload_n 0 dX7_filterTold_78 rfl rfl ?_
            refine v_iconst (v := -1) dX7_filterTold_79 (by first | rfl | decide) ?_
            refine v_icmp_ne (tgt := 93) dX7_filterTold_80 (by decide) (fun hc80 => ?_) (fun hc80 => ?_)
            ·
              have hnx : nxP tp k = 119 := (nx_eq hT (by decide) (by decide)).mp (e_y1.symm.trans hc48)
              have hkl : k < tp.length := nx_lt (by rw [hnx]; decide)
              have hI : fxI tp k = fxP tp 4 (k + 1) := fxI_4 hnx
              refine v_aload_n 2 dX7_filterTold_93 rfl rfl ?_
              refine v_dup dX7_filterTold_94 rfl ?_
              refine v_get fl_X7_331 dX7_filterTold_95 h60 rfl ?_
              refine v_iconst (v := 1) dX7_filterTold_98 (by first | rfl | decide) ?_
              refine v_iadd dX7_filterTold_99 ?_
              refine v_put fp_X7_331 dX7_filterTold_100 h60 (Nat.le_of_ble_eq_true rfl) (by first | rfl | decide) (by first | rfl | decide) ?_
              rw [nI_1]
              refine v_iload_n 0 dX7_filterTold_103 rfl rfl ?_
              refine v_iconst (v := 2) dX7_filterTold_104 (by first | rfl | decide) ?_
              refine v_icmp_eq (tgt := 118) dX7_filterTold_105 (by decide) (fun hc105 => ?_) (fun hc105 => ?_)
              · exact absurd hc105 (by decide)
              ·
                refine v_iload_n 0 dX7_filterTold_108 rfl rfl ?_
                refine v_iconst (v := 3) dX7_filterTold_109 (by first | rfl | decide) ?_
                refine v_icmp_eq (tgt := 118) dX7_filterTold_110 (by decide) (fun hc110 => ?_) (fun hc110 => ?_)
                · exact absurd hc110 (by decide)
                ·
                  refine v_iload_n 0 dX7_filterTold_113 rfl rfl ?_
                  refine v_iconst (v := 4) dX7_filterTold_114 (by first | rfl | decide) ?_
                  refine v_icmp_ne (tgt := 125) dX7_filterTold_115 (by decide) (fun hc115 => ?_) (fun hc115 => ?_)
                  · exact absurd (by decide) hc115
                  ·
                    refine v_aload_n 2 dX7_filterTold_118 rfl rfl ?_
                    refine v_callV (c_X7_angleTold d (up_s _ _ _) (up_n (by decide) h75) hp ht60 (by omega) hT (by decide)) cs_X7_347 dX7_filterTold_119 (up_s _ _ _) rfl rfl (Nat.le_of_ble_eq_true rfl) ?_
                    rintro _ _ ⟨v3, k3, fa3, rfl, rfl, hk3, ha1, ha2⟩
                    refine v_hp (up_up _ _ _ _) ?_
                    refine v_goto (tgt := 126) dX7_filterTold_122 (by decide) ?_
                    by_cases hq3 : figP tp (k + 1) 3 < 0
                    ·
                      obtain ⟨rfl, rfl, rfl⟩ := ha1 hq3
                      refine v_istore_n dX7_filterTold_126 rfl (by decide) (fun y3 e_y3 => ?_)
                      refine v_ls (ls' := [(3, .int y3), (2, .int (4)), (1, .int y1), (0, .ref 60)]) rfl ?_
                      refine v_iconst (v := 0) dX7_filterTold_127 (by first | rfl | decide) ?_
                      refine v_istore dX7_filterTold_128 (by decide) (fun x4_3 e_x4_3 => ?_)
                      refine v_ls (ls' := [(4, .int x4_3), (3, .int y3), (2, .int (4)), (1, .int y1), (0, .ref 60)]) rfl ?_
                      subst e_x4_3
                      refine v_iload_n 2 dX7_filterTold_130 rfl rfl ?_
                      refine v_iconst (v := 2) dX7_filterTold_131 (by first | rfl | decide) ?_
                      refine v_icmp_eq (tgt := 140) dX7_filterTold_132 (by decide) (fun hc132 => ?_) (fun hc132 => ?_)
                      · exact absurd hc132 (by decide)
                      ·
                        refine v_iload_n 2 dX7_filterTold_135 rfl rfl ?_
                        refine v_iconst (v := 4) dX7_filterTold_136 (by first | rfl | decide) ?_
                        refine v_icmp_ne (tgt := 169) dX7_filterTold_137 (by decide) (fun hc137 => ?_) (fun hc137 => ?_)
                        · exact absurd (by decide) hc137
                        ·
                          refine v_aload_n 4 dX7_filterTold_140 rfl rfl ?_
                          refine v_callV (c_X7_next (d + 2) (up_s _ _ _) (up_n (by decide) h75) hp ht60 (by omega)) cs_X7_334 dX7_filterTold_141 (up_s _ _ _) rfl rfl (Nat.le_of_ble_eq_true rfl) ?_
                          refine rt_k ?_
                          refine v_bipush (v := 44) dX7_filterTold_144 (by first | rfl | decide) ?_
                          refine v_icmp_eq (tgt := 159) dX7_filterTold_146 (by decide) (fun hc146 => ?_) (fun hc146 => ?_)
                          ·
                            have hlt := nx_lt (tp := tp) (k := k + 1) (by rw [(nx_eq hT (by decide) (by decide)).mp hc146]; decide)
                            refine v_aload_n 4 dX7_filterTold_159 rfl rfl ?_
                            refine v_dup dX7_filterTold_160 rfl ?_
                            refine v_get fl_X7_331 dX7_filterTold_161 (up_s _ _ _) rfl ?_
                            refine v_iconst (v := 1) dX7_filterTold_164 (by first | rfl | decide) ?_
                            refine v_iadd dX7_filterTold_165 ?_
                            refine v_put fp_X7_331 dX7_filterTold_166 (up_s _ _ _) (Nat.le_of_ble_eq_true rfl) (by first | rfl | decide) (by first | rfl | decide) ?_
                            refine v_hp (up_up _ _ _ _) ?_
                            rw [nI_1]
                            refine v_iload_n 2 dX7_filterTold_169 rfl rfl ?_
                            refine v_if_eq (tgt := 199) dX7_filterTold_170 (by decide) (fun hc170 => ?_) (fun hc170 => ?_)
                            · exact absurd hc170 (by decide)
                            ·
                              refine v_iload_n 2 dX7_filterTold_173 rfl rfl ?_
                              refine v_iconst (v := 3) dX7_filterTold_174 (by first | rfl | decide) ?_
                              refine v_icmp_eq (tgt := 199) dX7_filterTold_175 (by decide) (fun hc175 => ?_) (fun hc175 => ?_)
                              · exact absurd hc175 (by decide)
                              ·
                                refine v_aload_n 4 dX7_filterTold_178 rfl rfl ?_
                                refine v_callV (c_X7_figureTold d (up_s _ _ _) (up_n (by decide) h75) hp ht60 (by omega) hT) cs_X7_350 dX7_filterTold_179 (up_s _ _ _) rfl rfl (Nat.le_of_ble_eq_true rfl) ?_
                                rintro _ _ ⟨v4, k4, fa4, rfl, rfl, hk4, hf1, hf2⟩
                                refine v_hp (up_up _ _ _ _) ?_
                                refine v_istore dX7_filterTold_182 (by decide) (fun y4 e_y4 => ?_)
                                refine v_ls (ls' := [(4, .int y4), (3, .int y3), (2, .int (4)), (1, .int y1), (0, .ref 60)]) rfl ?_
                                have hv40 := e_y4
                                refine v_iload 0 dX7_filterTold_184 rfl ?_
                                refine v_if_ge (tgt := 199) dX7_filterTold_186 (by decide) (fun hv4x => ?_) (fun hv4x => ?_)
                                ·
                                  have hv4 : ¬ v4 < 0 := by rw [← e_y4]; exact Int32.not_lt.mpr hv4x
                                  refine v_iload_n 2 dX7_filterTold_199 rfl rfl ?_
                                  refine v_iload_n 1 dX7_filterTold_200 rfl rfl ?_
                                  refine v_iload 0 dX7_filterTold_201 rfl ?_
                                  refine v_callS (c_X7_codeOf (d + 2) ) cs_X7_162 dX7_filterTold_203 rfl rfl (Nat.le_of_ble_eq_true rfl) ?_
                                  refine rt_k ?_
                                  refine v_iret dX7_filterTold_206 rfl (by first | rfl | decide | exact nar_b (by first | assumption | rfl)) ?_
                                  have hn0 : ¬ nI (k + 1) < 0 := fun z => absurd ((nI_ltI (b := 0) (by omega) (by decide)).mp z) (by omega)
                                  have hX : fxI tp k = (false, k + 1, 0) := by
                                    rw [hI, fx_af (c := 4) (by decide) (by decide), if_pos hq3]
                                  refine ⟨_, _, _, rfl, rfl, by omega, fun z => ?_, fun _ => ?_⟩
                                  · rw [hX] at z; cases (show false = true from z)
                                  · rw [hX]
                                    all_goals exact hf2 hn0
                                ·
                                  have hv4 : v4 < 0 := by rw [← e_y4]; exact Int32.not_le.mp hv4x
                                  refine v_aload_n 4 dX7_filterTold_189 rfl rfl ?_
                                  refine v_aload_n 4 dX7_filterTold_190 rfl rfl ?_
                                  refine v_get fl_X7_331 dX7_filterTold_191 (up_s _ _ _) rfl ?_
                                  refine v_callV (c_X7_faulty (d + 2) (up_s _ _ _)) cs_X7_344 dX7_filterTold_194 (up_s _ _ _) rfl rfl (Nat.le_of_ble_eq_true rfl) ?_
                                  refine rt_k ?_
                                  refine v_hp (up_up _ _ _ _) ?_
                                  refine v_iconst (v := 0) dX7_filterTold_197 (by first | rfl | decide) ?_
                                  refine v_iret dX7_filterTold_198 rfl (by first | rfl | decide | exact nar_b (by first | assumption | rfl)) ?_
                                  have hn0 : ¬ nI (k + 1) < 0 := fun z => absurd ((nI_ltI (b := 0) (by omega) (by decide)).mp z) (by omega)
                                  have hX : fxI tp k = (false, k + 1, 0) := by
                                    rw [hI, fx_af (c := 4) (by decide) (by decide), if_pos hq3]
                                  rw [hf2 hn0]
                                  refine ⟨_, _, _, rfl, rfl, by omega, fun z => ?_, fun _ => ?_⟩
                                  · rw [hX] at z; cases (show false = true from z)
                                  · rw [hX]
                                    all_goals exact if_neg hn0
                          ·
                            refine v_aload_n 4 dX7_filterTold_149 rfl rfl ?_
                            refine v_aload_n 4 dX7_filterTold_150 rfl rfl ?_
                            refine v_get fl_X7_331 dX7_filterTold_151 (up_s _ _ _) rfl ?_
                            refine v_callV (c_X7_faulty (d + 2) (up_s _ _ _)) cs_X7_344 dX7_filterTold_154 (up_s _ _ _) rfl rfl (Nat.le_of_ble_eq_true rfl) ?_
                            refine rt_k ?_
                            refine v_hp (up_up _ _ _ _) ?_
                            refine v_iconst (v := 0) dX7_filterTold_157 (by first | rfl | decide) ?_
                            refine v_iret dX7_filterTold_158 rfl (by first | rfl | decide | exact nar_b (by first | assumption | rfl)) ?_
                            have hn0 : ¬ nI (k + 1) < 0 := fun z => absurd ((nI_ltI (b := 0) (by omega) (by decide)).mp z) (by omega)
                            have hX : fxI tp k = (false, k + 1, 0) := by
                              rw [hI, fx_af (c := 4) (by decide) (by decide), if_pos hq3]
                            refine ⟨_, _, _, rfl, rfl, by omega, fun z => ?_, fun _ => ?_⟩
                            · rw [hX] at z; cases (show false = true from z)
                            · rw [hX]
                              all_goals exact if_neg hn0
                    ·
                      obtain ⟨e3, rfl, rfl⟩ := ha2 hq3
                      have hk1 : k + 1 < tp.length := fig_lt hq3
                      refine v_istore_n dX7_filterTold_126 rfl (by decide) (fun y3 e_y3 => ?_)
                      refine v_ls (ls' := [(3, .int y3), (2, .int (4)), (1, .int y1), (0, .ref 60)]) rfl ?_
                      refine v_iconst (v := 0) dX7_filterTold_127 (by first | rfl | decide) ?_
                      refine v_istore dX7_filterTold_128 (by decide) (fun x4_4 e_x4_4 => ?_)
                      refine v_ls (ls' := [(4, .int x4_4), (3, .int y3), (2, .int (4)), (1, .int y1), (0, .ref 60)]) rfl ?_
                      subst e_x4_4
                      refine v_iload_n 2 dX7_filterTold_130 rfl rfl ?_
                      refine v_iconst (v := 2) dX7_filterTold_131 (by first | rfl | decide) ?_
                      refine v_icmp_eq (tgt := 140) dX7_filterTold_132 (by decide) (fun hc132 => ?_) (fun hc132 => ?_)
                      · exact absurd hc132 (by decide)
                      ·
                        refine v_iload_n 2 dX7_filterTold_135 rfl rfl ?_
                        refine v_iconst (v := 4) dX7_filterTold_136 (by first | rfl | decide) ?_
                        refine v_icmp_ne (tgt := 169) dX7_filterTold_137 (by decide) (fun hc137 => ?_) (fun hc137 => ?_)
                        · exact absurd (by decide) hc137
                        ·
                          refine v_aload_n 4 dX7_filterTold_140 rfl rfl ?_
                          refine v_callV (c_X7_next (d + 2) (up_s _ _ _) (up_n (by decide) h75) hp ht60 (by omega)) cs_X7_334 dX7_filterTold_141 (up_s _ _ _) rfl rfl (Nat.le_of_ble_eq_true rfl) ?_
                          refine rt_k ?_
                          refine v_bipush (v := 44) dX7_filterTold_144 (by first | rfl | decide) ?_
                          refine v_icmp_eq (tgt := 159) dX7_filterTold_146 (by decide) (fun hc146 => ?_) (fun hc146 => ?_)
                          ·
                            have hlt := nx_lt (tp := tp) (k := k + 1 + 1) (by rw [(nx_eq hT (by decide) (by decide)).mp hc146]; decide)
                            refine v_aload_n 4 dX7_filterTold_159 rfl rfl ?_
                            refine v_dup dX7_filterTold_160 rfl ?_
                            refine v_get fl_X7_331 dX7_filterTold_161 (up_s _ _ _) rfl ?_
                            refine v_iconst (v := 1) dX7_filterTold_164 (by first | rfl | decide) ?_
                            refine v_iadd dX7_filterTold_165 ?_
                            refine v_put fp_X7_331 dX7_filterTold_166 (up_s _ _ _) (Nat.le_of_ble_eq_true rfl) (by first | rfl | decide) (by first | rfl | decide) ?_
                            refine v_hp (up_up _ _ _ _) ?_
                            rw [nI_1]
                            refine v_iload_n 2 dX7_filterTold_169 rfl rfl ?_
                            refine v_if_eq (tgt := 199) dX7_filterTold_170 (by decide) (fun hc170 => ?_) (fun hc170 => ?_)
                            · exact absurd hc170 (by decide)
                            ·
                              refine v_iload_n 2 dX7_filterTold_173 rfl rfl ?_
                              refine v_iconst (v := 3) dX7_filterTold_174 (by first | rfl | decide) ?_
                              refine v_icmp_eq (tgt := 199) dX7_filterTold_175 (by decide) (fun hc175 => ?_) (fun hc175 => ?_)
                              · exact absurd hc175 (by decide)
                              ·
                                refine v_aload_n 4 dX7_filterTold_178 rfl rfl ?_
                                refine v_callV (c_X7_figureTold d (up_s _ _ _) (up_n (by decide) h75) hp ht60 (by omega) hT) cs_X7_350 dX7_filterTold_179 (up_s _ _ _) rfl rfl (Nat.le_of_ble_eq_true rfl) ?_
                                rintro _ _ ⟨v4, k4, fa4, rfl, rfl, hk4, hf1, hf2⟩
                                refine v_hp (up_up _ _ _ _) ?_
                                refine v_istore dX7_filterTold_182 (by decide) (fun y4 e_y4 => ?_)
                                refine v_ls (ls' := [(4, .int y4), (3, .int y3), (2, .int (4)), (1, .int y1), (0, .ref 60)]) rfl ?_
                                have hv40 := e_y4
                                refine v_iload 0 dX7_filterTold_184 rfl ?_
                                refine v_if_ge (tgt := 199) dX7_filterTold_186 (by decide) (fun hv4x => ?_) (fun hv4x => ?_)
                                ·
                                  have hv4 : ¬ v4 < 0 := by rw [← e_y4]; exact Int32.not_lt.mpr hv4x
                                  refine v_iload_n 2 dX7_filterTold_199 rfl rfl ?_
                                  refine v_iload_n 1 dX7_filterTold_200 rfl rfl ?_
                                  refine v_iload 0 dX7_filterTold_201 rfl ?_
                                  refine v_callS (c_X7_codeOf (d + 2) ) cs_X7_162 dX7_filterTold_203 rfl rfl (Nat.le_of_ble_eq_true rfl) ?_
                                  refine rt_k ?_
                                  refine v_iret dX7_filterTold_206 rfl (by first | rfl | decide | exact nar_b (by first | assumption | rfl)) ?_
                                  have hcm : nxP tp (k + 1 + 1) = 44 := (nx_eq hT (by decide) (by decide)).mp hc146
                                  by_cases hnum : (numP tp (k + 1 + 2)).1 < 0
                                  · have hX : fxI tp k = (false, (numP tp (k + 1 + 2)).2, 0) := by
                                      rw [hI, fx_af (c := 4) (by decide) (by decide), if_neg hq3, if_pos hcm, if_pos hnum]
                                    rcases (hf1 (by decide)).1 hnum with ⟨g1, g2, g3⟩ | ⟨g1, g2⟩
                                    · exact absurd g1 hv4
                                    · subst g2
                                      refine ⟨_, _, _, rfl, rfl, by omega, fun z => ?_, fun _ => ?_⟩
                                      · rw [hX] at z; cases (show false = true from z)
                                      · rw [hX]
                                  · have hX : fxI tp k = (true, (numP tp (k + 1 + 2)).2, cdO 4 (figP tp (k + 1) 3) (numP tp (k + 1 + 2)).1) := by
                                      rw [hI, fx_af (c := 4) (by decide) (by decide), if_neg hq3, if_pos hcm, if_neg hnum]
                                    obtain ⟨g1, g2, g3⟩ := (hf1 (by decide)).2 hnum
                                    subst g2 g3
                                    refine ⟨_, _, _, rfl, rfl, by omega, fun _ => ?_, fun z => ?_⟩
                                    · rw [hX]; exact ⟨rfl, rfl, by rw [e_y4, g1, e_y3, e3]⟩
                                    · rw [hX] at z; cases (show true = false from z)
                                ·
                                  have hv4 : v4 < 0 := by rw [← e_y4]; exact Int32.not_le.mp hv4x
                                  refine v_aload_n 4 dX7_filterTold_189 rfl rfl ?_
                                  refine v_aload_n 4 dX7_filterTold_190 rfl rfl ?_
                                  refine v_get fl_X7_331 dX7_filterTold_191 (up_s _ _ _) rfl ?_
                                  refine v_callV (c_X7_faulty (d + 2) (up_s _ _ _)) cs_X7_344 dX7_filterTold_194 (up_s _ _ _) rfl rfl (Nat.le_of_ble_eq_true rfl) ?_
                                  refine rt_k ?_
                                  refine v_hp (up_up _ _ _ _) ?_
                                  refine v_iconst (v := 0) dX7_filterTold_197 (by first | rfl | decide) ?_
                                  refine v_iret dX7_filterTold_198 rfl (by first | rfl | decide | exact nar_b (by first | assumption | rfl)) ?_
                                  have hcm : nxP tp (k + 1 + 1) = 44 := (nx_eq hT (by decide) (by decide)).mp hc146
                                  by_cases hnum : (numP tp (k + 1 + 2)).1 < 0
                                  · have hX : fxI tp k = (false, (numP tp (k + 1 + 2)).2, 0) := by
                                      rw [hI, fx_af (c := 4) (by decide) (by decide), if_neg hq3, if_pos hcm, if_pos hnum]
                                    rcases (hf1 (by decide)).1 hnum with ⟨g1, g2, g3⟩ | ⟨g1, g2⟩
                                    · subst g2 g3
                                      refine ⟨_, _, _, rfl, rfl, by omega, fun z => ?_, fun _ => ?_⟩
                                      · rw [hX] at z; cases (show false = true from z)
                                      · rw [hX]; exact if_pos (by decide)
                                    · exact absurd (by first | exact hv4 | exact e_y4 ▸ hv4) g1
                                  · obtain ⟨g1, g2, g3⟩ := (hf1 (by decide)).2 hnum
                                    rw [g1] at hv4
                                    exact absurd hv4 hnum
                          ·
                            refine v_aload_n 4 dX7_filterTold_149 rfl rfl ?_
                            refine v_aload_n 4 dX7_filterTold_150 rfl rfl ?_
                            refine v_get fl_X7_331 dX7_filterTold_151 (up_s _ _ _) rfl ?_
                            refine v_callV (c_X7_faulty (d + 2) (up_s _ _ _)) cs_X7_344 dX7_filterTold_154 (up_s _ _ _) rfl rfl (Nat.le_of_ble_eq_true rfl) ?_
                            refine rt_k ?_
                            refine v_hp (up_up _ _ _ _) ?_
                            refine v_iconst (v := 0) dX7_filterTold_157 (by first | rfl | decide) ?_
                            refine v_iret dX7_filterTold_158 rfl (by first | rfl | decide | exact nar_b (by first | assumption | rfl)) ?_
                            have hcm : ¬ nxP tp (k + 1 + 1) = 44 := fun z => hc146 ((nx_eq hT (by decide) (by decide)).mpr z)
                            have hX : fxI tp k = (false, k + 1 + 1, 0) := by
                              rw [hI, fx_af (c := 4) (by decide) (by decide), if_neg hq3, if_neg hcm]
                            refine ⟨_, _, _, rfl, rfl, by omega, fun z => ?_, fun _ => ?_⟩
                            · rw [hX] at z; cases (show false = true from z)
                            · rw [hX]
                              all_goals rfl
            · exact absurd hc80 (by decide)
        ·
          refine v_iconst (v := 3) dX7_filterTold_41 (by first | rfl | decide) ?_
          refine v_goto (tgt := 77) dX7_filterTold_42 (by decide) ?_
          refine v_istore_n dX7_filterTold_77 rfl (by decide) (fun x2_5 e_x2_5 => ?_)
          refine v_ls (ls' := [(2, .int x2_5), (1, .int y1), (0, .ref 60)]) rfl ?_
          subst e_x2_5
          refine v_iload_n 0 dX7_filterTold_78 rfl rfl ?_
          refine v_iconst (v := -1) dX7_filterTold_79 (by first | rfl | decide) ?_
          refine v_icmp_ne (tgt := 93) dX7_filterTold_80 (by decide) (fun hc80 => ?_) (fun hc80 => ?_)
          ·
            have hnx : nxP tp k = 112 := (nx_eq hT (by decide) (by decide)).mp (e_y1.symm.trans hc38)
            have hkl : k < tp.length := nx_lt (by rw [hnx]; decide)
            have hI : fxI tp k = fxP tp 3 (k + 1) := fxI_3 hnx
            refine v_aload_n 2 dX7_filterTold_93 rfl rfl ?_
            refine v_dup dX7_filterTold_94 rfl ?_
            refine v_get fl_X7_331 dX7_filterTold_95 h60 rfl ?_
            refine v_iconst (v := 1) dX7_filterTold_98 (by first | rfl | decide) ?_
            refine v_iadd dX7_filterTold_99 ?_
            refine v_put fp_X7_331 dX7_filterTold_100 h60 (Nat.le_of_ble_eq_true rfl) (by first | rfl | decide) (by first | rfl | decide) ?_
            rw [nI_1]
            refine v_iload_n 0 dX7_filterTold_103 rfl rfl ?_
            refine v_iconst (v := 2) dX7_filterTold_104 (by first | rfl | decide) ?_
            refine v_icmp_eq (tgt := 118) dX7_filterTold_105 (by decide) (fun hc105 => ?_) (fun hc105 => ?_)
            · exact absurd hc105 (by decide)
            ·
              refine v_iload_n 0 dX7_filterTold_108 rfl rfl ?_
              refine v_iconst (v := 3) dX7_filterTold_109 (by first | rfl | decide) ?_
              refine v_icmp_eq (tgt := 118) dX7_filterTold_110 (by decide) (fun hc110 => ?_) (fun hc110 => ?_)
              ·
                refine v_aload_n 2 dX7_filterTold_118 rfl rfl ?_
                refine v_callV (c_X7_angleTold d (up_s _ _ _) (up_n (by decide) h75) hp ht60 (by omega) hT (by decide)) cs_X7_347 dX7_filterTold_119 (up_s _ _ _) rfl rfl (Nat.le_of_ble_eq_true rfl) ?_
                rintro _ _ ⟨v3, k3, fa3, rfl, rfl, hk3, ha1, ha2⟩
                refine v_hp (up_up _ _ _ _) ?_
                refine v_goto (tgt := 126) dX7_filterTold_122 (by decide) ?_
                by_cases hq3 : figP tp (k + 1) 3 < 0
                ·
                  obtain ⟨rfl, rfl, rfl⟩ := ha1 hq3
                  refine v_istore_n dX7_filterTold_126 rfl (by decide) (fun y3 e_y3 => ?_)
                  refine v_ls (ls' := [(3, .int y3), (2, .int (3)), (1, .int y1), (0, .ref 60)]) rfl ?_
                  refine v_iconst (v := 0) dX7_filterTold_127 (by first | rfl | decide) ?_
                  refine v_istore dX7_filterTold_128 (by decide) (fun x4_5 e_x4_5 => ?_)
                  refine v_ls (ls' := [(4, .int x4_5), (3, .int y3), (2, .int (3)), (1, .int y1), (0, .ref 60)]) rfl ?_
                  subst e_x4_5
                  refine v_iload_n 2 dX7_filterTold_130 rfl rfl ?_
                  refine v_iconst (v := 2) dX7_filterTold_131 (by first | rfl | decide) ?_
                  refine v_icmp_eq (tgt := 140) dX7_filterTold_132 (by decide) (fun hc132 => ?_) (fun hc132 => ?_)
                  · exact absurd hc132 (by decide)
                  ·
                    refine v_iload_n 2 dX7_filterTold_135 rfl rfl ?_
                    refine v_iconst (v := 4) dX7_filterTold_136 (by first | rfl | decide) ?_
                    refine v_icmp_ne (tgt := 169) dX7_filterTold_137 (by decide) (fun hc137 => ?_) (fun hc137 => ?_)
                    ·
                      refine v_iload_n 2 dX7_filterTold_169 rfl rfl ?_
                      refine v_if_eq (tgt := 199) dX7_filterTold_170 (by decide) (fun hc170 => ?_) (fun hc170 => ?_)
                      · exact absurd hc170 (by decide)
                      ·
                        refine v_iload_n 2 dX7_filterTold_173 rfl rfl ?_
                        refine v_iconst (v := 3) dX7_filterTold_174 (by first | rfl | decide) ?_
                        refine v_icmp_eq (tgt := 199) dX7_filterTold_175 (by decide) (fun hc175 => ?_) (fun hc175 => ?_)
                        ·
                          refine v_iload_n 2 dX7_filterTold_199 rfl rfl ?_
                          refine v_iload_n 1 dX7_filterTold_200 rfl rfl ?_
                          refine v_iload 0 dX7_filterTold_201 rfl ?_
                          refine v_callS (c_X7_codeOf (d + 2) ) cs_X7_162 dX7_filterTold_203 rfl rfl (Nat.le_of_ble_eq_true rfl) ?_
                          refine rt_k ?_
                          refine v_iret dX7_filterTold_206 rfl (by first | rfl | decide | exact nar_b (by first | assumption | rfl)) ?_
                          have hX : fxI tp k = (false, k + 1, 0) := by
                            rw [hI, fx_a (c := 3) (by decide) (by decide), if_pos hq3]
                          refine ⟨_, _, _, rfl, rfl, by omega, fun z => ?_, fun _ => ?_⟩
                          · rw [hX] at z; cases (show false = true from z)
                          · rw [hX]
                            all_goals rfl
                        · exact absurd (by decide) hc175
                    · exact absurd hc137 (by decide)
                ·
                  obtain ⟨e3, rfl, rfl⟩ := ha2 hq3
                  have hk1 : k + 1 < tp.length := fig_lt hq3
                  refine v_istore_n dX7_filterTold_126 rfl (by decide) (fun y3 e_y3 => ?_)
                  refine v_ls (ls' := [(3, .int y3), (2, .int (3)), (1, .int y1), (0, .ref 60)]) rfl ?_
                  refine v_iconst (v := 0) dX7_filterTold_127 (by first | rfl | decide) ?_
                  refine v_istore dX7_filterTold_128 (by decide) (fun x4_6 e_x4_6 => ?_)
                  refine v_ls (ls' := [(4, .int x4_6), (3, .int y3), (2, .int (3)), (1, .int y1), (0, .ref 60)]) rfl ?_
                  subst e_x4_6
                  refine v_iload_n 2 dX7_filterTold_130 rfl rfl ?_
                  refine v_iconst (v := 2) dX7_filterTold_131 (by first | rfl | decide) ?_
                  refine v_icmp_eq (tgt := 140) dX7_filterTold_132 (by decide) (fun hc132 => ?_) (fun hc132 => ?_)
                  · exact absurd hc132 (by decide)
                  ·
                    refine v_iload_n 2 dX7_filterTold_135 rfl rfl ?_
                    refine v_iconst (v := 4) dX7_filterTold_136 (by first | rfl | decide) ?_
                    refine v_icmp_ne (tgt := 169) dX7_filterTold_137 (by decide) (fun hc137 => ?_) (fun hc137 => ?_)
                    ·
                      refine v_iload_n 2 dX7_filterTold_169 rfl rfl ?_
                      refine v_if_eq (tgt := 199) dX7_filterTold_170 (by decide) (fun hc170 => ?_) (fun hc170 => ?_)
                      · exact absurd hc170 (by decide)
                      ·
                        refine v_iload_n 2 dX7_filterTold_173 rfl rfl ?_
                        refine v_iconst (v := 3) dX7_filterTold_174 (by first | rfl | decide) ?_
                        refine v_icmp_eq (tgt := 199) dX7_filterTold_175 (by decide) (fun hc175 => ?_) (fun hc175 => ?_)
                        ·
                          refine v_iload_n 2 dX7_filterTold_199 rfl rfl ?_
                          refine v_iload_n 1 dX7_filterTold_200 rfl rfl ?_
                          refine v_iload 0 dX7_filterTold_201 rfl ?_
                          refine v_callS (c_X7_codeOf (d + 2) ) cs_X7_162 dX7_filterTold_203 rfl rfl (Nat.le_of_ble_eq_true rfl) ?_
                          refine rt_k ?_
                          refine v_iret dX7_filterTold_206 rfl (by first | rfl | decide | exact nar_b (by first | assumption | rfl)) ?_
                          have hX : fxI tp k = (true, k + 1 + 1, cdO 3 (figP tp (k + 1) 3) 0) := by
                            rw [hI, fx_a (c := 3) (by decide) (by decide), if_neg hq3]
                          subst e_y3
                          exact ⟨_, k + 1 + 1, -1, rfl, rfl, by omega, fun _ => by rw [hX]; exact ⟨rfl, rfl, by rw [e3]⟩, fun z => by rw [hX] at z; cases (show true = false from z)⟩
                        · exact absurd (by decide) hc175
                    · exact absurd hc137 (by decide)
              · exact absurd (by decide) hc110
          · exact absurd hc80 (by decide)
      ·
        refine v_iconst (v := 2) dX7_filterTold_31 (by first | rfl | decide) ?_
        refine v_goto (tgt := 77) dX7_filterTold_32 (by decide) ?_
        refine v_istore_n dX7_filterTold_77 rfl (by decide) (fun x2_6 e_x2_6 => ?_)
        refine v_ls (ls' := [(2, .int x2_6), (1, .int y1), (0, .ref 60)]) rfl ?_
        subst e_x2_6
        refine v_iload_n 0 dX7_filterTold_78 rfl rfl ?_
        refine v_iconst (v := -1) dX7_filterTold_79 (by first | rfl | decide) ?_
        refine v_icmp_ne (tgt := 93) dX7_filterTold_80 (by decide) (fun hc80 => ?_) (fun hc80 => ?_)
        ·
          have hnx : nxP tp k = 115 := (nx_eq hT (by decide) (by decide)).mp (e_y1.symm.trans hc28)
          have hkl : k < tp.length := nx_lt (by rw [hnx]; decide)
          have hI : fxI tp k = fxP tp 2 (k + 1) := fxI_2 hnx
          refine v_aload_n 2 dX7_filterTold_93 rfl rfl ?_
          refine v_dup dX7_filterTold_94 rfl ?_
          refine v_get fl_X7_331 dX7_filterTold_95 h60 rfl ?_
          refine v_iconst (v := 1) dX7_filterTold_98 (by first | rfl | decide) ?_
          refine v_iadd dX7_filterTold_99 ?_
          refine v_put fp_X7_331 dX7_filterTold_100 h60 (Nat.le_of_ble_eq_true rfl) (by first | rfl | decide) (by first | rfl | decide) ?_
          rw [nI_1]
          refine v_iload_n 0 dX7_filterTold_103 rfl rfl ?_
          refine v_iconst (v := 2) dX7_filterTold_104 (by first | rfl | decide) ?_
          refine v_icmp_eq (tgt := 118) dX7_filterTold_105 (by decide) (fun hc105 => ?_) (fun hc105 => ?_)
          ·
            refine v_aload_n 2 dX7_filterTold_118 rfl rfl ?_
            refine v_callV (c_X7_angleTold d (up_s _ _ _) (up_n (by decide) h75) hp ht60 (by omega) hT (by decide)) cs_X7_347 dX7_filterTold_119 (up_s _ _ _) rfl rfl (Nat.le_of_ble_eq_true rfl) ?_
            rintro _ _ ⟨v3, k3, fa3, rfl, rfl, hk3, ha1, ha2⟩
            refine v_hp (up_up _ _ _ _) ?_
            refine v_goto (tgt := 126) dX7_filterTold_122 (by decide) ?_
            by_cases hq3 : figP tp (k + 1) 3 < 0
            ·
              obtain ⟨rfl, rfl, rfl⟩ := ha1 hq3
              refine v_istore_n dX7_filterTold_126 rfl (by decide) (fun y3 e_y3 => ?_)
              refine v_ls (ls' := [(3, .int y3), (2, .int (2)), (1, .int y1), (0, .ref 60)]) rfl ?_
              refine v_iconst (v := 0) dX7_filterTold_127 (by first | rfl | decide) ?_
              refine v_istore dX7_filterTold_128 (by decide) (fun x4_7 e_x4_7 => ?_)
              refine v_ls (ls' := [(4, .int x4_7), (3, .int y3), (2, .int (2)), (1, .int y1), (0, .ref 60)]) rfl ?_
              subst e_x4_7
              refine v_iload_n 2 dX7_filterTold_130 rfl rfl ?_
              refine v_iconst (v := 2) dX7_filterTold_131 (by first | rfl | decide) ?_
              refine v_icmp_eq (tgt := 140) dX7_filterTold_132 (by decide) (fun hc132 => ?_) (fun hc132 => ?_)
              ·
                refine v_aload_n 4 dX7_filterTold_140 rfl rfl ?_
                refine v_callV (c_X7_next (d + 2) (up_s _ _ _) (up_n (by decide) h75) hp ht60 (by omega)) cs_X7_334 dX7_filterTold_141 (up_s _ _ _) rfl rfl (Nat.le_of_ble_eq_true rfl) ?_
                refine rt_k ?_
                refine v_bipush (v := 44) dX7_filterTold_144 (by first | rfl | decide) ?_
                refine v_icmp_eq (tgt := 159) dX7_filterTold_146 (by decide) (fun hc146 => ?_) (fun hc146 => ?_)
                ·
                  have hlt := nx_lt (tp := tp) (k := k + 1) (by rw [(nx_eq hT (by decide) (by decide)).mp hc146]; decide)
                  refine v_aload_n 4 dX7_filterTold_159 rfl rfl ?_
                  refine v_dup dX7_filterTold_160 rfl ?_
                  refine v_get fl_X7_331 dX7_filterTold_161 (up_s _ _ _) rfl ?_
                  refine v_iconst (v := 1) dX7_filterTold_164 (by first | rfl | decide) ?_
                  refine v_iadd dX7_filterTold_165 ?_
                  refine v_put fp_X7_331 dX7_filterTold_166 (up_s _ _ _) (Nat.le_of_ble_eq_true rfl) (by first | rfl | decide) (by first | rfl | decide) ?_
                  refine v_hp (up_up _ _ _ _) ?_
                  rw [nI_1]
                  refine v_iload_n 2 dX7_filterTold_169 rfl rfl ?_
                  refine v_if_eq (tgt := 199) dX7_filterTold_170 (by decide) (fun hc170 => ?_) (fun hc170 => ?_)
                  · exact absurd hc170 (by decide)
                  ·
                    refine v_iload_n 2 dX7_filterTold_173 rfl rfl ?_
                    refine v_iconst (v := 3) dX7_filterTold_174 (by first | rfl | decide) ?_
                    refine v_icmp_eq (tgt := 199) dX7_filterTold_175 (by decide) (fun hc175 => ?_) (fun hc175 => ?_)
                    · exact absurd hc175 (by decide)
                    ·
                      refine v_aload_n 4 dX7_filterTold_178 rfl rfl ?_
                      refine v_callV (c_X7_figureTold d (up_s _ _ _) (up_n (by decide) h75) hp ht60 (by omega) hT) cs_X7_350 dX7_filterTold_179 (up_s _ _ _) rfl rfl (Nat.le_of_ble_eq_true rfl) ?_
                      rintro _ _ ⟨v4, k4, fa4, rfl, rfl, hk4, hf1, hf2⟩
                      refine v_hp (up_up _ _ _ _) ?_
                      refine v_istore dX7_filterTold_182 (by decide) (fun y4 e_y4 => ?_)
                      refine v_ls (ls' := [(4, .int y4), (3, .int y3), (2, .int (2)), (1, .int y1), (0, .ref 60)]) rfl ?_
                      have hv40 := e_y4
                      refine v_iload 0 dX7_filterTold_184 rfl ?_
                      refine v_if_ge (tgt := 199) dX7_filterTold_186 (by decide) (fun hv4x => ?_) (fun hv4x => ?_)
                      ·
                        have hv4 : ¬ v4 < 0 := by rw [← e_y4]; exact Int32.not_lt.mpr hv4x
                        refine v_iload_n 2 dX7_filterTold_199 rfl rfl ?_
                        refine v_iload_n 1 dX7_filterTold_200 rfl rfl ?_
                        refine v_iload 0 dX7_filterTold_201 rfl ?_
                        refine v_callS (c_X7_codeOf (d + 2) ) cs_X7_162 dX7_filterTold_203 rfl rfl (Nat.le_of_ble_eq_true rfl) ?_
                        refine rt_k ?_
                        refine v_iret dX7_filterTold_206 rfl (by first | rfl | decide | exact nar_b (by first | assumption | rfl)) ?_
                        have hn0 : ¬ nI (k + 1) < 0 := fun z => absurd ((nI_ltI (b := 0) (by omega) (by decide)).mp z) (by omega)
                        have hX : fxI tp k = (false, k + 1, 0) := by
                          rw [hI, fx_af (c := 2) (by decide) (by decide), if_pos hq3]
                        refine ⟨_, _, _, rfl, rfl, by omega, fun z => ?_, fun _ => ?_⟩
                        · rw [hX] at z; cases (show false = true from z)
                        · rw [hX]
                          all_goals exact hf2 hn0
                      ·
                        have hv4 : v4 < 0 := by rw [← e_y4]; exact Int32.not_le.mp hv4x
                        refine v_aload_n 4 dX7_filterTold_189 rfl rfl ?_
                        refine v_aload_n 4 dX7_filterTold_190 rfl rfl ?_
                        refine v_get fl_X7_331 dX7_filterTold_191 (up_s _ _ _) rfl ?_
                        refine v_callV (c_X7_faulty (d + 2) (up_s _ _ _)) cs_X7_344 dX7_filterTold_194 (up_s _ _ _) rfl rfl (Nat.le_of_ble_eq_true rfl) ?_
                        refine rt_k ?_
                        refine v_hp (up_up _ _ _ _) ?_
                        refine v_iconst (v := 0) dX7_filterTold_197 (by first | rfl | decide) ?_
                        refine v_iret dX7_filterTold_198 rfl (by first | rfl | decide | exact nar_b (by first | assumption | rfl)) ?_
                        have hn0 : ¬ nI (k + 1) < 0 := fun z => absurd ((nI_ltI (b := 0) (by omega) (by decide)).mp z) (by omega)
                        have hX : fxI tp k = (false, k + 1, 0) := by
                          rw [hI, fx_af (c := 2) (by decide) (by decide), if_pos hq3]
                        rw [hf2 hn0]
                        refine ⟨_, _, _, rfl, rfl, by omega, fun z => ?_, fun _ => ?_⟩
                        · rw [hX] at z; cases (show false = true from z)
                        · rw [hX]
                          all_goals exact if_neg hn0
                ·
                  refine v_aload_n 4 dX7_filterTold_149 rfl rfl ?_
                  refine v_aload_n 4 dX7_filterTold_150 rfl rfl ?_
                  refine v_get fl_X7_331 dX7_filterTold_151 (up_s _ _ _) rfl ?_
                  refine v_callV (c_X7_faulty (d + 2) (up_s _ _ _)) cs_X7_344 dX7_filterTold_154 (up_s _ _ _) rfl rfl (Nat.le_of_ble_eq_true rfl) ?_
                  refine rt_k ?_
                  refine v_hp (up_up _ _ _ _) ?_
                  refine v_iconst (v := 0) dX7_filterTold_157 (by first | rfl | decide) ?_
                  refine v_iret dX7_filterTold_158 rfl (by first | rfl | decide | exact nar_b (by first | assumption | rfl)) ?_
                  have hn0 : ¬ nI (k + 1) < 0 := fun z => absurd ((nI_ltI (b := 0) (by omega) (by decide)).mp z) (by omega)
                  have hX : fxI tp k = (false, k + 1, 0) := by
                    rw [hI, fx_af (c := 2) (by decide) (by decide), if_pos hq3]
                  refine ⟨_, _, _, rfl, rfl, by omega, fun z => ?_, fun _ => ?_⟩
                  · rw [hX] at z; cases (show false = true from z)
                  · rw [hX]
                    all_goals exact if_neg hn0
              · exact absurd (by decide) hc132
            ·
              obtain ⟨e3, rfl, rfl⟩ := ha2 hq3
              have hk1 : k + 1 < tp.length := fig_lt hq3
              refine v_istore_n dX7_filterTold_126 rfl (by decide) (fun y3 e_y3 => ?_)
              refine v_ls (ls' := [(3, .int y3), (2, .int (2)), (1, .int y1), (0, .ref 60)]) rfl ?_
              refine v_iconst (v := 0) dX7_filterTold_127 (by first | rfl | decide) ?_
              refine v_istore dX7_filterTold_128 (by decide) (fun x4_8 e_x4_8 => ?_)
              refine v_ls (ls' := [(4, .int x4_8), (3, .int y3), (2, .int (2)), (1, .int y1), (0, .ref 60)]) rfl ?_
              subst e_x4_8
              refine v_iload_n 2 dX7_filterTold_130 rfl rfl ?_
              refine v_iconst (v := 2) dX7_filterTold_131 (by first | rfl | decide) ?_
              refine v_icmp_eq (tgt := 140) dX7_filterTold_132 (by decide) (fun hc132 => ?_) (fun hc132 => ?_)
              ·
                refine v_aload_n 4 dX7_filterTold_140 rfl rfl ?_
                refine v_callV (c_X7_next (d + 2) (up_s _ _ _) (up_n (by decide) h75) hp ht60 (by omega)) cs_X7_334 dX7_filterTold_141 (up_s _ _ _) rfl rfl (Nat.le_of_ble_eq_true rfl) ?_
                refine rt_k ?_
                refine v_bipush (v := 44) dX7_filterTold_144 (by first | rfl | decide) ?_
                refine v_icmp_eq (tgt := 159) dX7_filterTold_146 (by decide) (fun hc146 => ?_) (fun hc146 => ?_)
                ·
                  have hlt := nx_lt (tp := tp) (k := k + 1 + 1) (by rw [(nx_eq hT (by decide) (by decide)).mp hc146]; decide)
                  refine v_aload_n 4 dX7_filterTold_159 rfl rfl ?_
                  refine v_dup dX7_filterTold_160 rfl ?_
                  refine v_get fl_X7_331 dX7_filterTold_161 (up_s _ _ _) rfl ?_
                  refine v_iconst (v := 1) dX7_filterTold_164 (by first | rfl | decide) ?_
                  refine v_iadd dX7_filterTold_165 ?_
                  refine v_put fp_X7_331 dX7_filterTold_166 (up_s _ _ _) (Nat.le_of_ble_eq_true rfl) (by first | rfl | decide) (by first | rfl | decide) ?_
                  refine v_hp (up_up _ _ _ _) ?_
                  rw [nI_1]
                  refine v_iload_n 2 dX7_filterTold_169 rfl rfl ?_
                  refine v_if_eq (tgt := 199) dX7_filterTold_170 (by decide) (fun hc170 => ?_) (fun hc170 => ?_)
                  · exact absurd hc170 (by decide)
                  ·
                    refine v_iload_n 2 dX7_filterTold_173 rfl rfl ?_
                    refine v_iconst (v := 3) dX7_filterTold_174 (by first | rfl | decide) ?_
                    refine v_icmp_eq (tgt := 199) dX7_filterTold_175 (by decide) (fun hc175 => ?_) (fun hc175 => ?_)
                    · exact absurd hc175 (by decide)
                    ·
                      refine v_aload_n 4 dX7_filterTold_178 rfl rfl ?_
                      refine v_callV (c_X7_figureTold d (up_s _ _ _) (up_n (by decide) h75) hp ht60 (by omega) hT) cs_X7_350 dX7_filterTold_179 (up_s _ _ _) rfl rfl (Nat.le_of_ble_eq_true rfl) ?_
                      rintro _ _ ⟨v4, k4, fa4, rfl, rfl, hk4, hf1, hf2⟩
                      refine v_hp (up_up _ _ _ _) ?_
                      refine v_istore dX7_filterTold_182 (by decide) (fun y4 e_y4 => ?_)
                      refine v_ls (ls' := [(4, .int y4), (3, .int y3), (2, .int (2)), (1, .int y1), (0, .ref 60)]) rfl ?_
                      have hv40 := e_y4
                      refine v_iload 0 dX7_filterTold_184 rfl ?_
                      refine v_if_ge (tgt := 199) dX7_filterTold_186 (by decide) (fun hv4x => ?_) (fun hv4x => ?_)
                      ·
                        have hv4 : ¬ v4 < 0 := by rw [← e_y4]; exact Int32.not_lt.mpr hv4x
                        refine v_iload_n 2 dX7_filterTold_199 rfl rfl ?_
                        refine v_iload_n 1 dX7_filterTold_200 rfl rfl ?_
                        refine v_iload 0 dX7_filterTold_201 rfl ?_
                        refine v_callS (c_X7_codeOf (d + 2) ) cs_X7_162 dX7_filterTold_203 rfl rfl (Nat.le_of_ble_eq_true rfl) ?_
                        refine rt_k ?_
                        refine v_iret dX7_filterTold_206 rfl (by first | rfl | decide | exact nar_b (by first | assumption | rfl)) ?_
                        have hcm : nxP tp (k + 1 + 1) = 44 := (nx_eq hT (by decide) (by decide)).mp hc146
                        by_cases hnum : (numP tp (k + 1 + 2)).1 < 0
                        · have hX : fxI tp k = (false, (numP tp (k + 1 + 2)).2, 0) := by
                            rw [hI, fx_af (c := 2) (by decide) (by decide), if_neg hq3, if_pos hcm, if_pos hnum]
                          rcases (hf1 (by decide)).1 hnum with ⟨g1, g2, g3⟩ | ⟨g1, g2⟩
                          · exact absurd g1 hv4
                          · subst g2
                            refine ⟨_, _, _, rfl, rfl, by omega, fun z => ?_, fun _ => ?_⟩
                            · rw [hX] at z; cases (show false = true from z)
                            · rw [hX]
                        · have hX : fxI tp k = (true, (numP tp (k + 1 + 2)).2, cdO 2 (figP tp (k + 1) 3) (numP tp (k + 1 + 2)).1) := by
                            rw [hI, fx_af (c := 2) (by decide) (by decide), if_neg hq3, if_pos hcm, if_neg hnum]
                          obtain ⟨g1, g2, g3⟩ := (hf1 (by decide)).2 hnum
                          subst g2 g3
                          refine ⟨_, _, _, rfl, rfl, by omega, fun _ => ?_, fun z => ?_⟩
                          · rw [hX]; exact ⟨rfl, rfl, by rw [e_y4, g1, e_y3, e3]⟩
                          · rw [hX] at z; cases (show true = false from z)
                      ·
                        have hv4 : v4 < 0 := by rw [← e_y4]; exact Int32.not_le.mp hv4x
                        refine v_aload_n 4 dX7_filterTold_189 rfl rfl ?_
                        refine v_aload_n 4 dX7_filterTold_190 rfl rfl ?_
                        refine v_get fl_X7_331 dX7_filterTold_191 (up_s _ _ _) rfl ?_
                        refine v_callV (c_X7_faulty (d + 2) (up_s _ _ _)) cs_X7_344 dX7_filterTold_194 (up_s _ _ _) rfl rfl (Nat.le_of_ble_eq_true rfl) ?_
                        refine rt_k ?_
                        refine v_hp (up_up _ _ _ _) ?_
                        refine v_iconst (v := 0) dX7_filterTold_197 (by first | rfl | decide) ?_
                        refine v_iret dX7_filterTold_198 rfl (by first | rfl | decide | exact nar_b (by first | assumption | rfl)) ?_
                        have hcm : nxP tp (k + 1 + 1) = 44 := (nx_eq hT (by decide) (by decide)).mp hc146
                        by_cases hnum : (numP tp (k + 1 + 2)).1 < 0
                        · have hX : fxI tp k = (false, (numP tp (k + 1 + 2)).2, 0) := by
                            rw [hI, fx_af (c := 2) (by decide) (by decide), if_neg hq3, if_pos hcm, if_pos hnum]
                          rcases (hf1 (by decide)).1 hnum with ⟨g1, g2, g3⟩ | ⟨g1, g2⟩
                          · subst g2 g3
                            refine ⟨_, _, _, rfl, rfl, by omega, fun z => ?_, fun _ => ?_⟩
                            · rw [hX] at z; cases (show false = true from z)
                            · rw [hX]; exact if_pos (by decide)
                          · exact absurd (by first | exact hv4 | exact e_y4 ▸ hv4) g1
                        · obtain ⟨g1, g2, g3⟩ := (hf1 (by decide)).2 hnum
                          rw [g1] at hv4
                          exact absurd hv4 hnum
                ·
                  refine v_aload_n 4 dX7_filterTold_149 rfl rfl ?_
                  refine v_aload_n 4 dX7_filterTold_150 rfl rfl ?_
                  refine v_get fl_X7_331 dX7_filterTold_151 (up_s _ _ _) rfl ?_
                  refine v_callV (c_X7_faulty (d + 2) (up_s _ _ _)) cs_X7_344 dX7_filterTold_154 (up_s _ _ _) rfl rfl (Nat.le_of_ble_eq_true rfl) ?_
                  refine rt_k ?_
                  refine v_hp (up_up _ _ _ _) ?_
                  refine v_iconst (v := 0) dX7_filterTold_157 (by first | rfl | decide) ?_
                  refine v_iret dX7_filterTold_158 rfl (by first | rfl | decide | exact nar_b (by first | assumption | rfl)) ?_
                  have hcm : ¬ nxP tp (k + 1 + 1) = 44 := fun z => hc146 ((nx_eq hT (by decide) (by decide)).mpr z)
                  have hX : fxI tp k = (false, k + 1 + 1, 0) := by
                    rw [hI, fx_af (c := 2) (by decide) (by decide), if_neg hq3, if_neg hcm]
                  refine ⟨_, _, _, rfl, rfl, by omega, fun z => ?_, fun _ => ?_⟩
                  · rw [hX] at z; cases (show false = true from z)
                  · rw [hX]
                    all_goals rfl
              · exact absurd (by decide) hc132
          · exact absurd (by decide) hc105
        · exact absurd hc80 (by decide)
    ·
      refine v_iconst (v := 1) dX7_filterTold_21 (by first | rfl | decide) ?_
      refine v_goto (tgt := 77) dX7_filterTold_22 (by decide) ?_
      refine v_istore_n dX7_filterTold_77 rfl (by decide) (fun x2_7 e_x2_7 => ?_)
      refine v_ls (ls' := [(2, .int x2_7), (1, .int y1), (0, .ref 60)]) rfl ?_
      subst e_x2_7
      refine v_iload_n 0 dX7_filterTold_78 rfl rfl ?_
      refine v_iconst (v := -1) dX7_filterTold_79 (by first | rfl | decide) ?_
      refine v_icmp_ne (tgt := 93) dX7_filterTold_80 (by decide) (fun hc80 => ?_) (fun hc80 => ?_)
      ·
        have hnx : nxP tp k = 121 := (nx_eq hT (by decide) (by decide)).mp (e_y1.symm.trans hc18)
        have hkl : k < tp.length := nx_lt (by rw [hnx]; decide)
        have hI : fxI tp k = fxP tp 1 (k + 1) := fxI_1 hnx
        refine v_aload_n 2 dX7_filterTold_93 rfl rfl ?_
        refine v_dup dX7_filterTold_94 rfl ?_
        refine v_get fl_X7_331 dX7_filterTold_95 h60 rfl ?_
        refine v_iconst (v := 1) dX7_filterTold_98 (by first | rfl | decide) ?_
        refine v_iadd dX7_filterTold_99 ?_
        refine v_put fp_X7_331 dX7_filterTold_100 h60 (Nat.le_of_ble_eq_true rfl) (by first | rfl | decide) (by first | rfl | decide) ?_
        rw [nI_1]
        refine v_iload_n 0 dX7_filterTold_103 rfl rfl ?_
        refine v_iconst (v := 2) dX7_filterTold_104 (by first | rfl | decide) ?_
        refine v_icmp_eq (tgt := 118) dX7_filterTold_105 (by decide) (fun hc105 => ?_) (fun hc105 => ?_)
        · exact absurd hc105 (by decide)
        ·
          refine v_iload_n 0 dX7_filterTold_108 rfl rfl ?_
          refine v_iconst (v := 3) dX7_filterTold_109 (by first | rfl | decide) ?_
          refine v_icmp_eq (tgt := 118) dX7_filterTold_110 (by decide) (fun hc110 => ?_) (fun hc110 => ?_)
          · exact absurd hc110 (by decide)
          ·
            refine v_iload_n 0 dX7_filterTold_113 rfl rfl ?_
            refine v_iconst (v := 4) dX7_filterTold_114 (by first | rfl | decide) ?_
            refine v_icmp_ne (tgt := 125) dX7_filterTold_115 (by decide) (fun hc115 => ?_) (fun hc115 => ?_)
            ·
              refine v_iconst (v := 0) dX7_filterTold_125 (by first | rfl | decide) ?_
              refine v_istore_n dX7_filterTold_126 rfl (by decide) (fun x3_3 e_x3_3 => ?_)
              refine v_ls (ls' := [(3, .int x3_3), (2, .int (1)), (1, .int y1), (0, .ref 60)]) rfl ?_
              subst e_x3_3
              refine v_iconst (v := 0) dX7_filterTold_127 (by first | rfl | decide) ?_
              refine v_istore dX7_filterTold_128 (by decide) (fun x4_9 e_x4_9 => ?_)
              refine v_ls (ls' := [(4, .int x4_9), (3, .int (0)), (2, .int (1)), (1, .int y1), (0, .ref 60)]) rfl ?_
              subst e_x4_9
              refine v_iload_n 2 dX7_filterTold_130 rfl rfl ?_
              refine v_iconst (v := 2) dX7_filterTold_131 (by first | rfl | decide) ?_
              refine v_icmp_eq (tgt := 140) dX7_filterTold_132 (by decide) (fun hc132 => ?_) (fun hc132 => ?_)
              · exact absurd hc132 (by decide)
              ·
                refine v_iload_n 2 dX7_filterTold_135 rfl rfl ?_
                refine v_iconst (v := 4) dX7_filterTold_136 (by first | rfl | decide) ?_
                refine v_icmp_ne (tgt := 169) dX7_filterTold_137 (by decide) (fun hc137 => ?_) (fun hc137 => ?_)
                ·
                  refine v_iload_n 2 dX7_filterTold_169 rfl rfl ?_
                  refine v_if_eq (tgt := 199) dX7_filterTold_170 (by decide) (fun hc170 => ?_) (fun hc170 => ?_)
                  · exact absurd hc170 (by decide)
                  ·
                    refine v_iload_n 2 dX7_filterTold_173 rfl rfl ?_
                    refine v_iconst (v := 3) dX7_filterTold_174 (by first | rfl | decide) ?_
                    refine v_icmp_eq (tgt := 199) dX7_filterTold_175 (by decide) (fun hc175 => ?_) (fun hc175 => ?_)
                    · exact absurd hc175 (by decide)
                    ·
                      refine v_aload_n 4 dX7_filterTold_178 rfl rfl ?_
                      refine v_callV (c_X7_figureTold d (up_s _ _ _) (up_n (by decide) h75) hp ht60 (by omega) hT) cs_X7_350 dX7_filterTold_179 (up_s _ _ _) rfl rfl (Nat.le_of_ble_eq_true rfl) ?_
                      rintro _ _ ⟨v4, k4, fa4, rfl, rfl, hk4, hf1, hf2⟩
                      refine v_hp (up_up _ _ _ _) ?_
                      refine v_istore dX7_filterTold_182 (by decide) (fun y4 e_y4 => ?_)
                      refine v_ls (ls' := [(4, .int y4), (3, .int (0)), (2, .int (1)), (1, .int y1), (0, .ref 60)]) rfl ?_
                      have hv40 := e_y4
                      refine v_iload 0 dX7_filterTold_184 rfl ?_
                      refine v_if_ge (tgt := 199) dX7_filterTold_186 (by decide) (fun hv4x => ?_) (fun hv4x => ?_)
                      ·
                        have hv4 : ¬ v4 < 0 := by rw [← e_y4]; exact Int32.not_lt.mpr hv4x
                        refine v_iload_n 2 dX7_filterTold_199 rfl rfl ?_
                        refine v_iload_n 1 dX7_filterTold_200 rfl rfl ?_
                        refine v_iload 0 dX7_filterTold_201 rfl ?_
                        refine v_callS (c_X7_codeOf (d + 2) ) cs_X7_162 dX7_filterTold_203 rfl rfl (Nat.le_of_ble_eq_true rfl) ?_
                        refine rt_k ?_
                        refine v_iret dX7_filterTold_206 rfl (by first | rfl | decide | exact nar_b (by first | assumption | rfl)) ?_
                        by_cases hnum : (numP tp (k + 1)).1 < 0
                        · have hX : fxI tp k = (false, (numP tp (k + 1)).2, 0) := by
                            rw [hI, fx_f (c := 1) (by decide) (by decide), if_pos hnum]
                          rcases (hf1 (by decide)).1 hnum with ⟨g1, g2, g3⟩ | ⟨g1, g2⟩
                          · exact absurd g1 hv4
                          · subst g2
                            refine ⟨_, _, _, rfl, rfl, by omega, fun z => ?_, fun _ => ?_⟩
                            · rw [hX] at z; cases (show false = true from z)
                            · rw [hX]
                        · have hX : fxI tp k = (true, (numP tp (k + 1)).2, cdO 1 0 (numP tp (k + 1)).1) := by
                            rw [hI, fx_f (c := 1) (by decide) (by decide), if_neg hnum]
                          obtain ⟨g1, g2, g3⟩ := (hf1 (by decide)).2 hnum
                          subst g2 g3
                          refine ⟨_, _, _, rfl, rfl, by omega, fun _ => ?_, fun z => ?_⟩
                          · rw [hX]; exact ⟨rfl, rfl, by rw [e_y4, g1]⟩
                          · rw [hX] at z; cases (show true = false from z)
                      ·
                        have hv4 : v4 < 0 := by rw [← e_y4]; exact Int32.not_le.mp hv4x
                        refine v_aload_n 4 dX7_filterTold_189 rfl rfl ?_
                        refine v_aload_n 4 dX7_filterTold_190 rfl rfl ?_
                        refine v_get fl_X7_331 dX7_filterTold_191 (up_s _ _ _) rfl ?_
                        refine v_callV (c_X7_faulty (d + 2) (up_s _ _ _)) cs_X7_344 dX7_filterTold_194 (up_s _ _ _) rfl rfl (Nat.le_of_ble_eq_true rfl) ?_
                        refine rt_k ?_
                        refine v_hp (up_up _ _ _ _) ?_
                        refine v_iconst (v := 0) dX7_filterTold_197 (by first | rfl | decide) ?_
                        refine v_iret dX7_filterTold_198 rfl (by first | rfl | decide | exact nar_b (by first | assumption | rfl)) ?_
                        by_cases hnum : (numP tp (k + 1)).1 < 0
                        · have hX : fxI tp k = (false, (numP tp (k + 1)).2, 0) := by
                            rw [hI, fx_f (c := 1) (by decide) (by decide), if_pos hnum]
                          rcases (hf1 (by decide)).1 hnum with ⟨g1, g2, g3⟩ | ⟨g1, g2⟩
                          · subst g2 g3
                            refine ⟨_, _, _, rfl, rfl, by omega, fun z => ?_, fun _ => ?_⟩
                            · rw [hX] at z; cases (show false = true from z)
                            · rw [hX]; exact if_pos (by decide)
                          · exact absurd (by first | exact hv4 | exact e_y4 ▸ hv4) g1
                        · obtain ⟨g1, g2, g3⟩ := (hf1 (by decide)).2 hnum
                          rw [g1] at hv4
                          exact absurd hv4 hnum
                · exact absurd hc137 (by decide)
            · exact absurd hc115 (by decide)
      · exact absurd hc80 (by decide)
  ·
    refine v_iconst (v := 0) dX7_filterTold_11 (by first | rfl | decide) ?_
    refine v_goto (tgt := 77) dX7_filterTold_12 (by decide) ?_
    refine v_istore_n dX7_filterTold_77 rfl (by decide) (fun x2_8 e_x2_8 => ?_)
    refine v_ls (ls' := [(2, .int x2_8), (1, .int y1), (0, .ref 60)]) rfl ?_
    subst e_x2_8
    refine v_iload_n 0 dX7_filterTold_78 rfl rfl ?_
    refine v_iconst (v := -1) dX7_filterTold_79 (by first | rfl | decide) ?_
    refine v_icmp_ne (tgt := 93) dX7_filterTold_80 (by decide) (fun hc80 => ?_) (fun hc80 => ?_)
    ·
      have hnx : nxP tp k = 103 := (nx_eq hT (by decide) (by decide)).mp (e_y1.symm.trans hc8)
      have hkl : k < tp.length := nx_lt (by rw [hnx]; decide)
      have hI : fxI tp k = fxP tp 0 (k + 1) := fxI_0 hnx
      refine v_aload_n 2 dX7_filterTold_93 rfl rfl ?_
      refine v_dup dX7_filterTold_94 rfl ?_
      refine v_get fl_X7_331 dX7_filterTold_95 h60 rfl ?_
      refine v_iconst (v := 1) dX7_filterTold_98 (by first | rfl | decide) ?_
      refine v_iadd dX7_filterTold_99 ?_
      refine v_put fp_X7_331 dX7_filterTold_100 h60 (Nat.le_of_ble_eq_true rfl) (by first | rfl | decide) (by first | rfl | decide) ?_
      rw [nI_1]
      refine v_iload_n 0 dX7_filterTold_103 rfl rfl ?_
      refine v_iconst (v := 2) dX7_filterTold_104 (by first | rfl | decide) ?_
      refine v_icmp_eq (tgt := 118) dX7_filterTold_105 (by decide) (fun hc105 => ?_) (fun hc105 => ?_)
      · exact absurd hc105 (by decide)
      ·
        refine v_iload_n 0 dX7_filterTold_108 rfl rfl ?_
        refine v_iconst (v := 3) dX7_filterTold_109 (by first | rfl | decide) ?_
        refine v_icmp_eq (tgt := 118) dX7_filterTold_110 (by decide) (fun hc110 => ?_) (fun hc110 => ?_)
        · exact absurd hc110 (by decide)
        ·
          refine v_iload_n 0 dX7_filterTold_113 rfl rfl ?_
          refine v_iconst (v := 4) dX7_filterTold_114 (by first | rfl | decide) ?_
          refine v_icmp_ne (tgt := 125) dX7_filterTold_115 (by decide) (fun hc115 => ?_) (fun hc115 => ?_)
          ·
            refine v_iconst (v := 0) dX7_filterTold_125 (by first | rfl | decide) ?_
            refine v_istore_n dX7_filterTold_126 rfl (by decide) (fun x3_4 e_x3_4 => ?_)
            refine v_ls (ls' := [(3, .int x3_4), (2, .int (0)), (1, .int y1), (0, .ref 60)]) rfl ?_
            subst e_x3_4
            refine v_iconst (v := 0) dX7_filterTold_127 (by first | rfl | decide) ?_
            refine v_istore dX7_filterTold_128 (by decide) (fun x4_10 e_x4_10 => ?_)
            refine v_ls (ls' := [(4, .int x4_10), (3, .int (0)), (2, .int (0)), (1, .int y1), (0, .ref 60)]) rfl ?_
            subst e_x4_10
            refine v_iload_n 2 dX7_filterTold_130 rfl rfl ?_
            refine v_iconst (v := 2) dX7_filterTold_131 (by first | rfl | decide) ?_
            refine v_icmp_eq (tgt := 140) dX7_filterTold_132 (by decide) (fun hc132 => ?_) (fun hc132 => ?_)
            · exact absurd hc132 (by decide)
            ·
              refine v_iload_n 2 dX7_filterTold_135 rfl rfl ?_
              refine v_iconst (v := 4) dX7_filterTold_136 (by first | rfl | decide) ?_
              refine v_icmp_ne (tgt := 169) dX7_filterTold_137 (by decide) (fun hc137 => ?_) (fun hc137 => ?_)
              ·
                refine v_iload_n 2 dX7_filterTold_169 rfl rfl ?_
                refine v_if_eq (tgt := 199) dX7_filterTold_170 (by decide) (fun hc170 => ?_) (fun hc170 => ?_)
                ·
                  refine v_iload_n 2 dX7_filterTold_199 rfl rfl ?_
                  refine v_iload_n 1 dX7_filterTold_200 rfl rfl ?_
                  refine v_iload 0 dX7_filterTold_201 rfl ?_
                  refine v_callS (c_X7_codeOf (d + 2) ) cs_X7_162 dX7_filterTold_203 rfl rfl (Nat.le_of_ble_eq_true rfl) ?_
                  refine rt_k ?_
                  refine v_iret dX7_filterTold_206 rfl (by first | rfl | decide | exact nar_b (by first | assumption | rfl)) ?_
                  have hX : fxI tp k = (true, k + 1, cdO 0 0 0) := by rw [hI, fx_0]
                  exact ⟨_, k + 1, -1, rfl, rfl, by omega, fun _ => by rw [hX]; exact ⟨rfl, rfl, rfl⟩, fun z => by rw [hX] at z; cases (show true = false from z)⟩
                · exact absurd hc170 (by decide)
              · exact absurd hc137 (by decide)
          · exact absurd hc115 (by decide)
    · exact absurd hc80 (by decide)

