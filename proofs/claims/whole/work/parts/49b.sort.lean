set_option maxRecDepth 20000 in
set_option maxHeartbeats 4000000 in
theorem c_X7_sort {G : Cx} (d : Nat) {μ : Hp} {σ : ST} {k : Int32} (h : Mo σ μ) (hw : Wp (sP σ)) (heb : Eb 100 (sM σ)) (hph : Ph 1000 0 (sM σ)) : Ct G (d + 5) 0 0 M_X7_sort [.ref 60, .int k] μ (Pm ((rSort σ k).2) (.int ((rSort σ k).1)) μ) := by
  refine Ct.ofV (by decide +kernel) (Nat.le_of_ble_eq_true rfl) ?_
  refine v_ls (ls' := [(0, .ref 60), (1, .int k)]) rfl ?_
  obtain ⟨co, wh, un, lr, mr, hr, at9, fa, op, sg, hm, p, tt, ro, og, tc, op9, sp, nw, se, le, mo, ot, h60, h61, h62, h63, h64, h65, h66, h67, h68, h69, h70, h71, h72, h73, h74, h75, h76, h77, h78, h79, h80, hmk, hpl, htp, ht60⟩ := id h
  have hl8 := hw.1
  refine v_aload_n 0 dX7_sort_0 rfl rfl ?_
  refine v_iload_n 1 dX7_sort_1 rfl rfl ?_
  refine v_callV (c_X7_isBeh (d + 3) h60 (by omega)) cs_X7_188 dX7_sort_2 h60 rfl rfl (Nat.le_of_ble_eq_true rfl) ?_
  refine rt_k ?_
  refine v_if_ne (tgt := 10) dX7_sort_5 (by decide) (fun hc5 => ?_) (fun hc5 => ?_)
  ·
    obtain ⟨b, hb9, rfl⟩ := be_ix (by omega) hc5
    have hcb : (nI b).toNatClampNeg = b := clamp (by omega)
    have hB9 : Ph 1125899906842624 40 (behO σ b) := run8_ph hph (fun c hc => hw.2 c (List.mem_of_mem_take hc)) (by rw [List.length_take]; omega)
    obtain ⟨S9, hS⟩ : ∃ S, shrO (behO σ b) = S := ⟨_, rfl⟩
    refine v_aload_n 0 dX7_sort_10 rfl rfl ?_
    refine v_iload_n 1 dX7_sort_11 rfl rfl ?_
    refine v_callV (c_X7_behind d h60 h62 hpl hl8 hw.2 (by omega) h61 h63 heb) cs_X7_195 dX7_sort_12 h60 rfl rfl (Nat.le_of_ble_eq_true rfl) ?_
    refine rt_k ?_
    refine v_aload_n 0 dX7_sort_15 rfl rfl ?_
    refine v_get fl_X7_21 dX7_sort_16 (up_n (by decide) h60) rfl ?_
    refine v_iconst (v := 0) dX7_sort_19 (by first | rfl | decide) ?_
    refine v_lald dX7_sort_20 (up_s _ _ _) (nI_in' (k := 0) (by decide)) ?_
    refine v_lconst (v := 0) dX7_sort_21 (by first | rfl | decide) ?_
    refine v_lc_ne (tgt := 28) dX7_sort_22 dX7_sort_23 (by decide) (fun hc22 => ?_) (fun hc22 => ?_)
    ·
      have hi0 : ¬ (behO σ b).1 = 0 := hc22
      obtain ⟨z1, zq, zu, zv⟩ := shr_z hB9 hi0 hS
      refine v_aload_n 0 dX7_sort_28 rfl rfl ?_
      refine v_get fl_X7_21 dX7_sort_29 (up_n (by decide) h60) rfl ?_
      refine v_iconst (v := 1) dX7_sort_32 (by first | rfl | decide) ?_
      refine v_lald dX7_sort_33 (up_s _ _ _) (nI_in' (k := 1) (by decide)) ?_
      refine v_lconst (v := 0) dX7_sort_34 (by first | rfl | decide) ?_
      refine v_lc_ne (tgt := 54) dX7_sort_35 dX7_sort_36 (by decide) (fun hc35 => ?_) (fun hc35 => ?_)
      ·
        refine v_iconst (v := 0) dX7_sort_54 (by first | rfl | decide) ?_
        refine v_istore_n dX7_sort_55 rfl (by decide) (fun y2 e_y2 => ?_)
        refine v_ls (ls' := [(2, .int y2), (0, .ref 60), (1, .int (nI b))]) rfl ?_
        subst e_y2
        refine v_iload_n 0 dX7_sort_56 rfl rfl ?_
        refine v_if_eq (tgt := 73) dX7_sort_57 (by decide) (fun hc57 => ?_) (fun hc57 => ?_)
        ·
          refine v_aload_n 1 dX7_sort_73 rfl rfl ?_
          by_cases hf : fstO S9 < 0
          ·
            have hn3 : ¬ ((behO σ b).2.1 = 0 ∧ (behO σ b).2.2.1 = 0 ∧ (behO σ b).2.2.2.1 = 0) := by
              rintro ⟨q1, q2, q3⟩
              first | exact hc35 q1 | exact hc46 q2 | exact hc67 q3
            refine v_callV (c_fdA (d + 3) (up_n (by decide) h60) (up_s _ _ _) (up_n (by decide) h78) (up_n (by decide) h79) hB9 hi0 hS hf) cs_X7_231 dX7_sort_74 (up_n (by decide) h60) rfl rfl (Nat.le_of_ble_eq_true rfl) ?_
            refine rt_k ?_
            refine v_if_ne (tgt := 83) dX7_sort_77 (by decide) (fun hc77 => ?_) (fun hc77 => ?_)
            ·
              refine v_aload_n 1 dX7_sort_83 rfl rfl ?_
              refine v_get fl_X7_224 dX7_sort_84 (up_s _ _ _) rfl ?_
              refine v_aload_n 1 dX7_sort_87 rfl rfl ?_
              refine v_get fl_X7_228 dX7_sort_88 (up_s _ _ _) rfl ?_
              refine v_lc_eq (tgt := 99) dX7_sort_91 dX7_sort_92 (by decide) (fun hc91 => ?_) (fun hc91 => ?_)
              ·
                refine v_aload_n 1 dX7_sort_99 rfl rfl ?_
                refine v_get fl_X7_21 dX7_sort_100 (up_s _ _ _) rfl ?_
                refine v_iconst (v := 3) dX7_sort_103 (by first | rfl | decide) ?_
                refine v_lald dX7_sort_104 (up_n (by decide) (up_s _ _ _)) (nI_in' (k := 3) (by decide)) ?_
                refine v_lconst (v := 0) dX7_sort_105 (by first | rfl | decide) ?_
                refine v_lc_ne (tgt := 114) dX7_sort_106 dX7_sort_107 (by decide) (fun hc106 => ?_) (fun hc106 => ?_)
                ·
                  refine v_iload_n 0 dX7_sort_114 rfl rfl ?_
                  refine v_if_eq (tgt := 122) dX7_sort_115 (by decide) (fun hc115 => ?_) (fun hc115 => ?_)
                  ·
                    refine v_iconst (v := 4) dX7_sort_122 (by first | rfl | decide) ?_
                    refine v_iret dX7_sort_123 rfl (by first | rfl | decide | exact nar_b (by first | assumption | rfl)) ?_
                    have hE : rSort σ (nI b) = (4, σ) := by
                      simp only [rSort, srtO, if_neg hc5, hcb, if_neg hi0, if_neg hn3, hS, if_pos hf, sorO]
                      rw [if_pos (show sqO S9 = S9.1 * S9.1 from hc91), if_neg (fun z => hc106 (zv.mp z)), if_neg (fun z => hc35 (zq.mp z))]
                    rw [hE]
                    exact ⟨rfl, ⟨(sqO S9), (S9.1 * S9.1), un, lr, mr, hr, at9, fa, op, sg, hm, p, tt, ro, og, tc, op9, sp, (lvO (behO σ b)), se, le, mo, ot, (up_s _ _ _), (up_n (by decide) (up_n (by decide) h61)), (up_n (by decide) (up_n (by decide) h62)), (up_n (by decide) (up_s _ _ _)), (up_n (by decide) (up_n (by decide) h64)), (up_n (by decide) (up_n (by decide) h65)), (up_n (by decide) (up_n (by decide) h66)), (up_n (by decide) (up_n (by decide) h67)), (up_n (by decide) (up_n (by decide) h68)), (up_n (by decide) (up_n (by decide) h69)), (up_n (by decide) (up_n (by decide) h70)), (up_n (by decide) (up_n (by decide) h71)), (up_n (by decide) (up_n (by decide) h72)), (up_n (by decide) (up_n (by decide) h73)), (up_n (by decide) (up_n (by decide) h74)), (up_n (by decide) (up_n (by decide) h75)), (up_n (by decide) (up_n (by decide) h76)), (up_n (by decide) (up_n (by decide) h77)), (up_n (by decide) (up_n (by decide) h78)), (up_n (by decide) (up_n (by decide) h79)), (up_n (by decide) (up_n (by decide) h80)), (hmk.kept (fun i a b => by repeat (first | rfl | refine up_n (by omega) ?_))), hpl, htp, ht60⟩, fun i hi => by repeat (first | rfl | refine up_n (by omega) ?_)⟩
                  · exact absurd hc115 (by decide)
                ·
                  refine v_iconst (v := 2) dX7_sort_110 (by first | rfl | decide) ?_
                  refine v_goto (tgt := 123) dX7_sort_111 (by decide) ?_
                  refine v_iret dX7_sort_123 rfl (by first | rfl | decide | exact nar_b (by first | assumption | rfl)) ?_
                  have hE : rSort σ (nI b) = (2, σ) := by
                    simp only [rSort, srtO, if_neg hc5, hcb, if_neg hi0, if_neg hn3, hS, if_pos hf, sorO]
                    rw [if_pos (show sqO S9 = S9.1 * S9.1 from hc91), if_pos (zv.mpr hc106)]
                  rw [hE]
                  exact ⟨rfl, ⟨(sqO S9), (S9.1 * S9.1), un, lr, mr, hr, at9, fa, op, sg, hm, p, tt, ro, og, tc, op9, sp, (lvO (behO σ b)), se, le, mo, ot, (up_s _ _ _), (up_n (by decide) (up_n (by decide) h61)), (up_n (by decide) (up_n (by decide) h62)), (up_n (by decide) (up_s _ _ _)), (up_n (by decide) (up_n (by decide) h64)), (up_n (by decide) (up_n (by decide) h65)), (up_n (by decide) (up_n (by decide) h66)), (up_n (by decide) (up_n (by decide) h67)), (up_n (by decide) (up_n (by decide) h68)), (up_n (by decide) (up_n (by decide) h69)), (up_n (by decide) (up_n (by decide) h70)), (up_n (by decide) (up_n (by decide) h71)), (up_n (by decide) (up_n (by decide) h72)), (up_n (by decide) (up_n (by decide) h73)), (up_n (by decide) (up_n (by decide) h74)), (up_n (by decide) (up_n (by decide) h75)), (up_n (by decide) (up_n (by decide) h76)), (up_n (by decide) (up_n (by decide) h77)), (up_n (by decide) (up_n (by decide) h78)), (up_n (by decide) (up_n (by decide) h79)), (up_n (by decide) (up_n (by decide) h80)), (hmk.kept (fun i a b => by repeat (first | rfl | refine up_n (by omega) ?_))), hpl, htp, ht60⟩, fun i hi => by repeat (first | rfl | refine up_n (by omega) ?_)⟩
              ·
                refine v_iconst (v := 5) dX7_sort_95 (by first | rfl | decide) ?_
                refine v_goto (tgt := 123) dX7_sort_96 (by decide) ?_
                refine v_iret dX7_sort_123 rfl (by first | rfl | decide | exact nar_b (by first | assumption | rfl)) ?_
                have hE : rSort σ (nI b) = (5, σ) := by
                  simp only [rSort, srtO, if_neg hc5, hcb, if_neg hi0, if_neg hn3, hS, if_pos hf, sorO]
                  rw [if_neg (show ¬ sqO S9 = S9.1 * S9.1 from hc91)]
                rw [hE]
                exact ⟨rfl, ⟨(sqO S9), (S9.1 * S9.1), un, lr, mr, hr, at9, fa, op, sg, hm, p, tt, ro, og, tc, op9, sp, (lvO (behO σ b)), se, le, mo, ot, (up_s _ _ _), (up_n (by decide) (up_n (by decide) h61)), (up_n (by decide) (up_n (by decide) h62)), (up_n (by decide) (up_s _ _ _)), (up_n (by decide) (up_n (by decide) h64)), (up_n (by decide) (up_n (by decide) h65)), (up_n (by decide) (up_n (by decide) h66)), (up_n (by decide) (up_n (by decide) h67)), (up_n (by decide) (up_n (by decide) h68)), (up_n (by decide) (up_n (by decide) h69)), (up_n (by decide) (up_n (by decide) h70)), (up_n (by decide) (up_n (by decide) h71)), (up_n (by decide) (up_n (by decide) h72)), (up_n (by decide) (up_n (by decide) h73)), (up_n (by decide) (up_n (by decide) h74)), (up_n (by decide) (up_n (by decide) h75)), (up_n (by decide) (up_n (by decide) h76)), (up_n (by decide) (up_n (by decide) h77)), (up_n (by decide) (up_n (by decide) h78)), (up_n (by decide) (up_n (by decide) h79)), (up_n (by decide) (up_n (by decide) h80)), (hmk.kept (fun i a b => by repeat (first | rfl | refine up_n (by omega) ?_))), hpl, htp, ht60⟩, fun i hi => by repeat (first | rfl | refine up_n (by omega) ?_)⟩
            · exact absurd hc77 (by decide)
          ·
            have hn3 : ¬ ((behO σ b).2.1 = 0 ∧ (behO σ b).2.2.1 = 0 ∧ (behO σ b).2.2.2.1 = 0) := by
              rintro ⟨q1, q2, q3⟩
              first | exact hc35 q1 | exact hc46 q2 | exact hc67 q3
            refine v_callV (c_fdB (d + 3) (up_n (by decide) h60) (up_s _ _ _) (up_n (by decide) h78) (up_n (by decide) h79) hB9 hi0 hS hf) cs_X7_231 dX7_sort_74 (up_n (by decide) h60) rfl rfl (Nat.le_of_ble_eq_true rfl) ?_
            refine rt_k ?_
            refine v_if_ne (tgt := 83) dX7_sort_77 (by decide) (fun hc77 => ?_) (fun hc77 => ?_)
            · exact absurd rfl hc77
            ·
              refine v_bipush (v := -9) dX7_sort_80 (by first | rfl | decide) ?_
              refine v_iret dX7_sort_82 rfl (by first | rfl | decide | exact nar_b (by first | assumption | rfl)) ?_
              have hE : rSort σ (nI b) = (-9, toW σ (tooW (sW σ) (fstO S9))) := by simp only [rSort, srtO, if_neg hc5, hcb, if_neg hi0, if_neg hn3, hS, if_neg hf]
              rw [hE]
              exact ⟨rfl, ⟨co, wh, un, lr, mr, hr, at9, fa, op, sg, hm, p, tt, ro, og, tc, op9, sp, (lvO (behO σ b)), se, le, mo, ot, (up_s _ _ _), (up_n (by decide) (up_n (by decide) (up_n (by decide) (up_n (by decide) (up_n (by decide) h61))))), (up_n (by decide) (up_n (by decide) (up_n (by decide) (up_n (by decide) (up_n (by decide) h62))))), (up_n (by decide) (up_n (by decide) (up_n (by decide) (up_n (by decide) (up_s _ _ _))))), (up_n (by decide) (up_n (by decide) (up_n (by decide) (up_n (by decide) (up_n (by decide) h64))))), (up_n (by decide) (up_n (by decide) (up_n (by decide) (up_n (by decide) (up_n (by decide) h65))))), (up_n (by decide) (up_n (by decide) (up_n (by decide) (up_n (by decide) (up_n (by decide) h66))))), (up_n (by decide) (up_n (by decide) (up_n (by decide) (up_n (by decide) (up_n (by decide) h67))))), (up_n (by decide) (up_n (by decide) (up_n (by decide) (up_n (by decide) (up_n (by decide) h68))))), (up_n (by decide) (up_n (by decide) (up_n (by decide) (up_n (by decide) (up_n (by decide) h69))))), (up_n (by decide) (up_n (by decide) (up_n (by decide) (up_n (by decide) (up_n (by decide) h70))))), (up_n (by decide) (up_n (by decide) (up_n (by decide) (up_n (by decide) (up_n (by decide) h71))))), (up_n (by decide) (up_n (by decide) (up_n (by decide) (up_n (by decide) (up_n (by decide) h72))))), (up_n (by decide) (up_n (by decide) (up_n (by decide) (up_n (by decide) (up_n (by decide) h73))))), (up_n (by decide) (up_n (by decide) (up_n (by decide) (up_n (by decide) (up_n (by decide) h74))))), (up_n (by decide) (up_n (by decide) (up_n (by decide) (up_n (by decide) (up_n (by decide) h75))))), (up_n (by decide) (up_n (by decide) (up_n (by decide) (up_n (by decide) (up_n (by decide) h76))))), (up_n (by decide) (up_n (by decide) (up_n (by decide) (up_n (by decide) (up_n (by decide) h77))))), (up_n (by decide) (up_n (by decide) (up_s _ _ _))), (up_n (by decide) (up_s _ _ _)), (up_n (by decide) (up_n (by decide) (up_n (by decide) (up_n (by decide) (up_n (by decide) h80))))), (hmk.kept (fun i a b => by repeat (first | rfl | refine up_n (by omega) ?_))), hpl, htp, ht60⟩, fun i hi => by repeat (first | rfl | refine up_n (by omega) ?_)⟩
        · exact absurd hc57 (by decide)
      ·
        refine v_aload_n 0 dX7_sort_39 rfl rfl ?_
        refine v_get fl_X7_21 dX7_sort_40 (up_n (by decide) h60) rfl ?_
        refine v_iconst (v := 2) dX7_sort_43 (by first | rfl | decide) ?_
        refine v_lald dX7_sort_44 (up_s _ _ _) (nI_in' (k := 2) (by decide)) ?_
        refine v_lconst (v := 0) dX7_sort_45 (by first | rfl | decide) ?_
        refine v_lc_ne (tgt := 54) dX7_sort_46 dX7_sort_47 (by decide) (fun hc46 => ?_) (fun hc46 => ?_)
        ·
          refine v_iconst (v := 0) dX7_sort_54 (by first | rfl | decide) ?_
          refine v_istore_n dX7_sort_55 rfl (by decide) (fun y2 e_y2 => ?_)
          refine v_ls (ls' := [(2, .int y2), (0, .ref 60), (1, .int (nI b))]) rfl ?_
          subst e_y2
          refine v_iload_n 0 dX7_sort_56 rfl rfl ?_
          refine v_if_eq (tgt := 73) dX7_sort_57 (by decide) (fun hc57 => ?_) (fun hc57 => ?_)
          ·
            refine v_aload_n 1 dX7_sort_73 rfl rfl ?_
            by_cases hf : fstO S9 < 0
            ·
              have hn3 : ¬ ((behO σ b).2.1 = 0 ∧ (behO σ b).2.2.1 = 0 ∧ (behO σ b).2.2.2.1 = 0) := by
                rintro ⟨q1, q2, q3⟩
                first | exact hc35 q1 | exact hc46 q2 | exact hc67 q3
              refine v_callV (c_fdA (d + 3) (up_n (by decide) h60) (up_s _ _ _) (up_n (by decide) h78) (up_n (by decide) h79) hB9 hi0 hS hf) cs_X7_231 dX7_sort_74 (up_n (by decide) h60) rfl rfl (Nat.le_of_ble_eq_true rfl) ?_
              refine rt_k ?_
              refine v_if_ne (tgt := 83) dX7_sort_77 (by decide) (fun hc77 => ?_) (fun hc77 => ?_)
              ·
                refine v_aload_n 1 dX7_sort_83 rfl rfl ?_
                refine v_get fl_X7_224 dX7_sort_84 (up_s _ _ _) rfl ?_
                refine v_aload_n 1 dX7_sort_87 rfl rfl ?_
                refine v_get fl_X7_228 dX7_sort_88 (up_s _ _ _) rfl ?_
                refine v_lc_eq (tgt := 99) dX7_sort_91 dX7_sort_92 (by decide) (fun hc91 => ?_) (fun hc91 => ?_)
                ·
                  refine v_aload_n 1 dX7_sort_99 rfl rfl ?_
                  refine v_get fl_X7_21 dX7_sort_100 (up_s _ _ _) rfl ?_
                  refine v_iconst (v := 3) dX7_sort_103 (by first | rfl | decide) ?_
                  refine v_lald dX7_sort_104 (up_n (by decide) (up_s _ _ _)) (nI_in' (k := 3) (by decide)) ?_
                  refine v_lconst (v := 0) dX7_sort_105 (by first | rfl | decide) ?_
                  refine v_lc_ne (tgt := 114) dX7_sort_106 dX7_sort_107 (by decide) (fun hc106 => ?_) (fun hc106 => ?_)
                  ·
                    refine v_iload_n 0 dX7_sort_114 rfl rfl ?_
                    refine v_if_eq (tgt := 122) dX7_sort_115 (by decide) (fun hc115 => ?_) (fun hc115 => ?_)
                    ·
                      refine v_iconst (v := 4) dX7_sort_122 (by first | rfl | decide) ?_
                      refine v_iret dX7_sort_123 rfl (by first | rfl | decide | exact nar_b (by first | assumption | rfl)) ?_
                      have hE : rSort σ (nI b) = (4, σ) := by
                        simp only [rSort, srtO, if_neg hc5, hcb, if_neg hi0, if_neg hn3, hS, if_pos hf, sorO]
                        rw [if_pos (show sqO S9 = S9.1 * S9.1 from hc91), if_neg (fun z => hc106 (zv.mp z)), if_pos (zq.mpr hc35), if_neg (fun z => hc46 (zu.mp z))]
                      rw [hE]
                      exact ⟨rfl, ⟨(sqO S9), (S9.1 * S9.1), un, lr, mr, hr, at9, fa, op, sg, hm, p, tt, ro, og, tc, op9, sp, (lvO (behO σ b)), se, le, mo, ot, (up_s _ _ _), (up_n (by decide) (up_n (by decide) h61)), (up_n (by decide) (up_n (by decide) h62)), (up_n (by decide) (up_s _ _ _)), (up_n (by decide) (up_n (by decide) h64)), (up_n (by decide) (up_n (by decide) h65)), (up_n (by decide) (up_n (by decide) h66)), (up_n (by decide) (up_n (by decide) h67)), (up_n (by decide) (up_n (by decide) h68)), (up_n (by decide) (up_n (by decide) h69)), (up_n (by decide) (up_n (by decide) h70)), (up_n (by decide) (up_n (by decide) h71)), (up_n (by decide) (up_n (by decide) h72)), (up_n (by decide) (up_n (by decide) h73)), (up_n (by decide) (up_n (by decide) h74)), (up_n (by decide) (up_n (by decide) h75)), (up_n (by decide) (up_n (by decide) h76)), (up_n (by decide) (up_n (by decide) h77)), (up_n (by decide) (up_n (by decide) h78)), (up_n (by decide) (up_n (by decide) h79)), (up_n (by decide) (up_n (by decide) h80)), (hmk.kept (fun i a b => by repeat (first | rfl | refine up_n (by omega) ?_))), hpl, htp, ht60⟩, fun i hi => by repeat (first | rfl | refine up_n (by omega) ?_)⟩
                    · exact absurd hc115 (by decide)
                  ·
                    refine v_iconst (v := 2) dX7_sort_110 (by first | rfl | decide) ?_
                    refine v_goto (tgt := 123) dX7_sort_111 (by decide) ?_
                    refine v_iret dX7_sort_123 rfl (by first | rfl | decide | exact nar_b (by first | assumption | rfl)) ?_
                    have hE : rSort σ (nI b) = (2, σ) := by
                      simp only [rSort, srtO, if_neg hc5, hcb, if_neg hi0, if_neg hn3, hS, if_pos hf, sorO]
                      rw [if_pos (show sqO S9 = S9.1 * S9.1 from hc91), if_pos (zv.mpr hc106)]
                    rw [hE]
                    exact ⟨rfl, ⟨(sqO S9), (S9.1 * S9.1), un, lr, mr, hr, at9, fa, op, sg, hm, p, tt, ro, og, tc, op9, sp, (lvO (behO σ b)), se, le, mo, ot, (up_s _ _ _), (up_n (by decide) (up_n (by decide) h61)), (up_n (by decide) (up_n (by decide) h62)), (up_n (by decide) (up_s _ _ _)), (up_n (by decide) (up_n (by decide) h64)), (up_n (by decide) (up_n (by decide) h65)), (up_n (by decide) (up_n (by decide) h66)), (up_n (by decide) (up_n (by decide) h67)), (up_n (by decide) (up_n (by decide) h68)), (up_n (by decide) (up_n (by decide) h69)), (up_n (by decide) (up_n (by decide) h70)), (up_n (by decide) (up_n (by decide) h71)), (up_n (by decide) (up_n (by decide) h72)), (up_n (by decide) (up_n (by decide) h73)), (up_n (by decide) (up_n (by decide) h74)), (up_n (by decide) (up_n (by decide) h75)), (up_n (by decide) (up_n (by decide) h76)), (up_n (by decide) (up_n (by decide) h77)), (up_n (by decide) (up_n (by decide) h78)), (up_n (by decide) (up_n (by decide) h79)), (up_n (by decide) (up_n (by decide) h80)), (hmk.kept (fun i a b => by repeat (first | rfl | refine up_n (by omega) ?_))), hpl, htp, ht60⟩, fun i hi => by repeat (first | rfl | refine up_n (by omega) ?_)⟩
                ·
                  refine v_iconst (v := 5) dX7_sort_95 (by first | rfl | decide) ?_
                  refine v_goto (tgt := 123) dX7_sort_96 (by decide) ?_
                  refine v_iret dX7_sort_123 rfl (by first | rfl | decide | exact nar_b (by first | assumption | rfl)) ?_
                  have hE : rSort σ (nI b) = (5, σ) := by
                    simp only [rSort, srtO, if_neg hc5, hcb, if_neg hi0, if_neg hn3, hS, if_pos hf, sorO]
                    rw [if_neg (show ¬ sqO S9 = S9.1 * S9.1 from hc91)]
                  rw [hE]
                  exact ⟨rfl, ⟨(sqO S9), (S9.1 * S9.1), un, lr, mr, hr, at9, fa, op, sg, hm, p, tt, ro, og, tc, op9, sp, (lvO (behO σ b)), se, le, mo, ot, (up_s _ _ _), (up_n (by decide) (up_n (by decide) h61)), (up_n (by decide) (up_n (by decide) h62)), (up_n (by decide) (up_s _ _ _)), (up_n (by decide) (up_n (by decide) h64)), (up_n (by decide) (up_n (by decide) h65)), (up_n (by decide) (up_n (by decide) h66)), (up_n (by decide) (up_n (by decide) h67)), (up_n (by decide) (up_n (by decide) h68)), (up_n (by decide) (up_n (by decide) h69)), (up_n (by decide) (up_n (by decide) h70)), (up_n (by decide) (up_n (by decide) h71)), (up_n (by decide) (up_n (by decide) h72)), (up_n (by decide) (up_n (by decide) h73)), (up_n (by decide) (up_n (by decide) h74)), (up_n (by decide) (up_n (by decide) h75)), (up_n (by decide) (up_n (by decide) h76)), (up_n (by decide) (up_n (by decide) h77)), (up_n (by decide) (up_n (by decide) h78)), (up_n (by decide) (up_n (by decide) h79)), (up_n (by decide) (up_n (by decide) h80)), (hmk.kept (fun i a b => by repeat (first | rfl | refine up_n (by omega) ?_))), hpl, htp, ht60⟩, fun i hi => by repeat (first | rfl | refine up_n (by omega) ?_)⟩
              · exact absurd hc77 (by decide)
            ·
              have hn3 : ¬ ((behO σ b).2.1 = 0 ∧ (behO σ b).2.2.1 = 0 ∧ (behO σ b).2.2.2.1 = 0) := by
                rintro ⟨q1, q2, q3⟩
                first | exact hc35 q1 | exact hc46 q2 | exact hc67 q3
              refine v_callV (c_fdB (d + 3) (up_n (by decide) h60) (up_s _ _ _) (up_n (by decide) h78) (up_n (by decide) h79) hB9 hi0 hS hf) cs_X7_231 dX7_sort_74 (up_n (by decide) h60) rfl rfl (Nat.le_of_ble_eq_true rfl) ?_
              refine rt_k ?_
              refine v_if_ne (tgt := 83) dX7_sort_77 (by decide) (fun hc77 => ?_) (fun hc77 => ?_)
              · exact absurd rfl hc77
              ·
                refine v_bipush (v := -9) dX7_sort_80 (by first | rfl | decide) ?_
                refine v_iret dX7_sort_82 rfl (by first | rfl | decide | exact nar_b (by first | assumption | rfl)) ?_
                have hE : rSort σ (nI b) = (-9, toW σ (tooW (sW σ) (fstO S9))) := by simp only [rSort, srtO, if_neg hc5, hcb, if_neg hi0, if_neg hn3, hS, if_neg hf]
                rw [hE]
                exact ⟨rfl, ⟨co, wh, un, lr, mr, hr, at9, fa, op, sg, hm, p, tt, ro, og, tc, op9, sp, (lvO (behO σ b)), se, le, mo, ot, (up_s _ _ _), (up_n (by decide) (up_n (by decide) (up_n (by decide) (up_n (by decide) (up_n (by decide) h61))))), (up_n (by decide) (up_n (by decide) (up_n (by decide) (up_n (by decide) (up_n (by decide) h62))))), (up_n (by decide) (up_n (by decide) (up_n (by decide) (up_n (by decide) (up_s _ _ _))))), (up_n (by decide) (up_n (by decide) (up_n (by decide) (up_n (by decide) (up_n (by decide) h64))))), (up_n (by decide) (up_n (by decide) (up_n (by decide) (up_n (by decide) (up_n (by decide) h65))))), (up_n (by decide) (up_n (by decide) (up_n (by decide) (up_n (by decide) (up_n (by decide) h66))))), (up_n (by decide) (up_n (by decide) (up_n (by decide) (up_n (by decide) (up_n (by decide) h67))))), (up_n (by decide) (up_n (by decide) (up_n (by decide) (up_n (by decide) (up_n (by decide) h68))))), (up_n (by decide) (up_n (by decide) (up_n (by decide) (up_n (by decide) (up_n (by decide) h69))))), (up_n (by decide) (up_n (by decide) (up_n (by decide) (up_n (by decide) (up_n (by decide) h70))))), (up_n (by decide) (up_n (by decide) (up_n (by decide) (up_n (by decide) (up_n (by decide) h71))))), (up_n (by decide) (up_n (by decide) (up_n (by decide) (up_n (by decide) (up_n (by decide) h72))))), (up_n (by decide) (up_n (by decide) (up_n (by decide) (up_n (by decide) (up_n (by decide) h73))))), (up_n (by decide) (up_n (by decide) (up_n (by decide) (up_n (by decide) (up_n (by decide) h74))))), (up_n (by decide) (up_n (by decide) (up_n (by decide) (up_n (by decide) (up_n (by decide) h75))))), (up_n (by decide) (up_n (by decide) (up_n (by decide) (up_n (by decide) (up_n (by decide) h76))))), (up_n (by decide) (up_n (by decide) (up_n (by decide) (up_n (by decide) (up_n (by decide) h77))))), (up_n (by decide) (up_n (by decide) (up_s _ _ _))), (up_n (by decide) (up_s _ _ _)), (up_n (by decide) (up_n (by decide) (up_n (by decide) (up_n (by decide) (up_n (by decide) h80))))), (hmk.kept (fun i a b => by repeat (first | rfl | refine up_n (by omega) ?_))), hpl, htp, ht60⟩, fun i hi => by repeat (first | rfl | refine up_n (by omega) ?_)⟩
          · exact absurd hc57 (by decide)
        ·
          refine v_iconst (v := 1) dX7_sort_50 (by first | rfl | decide) ?_
          refine v_goto (tgt := 55) dX7_sort_51 (by decide) ?_
          refine v_istore_n dX7_sort_55 rfl (by decide) (fun y2 e_y2 => ?_)
          refine v_ls (ls' := [(2, .int y2), (0, .ref 60), (1, .int (nI b))]) rfl ?_
          subst e_y2
          refine v_iload_n 0 dX7_sort_56 rfl rfl ?_
          refine v_if_eq (tgt := 73) dX7_sort_57 (by decide) (fun hc57 => ?_) (fun hc57 => ?_)
          · exact absurd hc57 (by decide)
          ·
            refine v_aload_n 1 dX7_sort_60 rfl rfl ?_
            refine v_get fl_X7_21 dX7_sort_61 (up_n (by decide) h60) rfl ?_
            refine v_iconst (v := 3) dX7_sort_64 (by first | rfl | decide) ?_
            refine v_lald dX7_sort_65 (up_s _ _ _) (nI_in' (k := 3) (by decide)) ?_
            refine v_lconst (v := 0) dX7_sort_66 (by first | rfl | decide) ?_
            refine v_lc_ne (tgt := 73) dX7_sort_67 dX7_sort_68 (by decide) (fun hc67 => ?_) (fun hc67 => ?_)
            ·
              refine v_aload_n 1 dX7_sort_73 rfl rfl ?_
              by_cases hf : fstO S9 < 0
              ·
                have hn3 : ¬ ((behO σ b).2.1 = 0 ∧ (behO σ b).2.2.1 = 0 ∧ (behO σ b).2.2.2.1 = 0) := by
                  rintro ⟨q1, q2, q3⟩
                  first | exact hc35 q1 | exact hc46 q2 | exact hc67 q3
                refine v_callV (c_fdA (d + 3) (up_n (by decide) h60) (up_s _ _ _) (up_n (by decide) h78) (up_n (by decide) h79) hB9 hi0 hS hf) cs_X7_231 dX7_sort_74 (up_n (by decide) h60) rfl rfl (Nat.le_of_ble_eq_true rfl) ?_
                refine rt_k ?_
                refine v_if_ne (tgt := 83) dX7_sort_77 (by decide) (fun hc77 => ?_) (fun hc77 => ?_)
                ·
                  refine v_aload_n 1 dX7_sort_83 rfl rfl ?_
                  refine v_get fl_X7_224 dX7_sort_84 (up_s _ _ _) rfl ?_
                  refine v_aload_n 1 dX7_sort_87 rfl rfl ?_
                  refine v_get fl_X7_228 dX7_sort_88 (up_s _ _ _) rfl ?_
                  refine v_lc_eq (tgt := 99) dX7_sort_91 dX7_sort_92 (by decide) (fun hc91 => ?_) (fun hc91 => ?_)
                  ·
                    refine v_aload_n 1 dX7_sort_99 rfl rfl ?_
                    refine v_get fl_X7_21 dX7_sort_100 (up_s _ _ _) rfl ?_
                    refine v_iconst (v := 3) dX7_sort_103 (by first | rfl | decide) ?_
                    refine v_lald dX7_sort_104 (up_n (by decide) (up_s _ _ _)) (nI_in' (k := 3) (by decide)) ?_
                    refine v_lconst (v := 0) dX7_sort_105 (by first | rfl | decide) ?_
                    refine v_lc_ne (tgt := 114) dX7_sort_106 dX7_sort_107 (by decide) (fun hc106 => ?_) (fun hc106 => ?_)
                    ·
                      refine v_iload_n 0 dX7_sort_114 rfl rfl ?_
                      refine v_if_eq (tgt := 122) dX7_sort_115 (by decide) (fun hc115 => ?_) (fun hc115 => ?_)
                      · exact absurd hc115 (by decide)
                      ·
                        refine v_iconst (v := 3) dX7_sort_118 (by first | rfl | decide) ?_
                        refine v_goto (tgt := 123) dX7_sort_119 (by decide) ?_
                        refine v_iret dX7_sort_123 rfl (by first | rfl | decide | exact nar_b (by first | assumption | rfl)) ?_
                        have hE : rSort σ (nI b) = (3, σ) := by
                          simp only [rSort, srtO, if_neg hc5, hcb, if_neg hi0, if_neg hn3, hS, if_pos hf, sorO]
                          rw [if_pos (show sqO S9 = S9.1 * S9.1 from hc91), if_neg (fun z => hc106 (zv.mp z)), if_pos (zq.mpr hc35), if_pos (zu.mpr hc46)]
                        rw [hE]
                        exact ⟨rfl, ⟨(sqO S9), (S9.1 * S9.1), un, lr, mr, hr, at9, fa, op, sg, hm, p, tt, ro, og, tc, op9, sp, (lvO (behO σ b)), se, le, mo, ot, (up_s _ _ _), (up_n (by decide) (up_n (by decide) h61)), (up_n (by decide) (up_n (by decide) h62)), (up_n (by decide) (up_s _ _ _)), (up_n (by decide) (up_n (by decide) h64)), (up_n (by decide) (up_n (by decide) h65)), (up_n (by decide) (up_n (by decide) h66)), (up_n (by decide) (up_n (by decide) h67)), (up_n (by decide) (up_n (by decide) h68)), (up_n (by decide) (up_n (by decide) h69)), (up_n (by decide) (up_n (by decide) h70)), (up_n (by decide) (up_n (by decide) h71)), (up_n (by decide) (up_n (by decide) h72)), (up_n (by decide) (up_n (by decide) h73)), (up_n (by decide) (up_n (by decide) h74)), (up_n (by decide) (up_n (by decide) h75)), (up_n (by decide) (up_n (by decide) h76)), (up_n (by decide) (up_n (by decide) h77)), (up_n (by decide) (up_n (by decide) h78)), (up_n (by decide) (up_n (by decide) h79)), (up_n (by decide) (up_n (by decide) h80)), (hmk.kept (fun i a b => by repeat (first | rfl | refine up_n (by omega) ?_))), hpl, htp, ht60⟩, fun i hi => by repeat (first | rfl | refine up_n (by omega) ?_)⟩
                    ·
                      refine v_iconst (v := 2) dX7_sort_110 (by first | rfl | decide) ?_
                      refine v_goto (tgt := 123) dX7_sort_111 (by decide) ?_
                      refine v_iret dX7_sort_123 rfl (by first | rfl | decide | exact nar_b (by first | assumption | rfl)) ?_
                      have hE : rSort σ (nI b) = (2, σ) := by
                        simp only [rSort, srtO, if_neg hc5, hcb, if_neg hi0, if_neg hn3, hS, if_pos hf, sorO]
                        rw [if_pos (show sqO S9 = S9.1 * S9.1 from hc91), if_pos (zv.mpr hc106)]
                      rw [hE]
                      exact ⟨rfl, ⟨(sqO S9), (S9.1 * S9.1), un, lr, mr, hr, at9, fa, op, sg, hm, p, tt, ro, og, tc, op9, sp, (lvO (behO σ b)), se, le, mo, ot, (up_s _ _ _), (up_n (by decide) (up_n (by decide) h61)), (up_n (by decide) (up_n (by decide) h62)), (up_n (by decide) (up_s _ _ _)), (up_n (by decide) (up_n (by decide) h64)), (up_n (by decide) (up_n (by decide) h65)), (up_n (by decide) (up_n (by decide) h66)), (up_n (by decide) (up_n (by decide) h67)), (up_n (by decide) (up_n (by decide) h68)), (up_n (by decide) (up_n (by decide) h69)), (up_n (by decide) (up_n (by decide) h70)), (up_n (by decide) (up_n (by decide) h71)), (up_n (by decide) (up_n (by decide) h72)), (up_n (by decide) (up_n (by decide) h73)), (up_n (by decide) (up_n (by decide) h74)), (up_n (by decide) (up_n (by decide) h75)), (up_n (by decide) (up_n (by decide) h76)), (up_n (by decide) (up_n (by decide) h77)), (up_n (by decide) (up_n (by decide) h78)), (up_n (by decide) (up_n (by decide) h79)), (up_n (by decide) (up_n (by decide) h80)), (hmk.kept (fun i a b => by repeat (first | rfl | refine up_n (by omega) ?_))), hpl, htp, ht60⟩, fun i hi => by repeat (first | rfl | refine up_n (by omega) ?_)⟩
                  ·
                    refine v_iconst (v := 5) dX7_sort_95 (by first | rfl | decide) ?_
                    refine v_goto (tgt := 123) dX7_sort_96 (by decide) ?_
                    refine v_iret dX7_sort_123 rfl (by first | rfl | decide | exact nar_b (by first | assumption | rfl)) ?_
                    have hE : rSort σ (nI b) = (5, σ) := by
                      simp only [rSort, srtO, if_neg hc5, hcb, if_neg hi0, if_neg hn3, hS, if_pos hf, sorO]
                      rw [if_neg (show ¬ sqO S9 = S9.1 * S9.1 from hc91)]
                    rw [hE]
                    exact ⟨rfl, ⟨(sqO S9), (S9.1 * S9.1), un, lr, mr, hr, at9, fa, op, sg, hm, p, tt, ro, og, tc, op9, sp, (lvO (behO σ b)), se, le, mo, ot, (up_s _ _ _), (up_n (by decide) (up_n (by decide) h61)), (up_n (by decide) (up_n (by decide) h62)), (up_n (by decide) (up_s _ _ _)), (up_n (by decide) (up_n (by decide) h64)), (up_n (by decide) (up_n (by decide) h65)), (up_n (by decide) (up_n (by decide) h66)), (up_n (by decide) (up_n (by decide) h67)), (up_n (by decide) (up_n (by decide) h68)), (up_n (by decide) (up_n (by decide) h69)), (up_n (by decide) (up_n (by decide) h70)), (up_n (by decide) (up_n (by decide) h71)), (up_n (by decide) (up_n (by decide) h72)), (up_n (by decide) (up_n (by decide) h73)), (up_n (by decide) (up_n (by decide) h74)), (up_n (by decide) (up_n (by decide) h75)), (up_n (by decide) (up_n (by decide) h76)), (up_n (by decide) (up_n (by decide) h77)), (up_n (by decide) (up_n (by decide) h78)), (up_n (by decide) (up_n (by decide) h79)), (up_n (by decide) (up_n (by decide) h80)), (hmk.kept (fun i a b => by repeat (first | rfl | refine up_n (by omega) ?_))), hpl, htp, ht60⟩, fun i hi => by repeat (first | rfl | refine up_n (by omega) ?_)⟩
                · exact absurd hc77 (by decide)
              ·
                have hn3 : ¬ ((behO σ b).2.1 = 0 ∧ (behO σ b).2.2.1 = 0 ∧ (behO σ b).2.2.2.1 = 0) := by
                  rintro ⟨q1, q2, q3⟩
                  first | exact hc35 q1 | exact hc46 q2 | exact hc67 q3
                refine v_callV (c_fdB (d + 3) (up_n (by decide) h60) (up_s _ _ _) (up_n (by decide) h78) (up_n (by decide) h79) hB9 hi0 hS hf) cs_X7_231 dX7_sort_74 (up_n (by decide) h60) rfl rfl (Nat.le_of_ble_eq_true rfl) ?_
                refine rt_k ?_
                refine v_if_ne (tgt := 83) dX7_sort_77 (by decide) (fun hc77 => ?_) (fun hc77 => ?_)
                · exact absurd rfl hc77
                ·
                  refine v_bipush (v := -9) dX7_sort_80 (by first | rfl | decide) ?_
                  refine v_iret dX7_sort_82 rfl (by first | rfl | decide | exact nar_b (by first | assumption | rfl)) ?_
                  have hE : rSort σ (nI b) = (-9, toW σ (tooW (sW σ) (fstO S9))) := by simp only [rSort, srtO, if_neg hc5, hcb, if_neg hi0, if_neg hn3, hS, if_neg hf]
                  rw [hE]
                  exact ⟨rfl, ⟨co, wh, un, lr, mr, hr, at9, fa, op, sg, hm, p, tt, ro, og, tc, op9, sp, (lvO (behO σ b)), se, le, mo, ot, (up_s _ _ _), (up_n (by decide) (up_n (by decide) (up_n (by decide) (up_n (by decide) (up_n (by decide) h61))))), (up_n (by decide) (up_n (by decide) (up_n (by decide) (up_n (by decide) (up_n (by decide) h62))))), (up_n (by decide) (up_n (by decide) (up_n (by decide) (up_n (by decide) (up_s _ _ _))))), (up_n (by decide) (up_n (by decide) (up_n (by decide) (up_n (by decide) (up_n (by decide) h64))))), (up_n (by decide) (up_n (by decide) (up_n (by decide) (up_n (by decide) (up_n (by decide) h65))))), (up_n (by decide) (up_n (by decide) (up_n (by decide) (up_n (by decide) (up_n (by decide) h66))))), (up_n (by decide) (up_n (by decide) (up_n (by decide) (up_n (by decide) (up_n (by decide) h67))))), (up_n (by decide) (up_n (by decide) (up_n (by decide) (up_n (by decide) (up_n (by decide) h68))))), (up_n (by decide) (up_n (by decide) (up_n (by decide) (up_n (by decide) (up_n (by decide) h69))))), (up_n (by decide) (up_n (by decide) (up_n (by decide) (up_n (by decide) (up_n (by decide) h70))))), (up_n (by decide) (up_n (by decide) (up_n (by decide) (up_n (by decide) (up_n (by decide) h71))))), (up_n (by decide) (up_n (by decide) (up_n (by decide) (up_n (by decide) (up_n (by decide) h72))))), (up_n (by decide) (up_n (by decide) (up_n (by decide) (up_n (by decide) (up_n (by decide) h73))))), (up_n (by decide) (up_n (by decide) (up_n (by decide) (up_n (by decide) (up_n (by decide) h74))))), (up_n (by decide) (up_n (by decide) (up_n (by decide) (up_n (by decide) (up_n (by decide) h75))))), (up_n (by decide) (up_n (by decide) (up_n (by decide) (up_n (by decide) (up_n (by decide) h76))))), (up_n (by decide) (up_n (by decide) (up_n (by decide) (up_n (by decide) (up_n (by decide) h77))))), (up_n (by decide) (up_n (by decide) (up_s _ _ _))), (up_n (by decide) (up_s _ _ _)), (up_n (by decide) (up_n (by decide) (up_n (by decide) (up_n (by decide) (up_n (by decide) h80))))), (hmk.kept (fun i a b => by repeat (first | rfl | refine up_n (by omega) ?_))), hpl, htp, ht60⟩, fun i hi => by repeat (first | rfl | refine up_n (by omega) ?_)⟩
            ·
              refine v_iconst (v := 1) dX7_sort_71 (by first | rfl | decide) ?_
              refine v_iret dX7_sort_72 rfl (by first | rfl | decide | exact nar_b (by first | assumption | rfl)) ?_
              have hE : rSort σ (nI b) = (1, σ) := by simp only [rSort, srtO, if_neg hc5, hcb, if_neg hi0, if_pos (And.intro (show (behO σ b).2.1 = 0 from hc35) (And.intro (show (behO σ b).2.2.1 = 0 from hc46) (show (behO σ b).2.2.2.1 = 0 from hc67)))]
              rw [hE]
              exact ⟨rfl, h.now _, fun i hi => by repeat (first | rfl | refine up_n (by omega) ?_)⟩
    ·
      refine v_iconst (v := 0) dX7_sort_26 (by first | rfl | decide) ?_
      refine v_iret dX7_sort_27 rfl (by first | rfl | decide | exact nar_b (by first | assumption | rfl)) ?_
      have hE : rSort σ (nI b) = (0, σ) := by simp only [rSort, srtO, if_neg hc5, hcb, if_pos (show (behO σ b).1 = 0 from hc22)]
      rw [hE]
      exact ⟨rfl, h.now _, fun i hi => by repeat (first | rfl | refine up_n (by omega) ?_)⟩
  ·
    refine v_iconst (v := -1) dX7_sort_8 (by first | rfl | decide) ?_
    refine v_iret dX7_sort_9 rfl (by first | rfl | decide | exact nar_b (by first | assumption | rfl)) ?_
    have hE : rSort σ k = (-1, σ) := by
      first
        | (simp only [rSort, if_pos hc5]; done)
        | (grind [rSort]; done)
    rw [hE]
    exact ⟨rfl, h, Fp.rf μ⟩

