theorem crJ_le (l : List Int32) (i : Nat) : ∀ (m j : Nat) (x : Nat × Int32), (crJ l i x j m).1 ≤ x.1 + m
  | 0, _, _ => Nat.le_refl _
  | m + 1, j, x => by
    have h := crJ_le l i m (j + 1) (crS l x i j)
    have h2 : (crS l x i j).1 ≤ x.1 + 1 := by
      unfold crS
      split
      · exact Nat.le_refl _
      · exact Nat.le_succ _
    show (crJ l i (crS l x i j) (j + 1) m).1 ≤ _
    omega
set_option maxRecDepth 20000 in
set_option maxHeartbeats 4000000 in
theorem cr_in {G : Cx} (d : Nat) {σ : ST} {μ0 : Hp} (hw : Wp (sP σ)) {i : Nat} {w : Int32} (hi9 : i < (sP σ).length) : ∀ (m : Nat) (j x1 : Nat) (x2 : Int32) (μ : Hp), j + m = (sP σ).length → x1 + m ≤ 1000 → Cl σ μ → Fo μ μ0 → (∀ μ2, Cl σ μ2 → Fo μ2 μ0 → V G M_X6_crossed (d + 4) 0 0 (Po σ (.int (rCrossed σ w)) μ0) 102 [(5, .int (nI (sP σ).length)), (4, .int (nI i)), (3, .int (crJ (sP σ) i (x1, x2) j m).2), (2, .int (nI (crJ (sP σ) i (x1, x2) j m).1)), (0, .ref 0), (1, .int w)] [] μ2) → V G M_X6_crossed (d + 4) 0 0 (Po σ (.int (rCrossed σ w)) μ0) 37 [(5, .int (nI j)), (4, .int (nI i)), (3, .int x2), (2, .int (nI x1)), (0, .ref 0), (1, .int w)] [] (μ) := by
  intro m
  induction m with
  | zero =>
    intro j x1 x2 μ hj hx h hF HK
    obtain ⟨h0, ⟨p, h1, h2, h3, h4, h5, h6, h7, h8, h9, hpl⟩, ⟨bk, hbk, pk, k11, k12, k13, k14, k15, k16, k17, k18, k19, hpk⟩, ⟨h20, h21, h22, h23, h24⟩, ⟨tt, ops, cd, kk, pp, ff, h25, h26, h27, h28, htp, ht60⟩, ⟨h29, h30, h31⟩, ⟨⟨oc, hoc⟩, h37, h38, h39⟩, hsx, ⟨B0, B1, B2, h50, h51, h52⟩⟩ := id h
    have hl8 := hw.1
    refine v_iload 0 dX6_crossed_37 rfl ?_
    refine v_aload_n 4 dX6_crossed_39 rfl rfl ?_
    refine v_get fl_X6_12 dX6_crossed_40 h0 rfl ?_
    refine v_get fl_X6_140 dX6_crossed_43 h1 rfl ?_
    refine v_icmp_ge (tgt := 102) dX6_crossed_46 (by decide) (fun hc46 => ?_) (fun hc46 => ?_)
    ·
      obtain rfl : j = (sP σ).length := by omega
      exact HK μ h hF
    · exact absurd ((nI_leI (by omega) (by omega)).mpr (by omega)) hc46
  | succ m ih =>
    intro j x1 x2 μ hj hx h hF HK
    obtain ⟨h0, ⟨p, h1, h2, h3, h4, h5, h6, h7, h8, h9, hpl⟩, ⟨bk, hbk, pk, k11, k12, k13, k14, k15, k16, k17, k18, k19, hpk⟩, ⟨h20, h21, h22, h23, h24⟩, ⟨tt, ops, cd, kk, pp, ff, h25, h26, h27, h28, htp, ht60⟩, ⟨h29, h30, h31⟩, ⟨⟨oc, hoc⟩, h37, h38, h39⟩, hsx, ⟨B0, B1, B2, h50, h51, h52⟩⟩ := id h
    have hl8 := hw.1
    refine v_iload 0 dX6_crossed_37 rfl ?_
    refine v_aload_n 4 dX6_crossed_39 rfl rfl ?_
    refine v_get fl_X6_12 dX6_crossed_40 h0 rfl ?_
    refine v_get fl_X6_140 dX6_crossed_43 h1 rfl ?_
    refine v_icmp_ge (tgt := 102) dX6_crossed_46 (by decide) (fun hc46 => ?_) (fun hc46 => ?_)
    · have := (nI_leI (by omega) (by omega)).mp hc46
      omega
    ·
      refine v_aload_n 4 dX6_crossed_49 rfl rfl ?_
      refine v_aload_n 4 dX6_crossed_50 rfl rfl ?_
      refine v_get fl_X6_12 dX6_crossed_51 h0 rfl ?_
      refine v_get fl_X6_118 dX6_crossed_54 h1 rfl ?_
      refine v_iload 1 dX6_crossed_57 rfl ?_
      refine v_iald dX6_crossed_59 h3 (nI_in' (by omega)) ?_
      refine v_aload_n 4 dX6_crossed_60 rfl rfl ?_
      refine v_get fl_X6_12 dX6_crossed_61 h0 rfl ?_
      refine v_get fl_X6_118 dX6_crossed_64 h1 rfl ?_
      refine v_iload 0 dX6_crossed_67 rfl ?_
      refine v_iald dX6_crossed_69 h3 (nI_in' (by omega)) ?_
      rw [clamp (show i < 2 ^ 31 by omega), clamp (show j < 2 ^ 31 by omega), ← getD_at hpl hi9, ← getD_at hpl (show j < (sP σ).length by omega)]
      refine v_callV (c_X6_isCrossed d h0 h50) cs_X6_269 dX6_crossed_70 h0 rfl rfl (Nat.le_of_ble_eq_true rfl) ?_
      refine rt_k ?_
      refine v_if_eq (tgt := 96) dX6_crossed_73 (by decide) (fun hc73 => ?_) (fun hc73 => ?_)
      ·
        have hcrs : ¬ crsO ((sP σ).getD i 0) ((sP σ).getD j 0) := fun z => by rw [if_pos z] at hc73; exact absurd hc73 (by decide)
        refine v_iinc (v := 1) 0 dX6_crossed_96 rfl rfl (by decide) (fun z e_z => ?_)
        refine v_ls (ls' := [(5, .int z), (4, .int (nI i)), (3, .int x2), (2, .int (nI x1)), (0, .ref 0), (1, .int w)]) rfl ?_
        rw [nI_1] at e_z
        subst e_z
        refine v_goto (tgt := 37) dX6_crossed_99 (by decide) ?_
        have hcr : crJ (sP σ) i (x1, x2) j (m + 1) = crJ (sP σ) i (x1, x2) (j + 1) m := by
          show crJ (sP σ) i (crS (sP σ) (x1, x2) i j) (j + 1) m = _
          rw [show crS (sP σ) (x1, x2) i j = (x1, x2) from if_neg hcrs]
        refine v_pick [0, 1, 2, 3, 4, 5] rfl ?_
        refine ih (j + 1) x1 x2 _ (by omega) (by omega) (h.beam _) (hF.up (by decide) _) ?_
        intro μ2 q1 q2
        have := HK μ2 q1 q2
        rw [hcr] at this
        exact this
        
      ·
        have hcrs : crsO ((sP σ).getD i 0) ((sP σ).getD j 0) := by
          by_cases z : crsO ((sP σ).getD i 0) ((sP σ).getD j 0)
          · exact z
          · exact absurd (if_neg z) hc73
        refine v_iload_n 3 dX6_crossed_76 rfl rfl ?_
        refine v_if_ne (tgt := 91) dX6_crossed_77 (by decide) (fun hc77 => ?_) (fun hc77 => ?_)
        ·
          refine v_iload_n 2 dX6_crossed_91 rfl rfl ?_
          refine v_istore_n dX6_crossed_92 rfl (by decide) (fun y3 e_y3 => ?_)
          refine v_ls (ls' := [(3, .int y3), (5, .int (nI j)), (4, .int (nI i)), (2, .int (nI x1)), (0, .ref 0), (1, .int w)]) rfl ?_
          refine v_iinc (v := 1) 3 dX6_crossed_93 rfl rfl (by decide) (fun y2 e_y2 => ?_)
          refine v_ls (ls' := [(2, .int y2), (3, .int y3), (5, .int (nI j)), (4, .int (nI i)), (0, .ref 0), (1, .int w)]) rfl ?_
          refine v_iinc (v := 1) 2 dX6_crossed_96 rfl rfl (by decide) (fun z e_z => ?_)
          refine v_ls (ls' := [(5, .int z), (2, .int y2), (3, .int y3), (4, .int (nI i)), (0, .ref 0), (1, .int w)]) rfl ?_
          rw [nI_1] at e_z
          subst e_z
          refine v_goto (tgt := 37) dX6_crossed_99 (by decide) ?_
          have hx0 : ¬ x1 = 0 := fun z => hc77 (by rw [z]; rfl)
          have hcr : crJ (sP σ) i (x1, x2) j (m + 1) = crJ (sP σ) i (x1 + 1, y3) (j + 1) m := by
            show crJ (sP σ) i (crS (sP σ) (x1, x2) i j) (j + 1) m = _
            rw [show crS (sP σ) (x1, x2) i j = (x1 + 1, y3) from by simp only [crS, if_pos hcrs, if_neg hx0, e_y3]]
          rw [nI_1] at e_y2
          subst e_y2
          refine v_pick [0, 3, 2, 1, 4, 5] rfl ?_
          refine ih (j + 1) (x1 + 1) y3 _ (by omega) (by omega) (h.beam _) (hF.up (by decide) _) ?_
          intro μ2 q1 q2
          have := HK μ2 q1 q2
          rw [hcr] at this
          exact this
          
        ·
          refine v_bipush (v := 10) dX6_crossed_80 (by first | rfl | decide) ?_
          refine v_iload 1 dX6_crossed_82 rfl ?_
          refine v_imul dX6_crossed_84 ?_
          refine v_iload 0 dX6_crossed_85 rfl ?_
          refine v_iadd dX6_crossed_87 ?_
          refine v_goto (tgt := 92) dX6_crossed_88 (by decide) ?_
          refine v_istore_n dX6_crossed_92 rfl (by decide) (fun y3 e_y3 => ?_)
          refine v_ls (ls' := [(3, .int y3), (5, .int (nI j)), (4, .int (nI i)), (2, .int (nI x1)), (0, .ref 0), (1, .int w)]) rfl ?_
          refine v_iinc (v := 1) 3 dX6_crossed_93 rfl rfl (by decide) (fun y2 e_y2 => ?_)
          refine v_ls (ls' := [(2, .int y2), (3, .int y3), (5, .int (nI j)), (4, .int (nI i)), (0, .ref 0), (1, .int w)]) rfl ?_
          refine v_iinc (v := 1) 2 dX6_crossed_96 rfl rfl (by decide) (fun z e_z => ?_)
          refine v_ls (ls' := [(5, .int z), (2, .int y2), (3, .int y3), (4, .int (nI i)), (0, .ref 0), (1, .int w)]) rfl ?_
          rw [nI_1] at e_z
          subst e_z
          refine v_goto (tgt := 37) dX6_crossed_99 (by decide) ?_
          have hx0 : x1 = 0 := (nI_eq (b := 0) (by omega) (by decide)).mp hc77
          have hcr : crJ (sP σ) i (x1, x2) j (m + 1) = crJ (sP σ) i (x1 + 1, y3) (j + 1) m := by
            show crJ (sP σ) i (crS (sP σ) (x1, x2) i j) (j + 1) m = _
            rw [show crS (sP σ) (x1, x2) i j = (x1 + 1, y3) from by simp only [crS, if_pos hcrs, if_pos hx0, e_y3]]
          rw [nI_1] at e_y2
          subst e_y2
          refine v_pick [0, 3, 2, 1, 4, 5] rfl ?_
          refine ih (j + 1) (x1 + 1) y3 _ (by omega) (by omega) (h.beam _) (hF.up (by decide) _) ?_
          intro μ2 q1 q2
          have := HK μ2 q1 q2
          rw [hcr] at this
          exact this
          

set_option maxRecDepth 20000 in
set_option maxHeartbeats 4000000 in
theorem cr_out {G : Cx} (d : Nat) {σ : ST} {μ0 : Hp} (hw : Wp (sP σ)) {w : Int32} (hw2 : ¬ inO w 2 = 0) : ∀ (m : Nat) (i x1 : Nat) (x2 : Int32) (μ : Hp), i + m = (sP σ).length → x1 + 8 * m ≤ 900 → Cl σ μ → Fo μ μ0 → crI (sP σ) (0, -5) 0 (sP σ).length = crI (sP σ) (x1, x2) i m → V G M_X6_crossed (d + 4) 0 0 (Po σ (.int (rCrossed σ w)) μ0) 19 [(4, .int (nI i)), (3, .int x2), (2, .int (nI x1)), (0, .ref 0), (1, .int w)] [] (μ) := by
  intro m
  induction m with
  | zero =>
    intro i x1 x2 μ hj hx h hF hcr
    obtain ⟨h0, ⟨p, h1, h2, h3, h4, h5, h6, h7, h8, h9, hpl⟩, ⟨bk, hbk, pk, k11, k12, k13, k14, k15, k16, k17, k18, k19, hpk⟩, ⟨h20, h21, h22, h23, h24⟩, ⟨tt, ops, cd, kk, pp, ff, h25, h26, h27, h28, htp, ht60⟩, ⟨h29, h30, h31⟩, ⟨⟨oc, hoc⟩, h37, h38, h39⟩, hsx, ⟨B0, B1, B2, h50, h51, h52⟩⟩ := id h
    have hl8 := hw.1
    refine v_iload 0 dX6_crossed_19 rfl ?_
    refine v_aload_n 3 dX6_crossed_21 rfl rfl ?_
    refine v_get fl_X6_12 dX6_crossed_22 h0 rfl ?_
    refine v_get fl_X6_140 dX6_crossed_25 h1 rfl ?_
    refine v_icmp_ge (tgt := 108) dX6_crossed_28 (by decide) (fun hc28 => ?_) (fun hc28 => ?_)
    ·
      refine v_iload_n 4 dX6_crossed_108 rfl rfl ?_
      refine v_if_ne (tgt := 116) dX6_crossed_109 (by decide) (fun hc109 => ?_) (fun hc109 => ?_)
      ·
        refine v_iload_n 1 dX6_crossed_116 rfl rfl ?_
        refine v_iret dX6_crossed_117 rfl (by first | rfl | decide | exact nar_b (by first | assumption | rfl)) ?_
        have hE : rCrossed σ w = x2 := by
          simp only [rCrossed, if_neg hw2, if_neg hc109, hcr]
          rfl
        rw [hE]
        exact ⟨rfl, h, hF⟩
      ·
        refine v_iload_n 2 dX6_crossed_112 rfl rfl ?_
        refine v_goto (tgt := 117) dX6_crossed_113 (by decide) ?_
        refine v_iret dX6_crossed_117 rfl (by first | rfl | decide | exact nar_b (by first | assumption | rfl)) ?_
        have hE : rCrossed σ w = nI x1 := by
          simp only [rCrossed, if_neg hw2, if_pos hc109, hcr]
          rfl
        rw [hE]
        exact ⟨rfl, h, hF⟩
    · exact absurd ((nI_leI (by omega) (by omega)).mpr (by omega)) hc28
  | succ m ih =>
    intro i x1 x2 μ hj hx h hF hcr
    obtain ⟨h0, ⟨p, h1, h2, h3, h4, h5, h6, h7, h8, h9, hpl⟩, ⟨bk, hbk, pk, k11, k12, k13, k14, k15, k16, k17, k18, k19, hpk⟩, ⟨h20, h21, h22, h23, h24⟩, ⟨tt, ops, cd, kk, pp, ff, h25, h26, h27, h28, htp, ht60⟩, ⟨h29, h30, h31⟩, ⟨⟨oc, hoc⟩, h37, h38, h39⟩, hsx, ⟨B0, B1, B2, h50, h51, h52⟩⟩ := id h
    have hl8 := hw.1
    refine v_iload 0 dX6_crossed_19 rfl ?_
    refine v_aload_n 3 dX6_crossed_21 rfl rfl ?_
    refine v_get fl_X6_12 dX6_crossed_22 h0 rfl ?_
    refine v_get fl_X6_140 dX6_crossed_25 h1 rfl ?_
    refine v_icmp_ge (tgt := 108) dX6_crossed_28 (by decide) (fun hc28 => ?_) (fun hc28 => ?_)
    · have := (nI_leI (by omega) (by omega)).mp hc28
      omega
    ·
      refine v_iload 0 dX6_crossed_31 rfl ?_
      refine v_iconst (v := 1) dX6_crossed_33 (by first | rfl | decide) ?_
      refine v_iadd dX6_crossed_34 ?_
      refine v_istore dX6_crossed_35 (by decide) (fun x5 e_x5 => ?_)
      refine v_ls (ls' := [(5, .int x5), (4, .int (nI i)), (3, .int x2), (2, .int (nI x1)), (0, .ref 0), (1, .int w)]) rfl ?_
      rw [nI_1] at e_x5
      subst e_x5
      refine cr_in d hw (show i < (sP σ).length by omega) ((sP σ).length - (i + 1)) (i + 1) x1 x2 μ (by omega) (by omega) h hF ?_
      intro μ2 q1 q2
      have hle := crJ_le (sP σ) i ((sP σ).length - (i + 1)) (i + 1) (x1, x2)
      have hle : (crJ (sP σ) i (x1, x2) (i + 1) ((sP σ).length - (i + 1))).1 ≤ x1 + ((sP σ).length - (i + 1)) := hle
      generalize hX : crJ (sP σ) i (x1, x2) (i + 1) ((sP σ).length - (i + 1)) = X at hle ⊢
      refine v_iinc (v := 1) 1 dX6_crossed_102 rfl rfl (by decide) (fun z e_z => ?_)
      rw [nI_1] at e_z
      subst e_z
      refine v_goto (tgt := 19) dX6_crossed_105 (by decide) ?_
      refine v_pick [0, 2, 3, 4, 5] rfl ?_
      refine ih (i + 1) X.1 X.2 μ2 (by omega) (by omega) q1 q2 ?_
      rw [hcr, ← hX]
      rfl
      

set_option maxRecDepth 20000 in
set_option maxHeartbeats 4000000 in
theorem c_X6_crossed {G : Cx} (d : Nat) {μ : Hp} {σ : ST} {w : Int32} (h : Cl σ μ) (hw : Wp (sP σ)) : Ct G (d + 4) 0 0 M_X6_crossed [.ref 0, .int w] μ (Po (σ) (.int (rCrossed σ w)) μ) := by
  refine Ct.ofV (by decide +kernel) (Nat.le_of_ble_eq_true rfl) ?_
  refine v_ls (ls' := [(0, .ref 0), (1, .int w)]) rfl ?_
  obtain ⟨h0, ⟨p, h1, h2, h3, h4, h5, h6, h7, h8, h9, hpl⟩, ⟨bk, hbk, pk, k11, k12, k13, k14, k15, k16, k17, k18, k19, hpk⟩, ⟨h20, h21, h22, h23, h24⟩, ⟨tt, ops, cd, kk, pp, ff, h25, h26, h27, h28, htp, ht60⟩, ⟨h29, h30, h31⟩, ⟨⟨oc, hoc⟩, h37, h38, h39⟩, hsx, ⟨B0, B1, B2, h50, h51, h52⟩⟩ := id h
  have hl8 := hw.1
  refine v_iload_n 1 dX6_crossed_0 rfl rfl ?_
  refine v_if_lt (tgt := 9) dX6_crossed_1 (by decide) (fun hc1 => ?_) (fun hc1 => ?_)
  ·
    refine v_iconst (v := -1) dX6_crossed_9 (by first | rfl | decide) ?_
    refine v_iret dX6_crossed_10 rfl (by first | rfl | decide | exact nar_b (by first | assumption | rfl)) ?_
    have hz : inO w 2 = 0 := by first | exact in_b1 hc1 | exact in_b2 (n := 1) (by decide) hc6
    have hE : rCrossed σ w = -1 := by simp only [rCrossed, if_pos hz]
    rw [hE]
    exact ⟨rfl, h, Fo.rf μ⟩
  ·
    refine v_iload_n 1 dX6_crossed_4 rfl rfl ?_
    refine v_iconst (v := 1) dX6_crossed_5 (by first | rfl | decide) ?_
    refine v_icmp_le (tgt := 11) dX6_crossed_6 (by decide) (fun hc6 => ?_) (fun hc6 => ?_)
    ·
      refine v_iconst (v := 0) dX6_crossed_11 (by first | rfl | decide) ?_
      refine v_istore_n dX6_crossed_12 rfl (by decide) (fun x2_1 e_x2_1 => ?_)
      refine v_ls (ls' := [(2, .int x2_1), (0, .ref 0), (1, .int w)]) rfl ?_
      subst e_x2_1
      refine v_bipush (v := -5) dX6_crossed_13 (by first | rfl | decide) ?_
      refine v_istore_n dX6_crossed_15 rfl (by decide) (fun x3_1 e_x3_1 => ?_)
      refine v_ls (ls' := [(3, .int x3_1), (2, .int (0)), (0, .ref 0), (1, .int w)]) rfl ?_
      subst e_x3_1
      refine v_iconst (v := 0) dX6_crossed_16 (by first | rfl | decide) ?_
      refine v_istore dX6_crossed_17 (by decide) (fun x4 e_x4 => ?_)
      refine v_ls (ls' := [(4, .int x4), (3, .int (-5)), (2, .int (0)), (0, .ref 0), (1, .int w)]) rfl ?_
      subst e_x4
      refine v_pick [0, 1, 2, 3, 4] rfl ?_
      exact cr_out d hw (in_ok (n := 1) (by decide) hc1 hc6) (sP σ).length 0 0 (-5) μ (by omega) (by omega) h (Fo.rf μ) rfl
      
    ·
      refine v_iconst (v := -1) dX6_crossed_9 (by first | rfl | decide) ?_
      refine v_iret dX6_crossed_10 rfl (by first | rfl | decide | exact nar_b (by first | assumption | rfl)) ?_
      have hz : inO w 2 = 0 := by first | exact in_b1 hc1 | exact in_b2 (n := 1) (by decide) hc6
      have hE : rCrossed σ w = -1 := by simp only [rCrossed, if_pos hz]
      rw [hE]
      exact ⟨rfl, h, Fo.rf μ⟩

theorem cnt_le (c : Int32) (l : List Int32) : cntO c l ≤ l.length := List.length_filter_le _ _
theorem taI_s (l : List Int32) (x : Nat × Int32 × Nat) (i m : Nat) : taI l x i (m + 1) = taI l (taS l x i) (i + 1) m := rfl
set_option maxRecDepth 20000 in
set_option maxHeartbeats 4000000 in
theorem ta_loop {G : Cx} (d : Nat) {σ : ST} {μ0 : Hp} (hw : Wp (sP σ)) {w : Int32} (hw3 : ¬ inO w 3 = 0) : ∀ (m : Nat) (i x1 : Nat) (x2 : Int32) (x3 : Nat) (μ : Hp), i + m = (sP σ).length → x1 ≤ 8 + i → x3 ≤ 8 → Cl σ μ → Fo μ μ0 → taI (sP σ) (0, -5, 0) 0 (sP σ).length = taI (sP σ) (x1, x2, x3) i m → V G M_X6_tally (d + 1) 0 0 (Po σ (.int (rTally σ w)) μ0) 22 [(5, .int (nI i)), (4, .int (nI x3)), (3, .int x2), (2, .int (nI x1)), (0, .ref 0), (1, .int w)] [] (μ) := by
  intro m
  induction m with
  | zero =>
    intro i x1 x2 x3 μ hj hx1 hx3 h hF hta
    obtain ⟨h0, ⟨p, h1, h2, h3, h4, h5, h6, h7, h8, h9, hpl⟩, ⟨bk, hbk, pk, k11, k12, k13, k14, k15, k16, k17, k18, k19, hpk⟩, ⟨h20, h21, h22, h23, h24⟩, ⟨tt, ops, cd, kk, pp, ff, h25, h26, h27, h28, htp, ht60⟩, ⟨h29, h30, h31⟩, ⟨⟨oc, hoc⟩, h37, h38, h39⟩, hsx, ⟨B0, B1, B2, h50, h51, h52⟩⟩ := id h
    have hl8 := hw.1
    have hcl := cnt_le ((sP σ).getD i 0) (sP σ)
    have hcl2 := cnt_le ((sP σ).getD i 0) ((sP σ).take i)
    rw [List.length_take] at hcl2
    refine v_iload 0 dX6_tally_22 rfl ?_
    refine v_aload_n 4 dX6_tally_24 rfl rfl ?_
    refine v_get fl_X6_12 dX6_tally_25 h0 rfl ?_
    refine v_get fl_X6_140 dX6_tally_28 h1 rfl ?_
    refine v_icmp_ge (tgt := 113) dX6_tally_31 (by decide) (fun hc31 => ?_) (fun hc31 => ?_)
    ·
      refine v_iload_n 5 dX6_tally_113 rfl rfl ?_
      refine v_if_ne (tgt := 119) dX6_tally_114 (by decide) (fun hc114 => ?_) (fun hc114 => ?_)
      ·
        refine v_iload_n 5 dX6_tally_119 rfl rfl ?_
        refine v_iconst (v := 1) dX6_tally_120 (by first | rfl | decide) ?_
        refine v_icmp_ne (tgt := 128) dX6_tally_121 (by decide) (fun hc121 => ?_) (fun hc121 => ?_)
        ·
          refine v_iload 1 dX6_tally_128 rfl ?_
          refine v_iret dX6_tally_130 rfl (by first | rfl | decide | exact nar_b (by first | assumption | rfl)) ?_
          have hE : rTally σ w = nI x3 := by
            simp only [rTally, if_neg hw3, if_neg hc114, if_neg hc121, hta]
            rfl
          rw [hE]
          exact ⟨rfl, h, hF⟩
        ·
          refine v_iload_n 2 dX6_tally_124 rfl rfl ?_
          refine v_goto (tgt := 130) dX6_tally_125 (by decide) ?_
          refine v_iret dX6_tally_130 rfl (by first | rfl | decide | exact nar_b (by first | assumption | rfl)) ?_
          have hE : rTally σ w = x2 := by
            simp only [rTally, if_neg hw3, if_neg hc114, if_pos hc121, hta]
            rfl
          rw [hE]
          exact ⟨rfl, h, hF⟩
      ·
        refine v_iload_n 3 dX6_tally_117 rfl rfl ?_
        refine v_iret dX6_tally_118 rfl (by first | rfl | decide | exact nar_b (by first | assumption | rfl)) ?_
        have hE : rTally σ w = nI x1 := by
          simp only [rTally, if_neg hw3, if_pos hc114, hta]
          rfl
        rw [hE]
        exact ⟨rfl, h, hF⟩
    · exact absurd ((nI_leI (by omega) (by omega)).mpr (by omega)) hc31
  | succ m ih =>
    intro i x1 x2 x3 μ hj hx1 hx3 h hF hta
    obtain ⟨h0, ⟨p, h1, h2, h3, h4, h5, h6, h7, h8, h9, hpl⟩, ⟨bk, hbk, pk, k11, k12, k13, k14, k15, k16, k17, k18, k19, hpk⟩, ⟨h20, h21, h22, h23, h24⟩, ⟨tt, ops, cd, kk, pp, ff, h25, h26, h27, h28, htp, ht60⟩, ⟨h29, h30, h31⟩, ⟨⟨oc, hoc⟩, h37, h38, h39⟩, hsx, ⟨B0, B1, B2, h50, h51, h52⟩⟩ := id h
    have hl8 := hw.1
    have hcl := cnt_le ((sP σ).getD i 0) (sP σ)
    have hcl2 := cnt_le ((sP σ).getD i 0) ((sP σ).take i)
    rw [List.length_take] at hcl2
    refine v_iload 0 dX6_tally_22 rfl ?_
    refine v_aload_n 4 dX6_tally_24 rfl rfl ?_
    refine v_get fl_X6_12 dX6_tally_25 h0 rfl ?_
    refine v_get fl_X6_140 dX6_tally_28 h1 rfl ?_
    refine v_icmp_ge (tgt := 113) dX6_tally_31 (by decide) (fun hc31 => ?_) (fun hc31 => ?_)
    · have := (nI_leI (by omega) (by omega)).mp hc31
      omega
    ·
      refine v_aload_n 4 dX6_tally_34 rfl rfl ?_
      refine v_get fl_X6_12 dX6_tally_35 h0 rfl ?_
      refine v_aload_n 4 dX6_tally_38 rfl rfl ?_
      refine v_get fl_X6_12 dX6_tally_39 h0 rfl ?_
      refine v_get fl_X6_118 dX6_tally_42 h1 rfl ?_
      refine v_iload 0 dX6_tally_45 rfl ?_
      refine v_iald dX6_tally_47 h3 (nI_in' (by omega)) ?_
      refine v_aload_n 4 dX6_tally_48 rfl rfl ?_
      refine v_get fl_X6_12 dX6_tally_49 h0 rfl ?_
      refine v_get fl_X6_140 dX6_tally_52 h1 rfl ?_
      rw [clamp (show i < 2 ^ 31 by omega), ← getD_at hpl (show i < (sP σ).length by omega)]
      refine v_callV (c_X0_howMany d (b := (sP σ).length) h1 h3 hpl hl8 (by omega)) cs_X6_273 dX6_tally_55 h1 rfl rfl (Nat.le_of_ble_eq_true rfl) ?_
      refine rt_k ?_
      rw [List.take_length]
      refine v_istore dX6_tally_58 (by decide) (fun y6 e_y6 => ?_)
      refine v_ls (ls' := [(6, .int y6), (5, .int (nI i)), (4, .int (nI x3)), (3, .int x2), (2, .int (nI x1)), (0, .ref 0), (1, .int w)]) rfl ?_
      subst e_y6
      refine v_aload_n 5 dX6_tally_60 rfl rfl ?_
      refine v_get fl_X6_12 dX6_tally_61 h0 rfl ?_
      refine v_aload_n 5 dX6_tally_64 rfl rfl ?_
      refine v_get fl_X6_12 dX6_tally_65 h0 rfl ?_
      refine v_get fl_X6_118 dX6_tally_68 h1 rfl ?_
      refine v_iload 1 dX6_tally_71 rfl ?_
      refine v_iald dX6_tally_73 h3 (nI_in' (by omega)) ?_
      refine v_iload 1 dX6_tally_74 rfl ?_
      rw [clamp (show i < 2 ^ 31 by omega), ← getD_at hpl (show i < (sP σ).length by omega)]
      refine v_callV (c_X0_howMany d (b := i) h1 h3 hpl hl8 (by omega)) cs_X6_273 dX6_tally_76 h1 rfl rfl (Nat.le_of_ble_eq_true rfl) ?_
      refine rt_k ?_
      refine v_if_ne (tgt := 85) dX6_tally_79 (by decide) (fun hc79 => ?_) (fun hc79 => ?_)
      ·
        refine v_iload 0 dX6_tally_85 rfl ?_
        refine v_iload 2 dX6_tally_87 rfl ?_
        refine v_icmp_le (tgt := 107) dX6_tally_89 (by decide) (fun hc89 => ?_) (fun hc89 => ?_)
        ·
          refine v_iinc (v := 1) 1 dX6_tally_107 rfl rfl (by decide) (fun z e_z => ?_)
          refine v_ls (ls' := [(5, .int z), (6, _), (4, .int (nI x3)), (3, .int x2), (2, .int (nI x1)), (0, .ref 0), (1, .int w)]) rfl ?_
          rw [nI_1] at e_z
          subst e_z
          refine v_goto (tgt := 22) dX6_tally_110 (by decide) ?_
          have hk1 : ¬ cntO ((sP σ).getD i 0) ((sP σ).take i) = 0 := fun z => hc79 (by rw [z]; rfl)
          have hk2 : ¬ x3 < cntO ((sP σ).getD i 0) (sP σ) := fun z => absurd ((nI_leI (by omega) (by omega)).mp hc89) (by omega)
          refine v_pick [0, 2, 3, 4, 5, 6] rfl ?_
          refine ih (i + 1) x1 x2 x3 μ (by omega) (by omega) (by omega) h hF ?_
          rw [hta, taI_s, show taS (sP σ) (x1, x2, x3) i = (x1, x2, x3) from by simp only [taS, if_neg hk1, if_neg hk2]]
          
        ·
          refine v_iload 0 dX6_tally_92 rfl ?_
          refine v_istore dX6_tally_94 (by decide) (fun y4 e_y4 => ?_)
          refine v_ls (ls' := [(4, .int y4), (6, _), (5, .int (nI i)), (3, .int x2), (2, .int (nI x1)), (0, .ref 0), (1, .int w)]) rfl ?_
          refine v_aload_n 5 dX6_tally_96 rfl rfl ?_
          refine v_get fl_X6_12 dX6_tally_97 h0 rfl ?_
          refine v_get fl_X6_118 dX6_tally_100 h1 rfl ?_
          refine v_iload 2 dX6_tally_103 rfl ?_
          refine v_iald dX6_tally_105 h3 (nI_in' (by omega)) ?_
          refine v_istore_n dX6_tally_106 rfl (by decide) (fun y3 e_y3 => ?_)
          refine v_ls (ls' := [(3, .int y3), (4, .int y4), (6, _), (5, .int (nI i)), (2, .int (nI x1)), (0, .ref 0), (1, .int w)]) rfl ?_
          refine v_iinc (v := 1) 3 dX6_tally_107 rfl rfl (by decide) (fun z e_z => ?_)
          refine v_ls (ls' := [(5, .int z), (3, .int y3), (4, .int y4), (6, _), (2, .int (nI x1)), (0, .ref 0), (1, .int w)]) rfl ?_
          rw [nI_1] at e_z
          subst e_z
          refine v_goto (tgt := 22) dX6_tally_110 (by decide) ?_
          have hk1 : ¬ cntO ((sP σ).getD i 0) ((sP σ).take i) = 0 := fun z => hc79 (by rw [z]; rfl)
          have hk2 :  x3 < cntO ((sP σ).getD i 0) (sP σ) := Nat.lt_of_not_le (fun z => hc89 ((nI_leI (by omega) (by omega)).mpr z))
          rw [clamp (by omega), ← getD_at hpl (show i < (sP σ).length by omega)] at e_y3
          subst e_y4 e_y3
          refine v_pick [0, 2, 1, 4, 5, 6] rfl ?_
          refine ih (i + 1) x1 ((sP σ).getD i 0) (cntO ((sP σ).getD i 0) (sP σ)) μ (by omega) (by omega) (by omega) h hF ?_
          rw [hta, taI_s, show taS (sP σ) (x1, x2, x3) i = (x1, (sP σ).getD i 0, cntO ((sP σ).getD i 0) (sP σ)) from by simp only [taS, if_neg hk1, if_pos hk2]]
          
      ·
        refine v_iinc (v := 1) 4 dX6_tally_82 rfl rfl (by decide) (fun y2 e_y2 => ?_)
        refine v_ls (ls' := [(2, .int y2), (6, _), (5, .int (nI i)), (4, .int (nI x3)), (3, .int x2), (0, .ref 0), (1, .int w)]) rfl ?_
        refine v_iload 1 dX6_tally_85 rfl ?_
        refine v_iload 3 dX6_tally_87 rfl ?_
        refine v_icmp_le (tgt := 107) dX6_tally_89 (by decide) (fun hc89 => ?_) (fun hc89 => ?_)
        ·
          refine v_iinc (v := 1) 2 dX6_tally_107 rfl rfl (by decide) (fun z e_z => ?_)
          refine v_ls (ls' := [(5, .int z), (2, .int y2), (6, _), (4, .int (nI x3)), (3, .int x2), (0, .ref 0), (1, .int w)]) rfl ?_
          rw [nI_1] at e_z
          subst e_z
          refine v_goto (tgt := 22) dX6_tally_110 (by decide) ?_
          have hk1 : cntO ((sP σ).getD i 0) ((sP σ).take i) = 0 := (nI_eq (b := 0) (by omega) (by decide)).mp hc79
          have hk2 : ¬ x3 < cntO ((sP σ).getD i 0) (sP σ) := fun z => absurd ((nI_leI (by omega) (by omega)).mp hc89) (by omega)
          rw [nI_1] at e_y2
          subst e_y2
          refine v_pick [0, 3, 4, 1, 5, 6] rfl ?_
          refine ih (i + 1) (x1 + 1) x2 x3 μ (by omega) (by omega) (by omega) h hF ?_
          rw [hta, taI_s, show taS (sP σ) (x1, x2, x3) i = ((x1 + 1), x2, x3) from by simp only [taS, if_pos hk1, if_neg hk2]]
          
        ·
          refine v_iload 1 dX6_tally_92 rfl ?_
          refine v_istore dX6_tally_94 (by decide) (fun y4 e_y4 => ?_)
          refine v_ls (ls' := [(4, .int y4), (2, .int y2), (6, _), (5, .int (nI i)), (3, .int x2), (0, .ref 0), (1, .int w)]) rfl ?_
          refine v_aload_n 5 dX6_tally_96 rfl rfl ?_
          refine v_get fl_X6_12 dX6_tally_97 h0 rfl ?_
          refine v_get fl_X6_118 dX6_tally_100 h1 rfl ?_
          refine v_iload 3 dX6_tally_103 rfl ?_
          refine v_iald dX6_tally_105 h3 (nI_in' (by omega)) ?_
          refine v_istore_n dX6_tally_106 rfl (by decide) (fun y3 e_y3 => ?_)
          refine v_ls (ls' := [(3, .int y3), (4, .int y4), (2, .int y2), (6, _), (5, .int (nI i)), (0, .ref 0), (1, .int w)]) rfl ?_
          refine v_iinc (v := 1) 4 dX6_tally_107 rfl rfl (by decide) (fun z e_z => ?_)
          refine v_ls (ls' := [(5, .int z), (3, .int y3), (4, .int y4), (2, .int y2), (6, _), (0, .ref 0), (1, .int w)]) rfl ?_
          rw [nI_1] at e_z
          subst e_z
          refine v_goto (tgt := 22) dX6_tally_110 (by decide) ?_
          have hk1 : cntO ((sP σ).getD i 0) ((sP σ).take i) = 0 := (nI_eq (b := 0) (by omega) (by decide)).mp hc79
          have hk2 :  x3 < cntO ((sP σ).getD i 0) (sP σ) := Nat.lt_of_not_le (fun z => hc89 ((nI_leI (by omega) (by omega)).mpr z))
          rw [nI_1] at e_y2
          subst e_y2
          rw [clamp (by omega), ← getD_at hpl (show i < (sP σ).length by omega)] at e_y3
          subst e_y4 e_y3
          refine v_pick [0, 2, 1, 3, 5, 6] rfl ?_
          refine ih (i + 1) (x1 + 1) ((sP σ).getD i 0) (cntO ((sP σ).getD i 0) (sP σ)) μ (by omega) (by omega) (by omega) h hF ?_
          rw [hta, taI_s, show taS (sP σ) (x1, x2, x3) i = ((x1 + 1), (sP σ).getD i 0, cntO ((sP σ).getD i 0) (sP σ)) from by simp only [taS, if_pos hk1, if_pos hk2]]
          

set_option maxRecDepth 20000 in
set_option maxHeartbeats 4000000 in
theorem c_X6_tally {G : Cx} (d : Nat) {μ : Hp} {σ : ST} {w : Int32} (h : Cl σ μ) (hw : Wp (sP σ)) : Ct G (d + 1) 0 0 M_X6_tally [.ref 0, .int w] μ (Po (σ) (.int (rTally σ w)) μ) := by
  refine Ct.ofV (by decide +kernel) (Nat.le_of_ble_eq_true rfl) ?_
  refine v_ls (ls' := [(0, .ref 0), (1, .int w)]) rfl ?_
  obtain ⟨h0, ⟨p, h1, h2, h3, h4, h5, h6, h7, h8, h9, hpl⟩, ⟨bk, hbk, pk, k11, k12, k13, k14, k15, k16, k17, k18, k19, hpk⟩, ⟨h20, h21, h22, h23, h24⟩, ⟨tt, ops, cd, kk, pp, ff, h25, h26, h27, h28, htp, ht60⟩, ⟨h29, h30, h31⟩, ⟨⟨oc, hoc⟩, h37, h38, h39⟩, hsx, ⟨B0, B1, B2, h50, h51, h52⟩⟩ := id h
  have hl8 := hw.1
  refine v_iload_n 1 dX6_tally_0 rfl rfl ?_
  refine v_if_lt (tgt := 9) dX6_tally_1 (by decide) (fun hc1 => ?_) (fun hc1 => ?_)
  ·
    refine v_iconst (v := -1) dX6_tally_9 (by first | rfl | decide) ?_
    refine v_iret dX6_tally_10 rfl (by first | rfl | decide | exact nar_b (by first | assumption | rfl)) ?_
    have hz : inO w 3 = 0 := by first | exact in_b1 hc1 | exact in_b2 (n := 2) (by decide) hc6
    have hE : rTally σ w = -1 := by simp only [rTally, if_pos hz]
    rw [hE]
    exact ⟨rfl, h, Fo.rf μ⟩
  ·
    refine v_iload_n 1 dX6_tally_4 rfl rfl ?_
    refine v_iconst (v := 2) dX6_tally_5 (by first | rfl | decide) ?_
    refine v_icmp_le (tgt := 11) dX6_tally_6 (by decide) (fun hc6 => ?_) (fun hc6 => ?_)
    ·
      refine v_iconst (v := 0) dX6_tally_11 (by first | rfl | decide) ?_
      refine v_istore_n dX6_tally_12 rfl (by decide) (fun x2_1 e_x2_1 => ?_)
      refine v_ls (ls' := [(2, .int x2_1), (0, .ref 0), (1, .int w)]) rfl ?_
      subst e_x2_1
      refine v_bipush (v := -5) dX6_tally_13 (by first | rfl | decide) ?_
      refine v_istore_n dX6_tally_15 rfl (by decide) (fun x3_1 e_x3_1 => ?_)
      refine v_ls (ls' := [(3, .int x3_1), (2, .int (0)), (0, .ref 0), (1, .int w)]) rfl ?_
      subst e_x3_1
      refine v_iconst (v := 0) dX6_tally_16 (by first | rfl | decide) ?_
      refine v_istore dX6_tally_17 (by decide) (fun x4_1 e_x4_1 => ?_)
      refine v_ls (ls' := [(4, .int x4_1), (3, .int (-5)), (2, .int (0)), (0, .ref 0), (1, .int w)]) rfl ?_
      subst e_x4_1
      refine v_iconst (v := 0) dX6_tally_19 (by first | rfl | decide) ?_
      refine v_istore dX6_tally_20 (by decide) (fun x5 e_x5 => ?_)
      refine v_ls (ls' := [(5, .int x5), (4, .int (0)), (3, .int (-5)), (2, .int (0)), (0, .ref 0), (1, .int w)]) rfl ?_
      subst e_x5
      refine v_pick [0, 1, 2, 3, 4, 5] rfl ?_
      exact ta_loop d hw (in_ok (n := 2) (by decide) hc1 hc6) (sP σ).length 0 0 (-5) 0 μ (by omega) (by omega) (by omega) h (Fo.rf μ) rfl
      
    ·
      refine v_iconst (v := -1) dX6_tally_9 (by first | rfl | decide) ?_
      refine v_iret dX6_tally_10 rfl (by first | rfl | decide | exact nar_b (by first | assumption | rfl)) ?_
      have hz : inO w 3 = 0 := by first | exact in_b1 hc1 | exact in_b2 (n := 2) (by decide) hc6
      have hE : rTally σ w = -1 := by simp only [rTally, if_pos hz]
      rw [hE]
      exact ⟨rfl, h, Fo.rf μ⟩

