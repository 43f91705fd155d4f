theorem in_b1 {x n : Int32} (h : x < 0) : inO x n = 0 := by simp only [inO, if_pos h]
theorem in_b3 {x : Int32} {n : Nat} (hn : n + 1 < 2 ^ 31) (h : nI n < x) : inO x (nI (n + 1)) = 0 := by
  have h2 : nI (n + 1) ≤ x := by
    rw [Int32.lt_iff_toInt_lt, nI_toInt (by omega)] at h
    rw [Int32.le_iff_toInt_le, nI_toInt hn]
    omega
  unfold inO
  rw [if_pos h2]
  split <;> rfl
theorem in_b2 {x : Int32} {n : Nat} (hn : n + 1 < 2 ^ 31) (h : ¬ x ≤ nI n) : inO x (nI (n + 1)) = 0 := in_b3 hn (Int32.not_le.mp h)
theorem in_ok2 {x : Int32} {n : Nat} (hn : n + 1 < 2 ^ 31) (h0 : ¬ x < 0) (h : ¬ nI n < x) : ¬ inO x (nI (n + 1)) = 0 := by
  have h2 : ¬ nI (n + 1) ≤ x := by
    rw [Int32.lt_iff_toInt_lt, nI_toInt (by omega)] at h
    rw [Int32.le_iff_toInt_le, nI_toInt hn]
    omega
  unfold inO
  rw [if_neg h0, if_neg h2]
  decide
theorem in_ok {x : Int32} {n : Nat} (hn : n + 1 < 2 ^ 31) (h0 : ¬ x < 0) (h : x ≤ nI n) : ¬ inO x (nI (n + 1)) = 0 := in_ok2 hn h0 (Int32.not_lt.mpr h)
theorem ordL_bad {σ : ST} {x w : Int32} (h : inO x 2 = 0 ∨ inO w 5 = 0 ∨ 5 < (sP σ).length) : rOrderL σ x w = VD := by
  unfold rOrderL
  split
  · rfl
  · split
    · rfl
    · split
      · rfl
      · rename_i h1 h2 h3
        exact (h.elim h1 (fun z => z.elim h2 h3)).elim
theorem mat_bad {σ : ST} {r c w : Int32} (h : inO r 4 = 0 ∨ inO c 4 = 0 ∨ inO w 2 = 0) : rMatrix σ r c w = VD := by
  unfold rMatrix
  split
  · rfl
  · split
    · rfl
    · split
      · rfl
      · rename_i h1 h2 h3
        exact (h.elim h1 (fun z => z.elim h2 h3)).elim
set_option maxRecDepth 20000 in
set_option maxHeartbeats 4000000 in
theorem c_X6_order {G : Cx} (d : Nat) {μ : Hp} {σ : ST} {w : Int32} (h : Cl σ μ) (hw : Wp (sP σ)) : Ct G (d + 11) 0 0 M_X6_order [.ref 0, .int w] μ (Po (σ) (.int (rOrder σ w)) μ) := by
  refine Ct.ofV (by decide +kernel) (Nat.le_of_ble_eq_true rfl) ?_
  refine v_ls (ls' := [(0, .ref 0), (1, .int w)]) rfl ?_
  obtain ⟨h0, ⟨p, h1, h2, h3, h4, h5, h6, h7, h8, h9, hpl⟩, ⟨bk, hbk, pk, k11, k12, k13, k14, k15, k16, k17, k18, k19, hpk⟩, ⟨h20, h21, h22, h23, h24⟩, ⟨tt, ops, cd, kk, pp, ff, h25, h26, h27, h28, htp, ht60⟩, ⟨h29, h30, h31⟩, ⟨⟨oc, hoc⟩, h37, h38, h39⟩, hsx, ⟨B0, B1, B2, h50, h51, h52⟩⟩ := id h
  have hl8 := hw.1
  refine v_iload_n 1 dX6_order_0 rfl rfl ?_
  refine v_if_lt (tgt := 9) dX6_order_1 (by decide) (fun hc1 => ?_) (fun hc1 => ?_)
  ·
    refine v_iconst (v := -1) dX6_order_9 (by first | rfl | decide) ?_
    refine v_iret dX6_order_10 rfl (by first | rfl | decide | exact nar_b (by first | assumption | rfl)) ?_
    have hz : inO w 4 = 0 := by first | exact in_b1 hc1 | exact in_b2 (n := 3) (by decide) hc6
    have hE : rOrder σ w = -1 := by simp only [rOrder, if_pos hz]
    rw [hE]
    exact ⟨rfl, h, Fo.rf μ⟩
  ·
    refine v_iload_n 1 dX6_order_4 rfl rfl ?_
    refine v_iconst (v := 3) dX6_order_5 (by first | rfl | decide) ?_
    refine v_icmp_le (tgt := 11) dX6_order_6 (by decide) (fun hc6 => ?_) (fun hc6 => ?_)
    ·
      have hw4 : ¬ inO w 4 = 0 := in_ok (n := 3) (by decide) hc1 hc6
      refine v_aload_n 0 dX6_order_11 rfl rfl ?_
      refine v_get fl_X6_12 dX6_order_12 h0 rfl ?_
      refine v_get fl_X6_140 dX6_order_15 h1 rfl ?_
      refine v_iconst (v := 5) dX6_order_18 (by first | rfl | decide) ?_
      refine v_icmp_le (tgt := 25) dX6_order_19 (by decide) (fun hc19 => ?_) (fun hc19 => ?_)
      ·
        refine v_aload_n 0 dX6_order_25 rfl rfl ?_
        refine v_get fl_X6_54 dX6_order_26 h0 rfl ?_
        refine v_aload_n 0 dX6_order_29 rfl rfl ?_
        refine v_get fl_X6_12 dX6_order_30 h0 rfl ?_
        refine v_aload_n 0 dX6_order_33 rfl rfl ?_
        refine v_get fl_X6_47 dX6_order_34 h0 rfl ?_
        have h59 : (sP σ).length ≤ 5 := (nI_leI (b := 5) (by omega) (by decide)).mp hc19
        refine v_callV (c_X2_meetAll (d + 0) hpl h59 ⟨h1, h3, h37, h38, h39⟩ h2 hoc) cs_X6_216 dX6_order_37 h37 rfl rfl (Nat.le_of_ble_eq_true rfl) ?_
        rintro _ m1 ⟨rfl, hoc2, hfr, hx2⟩
        have hCl : Cl σ m1 := h.scratch (fun i hi => hfr i (by omega)) ⟨⟨_, hoc2⟩, (hfr 37 (by omega)).trans h37, (hfr 38 (by omega)).trans h38, hx2⟩
        have hFo : Fo m1 μ := fun i hi => hfr i (by omega)
        obtain ⟨s9, t9, g32, g33, g34, g35, g36, hsn⟩ := id hoc2
        have hl5 : ¬ 5 < (sP σ).length := by omega
        refine v_iload_n 1 dX6_order_40 rfl rfl ?_
        by_cases cl41 : (w).toInt < 0
        · refine v_tableOut (tgt := 92) dX6_order_41 (Or.inl cl41) (by decide) ?_
          have cs41_0 : ¬ w = 0 := sw_lo cl41 (by decide)
          have cs41_1 : ¬ w = 1 := sw_lo cl41 (by decide)
          have cs41_2 : ¬ w = 2 := sw_lo cl41 (by decide)
          refine v_aload_n 0 dX6_order_92 rfl rfl ?_
          refine v_get fl_X6_47 dX6_order_93 ((hfr 0 (by omega)).trans h0) rfl ?_
          refine v_callV (c_X3_common (d + 9) hoc2 (ords_len h59)) cs_X6_229 dX6_order_96 g32 rfl rfl (Nat.le_of_ble_eq_true rfl) ?_
          refine rt_k ?_
          refine v_iret dX6_order_99 rfl (by first | rfl | decide | exact nar_b (by first | assumption | rfl)) ?_
          exact ⟨by simp only [rOrder, if_neg hw4, if_neg hl5, if_neg cs41_0, if_neg cs41_1, if_neg cs41_2], hCl, hFo⟩
        by_cases ch41 : 2 < (w).toInt
        · refine v_tableOut (tgt := 92) dX6_order_41 (Or.inr ch41) (by decide) ?_
          have cs41_0 : ¬ w = 0 := sw_hi ch41 (by decide)
          have cs41_1 : ¬ w = 1 := sw_hi ch41 (by decide)
          have cs41_2 : ¬ w = 2 := sw_hi ch41 (by decide)
          refine v_aload_n 0 dX6_order_92 rfl rfl ?_
          refine v_get fl_X6_47 dX6_order_93 ((hfr 0 (by omega)).trans h0) rfl ?_
          refine v_callV (c_X3_common (d + 9) hoc2 (ords_len h59)) cs_X6_229 dX6_order_96 g32 rfl rfl (Nat.le_of_ble_eq_true rfl) ?_
          refine rt_k ?_
          refine v_iret dX6_order_99 rfl (by first | rfl | decide | exact nar_b (by first | assumption | rfl)) ?_
          exact ⟨by simp only [rOrder, if_neg hw4, if_neg hl5, if_neg cs41_0, if_neg cs41_1, if_neg cs41_2], hCl, hFo⟩
        by_cases cs41_0 : w = 0
        · refine v_tableIn (off := 27) (tgt := 68) dX6_order_41 cl41 ch41 (by rw [cs41_0]; rfl) (by decide) ?_
          refine v_aload_n 0 dX6_order_68 rfl rfl ?_
          refine v_get fl_X6_47 dX6_order_69 ((hfr 0 (by omega)).trans h0) rfl ?_
          refine v_get fl_X6_220 dX6_order_72 g32 rfl ?_
          refine v_iret dX6_order_75 rfl (by first | rfl | decide | exact nar_b (by first | assumption | rfl)) ?_
          exact ⟨by simp only [rOrder, if_neg hw4, if_neg hl5, if_pos cs41_0], hCl, hFo⟩
        by_cases cs41_1 : w = 1
        · refine v_tableIn (off := 35) (tgt := 76) dX6_order_41 cl41 ch41 (by rw [cs41_1]; rfl) (by decide) ?_
          refine v_aload_n 0 dX6_order_76 rfl rfl ?_
          refine v_get fl_X6_47 dX6_order_77 ((hfr 0 (by omega)).trans h0) rfl ?_
          refine v_get fl_X6_223 dX6_order_80 g32 rfl ?_
          refine v_iret dX6_order_83 rfl (by first | rfl | decide | exact nar_b (by first | assumption | rfl)) ?_
          exact ⟨by simp only [rOrder, if_neg hw4, if_neg hl5, if_neg cs41_0, if_pos cs41_1], hCl, hFo⟩
        by_cases cs41_2 : w = 2
        · refine v_tableIn (off := 43) (tgt := 84) dX6_order_41 cl41 ch41 (by rw [cs41_2]; rfl) (by decide) ?_
          refine v_aload_n 0 dX6_order_84 rfl rfl ?_
          refine v_get fl_X6_47 dX6_order_85 ((hfr 0 (by omega)).trans h0) rfl ?_
          refine v_get fl_X6_226 dX6_order_88 g32 rfl ?_
          refine v_iret dX6_order_91 rfl (by first | rfl | decide | exact nar_b (by first | assumption | rfl)) ?_
          exact ⟨by simp only [rOrder, if_neg hw4, if_neg hl5, if_neg cs41_0, if_neg cs41_1, if_pos cs41_2], hCl, hFo⟩
        exfalso
        have q41_0 := lv_neT (a := 0) cs41_0 (by decide)
        have q41_1 := lv_neT (a := 1) cs41_1 (by decide)
        have q41_2 := lv_neT (a := 2) cs41_2 (by decide)
        omega
      ·
        refine v_bipush (v := -3) dX6_order_22 (by first | rfl | decide) ?_
        refine v_iret dX6_order_24 rfl (by first | rfl | decide | exact nar_b (by first | assumption | rfl)) ?_
        have hl5 : 5 < (sP σ).length := Nat.lt_of_not_le (fun z => hc19 ((nI_leI (b := 5) (by omega) (by decide)).mpr z))
        have hE : rOrder σ w = -3 := by simp only [rOrder, if_neg hw4, if_pos hl5]
        rw [hE]
        exact ⟨rfl, h, Fo.rf μ⟩
    ·
      refine v_iconst (v := -1) dX6_order_9 (by first | rfl | decide) ?_
      refine v_iret dX6_order_10 rfl (by first | rfl | decide | exact nar_b (by first | assumption | rfl)) ?_
      have hz : inO w 4 = 0 := by first | exact in_b1 hc1 | exact in_b2 (n := 3) (by decide) hc6
      have hE : rOrder σ w = -1 := by simp only [rOrder, if_pos hz]
      rw [hE]
      exact ⟨rfl, h, Fo.rf μ⟩

set_option maxRecDepth 20000 in
set_option maxHeartbeats 4000000 in
theorem c_X6_orderLight {G : Cx} (d : Nat) {μ : Hp} {σ : ST} {x : Int32} {w : Int32} (h : Cl σ μ) (hw : Wp (sP σ)) : Ct G (d + 11) 0 0 M_X6_orderLight [.ref 0, .int x, .int w] μ (Po (σ) (.long (rOrderL σ x w)) μ) := by
  refine Ct.ofV (by decide +kernel) (Nat.le_of_ble_eq_true rfl) ?_
  refine v_ls (ls' := [(0, .ref 0), (1, .int x), (2, .int w)]) rfl ?_
  obtain ⟨h0, ⟨p, h1, h2, h3, h4, h5, h6, h7, h8, h9, hpl⟩, ⟨bk, hbk, pk, k11, k12, k13, k14, k15, k16, k17, k18, k19, hpk⟩, ⟨h20, h21, h22, h23, h24⟩, ⟨tt, ops, cd, kk, pp, ff, h25, h26, h27, h28, htp, ht60⟩, ⟨h29, h30, h31⟩, ⟨⟨oc, hoc⟩, h37, h38, h39⟩, hsx, ⟨B0, B1, B2, h50, h51, h52⟩⟩ := id h
  have hl8 := hw.1
  refine v_iload_n 1 dX6_orderLight_0 rfl rfl ?_
  refine v_if_lt (tgt := 27) dX6_orderLight_1 (by decide) (fun hc1 => ?_) (fun hc1 => ?_)
  ·
    refine v_ldc2 kc_X6_174 dX6_orderLight_27 ?_
    refine v_lret dX6_orderLight_30 rfl ?_
    have hE : rOrderL σ x w = VD := by
      first
        | exact ordL_bad (Or.inl (in_b1 hc1))
        | exact ordL_bad (Or.inl (in_b3 (n := 1) (by decide) hc6))
        | exact ordL_bad (Or.inr (Or.inl hc13))
        | exact ordL_bad (Or.inr (Or.inr hl5))
    rw [hE]
    exact ⟨rfl, h, Fo.rf μ⟩
  ·
    refine v_iload_n 1 dX6_orderLight_4 rfl rfl ?_
    refine v_iconst (v := 1) dX6_orderLight_5 (by first | rfl | decide) ?_
    refine v_icmp_gt (tgt := 27) dX6_orderLight_6 (by decide) (fun hc6 => ?_) (fun hc6 => ?_)
    ·
      refine v_ldc2 kc_X6_174 dX6_orderLight_27 ?_
      refine v_lret dX6_orderLight_30 rfl ?_
      have hE : rOrderL σ x w = VD := by
        first
          | exact ordL_bad (Or.inl (in_b1 hc1))
          | exact ordL_bad (Or.inl (in_b3 (n := 1) (by decide) hc6))
          | exact ordL_bad (Or.inr (Or.inl hc13))
          | exact ordL_bad (Or.inr (Or.inr hl5))
      rw [hE]
      exact ⟨rfl, h, Fo.rf μ⟩
    ·
      refine v_iload_n 2 dX6_orderLight_9 rfl rfl ?_
      refine v_callS (c_X6_isLightPart (d + 10) ) cs_X6_171 dX6_orderLight_10 rfl rfl (Nat.le_of_ble_eq_true rfl) ?_
      refine rt_k ?_
      refine v_if_eq (tgt := 27) dX6_orderLight_13 (by decide) (fun hc13 => ?_) (fun hc13 => ?_)
      ·
        refine v_ldc2 kc_X6_174 dX6_orderLight_27 ?_
        refine v_lret dX6_orderLight_30 rfl ?_
        have hE : rOrderL σ x w = VD := by
          first
            | exact ordL_bad (Or.inl (in_b1 hc1))
            | exact ordL_bad (Or.inl (in_b3 (n := 1) (by decide) hc6))
            | exact ordL_bad (Or.inr (Or.inl hc13))
            | exact ordL_bad (Or.inr (Or.inr hl5))
        rw [hE]
        exact ⟨rfl, h, Fo.rf μ⟩
      ·
        refine v_aload_n 0 dX6_orderLight_16 rfl rfl ?_
        refine v_get fl_X6_12 dX6_orderLight_17 h0 rfl ?_
        refine v_get fl_X6_140 dX6_orderLight_20 h1 rfl ?_
        refine v_iconst (v := 5) dX6_orderLight_23 (by first | rfl | decide) ?_
        refine v_icmp_le (tgt := 31) dX6_orderLight_24 (by decide) (fun hc24 => ?_) (fun hc24 => ?_)
        ·
          refine v_aload_n 0 dX6_orderLight_31 rfl rfl ?_
          refine v_get fl_X6_54 dX6_orderLight_32 h0 rfl ?_
          refine v_aload_n 0 dX6_orderLight_35 rfl rfl ?_
          refine v_get fl_X6_12 dX6_orderLight_36 h0 rfl ?_
          refine v_aload_n 0 dX6_orderLight_39 rfl rfl ?_
          refine v_get fl_X6_47 dX6_orderLight_40 h0 rfl ?_
          have h59 : (sP σ).length ≤ 5 := (nI_leI (b := 5) (by omega) (by decide)).mp hc24
          refine v_callV (c_X2_meetAll (d + 0) hpl h59 ⟨h1, h3, h37, h38, h39⟩ h2 hoc) cs_X6_216 dX6_orderLight_43 h37 rfl rfl (Nat.le_of_ble_eq_true rfl) ?_
          rintro _ m1 ⟨rfl, hoc2, hfr, hx2⟩
          have hCl : Cl σ m1 := h.scratch (fun i hi => hfr i (by omega)) ⟨⟨_, hoc2⟩, (hfr 37 (by omega)).trans h37, (hfr 38 (by omega)).trans h38, hx2⟩
          have hFo : Fo m1 μ := fun i hi => hfr i (by omega)
          obtain ⟨s9, t9, g32, g33, g34, g35, g36, hsn⟩ := id hoc2
          have hl5 : ¬ 5 < (sP σ).length := by omega
          have hx2b : ¬ inO x 2 = 0 := in_ok2 (n := 1) (by decide) hc1 hc6
          refine v_iload_n 1 dX6_orderLight_46 rfl rfl ?_
          refine v_if_ne (tgt := 64) dX6_orderLight_47 (by decide) (fun hc47 => ?_) (fun hc47 => ?_)
          ·
            refine v_aload_n 0 dX6_orderLight_64 rfl rfl ?_
            refine v_get fl_X6_47 dX6_orderLight_65 ((hfr 0 (by omega)).trans h0) rfl ?_
            refine v_get fl_X6_236 dX6_orderLight_68 g32 rfl ?_
            refine v_iload_n 2 dX6_orderLight_71 rfl rfl ?_
            refine v_callV (c_X1_part (d + 10) g34) cs_X6_179 dX6_orderLight_72 g34 rfl rfl (Nat.le_of_ble_eq_true rfl) ?_
            refine rt_k ?_
            refine v_lret dX6_orderLight_75 rfl ?_
            exact ⟨by simp only [rOrderL, if_neg hx2b, if_neg hc13, if_neg hl5, if_neg hc47], hCl, hFo⟩
          ·
            refine v_aload_n 0 dX6_orderLight_50 rfl rfl ?_
            refine v_get fl_X6_47 dX6_orderLight_51 ((hfr 0 (by omega)).trans h0) rfl ?_
            refine v_get fl_X6_233 dX6_orderLight_54 g32 rfl ?_
            refine v_iload_n 2 dX6_orderLight_57 rfl rfl ?_
            refine v_callV (c_X1_part (d + 10) g33) cs_X6_179 dX6_orderLight_58 g33 rfl rfl (Nat.le_of_ble_eq_true rfl) ?_
            refine rt_k ?_
            refine v_goto (tgt := 75) dX6_orderLight_61 (by decide) ?_
            refine v_lret dX6_orderLight_75 rfl ?_
            exact ⟨by simp only [rOrderL, if_neg hx2b, if_neg hc13, if_neg hl5, if_pos hc47], hCl, hFo⟩
        ·
          refine v_ldc2 kc_X6_174 dX6_orderLight_27 ?_
          refine v_lret dX6_orderLight_30 rfl ?_
          have hl5 : 5 < (sP σ).length := Nat.lt_of_not_le (fun z => hc24 ((nI_leI (b := 5) (by omega) (by decide)).mpr z))
          have hE : rOrderL σ x w = VD := by
            first
              | exact ordL_bad (Or.inl (in_b1 hc1))
              | exact ordL_bad (Or.inl (in_b3 (n := 1) (by decide) hc6))
              | exact ordL_bad (Or.inr (Or.inl hc13))
              | exact ordL_bad (Or.inr (Or.inr hl5))
          rw [hE]
          exact ⟨rfl, h, Fo.rf μ⟩

set_option maxRecDepth 20000 in
set_option maxHeartbeats 4000000 in
theorem c_X6_matrix {G : Cx} (d : Nat) {μ : Hp} {σ : ST} {r : Int32} {c : Int32} {w : Int32} (h : Cl σ μ) (hw : Wp (sP σ)) : Ct G (d + 4) 0 0 M_X6_matrix [.ref 0, .int r, .int c, .int w] μ (Po (σ) (.long (rMatrix σ r c w)) μ) := by
  refine Ct.ofV (by decide +kernel) (Nat.le_of_ble_eq_true rfl) ?_
  refine v_ls (ls' := [(0, .ref 0), (1, .int r), (2, .int c), (3, .int w)]) rfl ?_
  obtain ⟨h0, ⟨p, h1, h2, h3, h4, h5, h6, h7, h8, h9, hpl⟩, ⟨bk, hbk, pk, k11, k12, k13, k14, k15, k16, k17, k18, k19, hpk⟩, ⟨h20, h21, h22, h23, h24⟩, ⟨tt, ops, cd, kk, pp, ff, h25, h26, h27, h28, htp, ht60⟩, ⟨h29, h30, h31⟩, ⟨⟨oc, hoc⟩, h37, h38, h39⟩, hsx, ⟨B0, B1, B2, h50, h51, h52⟩⟩ := id h
  have hl8 := hw.1
  refine v_iload_n 1 dX6_matrix_0 rfl rfl ?_
  refine v_if_lt (tgt := 27) dX6_matrix_1 (by decide) (fun hc1 => ?_) (fun hc1 => ?_)
  ·
    refine v_ldc2 kc_X6_174 dX6_matrix_27 ?_
    refine v_lret dX6_matrix_30 rfl ?_
    have hE : rMatrix σ r c w = VD := by
      first
        | exact mat_bad (Or.inl (in_b1 hc1))
        | exact mat_bad (Or.inl (in_b3 (n := 3) (by decide) hc6))
        | exact mat_bad (Or.inr (Or.inl (in_b1 hc10)))
        | exact mat_bad (Or.inr (Or.inl (in_b3 (n := 3) (by decide) hc15)))
        | exact mat_bad (Or.inr (Or.inr (in_b1 hc19)))
        | exact mat_bad (Or.inr (Or.inr (in_b2 (n := 1) (by decide) hc24)))
    rw [hE]
    exact ⟨rfl, h, Fo.rf μ⟩
  ·
    refine v_iload_n 1 dX6_matrix_4 rfl rfl ?_
    refine v_iconst (v := 3) dX6_matrix_5 (by first | rfl | decide) ?_
    refine v_icmp_gt (tgt := 27) dX6_matrix_6 (by decide) (fun hc6 => ?_) (fun hc6 => ?_)
    ·
      refine v_ldc2 kc_X6_174 dX6_matrix_27 ?_
      refine v_lret dX6_matrix_30 rfl ?_
      have hE : rMatrix σ r c w = VD := by
        first
          | exact mat_bad (Or.inl (in_b1 hc1))
          | exact mat_bad (Or.inl (in_b3 (n := 3) (by decide) hc6))
          | exact mat_bad (Or.inr (Or.inl (in_b1 hc10)))
          | exact mat_bad (Or.inr (Or.inl (in_b3 (n := 3) (by decide) hc15)))
          | exact mat_bad (Or.inr (Or.inr (in_b1 hc19)))
          | exact mat_bad (Or.inr (Or.inr (in_b2 (n := 1) (by decide) hc24)))
      rw [hE]
      exact ⟨rfl, h, Fo.rf μ⟩
    ·
      refine v_iload_n 2 dX6_matrix_9 rfl rfl ?_
      refine v_if_lt (tgt := 27) dX6_matrix_10 (by decide) (fun hc10 => ?_) (fun hc10 => ?_)
      ·
        refine v_ldc2 kc_X6_174 dX6_matrix_27 ?_
        refine v_lret dX6_matrix_30 rfl ?_
        have hE : rMatrix σ r c w = VD := by
          first
            | exact mat_bad (Or.inl (in_b1 hc1))
            | exact mat_bad (Or.inl (in_b3 (n := 3) (by decide) hc6))
            | exact mat_bad (Or.inr (Or.inl (in_b1 hc10)))
            | exact mat_bad (Or.inr (Or.inl (in_b3 (n := 3) (by decide) hc15)))
            | exact mat_bad (Or.inr (Or.inr (in_b1 hc19)))
            | exact mat_bad (Or.inr (Or.inr (in_b2 (n := 1) (by decide) hc24)))
        rw [hE]
        exact ⟨rfl, h, Fo.rf μ⟩
      ·
        refine v_iload_n 2 dX6_matrix_13 rfl rfl ?_
        refine v_iconst (v := 3) dX6_matrix_14 (by first | rfl | decide) ?_
        refine v_icmp_gt (tgt := 27) dX6_matrix_15 (by decide) (fun hc15 => ?_) (fun hc15 => ?_)
        ·
          refine v_ldc2 kc_X6_174 dX6_matrix_27 ?_
          refine v_lret dX6_matrix_30 rfl ?_
          have hE : rMatrix σ r c w = VD := by
            first
              | exact mat_bad (Or.inl (in_b1 hc1))
              | exact mat_bad (Or.inl (in_b3 (n := 3) (by decide) hc6))
              | exact mat_bad (Or.inr (Or.inl (in_b1 hc10)))
              | exact mat_bad (Or.inr (Or.inl (in_b3 (n := 3) (by decide) hc15)))
              | exact mat_bad (Or.inr (Or.inr (in_b1 hc19)))
              | exact mat_bad (Or.inr (Or.inr (in_b2 (n := 1) (by decide) hc24)))
          rw [hE]
          exact ⟨rfl, h, Fo.rf μ⟩
        ·
          refine v_iload_n 3 dX6_matrix_18 rfl rfl ?_
          refine v_if_lt (tgt := 27) dX6_matrix_19 (by decide) (fun hc19 => ?_) (fun hc19 => ?_)
          ·
            refine v_ldc2 kc_X6_174 dX6_matrix_27 ?_
            refine v_lret dX6_matrix_30 rfl ?_
            have hE : rMatrix σ r c w = VD := by
              first
                | exact mat_bad (Or.inl (in_b1 hc1))
                | exact mat_bad (Or.inl (in_b3 (n := 3) (by decide) hc6))
                | exact mat_bad (Or.inr (Or.inl (in_b1 hc10)))
                | exact mat_bad (Or.inr (Or.inl (in_b3 (n := 3) (by decide) hc15)))
                | exact mat_bad (Or.inr (Or.inr (in_b1 hc19)))
                | exact mat_bad (Or.inr (Or.inr (in_b2 (n := 1) (by decide) hc24)))
            rw [hE]
            exact ⟨rfl, h, Fo.rf μ⟩
          ·
            refine v_iload_n 3 dX6_matrix_22 rfl rfl ?_
            refine v_iconst (v := 1) dX6_matrix_23 (by first | rfl | decide) ?_
            refine v_icmp_le (tgt := 31) dX6_matrix_24 (by decide) (fun hc24 => ?_) (fun hc24 => ?_)
            ·
              have g1 : ¬ inO r 4 = 0 := in_ok2 (n := 3) (by decide) hc1 hc6
              have g2 : ¬ inO c 4 = 0 := in_ok2 (n := 3) (by decide) hc10 hc15
              have g3 : ¬ inO w 2 = 0 := in_ok (n := 1) (by decide) hc19 hc24
              refine v_aload_n 0 dX6_matrix_31 rfl rfl ?_
              refine v_get fl_X6_68 dX6_matrix_32 h0 rfl ?_
              refine v_iload_n 2 dX6_matrix_35 rfl rfl ?_
              refine v_callV (c_X1_becomeUnit (d + 2) h50) cs_X6_239 dX6_matrix_36 h50 rfl rfl (Nat.le_of_ble_eq_true rfl) ?_
              refine rt_k ?_
              refine v_aload_n 0 dX6_matrix_39 rfl rfl ?_
              refine v_get fl_X6_12 dX6_matrix_40 (up_n (by decide) h0) rfl ?_
              refine v_aload_n 0 dX6_matrix_43 rfl rfl ?_
              refine v_get fl_X6_68 dX6_matrix_44 (up_n (by decide) h0) rfl ?_
              refine v_iconst (v := 0) dX6_matrix_47 (by first | rfl | decide) ?_
              refine v_aload_n 0 dX6_matrix_48 rfl rfl ?_
              refine v_get fl_X6_12 dX6_matrix_49 (up_n (by decide) h0) rfl ?_
              refine v_get fl_X6_140 dX6_matrix_52 (up_n (by decide) h1) rfl ?_
              refine v_callV (c_X0_send d (i := 0) (b := (sP σ).length) (up_n (by decide) h1) (up_n (by decide) h3) hpl hl8 (by decide) (by decide) (up_s _ _ _) (by omega) (by omega)) cs_X6_242 dX6_matrix_55 (up_n (by decide) h1) rfl rfl (Nat.le_of_ble_eq_true rfl) ?_
              refine rt_k ?_
              rw [List.take_length]
              refine v_hp (up_up _ _ _ _) ?_
              refine v_aload_n 0 dX6_matrix_58 rfl rfl ?_
              refine v_get fl_X6_68 dX6_matrix_59 (up_n (by decide) h0) rfl ?_
              refine v_aload_n 0 dX6_matrix_62 rfl rfl ?_
              refine v_get fl_X6_68 dX6_matrix_63 (up_n (by decide) h0) rfl ?_
              refine v_iload_n 1 dX6_matrix_66 rfl rfl ?_
              refine v_callV (c_X1_part (d + 3) (up_s _ _ _)) cs_X6_179 dX6_matrix_67 (up_s _ _ _) rfl rfl (Nat.le_of_ble_eq_true rfl) ?_
              refine rt_k ?_
              refine v_lconst (v := 0) dX6_matrix_70 (by first | rfl | decide) ?_
              refine v_lconst (v := 0) dX6_matrix_71 (by first | rfl | decide) ?_
              refine v_lconst (v := 0) dX6_matrix_72 (by first | rfl | decide) ?_
              refine v_aload_n 0 dX6_matrix_73 rfl rfl ?_
              refine v_get fl_X6_68 dX6_matrix_74 (up_n (by decide) h0) rfl ?_
              refine v_get fl_X6_246 dX6_matrix_77 (up_s _ _ _) rfl ?_
              refine v_callV (c_X1_become (d + 3) (up_s _ _ _)) cs_X6_78 dX6_matrix_80 (up_s _ _ _) rfl rfl (Nat.le_of_ble_eq_true rfl) ?_
              refine rt_k ?_
              refine v_hp (up_up _ _ _ _) ?_
              refine v_aload_n 0 dX6_matrix_83 rfl rfl ?_
              refine v_get fl_X6_68 dX6_matrix_84 (up_n (by decide) h0) rfl ?_
              refine v_callV (c_X1_lower (d + 3) (up_s _ _ _)) cs_X6_249 dX6_matrix_87 (up_s _ _ _) rfl rfl (Nat.le_of_ble_eq_true rfl) ?_
              refine rt_k ?_
              refine v_hp (up_up _ _ _ _) ?_
              refine v_iload_n 3 dX6_matrix_90 rfl rfl ?_
              refine v_if_ne (tgt := 104) dX6_matrix_91 (by decide) (fun hc91 => ?_) (fun hc91 => ?_)
              ·
                refine v_aload_n 0 dX6_matrix_104 rfl rfl ?_
                refine v_get fl_X6_68 dX6_matrix_105 (up_n (by decide) h0) rfl ?_
                refine v_get fl_X6_246 dX6_matrix_108 (up_s _ _ _) rfl ?_
                refine v_i2l dX6_matrix_111 ?_
                refine v_lret dX6_matrix_112 rfl ?_
                exact ⟨by simp only [rMatrix, matO, if_neg g1, if_neg g2, if_neg g3, if_neg hc91]; rfl, h.beam _, fun i hi => by repeat (first | rfl | refine up_n (by omega) ?_)⟩
              ·
                refine v_aload_n 0 dX6_matrix_94 rfl rfl ?_
                refine v_get fl_X6_68 dX6_matrix_95 (up_n (by decide) h0) rfl ?_
                refine v_get fl_X6_199 dX6_matrix_98 (up_s _ _ _) rfl ?_
                refine v_goto (tgt := 112) dX6_matrix_101 (by decide) ?_
                refine v_lret dX6_matrix_112 rfl ?_
                exact ⟨by simp only [rMatrix, matO, if_neg g1, if_neg g2, if_neg g3, if_pos hc91]; rfl, h.beam _, fun i hi => by repeat (first | rfl | refine up_n (by omega) ?_)⟩
            ·
              refine v_ldc2 kc_X6_174 dX6_matrix_27 ?_
              refine v_lret dX6_matrix_30 rfl ?_
              have hE : rMatrix σ r c w = VD := by
                first
                  | exact mat_bad (Or.inl (in_b1 hc1))
                  | exact mat_bad (Or.inl (in_b3 (n := 3) (by decide) hc6))
                  | exact mat_bad (Or.inr (Or.inl (in_b1 hc10)))
                  | exact mat_bad (Or.inr (Or.inl (in_b3 (n := 3) (by decide) hc15)))
                  | exact mat_bad (Or.inr (Or.inr (in_b1 hc19)))
                  | exact mat_bad (Or.inr (Or.inr (in_b2 (n := 1) (by decide) hc24)))
              rw [hE]
              exact ⟨rfl, h, Fo.rf μ⟩

