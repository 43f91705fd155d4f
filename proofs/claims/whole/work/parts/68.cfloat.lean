set_option maxRecDepth 20000 in
set_option maxHeartbeats 4000000 in
theorem c_X6_measure {G : Cx} (d : Nat) {μ : Hp} {σ : ST} {b : Nat} (h : Cl σ μ) (hw : Wp (sP σ)) (hph : Ph 1000 0 (sM σ)) (hb9 : b ≤ (sP σ).length) : Ct G (d + 5) 0 0 M_X6_measure [.ref 0, .int (nI b)] μ (Rt (some (.double (meaO (behO σ b)))) (up μ 50 (ligL (behO σ b)))) := by
  refine Ct.ofV (by decide +kernel) (Nat.le_of_ble_eq_true rfl) ?_
  refine v_ls (ls' := [(0, .ref 0), (1, .int (nI b))]) rfl ?_
  obtain ⟨h0, ⟨p, h1, h2, h3, h4, h5, h6, h7, h8, h9, hpl⟩, ⟨bk, hbk, pk, k11, k12, k13, k14, k15, k16, k17, k18, k19, hpk⟩, ⟨h20, h21, h22, h23, h24⟩, ⟨tt, ops, cd, kk, pp, ff, h25, h26, h27, h28, htp, ht60⟩, ⟨h29, h30, h31⟩, ⟨⟨oc, hoc⟩, h37, h38, h39⟩, hsx, ⟨B0, B1, B2, h50, h51, h52⟩⟩ := id h
  have hl8 := hw.1
  have hB9 : Ph 1125899906842624 40 (behO σ b) := run8_ph hph (fun c hc => hw.2 c (List.mem_of_mem_take hc)) (by rw [List.length_take]; omega)
  refine v_aload_n 0 dX6_measure_0 rfl rfl ?_
  refine v_iload_n 1 dX6_measure_1 rfl rfl ?_
  refine v_callV (c_X6_shineBehind d h0 h1 h2 h3 hpl hl8 h50 (by omega)) cs_X6_176 dX6_measure_2 h0 rfl rfl (Nat.le_of_ble_eq_true rfl) ?_
  refine rt_k ?_
  refine v_aload_n 0 dX6_measure_5 rfl rfl ?_
  refine v_get fl_X6_68 dX6_measure_6 (up_n (by decide) h0) rfl ?_
  refine v_get fl_X6_199 dX6_measure_9 (up_s _ _ _) rfl ?_
  refine v_l2d dX6_measure_12 ?_
  refine v_lconst (v := 1) dX6_measure_13 (by first | rfl | decide) ?_
  refine v_aload_n 0 dX6_measure_14 rfl rfl ?_
  refine v_get fl_X6_68 dX6_measure_15 (up_n (by decide) h0) rfl ?_
  refine v_get fl_X6_246 dX6_measure_18 (up_s _ _ _) rfl ?_
  refine v_lshl dX6_measure_21 ?_
  refine v_l2d dX6_measure_22 ?_
  refine v_ddiv dX6_measure_23 ((mea_b hB9).n) ?_
  refine v_dret dX6_measure_24 rfl ?_
  exact ⟨rfl, rfl⟩

theorem in2_lo {w : Int32} (h : w < 0) : inO w 2 = 0 := by unfold inO; rw [if_pos h]
theorem in2_hi {w : Int32} (h : ¬ w ≤ 1) : inO w 2 = 0 := by
  unfold inO
  by_cases z : w < 0
  · rw [if_pos z]
  · have h2 : (2 : Int32) ≤ w := by grind
    rw [if_neg z, if_pos h2]
theorem in2_ok {w : Int32} (h : ¬ w < 0) (h2 : w ≤ 1) : ¬ inO w 2 = 0 := by
  unfold inO
  have h3 : ¬ (2 : Int32) ≤ w := by grind
  rw [if_neg h, if_neg h3]
  decide
theorem in17_hi {w : Int32} (h : ¬ w ≤ 16) : inO w 17 = 0 := by
  unfold inO
  by_cases z : w < 0
  · rw [if_pos z]
  · have h2 : (17 : Int32) ≤ w := by grind
    rw [if_neg z, if_pos h2]
theorem in17_ok {w : Int32} (h : ¬ w < 0) (h2 : w ≤ 16) : ¬ inO w 17 = 0 := by
  unfold inO
  have h3 : ¬ (17 : Int32) ≤ w := by grind
  rw [if_neg h, if_neg h3]
  decide
theorem in17_lo {w : Int32} (h : w < 0) : inO w 17 = 0 := by unfold inO; rw [if_pos h]
set_option maxRecDepth 20000 in
set_option maxHeartbeats 4000000 in
theorem c_X6_meter {G : Cx} (d : Nat) {μ : Hp} {σ : ST} {k : Int32} {w : Int32} (h : Cl σ μ) (hw : Wp (sP σ)) (hph : Ph 1000 0 (sM σ)) : Ct G (d + 6) 0 0 M_X6_meter [.ref 0, .int k, .int w] μ (Po (σ) (.long (rMeter σ k w)) μ) := by
  refine Ct.ofV (by decide +kernel) (Nat.le_of_ble_eq_true rfl) ?_
  refine v_ls (ls' := [(0, .ref 0), (1, .int k), (2, .int w)]) rfl ?_
  obtain ⟨h0, ⟨p, h1, h2, h3, h4, h5, h6, h7, h8, h9, hpl⟩, ⟨bk, hbk, pk, k11, k12, k13, k14, k15, k16, k17, k18, k19, hpk⟩, ⟨h20, h21, h22, h23, h24⟩, ⟨tt, ops, cd, kk, pp, ff, h25, h26, h27, h28, htp, ht60⟩, ⟨h29, h30, h31⟩, ⟨⟨oc, hoc⟩, h37, h38, h39⟩, hsx, ⟨B0, B1, B2, h50, h51, h52⟩⟩ := id h
  have hl8 := hw.1
  refine v_aload_n 0 dX6_meter_0 rfl rfl ?_
  refine v_iload_n 1 dX6_meter_1 rfl rfl ?_
  refine v_callV (c_X6_isBehind (d + 5) h0 h1) cs_X6_168 dX6_meter_2 h0 rfl rfl (Nat.le_of_ble_eq_true rfl) ?_
  refine rt_k ?_
  refine v_if_eq (tgt := 17) dX6_meter_5 (by decide) (fun hc5 => ?_) (fun hc5 => ?_)
  ·
    refine v_ldc2 kc_X6_174 dX6_meter_17 ?_
    refine v_lret dX6_meter_20 rfl ?_
    have hE : rMeter σ k w = VD := by
      first
        | (simp only [rMeter, if_pos hc5]; done)
        | (simp only [rMeter, if_neg hc5, if_pos (in2_lo hc9)]; done)
        | (simp only [rMeter, if_neg hc5, if_pos (in2_hi hc14)]; done)
    rw [hE]
    exact ⟨rfl, h, Fo.rf μ⟩
  ·
    refine v_iload_n 2 dX6_meter_8 rfl rfl ?_
    refine v_if_lt (tgt := 17) dX6_meter_9 (by decide) (fun hc9 => ?_) (fun hc9 => ?_)
    ·
      refine v_ldc2 kc_X6_174 dX6_meter_17 ?_
      refine v_lret dX6_meter_20 rfl ?_
      have hE : rMeter σ k w = VD := by
        first
          | (simp only [rMeter, if_pos hc5]; done)
          | (simp only [rMeter, if_neg hc5, if_pos (in2_lo hc9)]; done)
          | (simp only [rMeter, if_neg hc5, if_pos (in2_hi hc14)]; done)
      rw [hE]
      exact ⟨rfl, h, Fo.rf μ⟩
    ·
      refine v_iload_n 2 dX6_meter_12 rfl rfl ?_
      refine v_iconst (v := 1) dX6_meter_13 (by first | rfl | decide) ?_
      refine v_icmp_le (tgt := 21) dX6_meter_14 (by decide) (fun hc14 => ?_) (fun hc14 => ?_)
      ·
        have hw2 := in2_ok hc9 hc14
        obtain ⟨b, hb9, rfl⟩ := be_ix (by omega) hc5
        have hcb : (nI b).toNatClampNeg = b := clamp (by omega)
        have hB9 : Ph 1125899906842624 40 (behO σ b) := run8_ph hph (fun c hc => hw.2 c (List.mem_of_mem_take hc)) (by rw [List.length_take]; omega)
        refine v_aload_n 0 dX6_meter_21 rfl rfl ?_
        refine v_iload_n 1 dX6_meter_22 rfl rfl ?_
        refine v_callV (c_X6_measure d h hw hph (by omega)) cs_X6_300 dX6_meter_23 h0 rfl rfl (Nat.le_of_ble_eq_true rfl) ?_
        refine rt_k ?_
        refine v_dstore_n dX6_meter_26 rfl (by decide) (fun x3_1 e_x3_1 => ?_)
        refine v_ls (ls' := [(3, .double x3_1), (0, .ref 0), (1, .int (nI b)), (2, .int w)]) rfl ?_
        subst e_x3_1
        refine v_iload_n 3 dX6_meter_27 rfl rfl ?_
        refine v_if_ne (tgt := 40) dX6_meter_28 (by decide) (fun hc28 => ?_) (fun hc28 => ?_)
        ·
          refine v_dload_n 0 dX6_meter_40 rfl rfl ?_
          refine v_callS (c_X6_doubleBits (d + 5) (mea_b hB9) (by decide)) cs_X6_308 dX6_meter_41 rfl rfl (Nat.le_of_ble_eq_true rfl) ?_
          refine rt_k ?_
          refine v_lret dX6_meter_44 rfl ?_
          have hE : rMeter σ (nI b) w = (meaO (behO σ b)).toInt64 := by simp only [rMeter, if_neg hc5, if_neg hw2, hcb, if_neg hc28]
          rw [hE]
          exact ⟨rfl, h.beam _, fun i hi => by repeat (first | rfl | refine up_n (by omega) ?_)⟩
        ·
          refine v_dload_n 0 dX6_meter_31 rfl rfl ?_
          refine v_d2f dX6_meter_32 (((mea_b hB9).d2f (by decide)).n) ?_
          refine v_callS (c_X6_floatBits (d + 4) ((mea_b hB9).d2f (by decide)) (by decide)) cs_X6_304 dX6_meter_33 rfl rfl (Nat.le_of_ble_eq_true rfl) ?_
          refine rt_k ?_
          refine v_i2l dX6_meter_36 ?_
          refine v_goto (tgt := 44) dX6_meter_37 (by decide) ?_
          refine v_lret dX6_meter_44 rfl ?_
          have hE : rMeter σ (nI b) w = (FP.d2f (meaO (behO σ b))).toInt32.toInt64 := by simp only [rMeter, if_neg hc5, if_neg hw2, hcb, if_pos hc28]
          rw [hE]
          exact ⟨rfl, h.beam _, fun i hi => by repeat (first | rfl | refine up_n (by omega) ?_)⟩
      ·
        refine v_ldc2 kc_X6_174 dX6_meter_17 ?_
        refine v_lret dX6_meter_20 rfl ?_
        have hE : rMeter σ k w = VD := by
          first
            | (simp only [rMeter, if_pos hc5]; done)
            | (simp only [rMeter, if_neg hc5, if_pos (in2_lo hc9)]; done)
            | (simp only [rMeter, if_neg hc5, if_pos (in2_hi hc14)]; done)
        rw [hE]
        exact ⟨rfl, h, Fo.rf μ⟩

set_option maxRecDepth 20000 in
set_option maxHeartbeats 4000000 in
theorem c_X6_expose {G : Cx} (d : Nat) {μ : Hp} {σ : ST} {c : Int32} (h : Cl σ μ) (hw : Wp (sP σ)) {K : Nat} (hK : K < 8192) (hfm : ∀ j, j < 8 → B32 K (sF σ j)) (hph : Ph 1000 0 (sM σ)) : Ct G (d + 6) 0 0 M_X6_expose [.ref 0, .int c] μ (Po ((rExpose σ c).2) (.int ((rExpose σ c).1)) μ) := by
  refine Ct.ofV (by decide +kernel) (Nat.le_of_ble_eq_true rfl) ?_
  refine v_ls (ls' := [(0, .ref 0), (1, .int c)]) rfl ?_
  obtain ⟨h0, ⟨p, h1, h2, h3, h4, h5, h6, h7, h8, h9, hpl⟩, ⟨bk, hbk, pk, k11, k12, k13, k14, k15, k16, k17, k18, k19, hpk⟩, ⟨h20, h21, h22, h23, h24⟩, ⟨tt, ops, cd, kk, pp, ff, h25, h26, h27, h28, htp, ht60⟩, ⟨h29, h30, h31⟩, ⟨⟨oc, hoc⟩, h37, h38, h39⟩, hsx, ⟨B0, B1, B2, h50, h51, h52⟩⟩ := id h
  have hl8 := hw.1
  refine v_iload_n 1 dX6_expose_0 rfl rfl ?_
  refine v_callS (c_X6_isCell (d + 5) ) cs_X6_312 dX6_expose_1 rfl rfl (Nat.le_of_ble_eq_true rfl) ?_
  refine rt_k ?_
  refine v_if_ne (tgt := 9) dX6_expose_4 (by decide) (fun hc4 => ?_) (fun hc4 => ?_)
  ·
    obtain ⟨n, hn9, rfl⟩ := in_ix (n := 8) (by decide) hc4
    have hcn : (nI n).toNatClampNeg = n := clamp (by omega)
    refine v_aload_n 0 dX6_expose_9 rfl rfl ?_
    refine v_get fl_X6_12 dX6_expose_10 h0 rfl ?_
    refine v_get fl_X6_315 dX6_expose_13 h1 rfl ?_
    refine v_iload_n 1 dX6_expose_16 rfl rfl ?_
    refine v_aload_n 0 dX6_expose_17 rfl rfl ?_
    refine v_get fl_X6_12 dX6_expose_18 h0 rfl ?_
    refine v_get fl_X6_315 dX6_expose_21 h1 rfl ?_
    refine v_iload_n 1 dX6_expose_24 rfl rfl ?_
    refine v_fald dX6_expose_25 h4 (nI_in' hn9) ?_
    refine v_aload_n 0 dX6_expose_26 rfl rfl ?_
    refine v_aload_n 0 dX6_expose_27 rfl rfl ?_
    refine v_get fl_X6_12 dX6_expose_28 h0 rfl ?_
    refine v_get fl_X6_140 dX6_expose_31 h1 rfl ?_
    refine v_callV (c_X6_measure d h hw hph (Nat.le_refl _)) cs_X6_300 dX6_expose_34 h0 rfl rfl (Nat.le_of_ble_eq_true rfl) ?_
    refine rt_k ?_
    have hB9 : Ph 1125899906842624 40 (behO σ (sP σ).length) := run8_ph hph (fun c hc => hw.2 c (List.mem_of_mem_take hc)) (by rw [List.length_take]; omega)
    refine v_d2f dX6_expose_37 (((mea_b hB9).d2f (by decide)).n) ?_
    rw [hcn]
    have hA : B32 (K + 1) (FP.fadd (sF σ n) (allM σ)) := (hfm n hn9).add ((mea_b hB9).d2f (by decide)) (by omega)
    refine v_fadd dX6_expose_38 (hA.n) ?_
    refine v_fast dX6_expose_39 (up_n (by decide) h4) (nI_in' hn9) ?_
    rw [hcn]
    refine v_aload_n 0 dX6_expose_40 rfl rfl ?_
    refine v_get fl_X6_12 dX6_expose_41 (up_n (by decide) (up_n (by decide) h0)) rfl ?_
    refine v_get fl_X6_315 dX6_expose_44 (up_n (by decide) (up_n (by decide) h1)) rfl ?_
    refine v_iload_n 1 dX6_expose_47 rfl rfl ?_
    refine v_fald dX6_expose_48 (up_s _ _ _) (nI_in' hn9) ?_
    rw [hcn, show vf_upd (sF σ) n (FP.fadd (sF σ n) (allM σ)) n = FP.fadd (sF σ n) (allM σ) from if_pos rfl]
    refine v_callS (c_X6_floatBits (d + 4) (hA) (by omega)) cs_X6_304 dX6_expose_49 rfl rfl (Nat.le_of_ble_eq_true rfl) ?_
    refine rt_k ?_
    refine v_iret dX6_expose_52 rfl (by first | rfl | decide | exact nar_b (by first | assumption | rfl)) ?_
    have hE : rExpose σ (nI n) = ((FP.fadd (sF σ n) (allM σ)).toInt32, toF σ (vf_upd (sF σ) n (FP.fadd (sF σ n) (allM σ)))) := by simp only [rExpose, if_neg hc4, fAt, hcn]
    rw [hE]
    exact ⟨rfl, (h.beam _).film _, fun i hi => by repeat (first | rfl | refine up_n (by omega) ?_)⟩
  ·
    refine v_iconst (v := -1) dX6_expose_7 (by first | rfl | decide) ?_
    refine v_iret dX6_expose_8 rfl (by first | rfl | decide | exact nar_b (by first | assumption | rfl)) ?_
    have hE : rExpose σ c = (-1, σ) := by
      first
        | (simp only [rExpose, if_pos hc4]; done)
    rw [hE]
    exact ⟨rfl, h, Fo.rf μ⟩

set_option maxRecDepth 20000 in
set_option maxHeartbeats 4000000 in
theorem c_X6_dim {G : Cx} (d : Nat) {μ : Hp} {σ : ST} {c : Int32} {x : Int32} (h : Cl σ μ) (hw : Wp (sP σ)) {K : Nat} (hK : K < 8192) (hfm : ∀ j, j < 8 → B32 K (sF σ j)) : Ct G (d + 3) 0 0 M_X6_dim [.ref 0, .int c, .int x] μ (Po ((rDim σ c x).2) (.int ((rDim σ c x).1)) μ) := by
  refine Ct.ofV (by decide +kernel) (Nat.le_of_ble_eq_true rfl) ?_
  refine v_ls (ls' := [(0, .ref 0), (1, .int c), (2, .int x)]) rfl ?_
  obtain ⟨h0, ⟨p, h1, h2, h3, h4, h5, h6, h7, h8, h9, hpl⟩, ⟨bk, hbk, pk, k11, k12, k13, k14, k15, k16, k17, k18, k19, hpk⟩, ⟨h20, h21, h22, h23, h24⟩, ⟨tt, ops, cd, kk, pp, ff, h25, h26, h27, h28, htp, ht60⟩, ⟨h29, h30, h31⟩, ⟨⟨oc, hoc⟩, h37, h38, h39⟩, hsx, ⟨B0, B1, B2, h50, h51, h52⟩⟩ := id h
  have hl8 := hw.1
  refine v_iload_n 1 dX6_dim_0 rfl rfl ?_
  refine v_callS (c_X6_isCell (d + 2) ) cs_X6_312 dX6_dim_1 rfl rfl (Nat.le_of_ble_eq_true rfl) ?_
  refine rt_k ?_
  refine v_if_ne (tgt := 9) dX6_dim_4 (by decide) (fun hc4 => ?_) (fun hc4 => ?_)
  ·
    refine v_iload_n 2 dX6_dim_9 rfl rfl ?_
    refine v_if_lt (tgt := 19) dX6_dim_10 (by decide) (fun hc10 => ?_) (fun hc10 => ?_)
    ·
      refine v_bipush (v := -2) dX6_dim_19 (by first | rfl | decide) ?_
      refine v_iret dX6_dim_21 rfl (by first | rfl | decide | exact nar_b (by first | assumption | rfl)) ?_
      have hE : rDim σ c x = (-2, σ) := by
        first
          | (simp only [rDim, if_neg hc4, if_pos (in17_lo hc10)]; done)
          | (simp only [rDim, if_neg hc4, if_pos (in17_hi hc16)]; done)
      rw [hE]
      exact ⟨rfl, h, Fo.rf μ⟩
    ·
      refine v_iload_n 2 dX6_dim_13 rfl rfl ?_
      refine v_bipush (v := 16) dX6_dim_14 (by first | rfl | decide) ?_
      refine v_icmp_le (tgt := 22) dX6_dim_16 (by decide) (fun hc16 => ?_) (fun hc16 => ?_)
      ·
        obtain ⟨n, hn9, rfl⟩ := in_ix (n := 8) (by decide) hc4
        have hcn : (nI n).toNatClampNeg = n := clamp (by omega)
        have hw17 := in17_ok hc10 hc16
        obtain ⟨b, hb9, rfl⟩ := in_ix (n := 17) (by decide) hw17
        have hA := (hfm n hn9).dim hb9 (by omega)
        refine v_aload_n 0 dX6_dim_22 rfl rfl ?_
        refine v_get fl_X6_12 dX6_dim_23 h0 rfl ?_
        refine v_get fl_X6_315 dX6_dim_26 h1 rfl ?_
        refine v_iload_n 1 dX6_dim_29 rfl rfl ?_
        refine v_fald dX6_dim_30 h4 (nI_in' hn9) ?_
        refine v_iload_n 2 dX6_dim_31 rfl rfl ?_
        refine v_i2f dX6_dim_32 ?_
        rw [hcn]
        refine v_fmul dX6_dim_33 (hA.1.n) ?_
        refine v_fstore_n dX6_dim_34 rfl (by decide) (fun x3_1 e_x3_1 => ?_)
        refine v_ls (ls' := [(3, .float x3_1), (0, .ref 0), (1, .int (nI n)), (2, .int (nI b))]) rfl ?_
        subst e_x3_1
        refine v_aload_n 1 dX6_dim_35 rfl rfl ?_
        refine v_get fl_X6_12 dX6_dim_36 h0 rfl ?_
        refine v_get fl_X6_315 dX6_dim_39 h1 rfl ?_
        refine v_iload_n 2 dX6_dim_42 rfl rfl ?_
        refine v_fload_n 0 dX6_dim_43 rfl rfl ?_
        refine v_ldcwf kc_X6_319 dX6_dim_44 ?_
        refine v_fdiv dX6_dim_47 (hA.2.n) ?_
        refine v_fast dX6_dim_48 h4 (nI_in' hn9) ?_
        rw [hcn]
        refine v_aload_n 1 dX6_dim_49 rfl rfl ?_
        refine v_get fl_X6_12 dX6_dim_50 (up_n (by decide) h0) rfl ?_
        refine v_get fl_X6_315 dX6_dim_53 (up_n (by decide) h1) rfl ?_
        refine v_iload_n 2 dX6_dim_56 rfl rfl ?_
        refine v_fald dX6_dim_57 (up_s _ _ _) (nI_in' hn9) ?_
        rw [hcn, show vf_upd (sF σ) n (FP.fdiv (FP.fmul (sF σ n) (FP.i2f (nI b))) 1098907648) n = dimO (sF σ n) (nI b) from if_pos rfl]
        refine v_callS (c_X6_floatBits (d + 1) (hA.2) (by omega)) cs_X6_304 dX6_dim_58 rfl rfl (Nat.le_of_ble_eq_true rfl) ?_
        refine rt_k ?_
        refine v_iret dX6_dim_61 rfl (by first | rfl | decide | exact nar_b (by first | assumption | rfl)) ?_
        have hE : rDim σ (nI n) (nI b) = ((dimO (sF σ n) (nI b)).toInt32, toF σ (vf_upd (sF σ) n (dimO (sF σ n) (nI b)))) := by simp only [rDim, if_neg hc4, if_neg hw17, fAt, hcn]
        rw [hE]
        exact ⟨rfl, h.film _, fun i hi => by repeat (first | rfl | refine up_n (by omega) ?_)⟩
      ·
        refine v_bipush (v := -2) dX6_dim_19 (by first | rfl | decide) ?_
        refine v_iret dX6_dim_21 rfl (by first | rfl | decide | exact nar_b (by first | assumption | rfl)) ?_
        have hE : rDim σ c x = (-2, σ) := by
          first
            | (simp only [rDim, if_neg hc4, if_pos (in17_lo hc10)]; done)
            | (simp only [rDim, if_neg hc4, if_pos (in17_hi hc16)]; done)
        rw [hE]
        exact ⟨rfl, h, Fo.rf μ⟩
  ·
    refine v_iconst (v := -1) dX6_dim_7 (by first | rfl | decide) ?_
    refine v_iret dX6_dim_8 rfl (by first | rfl | decide | exact nar_b (by first | assumption | rfl)) ?_
    have hE : rDim σ c x = (-1, σ) := by
      first
        | (simp only [rDim, if_pos hc4]; done)
    rw [hE]
    exact ⟨rfl, h, Fo.rf μ⟩

set_option maxRecDepth 20000 in
set_option maxHeartbeats 4000000 in
theorem c_X6_film {G : Cx} (d : Nat) {μ : Hp} {σ : ST} {c : Int32} {w : Int32} (h : Cl σ μ) (hw : Wp (sP σ)) {K : Nat} (hK : K < 8192) (hfm : ∀ j, j < 8 → B32 K (sF σ j)) (hph : Ph 1000 0 (sM σ)) : Ct G (d + 6) 0 0 M_X6_film [.ref 0, .int c, .int w] μ (Po (σ) (.int (rFilm σ c w)) μ) := by
  refine Ct.ofV (by decide +kernel) (Nat.le_of_ble_eq_true rfl) ?_
  refine v_ls (ls' := [(0, .ref 0), (1, .int c), (2, .int w)]) rfl ?_
  obtain ⟨h0, ⟨p, h1, h2, h3, h4, h5, h6, h7, h8, h9, hpl⟩, ⟨bk, hbk, pk, k11, k12, k13, k14, k15, k16, k17, k18, k19, hpk⟩, ⟨h20, h21, h22, h23, h24⟩, ⟨tt, ops, cd, kk, pp, ff, h25, h26, h27, h28, htp, ht60⟩, ⟨h29, h30, h31⟩, ⟨⟨oc, hoc⟩, h37, h38, h39⟩, hsx, ⟨B0, B1, B2, h50, h51, h52⟩⟩ := id h
  have hl8 := hw.1
  refine v_iload_n 1 dX6_film_0 rfl rfl ?_
  refine v_callS (c_X6_isCell (d + 5) ) cs_X6_312 dX6_film_1 rfl rfl (Nat.le_of_ble_eq_true rfl) ?_
  refine rt_k ?_
  refine v_if_ne (tgt := 9) dX6_film_4 (by decide) (fun hc4 => ?_) (fun hc4 => ?_)
  ·
    obtain ⟨n, hn9, rfl⟩ := in_ix (n := 8) (by decide) hc4
    have hcn : (nI n).toNatClampNeg = n := clamp (by omega)
    refine v_iload_n 2 dX6_film_9 rfl rfl ?_
    by_cases cl10 : (w).toInt < 0
    · refine v_tableOut (tgt := 95) dX6_film_10 (Or.inl cl10) (by decide) ?_
      have cs10_0 : ¬ w = 0 := sw_lo cl10 (by decide)
      have cs10_1 : ¬ w = 1 := sw_lo cl10 (by decide)
      have cs10_2 : ¬ w = 2 := sw_lo cl10 (by decide)
      refine v_iconst (v := -1) dX6_film_95 (by first | rfl | decide) ?_
      refine v_iret dX6_film_96 rfl (by first | rfl | decide | exact nar_b (by first | assumption | rfl)) ?_
      have hE : rFilm σ (nI n) w = -1 := by simp only [rFilm, if_neg hc4, if_neg cs10_0, if_neg cs10_1, if_neg cs10_2, fAt, hcn]
      rw [hE]
      exact ⟨rfl, h, Fo.rf μ⟩
    by_cases ch10 : 2 < (w).toInt
    · refine v_tableOut (tgt := 95) dX6_film_10 (Or.inr ch10) (by decide) ?_
      have cs10_0 : ¬ w = 0 := sw_hi ch10 (by decide)
      have cs10_1 : ¬ w = 1 := sw_hi ch10 (by decide)
      have cs10_2 : ¬ w = 2 := sw_hi ch10 (by decide)
      refine v_iconst (v := -1) dX6_film_95 (by first | rfl | decide) ?_
      refine v_iret dX6_film_96 rfl (by first | rfl | decide | exact nar_b (by first | assumption | rfl)) ?_
      have hE : rFilm σ (nI n) w = -1 := by simp only [rFilm, if_neg hc4, if_neg cs10_0, if_neg cs10_1, if_neg cs10_2, fAt, hcn]
      rw [hE]
      exact ⟨rfl, h, Fo.rf μ⟩
    by_cases cs10_0 : w = 0
    · refine v_tableIn (off := 26) (tgt := 36) dX6_film_10 cl10 ch10 (by rw [cs10_0]; rfl) (by decide) ?_
      refine v_aload_n 0 dX6_film_36 rfl rfl ?_
      refine v_get fl_X6_12 dX6_film_37 h0 rfl ?_
      refine v_get fl_X6_315 dX6_film_40 h1 rfl ?_
      refine v_iload_n 1 dX6_film_43 rfl rfl ?_
      refine v_fald dX6_film_44 h4 (nI_in' hn9) ?_
      rw [hcn]
      refine v_callS (c_X6_floatBits (d + 4) (hfm n hn9) (by omega)) cs_X6_304 dX6_film_45 rfl rfl (Nat.le_of_ble_eq_true rfl) ?_
      refine rt_k ?_
      refine v_iret dX6_film_48 rfl (by first | rfl | decide | exact nar_b (by first | assumption | rfl)) ?_
      have hE : rFilm σ (nI n) w = (sF σ n).toInt32 := by simp only [rFilm, if_neg hc4, if_pos cs10_0, fAt, hcn]
      rw [hE]
      exact ⟨rfl, h, Fo.rf μ⟩
    by_cases cs10_1 : w = 1
    · refine v_tableIn (off := 39) (tgt := 49) dX6_film_10 cl10 ch10 (by rw [cs10_1]; rfl) (by decide) ?_
      refine v_aload_n 0 dX6_film_49 rfl rfl ?_
      refine v_get fl_X6_12 dX6_film_50 h0 rfl ?_
      refine v_get fl_X6_315 dX6_film_53 h1 rfl ?_
      refine v_iload_n 1 dX6_film_56 rfl rfl ?_
      refine v_fald dX6_film_57 h4 (nI_in' hn9) ?_
      refine v_ldcwf kc_X6_320 dX6_film_58 ?_
      rw [hcn]
      refine v_fmul dX6_film_61 (((hfm n hn9).thou (by omega)).n) ?_
      refine v_f2i dX6_film_62 ?_
      refine v_iret dX6_film_63 rfl (by first | rfl | decide | exact nar_b (by first | assumption | rfl)) ?_
      have hE : rFilm σ (nI n) w = FP.f2i (FP.fmul (sF σ n) 1148846080) := by simp only [rFilm, if_neg hc4, if_neg cs10_0, if_pos cs10_1, fAt, hcn]
      rw [hE]
      exact ⟨rfl, h, Fo.rf μ⟩
    by_cases cs10_2 : w = 2
    · refine v_tableIn (off := 54) (tgt := 64) dX6_film_10 cl10 ch10 (by rw [cs10_2]; rfl) (by decide) ?_
      refine v_aload_n 0 dX6_film_64 rfl rfl ?_
      refine v_get fl_X6_12 dX6_film_65 h0 rfl ?_
      refine v_get fl_X6_315 dX6_film_68 h1 rfl ?_
      refine v_iload_n 1 dX6_film_71 rfl rfl ?_
      refine v_fald dX6_film_72 h4 (nI_in' hn9) ?_
      refine v_aload_n 0 dX6_film_73 rfl rfl ?_
      refine v_aload_n 0 dX6_film_74 rfl rfl ?_
      refine v_get fl_X6_12 dX6_film_75 h0 rfl ?_
      refine v_get fl_X6_140 dX6_film_78 h1 rfl ?_
      refine v_callV (c_X6_measure d h hw hph (Nat.le_refl _)) cs_X6_300 dX6_film_81 h0 rfl rfl (Nat.le_of_ble_eq_true rfl) ?_
      refine rt_k ?_
      have hB9 : Ph 1125899906842624 40 (behO σ (sP σ).length) := run8_ph hph (fun c hc => hw.2 c (List.mem_of_mem_take hc)) (by rw [List.length_take]; omega)
      refine v_d2f dX6_film_84 (((mea_b hB9).d2f (by decide)).n) ?_
      rw [hcn]
      refine v_fcmp dX6_film_85 ?_
      refine v_if_le (tgt := 93) dX6_film_86 (by decide) (fun hc86 => ?_) (fun hc86 => ?_)
      ·
        refine v_iconst (v := 0) dX6_film_93 (by first | rfl | decide) ?_
        refine v_iret dX6_film_94 rfl (by first | rfl | decide | exact nar_b (by first | assumption | rfl)) ?_
        rw [cmp_gt] at hc86
        have hE : rFilm σ (nI n) w = 0 := by simp only [rFilm, if_neg hc4, if_neg cs10_0, if_neg cs10_1, if_pos cs10_2, if_neg hc86, fAt, hcn]
        rw [hE]
        exact ⟨rfl, h.beam _, fun i hi => by repeat (first | rfl | refine up_n (by omega) ?_)⟩
      ·
        refine v_iconst (v := 1) dX6_film_89 (by first | rfl | decide) ?_
        refine v_goto (tgt := 94) dX6_film_90 (by decide) ?_
        refine v_iret dX6_film_94 rfl (by first | rfl | decide | exact nar_b (by first | assumption | rfl)) ?_
        rw [cmp_gt] at hc86
        have hc86 := Classical.not_not.mp hc86
        have hE : rFilm σ (nI n) w = 1 := by simp only [rFilm, if_neg hc4, if_neg cs10_0, if_neg cs10_1, if_pos cs10_2, if_pos hc86, fAt, hcn]
        rw [hE]
        exact ⟨rfl, h.beam _, fun i hi => by repeat (first | rfl | refine up_n (by omega) ?_)⟩
    exfalso
    have q10_0 := lv_neT (a := 0) cs10_0 (by decide)
    have q10_1 := lv_neT (a := 1) cs10_1 (by decide)
    have q10_2 := lv_neT (a := 2) cs10_2 (by decide)
    omega
  ·
    refine v_iconst (v := -1) dX6_film_7 (by first | rfl | decide) ?_
    refine v_iret dX6_film_8 rfl (by first | rfl | decide | exact nar_b (by first | assumption | rfl)) ?_
    have hE : rFilm σ c w = -1 := by
      first
        | (simp only [rFilm, if_pos hc4]; done)
    rw [hE]
    exact ⟨rfl, h, Fo.rf μ⟩

set_option maxRecDepth 20000 in
set_option maxHeartbeats 4000000 in
theorem csum_loop {G : Cx} (d : Nat) {σ : ST} {w : Int32} {μ : Hp} (h : Cl σ μ) (hw : Wp (sP σ)) {K : Nat} (hK : K < 8192) (hfm : ∀ j, j < 8 → B32 K (sF σ j)) (hw2 : ¬ inO w 2 = 0) : ∀ (k9 : Nat) (j : Nat), j + k9 = 8 → V G M_X6_sumFilm (d + 2) 0 0 (Po σ (.long (rSum σ w)) μ) 20 [(5, .int (nI j)), (3, .double (sumW (sF σ) j)), (2, .float (sumN (sF σ) j)), (0, .ref 0), (1, .int w)] [] (μ) := by
  intro k9
  induction k9 with
  | zero =>
    intro j hj
    obtain ⟨h0, ⟨p, h1, h2, h3, h4, h5, h6, h7, h8, h9, hpl⟩, ⟨bk, hbk, pk, k11, k12, k13, k14, k15, k16, k17, k18, k19, hpk⟩, ⟨h20, h21, h22, h23, h24⟩, ⟨tt, ops, cd, kk, pp, ff, h25, h26, h27, h28, htp, ht60⟩, ⟨h29, h30, h31⟩, ⟨⟨oc, hoc⟩, h37, h38, h39⟩, hsx, ⟨B0, B1, B2, h50, h51, h52⟩⟩ := id h
    have hl8 := hw.1
    have hbN := fun n (hn : n ≤ 8) => sumN_b (f := sF σ) (k := K) (by omega) n hn hfm
    have hbW := fun n (hn : n ≤ 8) => sumW_b (f := sF σ) (k := K) (by omega) n hn hfm
    refine v_iload 0 dX6_sumFilm_20 rfl ?_
    refine v_bipush (v := 8) dX6_sumFilm_22 (by first | rfl | decide) ?_
    refine v_icmp_ge (tgt := 60) dX6_sumFilm_24 (by decide) (fun hc24 => ?_) (fun hc24 => ?_)
    ·
      refine v_iload_n 4 dX6_sumFilm_60 rfl rfl ?_
      refine v_if_ne (tgt := 72) dX6_sumFilm_61 (by decide) (fun hc61 => ?_) (fun hc61 => ?_)
      ·
        refine v_dload_n 1 dX6_sumFilm_72 rfl rfl ?_
        refine v_callS (c_X6_doubleBits (d + 1) (hbW j (by omega)) (by have := Nat.mul_le_mul_right K (show j ≤ 8 by omega); omega)) cs_X6_308 dX6_sumFilm_73 rfl rfl (Nat.le_of_ble_eq_true rfl) ?_
        refine rt_k ?_
        refine v_lret dX6_sumFilm_76 rfl ?_
        obtain rfl : j = 8 := by omega
        have hE : rSum σ w = (sumW (sF σ) 8).toInt64 := by simp only [rSum, if_neg hw2, if_neg hc61]
        rw [hE]
        exact ⟨rfl, h, Fo.rf μ⟩
      ·
        refine v_fload_n 2 dX6_sumFilm_64 rfl rfl ?_
        refine v_callS (c_X6_floatBits d (hbN j (by omega)) (by have := Nat.mul_le_mul_right K (show j ≤ 8 by omega); omega)) cs_X6_304 dX6_sumFilm_65 rfl rfl (Nat.le_of_ble_eq_true rfl) ?_
        refine rt_k ?_
        refine v_i2l dX6_sumFilm_68 ?_
        refine v_goto (tgt := 76) dX6_sumFilm_69 (by decide) ?_
        refine v_lret dX6_sumFilm_76 rfl ?_
        obtain rfl : j = 8 := by omega
        have hE : rSum σ w = (sumN (sF σ) 8).toInt32.toInt64 := by simp only [rSum, if_neg hw2, if_pos hc61]
        rw [hE]
        exact ⟨rfl, h, Fo.rf μ⟩
    · exact absurd ((nI_leI (a := 8) (by decide) (by omega)).mpr (by omega)) hc24
  | succ k9 ih =>
    intro j hj
    obtain ⟨h0, ⟨p, h1, h2, h3, h4, h5, h6, h7, h8, h9, hpl⟩, ⟨bk, hbk, pk, k11, k12, k13, k14, k15, k16, k17, k18, k19, hpk⟩, ⟨h20, h21, h22, h23, h24⟩, ⟨tt, ops, cd, kk, pp, ff, h25, h26, h27, h28, htp, ht60⟩, ⟨h29, h30, h31⟩, ⟨⟨oc, hoc⟩, h37, h38, h39⟩, hsx, ⟨B0, B1, B2, h50, h51, h52⟩⟩ := id h
    have hl8 := hw.1
    have hbN := fun n (hn : n ≤ 8) => sumN_b (f := sF σ) (k := K) (by omega) n hn hfm
    have hbW := fun n (hn : n ≤ 8) => sumW_b (f := sF σ) (k := K) (by omega) n hn hfm
    refine v_iload 0 dX6_sumFilm_20 rfl ?_
    refine v_bipush (v := 8) dX6_sumFilm_22 (by first | rfl | decide) ?_
    refine v_icmp_ge (tgt := 60) dX6_sumFilm_24 (by decide) (fun hc24 => ?_) (fun hc24 => ?_)
    · have := (nI_leI (a := 8) (by decide) (by omega)).mp hc24
      omega
    ·
      refine v_fload_n 2 dX6_sumFilm_27 rfl rfl ?_
      refine v_aload_n 3 dX6_sumFilm_28 rfl rfl ?_
      refine v_get fl_X6_12 dX6_sumFilm_29 h0 rfl ?_
      refine v_get fl_X6_315 dX6_sumFilm_32 h1 rfl ?_
      refine v_iload 0 dX6_sumFilm_35 rfl ?_
      refine v_fald dX6_sumFilm_37 h4 (nI_in' (by omega)) ?_
      rw [clamp (show j < 2 ^ 31 by omega)]
      refine v_fadd dX6_sumFilm_38 ((hbN (j + 1) (by omega)).n) ?_
      refine v_fstore_n dX6_sumFilm_39 rfl (by decide) (fun y2 e_y2 => ?_)
      refine v_ls (ls' := [(2, .float y2), (5, .int (nI j)), (3, .double (sumW (sF σ) j)), (0, .ref 0), (1, .int w)]) rfl ?_
      subst e_y2
      refine v_dload_n 2 dX6_sumFilm_40 rfl rfl ?_
      refine v_aload_n 3 dX6_sumFilm_41 rfl rfl ?_
      refine v_get fl_X6_12 dX6_sumFilm_42 h0 rfl ?_
      refine v_get fl_X6_315 dX6_sumFilm_45 h1 rfl ?_
      refine v_iload 1 dX6_sumFilm_48 rfl ?_
      refine v_fald dX6_sumFilm_50 h4 (nI_in' (by omega)) ?_
      rw [clamp (show j < 2 ^ 31 by omega)]
      refine v_f2d dX6_sumFilm_51 ((B32.f2d (hfm j (by omega))).n) ?_
      refine v_dadd dX6_sumFilm_52 ((hbW (j + 1) (by omega)).n) ?_
      refine v_dstore_n dX6_sumFilm_53 rfl (by decide) (fun y3 e_y3 => ?_)
      refine v_ls (ls' := [(3, .double y3), (2, .float (FP.fadd (sumN (sF σ) j) (sF σ j))), (5, .int (nI j)), (0, .ref 0), (1, .int w)]) rfl ?_
      subst e_y3
      refine v_iinc (v := 1) 2 dX6_sumFilm_54 rfl rfl (by decide) (fun z e_z => ?_)
      refine v_ls (ls' := [(5, .int z), (3, .double (FP.dadd (sumW (sF σ) j) (FP.f2d (sF σ j)))), (2, .float (FP.fadd (sumN (sF σ) j) (sF σ j))), (0, .ref 0), (1, .int w)]) rfl ?_
      rw [nI_1] at e_z
      subst e_z
      refine v_goto (tgt := 20) dX6_sumFilm_57 (by decide) ?_
      refine v_pick [0, 1, 2, 3, 4] rfl ?_
      exact ih (j + 1) (by omega)
      

set_option maxRecDepth 20000 in
set_option maxHeartbeats 4000000 in
theorem c_X6_sumFilm {G : Cx} (d : Nat) {μ : Hp} {σ : ST} {w : Int32} (h : Cl σ μ) (hw : Wp (sP σ)) {K : Nat} (hK : K < 8192) (hfm : ∀ j, j < 8 → B32 K (sF σ j)) : Ct G (d + 2) 0 0 M_X6_sumFilm [.ref 0, .int w] μ (Po (σ) (.long (rSum σ w)) μ) := by
  refine Ct.ofV (by decide +kernel) (Nat.le_of_ble_eq_true rfl) ?_
  refine v_ls (ls' := [(0, .ref 0), (1, .int w)]) rfl ?_
  obtain ⟨h0, ⟨p, h1, h2, h3, h4, h5, h6, h7, h8, h9, hpl⟩, ⟨bk, hbk, pk, k11, k12, k13, k14, k15, k16, k17, k18, k19, hpk⟩, ⟨h20, h21, h22, h23, h24⟩, ⟨tt, ops, cd, kk, pp, ff, h25, h26, h27, h28, htp, ht60⟩, ⟨h29, h30, h31⟩, ⟨⟨oc, hoc⟩, h37, h38, h39⟩, hsx, ⟨B0, B1, B2, h50, h51, h52⟩⟩ := id h
  have hl8 := hw.1
  refine v_iload_n 1 dX6_sumFilm_0 rfl rfl ?_
  refine v_if_lt (tgt := 9) dX6_sumFilm_1 (by decide) (fun hc1 => ?_) (fun hc1 => ?_)
  ·
    refine v_ldc2 kc_X6_174 dX6_sumFilm_9 ?_
    refine v_lret dX6_sumFilm_12 rfl ?_
    have hE : rSum σ w = VD := by
      first
        | (simp only [rSum, if_pos (in2_lo hc1)]; done)
        | (simp only [rSum, if_pos (in2_hi hc6)]; done)
    rw [hE]
    exact ⟨rfl, h, Fo.rf μ⟩
  ·
    refine v_iload_n 1 dX6_sumFilm_4 rfl rfl ?_
    refine v_iconst (v := 1) dX6_sumFilm_5 (by first | rfl | decide) ?_
    refine v_icmp_le (tgt := 13) dX6_sumFilm_6 (by decide) (fun hc6 => ?_) (fun hc6 => ?_)
    ·
      refine v_fconst0 dX6_sumFilm_13 ?_
      refine v_fstore_n dX6_sumFilm_14 rfl (by decide) (fun y2 e_y2 => ?_)
      refine v_ls (ls' := [(2, .float y2), (0, .ref 0), (1, .int w)]) rfl ?_
      subst e_y2
      refine v_dconst0 dX6_sumFilm_15 ?_
      refine v_dstore_n dX6_sumFilm_16 rfl (by decide) (fun y3 e_y3 => ?_)
      refine v_ls (ls' := [(3, .double y3), (2, .float FP.fconst0), (0, .ref 0), (1, .int w)]) rfl ?_
      subst e_y3
      refine v_iconst (v := 0) dX6_sumFilm_17 (by first | rfl | decide) ?_
      refine v_istore dX6_sumFilm_18 (by decide) (fun y5 e_y5 => ?_)
      refine v_ls (ls' := [(5, .int y5), (3, .double FP.dconst0), (2, .float FP.fconst0), (0, .ref 0), (1, .int w)]) rfl ?_
      subst e_y5
      exact csum_loop d h hw hK hfm (in2_ok hc1 hc6) 8 0 (by omega)
      
    ·
      refine v_ldc2 kc_X6_174 dX6_sumFilm_9 ?_
      refine v_lret dX6_sumFilm_12 rfl ?_
      have hE : rSum σ w = VD := by
        first
          | (simp only [rSum, if_pos (in2_lo hc1)]; done)
          | (simp only [rSum, if_pos (in2_hi hc6)]; done)
      rw [hE]
      exact ⟨rfl, h, Fo.rf μ⟩

