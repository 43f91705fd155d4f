theorem lv_part (L : LT) {w : Int32} (h : ¬ inO w 5 = 0) : lvO L w.toNatClampNeg = partO L w := by
  obtain ⟨k, hk, rfl⟩ := in_ix (n := 5) (by decide) h
  match k, hk with
  | 0, _ => rfl
  | 1, _ => rfl
  | 2, _ => rfl
  | 3, _ => rfl
  | 4, _ => rfl
theorem in5 {w : Int32} (h : ¬ inO w 5 = 0) : vp_in w 5 := by
  obtain ⟨k, hk, rfl⟩ := in_ix (n := 5) (by decide) h
  exact nI_in' hk
set_option maxRecDepth 20000 in
set_option maxHeartbeats 4000000 in
theorem c_X7_light {G : Cx} (d : Nat) {μ : Hp} {σ : ST} {k : Int32} {w : Int32} (h : Mo σ μ) (hw : Wp (sP σ)) (heb : Eb 100 (sM σ)) : Ct G (d + 5) 0 0 M_X7_light [.ref 60, .int k, .int w] μ (Pm (σ) (.long (rLight σ k w)) μ) := by
  refine Ct.ofV (by decide +kernel) (Nat.le_of_ble_eq_true rfl) ?_
  refine v_ls (ls' := [(0, .ref 60), (1, .int k), (2, .int w)]) rfl ?_
  obtain ⟨co, wh, un, lr, mr, hr, at9, fa, op, sg, hm, p, tt, ro, og, tc, op9, sp, nw, se, le, mo, ot, h60, h61, h62, h63, h64, h65, h66, h67, h68, h69, h70, h71, h72, h73, h74, h75, h76, h77, h78, h79, h80, hmk, hpl, htp, ht60⟩ := id h
  have hl8 := hw.1
  refine v_aload_n 0 dX7_light_0 rfl rfl ?_
  refine v_iload_n 1 dX7_light_1 rfl rfl ?_
  refine v_callV (c_X7_isBeh (d + 3) h60 (by omega)) cs_X7_188 dX7_light_2 h60 rfl rfl (Nat.le_of_ble_eq_true rfl) ?_
  refine rt_k ?_
  refine v_if_eq (tgt := 20) dX7_light_5 (by decide) (fun hc5 => ?_) (fun hc5 => ?_)
  ·
    refine v_ldc2 kc_X7_193 dX7_light_20 ?_
    refine v_lret dX7_light_23 rfl ?_
    have hE : rLight σ k w = VD := by
      first
        | (simp only [rLight, if_pos hc5]; done)
        | (grind [rLight]; done)
    rw [hE]
    exact ⟨rfl, h, Fp.rf μ⟩
  ·
    refine v_iload_n 2 dX7_light_8 rfl rfl ?_
    refine v_i2l dX7_light_9 ?_
    refine v_lconst (v := 0) dX7_light_10 (by first | rfl | decide) ?_
    refine v_ldc2 kc_X7_191 dX7_light_11 ?_
    refine v_callS (c_X7_inL (d + 4) 4 5 4 (by decide) rfl rfl) cs_X7_95 dX7_light_14 rfl rfl (Nat.le_of_ble_eq_true rfl) ?_
    refine rt_k ?_
    refine v_if_ne (tgt := 24) dX7_light_17 (by decide) (fun hc17 => ?_) (fun hc17 => ?_)
    ·
      obtain ⟨b, hb9, rfl⟩ := be_ix (by omega) hc5
      have hcb : (nI b).toNatClampNeg = b := clamp (by omega)
      refine v_aload_n 0 dX7_light_24 rfl rfl ?_
      refine v_iload_n 1 dX7_light_25 rfl rfl ?_
      refine v_callV (c_X7_behind d h60 h62 hpl hl8 hw.2 (by omega) h61 h63 heb) cs_X7_195 dX7_light_26 h60 rfl rfl (Nat.le_of_ble_eq_true rfl) ?_
      refine rt_k ?_
      refine v_aload_n 0 dX7_light_29 rfl rfl ?_
      refine v_get fl_X7_21 dX7_light_30 (up_n (by decide) h60) rfl ?_
      refine v_iload_n 2 dX7_light_33 rfl rfl ?_
      refine v_lald dX7_light_34 (up_s _ _ _) (in5 hc17) ?_
      refine v_lret dX7_light_35 rfl ?_
      have hE : rLight σ (nI b) w = partO (behO σ b) w := by simp only [rLight, if_neg hc5, if_neg hc17, hcb]
      rw [hE, lv_part _ hc17]
      exact ⟨rfl, h.now _, fun i hi => by repeat (first | rfl | refine up_n (by omega) ?_)⟩
    ·
      refine v_ldc2 kc_X7_193 dX7_light_20 ?_
      refine v_lret dX7_light_23 rfl ?_
      have hE : rLight σ k w = VD := by
        first
          | (simp only [rLight, if_neg hc5, if_pos hc17]; done)
          | (grind [rLight]; done)
      rw [hE]
      exact ⟨rfl, h, Fp.rf μ⟩

set_option maxRecDepth 20000 in
set_option maxHeartbeats 4000000 in
theorem c_X7_lay {G : Cx} (d : Nat) {μ : Hp} {σ : ST} {t : Int32} {k : Int32} (h : Mo σ μ) (hw : Wp (sP σ)) (heb : Eb 100 (sM σ)) : Ct G (d + 5) 0 0 M_X7_lay [.ref 60, .int t, .int k] μ (Pm ((rLay σ t k).2) (.int ((rLay σ t k).1)) μ) := by
  refine Ct.ofV (by decide +kernel) (Nat.le_of_ble_eq_true rfl) ?_
  refine v_ls (ls' := [(0, .ref 60), (1, .int t), (2, .int k)]) rfl ?_
  obtain ⟨co, wh, un, lr, mr, hr, at9, fa, op, sg, hm, p, tt, ro, og, tc, op9, sp, nw, se, le, mo, ot, h60, h61, h62, h63, h64, h65, h66, h67, h68, h69, h70, h71, h72, h73, h74, h75, h76, h77, h78, h79, h80, hmk, hpl, htp, ht60⟩ := id h
  have hl8 := hw.1
  refine v_iload_n 1 dX7_lay_0 rfl rfl ?_
  refine v_callS (c_X7_isList (d + 3) ) cs_X7_268 dX7_lay_1 rfl rfl (Nat.le_of_ble_eq_true rfl) ?_
  refine rt_k ?_
  refine v_if_eq (tgt := 15) dX7_lay_4 (by decide) (fun hc4 => ?_) (fun hc4 => ?_)
  ·
    refine v_iconst (v := -1) dX7_lay_15 (by first | rfl | decide) ?_
    refine v_iret dX7_lay_16 rfl (by first | rfl | decide | exact nar_b (by first | assumption | rfl)) ?_
    have hE : rLay σ t k = (-1, σ) := by
      first
        | (simp only [rLay, if_pos hc4]; done)
        | (grind [rLay]; done)
    rw [hE]
    exact ⟨rfl, h, Fp.rf μ⟩
  ·
    refine v_aload_n 0 dX7_lay_7 rfl rfl ?_
    refine v_iload_n 2 dX7_lay_8 rfl rfl ?_
    refine v_callV (c_X7_isBeh (d + 3) h60 (by omega)) cs_X7_188 dX7_lay_9 h60 rfl rfl (Nat.le_of_ble_eq_true rfl) ?_
    refine rt_k ?_
    refine v_if_ne (tgt := 17) dX7_lay_12 (by decide) (fun hc12 => ?_) (fun hc12 => ?_)
    ·
      obtain ⟨b, hb9, rfl⟩ := be_ix (by omega) hc12
      have hcb : (nI b).toNatClampNeg = b := clamp (by omega)
      obtain ⟨n, hn9, rfl⟩ := in_ix (n := 3) (by decide) hc4
      have hcn : (nI n).toNatClampNeg = n := clamp (by omega)
      refine v_aload_n 0 dX7_lay_17 rfl rfl ?_
      refine v_iload_n 2 dX7_lay_18 rfl rfl ?_
      refine v_callV (c_X7_behind d h60 h62 hpl hl8 hw.2 (by omega) h61 h63 heb) cs_X7_195 dX7_lay_19 h60 rfl rfl (Nat.le_of_ble_eq_true rfl) ?_
      refine rt_k ?_
      refine v_aload_n 0 dX7_lay_22 rfl rfl ?_
      refine v_iload_n 1 dX7_lay_23 rfl rfl ?_
      refine v_callV (c_X7_lays (d + 3) hn9 (up_n (by decide) h60) (up_n (by decide) h70) (up_n (by decide) h71) (up_s _ _ _)) cs_X7_274 dX7_lay_24 (up_n (by decide) h60) rfl rfl (Nat.le_of_ble_eq_true rfl) ?_
      refine rt_k ?_
      refine v_iret dX7_lay_27 rfl (by first | rfl | decide | exact nar_b (by first | assumption | rfl)) ?_
      have hE : rLay σ (nI n) (nI b) = (1, mkL σ n 5 (l5F (behO σ b))) := by simp only [rLay, if_neg hc4, if_neg hc12, hcn, hcb]
      rw [hE]
      exact ⟨rfl, ⟨co, wh, un, lr, mr, hr, at9, fa, op, sg, hm, p, tt, ro, og, tc, op9, sp, (lvO (behO σ b)), se, le, mo, ot, (by repeat (first | assumption | exact up_s _ _ _ | refine up_n (by omega) ?_)), (by repeat (first | assumption | exact up_s _ _ _ | refine up_n (by omega) ?_)), (by repeat (first | assumption | exact up_s _ _ _ | refine up_n (by omega) ?_)), (by repeat (first | assumption | exact up_s _ _ _ | refine up_n (by omega) ?_)), (by repeat (first | assumption | exact up_s _ _ _ | refine up_n (by omega) ?_)), (by repeat (first | assumption | exact up_s _ _ _ | refine up_n (by omega) ?_)), (by repeat (first | assumption | exact up_s _ _ _ | refine up_n (by omega) ?_)), (by repeat (first | assumption | exact up_s _ _ _ | refine up_n (by omega) ?_)), (by repeat (first | assumption | exact up_s _ _ _ | refine up_n (by omega) ?_)), (by repeat (first | assumption | exact up_s _ _ _ | refine up_n (by omega) ?_)), (by repeat (first | assumption | exact up_s _ _ _ | refine up_n (by omega) ?_)), (by repeat (first | assumption | exact up_s _ _ _ | refine up_n (by omega) ?_)), (by repeat (first | assumption | exact up_s _ _ _ | refine up_n (by omega) ?_)), (by repeat (first | assumption | exact up_s _ _ _ | refine up_n (by omega) ?_)), (by repeat (first | assumption | exact up_s _ _ _ | refine up_n (by omega) ?_)), (by repeat (first | assumption | exact up_s _ _ _ | refine up_n (by omega) ?_)), (by repeat (first | assumption | exact up_s _ _ _ | refine up_n (by omega) ?_)), (by repeat (first | assumption | exact up_s _ _ _ | refine up_n (by omega) ?_)), (by repeat (first | assumption | exact up_s _ _ _ | refine up_n (by omega) ?_)), (by repeat (first | assumption | exact up_s _ _ _ | refine up_n (by omega) ?_)), (by repeat (first | assumption | exact up_s _ _ _ | refine up_n (by omega) ?_)), (hmk.kept (fun i a b => by repeat (first | rfl | refine up_n (by omega) ?_))), hpl, htp, ht60⟩, fun i hi => by repeat (first | rfl | refine up_n (by omega) ?_)⟩
    ·
      refine v_iconst (v := -1) dX7_lay_15 (by first | rfl | decide) ?_
      refine v_iret dX7_lay_16 rfl (by first | rfl | decide | exact nar_b (by first | assumption | rfl)) ?_
      have hE : rLay σ t k = (-1, σ) := by
        first
          | (simp only [rLay, if_neg hc4, if_pos hc12]; done)
          | (grind [rLay]; done)
      rw [hE]
      exact ⟨rfl, h, Fp.rf μ⟩

theorem rdg5 (B : LT) : (fun j => if j < 5 then rdgF B j else 0) = rdgF B := by
  funext j
  by_cases e : j < 5
  · rw [if_pos e]
  · rw [if_neg e]
    match j, e with
    | k + 5, _ => rfl
    | 0, e => exact absurd (by decide) e
    | 1, e => exact absurd (by decide) e
    | 2, e => exact absurd (by decide) e
    | 3, e => exact absurd (by decide) e
    | 4, e => exact absurd (by decide) e
set_option maxRecDepth 20000 in
set_option maxHeartbeats 4000000 in
theorem c_X7_readings {G : Cx} (d : Nat) {μ : Hp} {σ : ST} {t : Int32} (h : Mo σ μ) (hw : Wp (sP σ)) (heb : Eb 100 (sM σ)) : Ct G (d + 5) 0 0 M_X7_readings [.ref 60, .int t] μ (Pm ((rReadings σ t).2) (.int ((rReadings σ t).1)) μ) := by
  refine Ct.ofV (by decide +kernel) (Nat.le_of_ble_eq_true rfl) ?_
  refine v_ls (ls' := [(0, .ref 60), (1, .int t)]) rfl ?_
  obtain ⟨co, wh, un, lr, mr, hr, at9, fa, op, sg, hm, p, tt, ro, og, tc, op9, sp, nw, se, le, mo, ot, h60, h61, h62, h63, h64, h65, h66, h67, h68, h69, h70, h71, h72, h73, h74, h75, h76, h77, h78, h79, h80, hmk, hpl, htp, ht60⟩ := id h
  have hl8 := hw.1
  have hbe : Eb 300 (behO σ (sP σ).length) := by
    have := runO_e ((sP σ).take (sP σ).length) heb (by rw [List.length_take]; omega)
    exact ⟨this.1, by have q := this.2; rw [List.length_take] at q; show (runO (List.take (sP σ).length (sP σ)) (sM σ)).2.2.2.2.toInt ≤ _; omega⟩
  refine v_iload_n 1 dX7_readings_0 rfl rfl ?_
  refine v_callS (c_X7_isList (d + 3) ) cs_X7_268 dX7_readings_1 rfl rfl (Nat.le_of_ble_eq_true rfl) ?_
  refine rt_k ?_
  refine v_if_ne (tgt := 9) dX7_readings_4 (by decide) (fun hc4 => ?_) (fun hc4 => ?_)
  ·
    obtain ⟨n, hn9, rfl⟩ := in_ix (n := 3) (by decide) hc4
    have hcn : (nI n).toNatClampNeg = n := clamp (by omega)
    refine v_aload_n 0 dX7_readings_9 rfl rfl ?_
    refine v_aload_n 0 dX7_readings_10 rfl rfl ?_
    refine v_get fl_X7_91 dX7_readings_11 h60 rfl ?_
    refine v_callV (c_X7_behind d h60 h62 hpl hl8 hw.2 (by omega) h61 h63 heb) cs_X7_195 dX7_readings_14 h60 rfl rfl (Nat.le_of_ble_eq_true rfl) ?_
    refine rt_k ?_
    refine v_aload_n 0 dX7_readings_17 rfl rfl ?_
    refine v_get fl_X7_21 dX7_readings_18 (up_n (by decide) h60) rfl ?_
    refine v_iconst (v := 0) dX7_readings_21 (by first | rfl | decide) ?_
    refine v_lald dX7_readings_22 (up_s _ _ _) (nI_in' (k := 0) (by decide)) ?_
    refine v_lstore_n dX7_readings_23 rfl (by decide) (fun x2_1 e_x2_1 => ?_)
    refine v_ls (ls' := [(2, .long x2_1), (0, .ref 60), (1, .int (nI n))]) rfl ?_
    subst e_x2_1
    refine v_aload_n 1 dX7_readings_24 rfl rfl ?_
    refine v_get fl_X7_21 dX7_readings_25 (up_n (by decide) h60) rfl ?_
    refine v_iconst (v := 1) dX7_readings_28 (by first | rfl | decide) ?_
    refine v_lald dX7_readings_29 (up_s _ _ _) (nI_in' (k := 1) (by decide)) ?_
    refine v_lstore dX7_readings_30 (by decide) (fun x4_1 e_x4_1 => ?_)
    refine v_ls (ls' := [(4, .long x4_1), (2, _), (0, .ref 60), (1, .int (nI n))]) rfl ?_
    subst e_x4_1
    refine v_aload_n 2 dX7_readings_32 rfl rfl ?_
    refine v_get fl_X7_21 dX7_readings_33 (up_n (by decide) h60) rfl ?_
    refine v_iconst (v := 0) dX7_readings_36 (by first | rfl | decide) ?_
    refine v_lload_n 1 dX7_readings_37 rfl rfl ?_
    refine v_lload 0 dX7_readings_38 rfl ?_
    refine v_ladd dX7_readings_40 ?_
    refine v_last dX7_readings_41 (up_s _ _ _) (nI_in' (k := 0) (by decide)) ?_
    refine v_hp (up_up _ _ _ _) ?_
    refine v_aload_n 2 dX7_readings_42 rfl rfl ?_
    refine v_get fl_X7_21 dX7_readings_43 (up_n (by decide) h60) rfl ?_
    refine v_iconst (v := 1) dX7_readings_46 (by first | rfl | decide) ?_
    refine v_lload_n 1 dX7_readings_47 rfl rfl ?_
    refine v_aload_n 2 dX7_readings_48 rfl rfl ?_
    refine v_get fl_X7_21 dX7_readings_49 (up_n (by decide) h60) rfl ?_
    refine v_iconst (v := 2) dX7_readings_52 (by first | rfl | decide) ?_
    refine v_lald dX7_readings_53 (up_s _ _ _) (nI_in' (k := 2) (by decide)) ?_
    refine v_ladd dX7_readings_54 ?_
    refine v_last dX7_readings_55 (up_s _ _ _) (nI_in' (k := 1) (by decide)) ?_
    refine v_hp (up_up _ _ _ _) ?_
    refine v_aload_n 2 dX7_readings_56 rfl rfl ?_
    refine v_get fl_X7_21 dX7_readings_57 (up_n (by decide) h60) rfl ?_
    refine v_iconst (v := 2) dX7_readings_60 (by first | rfl | decide) ?_
    refine v_lload_n 1 dX7_readings_61 rfl rfl ?_
    refine v_lload 0 dX7_readings_62 rfl ?_
    refine v_lsub dX7_readings_64 ?_
    refine v_last dX7_readings_65 (up_s _ _ _) (nI_in' (k := 2) (by decide)) ?_
    refine v_hp (up_up _ _ _ _) ?_
    refine v_aload_n 2 dX7_readings_66 rfl rfl ?_
    refine v_get fl_X7_21 dX7_readings_67 (up_n (by decide) h60) rfl ?_
    refine v_iconst (v := 3) dX7_readings_70 (by first | rfl | decide) ?_
    refine v_dup2_11 dX7_readings_71 rfl rfl ?_
    refine v_lald dX7_readings_72 (up_s _ _ _) (nI_in' (k := 3) (by decide)) ?_
    refine v_lload_n 1 dX7_readings_73 rfl rfl ?_
    refine v_ladd dX7_readings_74 ?_
    refine v_last dX7_readings_75 (up_s _ _ _) (nI_in' (k := 3) (by decide)) ?_
    refine v_hp (up_up _ _ _ _) ?_
    refine v_aload_n 2 dX7_readings_76 rfl rfl ?_
    refine v_get fl_X7_21 dX7_readings_77 (up_n (by decide) h60) rfl ?_
    refine v_iconst (v := 4) dX7_readings_80 (by first | rfl | decide) ?_
    refine v_dup2_11 dX7_readings_81 rfl rfl ?_
    refine v_lald dX7_readings_82 (up_s _ _ _) (nI_in' (k := 4) (by decide)) ?_
    refine v_lconst (v := 1) dX7_readings_83 (by first | rfl | decide) ?_
    refine v_ladd dX7_readings_84 ?_
    refine v_last dX7_readings_85 (up_s _ _ _) (nI_in' (k := 4) (by decide)) ?_
    refine v_hp (up_up _ _ _ _) ?_
    refine v_njJ (g := rdgF (behO σ (sP σ).length)) (all5 rfl rfl rfl (Int64.add_comm _ _) (w_add (a := (behO σ (sP σ).length).2.2.2.2) (b := 1) (by have := hbe.1; rw [show (1 : Int32).toInt = 1 from rfl]; omega) (by have := hbe.2; rw [show (1 : Int32).toInt = 1 from rfl]; omega)).symm) ?_
    refine v_aload_n 2 dX7_readings_86 rfl rfl ?_
    refine v_iload_n 3 dX7_readings_87 rfl rfl ?_
    refine v_callV (c_X7_lays (d + 3) hn9 (up_n (by decide) h60) (up_n (by decide) h70) (up_n (by decide) h71) (up_s _ _ _)) cs_X7_274 dX7_readings_88 (up_n (by decide) h60) rfl rfl (Nat.le_of_ble_eq_true rfl) ?_
    refine rt_k ?_
    refine v_iret dX7_readings_91 rfl (by first | rfl | decide | exact nar_b (by first | assumption | rfl)) ?_
    have hE : rReadings σ (nI n) = (1, mkL σ n 5 (rdgF (behO σ (sP σ).length))) := by simp only [rReadings, if_neg hc4, hcn]
    rw [hE, rdg5]
    exact ⟨rfl, ⟨co, wh, un, lr, mr, hr, at9, fa, op, sg, hm, p, tt, ro, og, tc, op9, sp, (rdgF (behO σ (sP σ).length)), se, le, mo, ot, (by repeat (first | assumption | exact up_s _ _ _ | refine up_n (by omega) ?_)), (by repeat (first | assumption | exact up_s _ _ _ | refine up_n (by omega) ?_)), (by repeat (first | assumption | exact up_s _ _ _ | refine up_n (by omega) ?_)), (by repeat (first | assumption | exact up_s _ _ _ | refine up_n (by omega) ?_)), (by repeat (first | assumption | exact up_s _ _ _ | refine up_n (by omega) ?_)), (by repeat (first | assumption | exact up_s _ _ _ | refine up_n (by omega) ?_)), (by repeat (first | assumption | exact up_s _ _ _ | refine up_n (by omega) ?_)), (by repeat (first | assumption | exact up_s _ _ _ | refine up_n (by omega) ?_)), (by repeat (first | assumption | exact up_s _ _ _ | refine up_n (by omega) ?_)), (by repeat (first | assumption | exact up_s _ _ _ | refine up_n (by omega) ?_)), (by repeat (first | assumption | exact up_s _ _ _ | refine up_n (by omega) ?_)), (by repeat (first | assumption | exact up_s _ _ _ | refine up_n (by omega) ?_)), (by repeat (first | assumption | exact up_s _ _ _ | refine up_n (by omega) ?_)), (by repeat (first | assumption | exact up_s _ _ _ | refine up_n (by omega) ?_)), (by repeat (first | assumption | exact up_s _ _ _ | refine up_n (by omega) ?_)), (by repeat (first | assumption | exact up_s _ _ _ | refine up_n (by omega) ?_)), (by repeat (first | assumption | exact up_s _ _ _ | refine up_n (by omega) ?_)), (by repeat (first | assumption | exact up_s _ _ _ | refine up_n (by omega) ?_)), (by repeat (first | assumption | exact up_s _ _ _ | refine up_n (by omega) ?_)), (by repeat (first | assumption | exact up_s _ _ _ | refine up_n (by omega) ?_)), (by repeat (first | assumption | exact up_s _ _ _ | refine up_n (by omega) ?_)), (hmk.kept (fun i a b => by repeat (first | rfl | refine up_n (by omega) ?_))), hpl, htp, ht60⟩, fun i hi => by repeat (first | rfl | refine up_n (by omega) ?_)⟩
  ·
    refine v_iconst (v := -1) dX7_readings_7 (by first | rfl | decide) ?_
    refine v_iret dX7_readings_8 rfl (by first | rfl | decide | exact nar_b (by first | assumption | rfl)) ?_
    have hE : rReadings σ t = (-1, σ) := by
      first
        | (simp only [rReadings, if_pos hc4]; done)
        | (grind [rReadings]; done)
    rw [hE]
    exact ⟨rfl, h, Fp.rf μ⟩

def Wk (k : Nat → Int32) : Prop := ∀ r, r < 3 → k r = 0 ∨ k r = 1 ∨ k r = 2
def Wr (f : Nat → Nat → Int32) : Prop := ∀ r, r < 3 → ∀ i, i < 4 → f r i = -1 ∨ Vc (f r i)
theorem Vc.nn {c : Int32} (h : Vc c) : ¬ c < 0 := by
  obtain ⟨k, a, f, hk, ha, hf, rfl⟩ := h
  exact (vc_parts k hk a ha f hf).2.2.2
theorem Vc.n1 {c : Int32} (h : Vc c) : ¬ c = -1 := fun z => h.nn (by rw [z]; decide)
theorem sp1 {k : Int32} (h : ¬ spO k = 0) : spO k = 1 := by grind
set_option maxRecDepth 20000 in
set_option maxHeartbeats 4000000 in
theorem c_X7_doesTake {G : Cx} (d : Nat) {μ : Hp} {n : Nat} {k : Int32} {f : Nat → Int32} {m un lr mr hr le at9 fa op tr sg hm hi : Int32} {co wh : Int64} (hn9 : n < 3) (h60 : μ 60 = some (modC m co wh un lr mr hr le at9 fa op tr sg hm hi)) (h74 : μ 74 = some (arI 3 f)) (hk9 : f n = 0 ∨ f n = 1 ∨ f n = 2) : Ct G (d + 1) 0 0 M_X7_doesTake [.ref 60, .int (nI n), .int k] μ (Rt (some (.int (tkO (f n) k))) μ) := by
  refine Ct.ofV (by decide +kernel) (Nat.le_of_ble_eq_true rfl) ?_
  refine v_ls (ls' := [(0, .ref 60), (1, .int (nI n)), (2, .int k)]) rfl ?_
  have hcn : (nI n).toNatClampNeg = n := clamp (by omega)
  refine v_aload_n 0 dX7_doesTake_0 rfl rfl ?_
  refine v_get fl_X7_55 dX7_doesTake_1 h60 rfl ?_
  refine v_iload_n 1 dX7_doesTake_4 rfl rfl ?_
  refine v_iald dX7_doesTake_5 h74 (nI_in' hn9) ?_
  refine v_iconst (v := 2) dX7_doesTake_6 (by first | rfl | decide) ?_
  refine v_icmp_eq (tgt := 31) dX7_doesTake_7 (by decide) (fun hc7 => ?_) (fun hc7 => ?_)
  ·
    refine v_iconst (v := 1) dX7_doesTake_31 (by first | rfl | decide) ?_
    refine v_goto (tgt := 36) dX7_doesTake_32 (by decide) ?_
    refine v_iret dX7_doesTake_36 rfl (by first | rfl | decide | exact nar_b (by first | assumption | rfl)) ?_
    rw [hcn] at hc7
    exact ⟨by simp only [tkO, hc7]; rfl, rfl⟩
  ·
    refine v_iload_n 2 dX7_doesTake_10 rfl rfl ?_
    refine v_aload_n 0 dX7_doesTake_11 rfl rfl ?_
    refine v_get fl_X7_55 dX7_doesTake_12 h60 rfl ?_
    refine v_iload_n 1 dX7_doesTake_15 rfl rfl ?_
    refine v_iald dX7_doesTake_16 h74 (nI_in' hn9) ?_
    refine v_if_ne (tgt := 24) dX7_doesTake_17 (by decide) (fun hc17 => ?_) (fun hc17 => ?_)
    ·
      refine v_iconst (v := 4) dX7_doesTake_24 (by first | rfl | decide) ?_
      refine v_callS (c_X7_isUnderKind d ) cs_X7_184 dX7_doesTake_25 rfl rfl (Nat.le_of_ble_eq_true rfl) ?_
      refine rt_k ?_
      refine v_if_eq (tgt := 35) dX7_doesTake_28 (by decide) (fun hc28 => ?_) (fun hc28 => ?_)
      ·
        refine v_iconst (v := 0) dX7_doesTake_35 (by first | rfl | decide) ?_
        refine v_iret dX7_doesTake_36 rfl (by first | rfl | decide | exact nar_b (by first | assumption | rfl)) ?_
        rw [hcn] at hc7
        rw [hcn] at hc17
        rw [und_pr] at hc28
        have hf1 : f n = 1 := (hk9.resolve_left hc17).resolve_right hc7
        exact ⟨by simp only [tkO, if_neg hc17, if_pos hf1, if_pos hc28], rfl⟩
      ·
        refine v_iconst (v := 1) dX7_doesTake_31 (by first | rfl | decide) ?_
        refine v_goto (tgt := 36) dX7_doesTake_32 (by decide) ?_
        refine v_iret dX7_doesTake_36 rfl (by first | rfl | decide | exact nar_b (by first | assumption | rfl)) ?_
        rw [hcn] at hc7
        rw [hcn] at hc17
        rw [und_pr] at hc28
        have hf1 : f n = 1 := (hk9.resolve_left hc17).resolve_right hc7
        exact ⟨by simp only [tkO, if_neg hc17, if_pos hf1, if_neg hc28], rfl⟩
    ·
      refine v_iconst (v := 2) dX7_doesTake_20 (by first | rfl | decide) ?_
      refine v_goto (tgt := 25) dX7_doesTake_21 (by decide) ?_
      refine v_callS (c_X7_isUnderKind d ) cs_X7_184 dX7_doesTake_25 rfl rfl (Nat.le_of_ble_eq_true rfl) ?_
      refine rt_k ?_
      refine v_if_eq (tgt := 35) dX7_doesTake_28 (by decide) (fun hc28 => ?_) (fun hc28 => ?_)
      ·
        refine v_iconst (v := 0) dX7_doesTake_35 (by first | rfl | decide) ?_
        refine v_iret dX7_doesTake_36 rfl (by first | rfl | decide | exact nar_b (by first | assumption | rfl)) ?_
        rw [hcn] at hc7
        rw [hcn] at hc17
        rw [und_sp] at hc28
        exact ⟨by simp only [tkO, if_pos hc17]; rw [hc28], rfl⟩
      ·
        refine v_iconst (v := 1) dX7_doesTake_31 (by first | rfl | decide) ?_
        refine v_goto (tgt := 36) dX7_doesTake_32 (by decide) ?_
        refine v_iret dX7_doesTake_36 rfl (by first | rfl | decide | exact nar_b (by first | assumption | rfl)) ?_
        rw [hcn] at hc7
        rw [hcn] at hc17
        rw [und_sp] at hc28
        exact ⟨by simp only [tkO, if_pos hc17]; rw [sp1 hc28], rfl⟩

set_option maxRecDepth 20000 in
set_option maxHeartbeats 4000000 in
theorem c_X7_store {G : Cx} (d : Nat) {μ : Hp} {σ : ST} {r : Int32} {x : Int32} {k : Int32} (h : Mo σ μ) (hw : Wp (sP σ)) (hwk : Wk (sK σ)) : Ct G (d + 2) 0 0 M_X7_store [.ref 60, .int r, .int x, .int k] μ (Pm ((rStore σ r x k).2) (.int ((rStore σ r x k).1)) μ) := by
  refine Ct.ofV (by decide +kernel) (Nat.le_of_ble_eq_true rfl) ?_
  refine v_ls (ls' := [(0, .ref 60), (1, .int r), (2, .int x), (3, .int k)]) rfl ?_
  obtain ⟨co, wh, un, lr, mr, hr, at9, fa, op, sg, hm, p, tt, ro, og, tc, op9, sp, nw, se, le, mo, ot, h60, h61, h62, h63, h64, h65, h66, h67, h68, h69, h70, h71, h72, h73, h74, h75, h76, h77, h78, h79, h80, hmk, hpl, htp, ht60⟩ := id h
  have hl8 := hw.1
  refine v_iload_n 1 dX7_store_0 rfl rfl ?_
  refine v_callS (c_X7_isRack d ) cs_X7_314 dX7_store_1 rfl rfl (Nat.le_of_ble_eq_true rfl) ?_
  refine rt_k ?_
  refine v_if_eq (tgt := 15) dX7_store_4 (by decide) (fun hc4 => ?_) (fun hc4 => ?_)
  ·
    refine v_iconst (v := -1) dX7_store_15 (by first | rfl | decide) ?_
    refine v_iret dX7_store_16 rfl (by first | rfl | decide | exact nar_b (by first | assumption | rfl)) ?_
    have hE : rStore σ r x k = (-1, σ) := by
      first
        | (simp only [rStore, if_pos hc4]; done)
        | (grind [rStore]; done)
    rw [hE]
    exact ⟨rfl, h, Fp.rf μ⟩
  ·
    refine v_aload_n 0 dX7_store_7 rfl rfl ?_
    refine v_iload_n 3 dX7_store_8 rfl rfl ?_
    refine v_callV (c_X7_isFilter d h60 (by omega)) cs_X7_169 dX7_store_9 h60 rfl rfl (Nat.le_of_ble_eq_true rfl) ?_
    refine rt_k ?_
    refine v_if_ne (tgt := 17) dX7_store_12 (by decide) (fun hc12 => ?_) (fun hc12 => ?_)
    ·
      refine v_iload_n 2 dX7_store_17 rfl rfl ?_
      refine v_callS (c_X7_isPlace d ) cs_X7_317 dX7_store_18 rfl rfl (Nat.le_of_ble_eq_true rfl) ?_
      refine rt_k ?_
      refine v_if_ne (tgt := 27) dX7_store_21 (by decide) (fun hc21 => ?_) (fun hc21 => ?_)
      ·
        obtain ⟨n, hn9, rfl⟩ := in_ix (n := 3) (by decide) hc4
        have hcn : (nI n).toNatClampNeg = n := clamp (by omega)
        obtain ⟨b, hb9, rfl⟩ := in_ix (n := 4) (by decide) hc21
        have hcb : (nI b).toNatClampNeg = b := clamp (by omega)
        obtain ⟨a, ha9, rfl⟩ := in_ix (by omega) hc12
        have hca : (nI a).toNatClampNeg = a := clamp (by omega)
        refine v_aload_n 0 dX7_store_27 rfl rfl ?_
        refine v_iload_n 1 dX7_store_28 rfl rfl ?_
        refine v_aload_n 0 dX7_store_29 rfl rfl ?_
        refine v_get fl_X7_17 dX7_store_30 h60 rfl ?_
        refine v_iload_n 3 dX7_store_33 rfl rfl ?_
        refine v_iald dX7_store_34 h62 (nI_in' (by omega)) ?_
        refine v_callS (c_X7_kindOf (d + 1) ) cs_X7_101 dX7_store_35 rfl rfl (Nat.le_of_ble_eq_true rfl) ?_
        refine rt_k ?_
        rw [hca, show p a = atP σ (nI a) from (at_nI hpl ha9 hl8).symm]
        refine v_callV (c_X7_doesTake d hn9 h60 h74 (hwk n hn9)) cs_X7_320 dX7_store_38 h60 rfl rfl (Nat.le_of_ble_eq_true rfl) ?_
        refine rt_k ?_
        refine v_if_ne (tgt := 47) dX7_store_41 (by decide) (fun hc41 => ?_) (fun hc41 => ?_)
        ·
          refine v_aload_n 0 dX7_store_47 rfl rfl ?_
          refine v_get fl_X7_52 dX7_store_48 h60 rfl ?_
          refine v_iconst (v := 4) dX7_store_51 (by first | rfl | decide) ?_
          refine v_iload_n 1 dX7_store_52 rfl rfl ?_
          refine v_imul dX7_store_53 ?_
          refine v_iload_n 2 dX7_store_54 rfl rfl ?_
          refine v_iadd dX7_store_55 ?_
          refine v_aload_n 0 dX7_store_56 rfl rfl ?_
          refine v_get fl_X7_17 dX7_store_57 h60 rfl ?_
          refine v_iload_n 3 dX7_store_60 rfl rfl ?_
          refine v_iald dX7_store_61 h62 (nI_in' (by omega)) ?_
          rw [ix4, hca]
          refine v_iast dX7_store_62 h73 (nI_in' (by omega)) ?_
          refine v_iconst (v := 1) dX7_store_63 (by first | rfl | decide) ?_
          refine v_iret dX7_store_64 rfl (by first | rfl | decide | exact nar_b (by first | assumption | rfl)) ?_
          have hE : rStore σ (nI n) (nI b) (nI a) = (1, toR σ (rowU (sR σ) n (upd (sR σ n) b (p a)))) := by
            simp only [rStore, if_neg hc4, if_neg hc12, if_neg hc21, kAt, hcn, if_neg hc41]
            rw [at_nI hpl ha9 hl8]
            show (1, toR σ (rowU (sR σ) (nI n).toNatClampNeg (upd (sR σ (nI n).toNatClampNeg) (nI b).toNatClampNeg (p a)))) = _
            rw [hcn, hcb]
          rw [hE, clamp (show 4 * n + b < 2 ^ 31 by omega), rk_upd _ hb9]
          exact ⟨rfl, ⟨co, wh, un, lr, mr, hr, at9, fa, op, sg, hm, p, tt, ro, og, tc, op9, sp, nw, se, le, mo, ot, (by repeat (first | assumption | exact up_s _ _ _ | refine up_n (by omega) ?_)), (by repeat (first | assumption | exact up_s _ _ _ | refine up_n (by omega) ?_)), (by repeat (first | assumption | exact up_s _ _ _ | refine up_n (by omega) ?_)), (by repeat (first | assumption | exact up_s _ _ _ | refine up_n (by omega) ?_)), (by repeat (first | assumption | exact up_s _ _ _ | refine up_n (by omega) ?_)), (by repeat (first | assumption | exact up_s _ _ _ | refine up_n (by omega) ?_)), (by repeat (first | assumption | exact up_s _ _ _ | refine up_n (by omega) ?_)), (by repeat (first | assumption | exact up_s _ _ _ | refine up_n (by omega) ?_)), (by repeat (first | assumption | exact up_s _ _ _ | refine up_n (by omega) ?_)), (by repeat (first | assumption | exact up_s _ _ _ | refine up_n (by omega) ?_)), (by repeat (first | assumption | exact up_s _ _ _ | refine up_n (by omega) ?_)), (by repeat (first | assumption | exact up_s _ _ _ | refine up_n (by omega) ?_)), (by repeat (first | assumption | exact up_s _ _ _ | refine up_n (by omega) ?_)), (by repeat (first | assumption | exact up_s _ _ _ | refine up_n (by omega) ?_)), (by repeat (first | assumption | exact up_s _ _ _ | refine up_n (by omega) ?_)), (by repeat (first | assumption | exact up_s _ _ _ | refine up_n (by omega) ?_)), (by repeat (first | assumption | exact up_s _ _ _ | refine up_n (by omega) ?_)), (by repeat (first | assumption | exact up_s _ _ _ | refine up_n (by omega) ?_)), (by repeat (first | assumption | exact up_s _ _ _ | refine up_n (by omega) ?_)), (by repeat (first | assumption | exact up_s _ _ _ | refine up_n (by omega) ?_)), (by repeat (first | assumption | exact up_s _ _ _ | refine up_n (by omega) ?_)), (hmk.kept (fun i a b => by repeat (first | rfl | refine up_n (by omega) ?_))), hpl, htp, ht60⟩, fun i hi => by repeat (first | rfl | refine up_n (by omega) ?_)⟩
        ·
          refine v_bipush (v := -16) dX7_store_44 (by first | rfl | decide) ?_
          refine v_iret dX7_store_46 rfl (by first | rfl | decide | exact nar_b (by first | assumption | rfl)) ?_
          have hE : rStore σ (nI n) (nI b) (nI a) = (-16, σ) := by simp only [rStore, if_neg hc4, if_neg hc12, if_neg hc21, kAt, hcn, if_pos hc41]
          rw [hE]
          exact ⟨rfl, h, Fp.rf μ⟩
      ·
        refine v_bipush (v := -13) dX7_store_24 (by first | rfl | decide) ?_
        refine v_iret dX7_store_26 rfl (by first | rfl | decide | exact nar_b (by first | assumption | rfl)) ?_
        have hE : rStore σ r x k = (-13, σ) := by
          first
            | (simp only [rStore, if_neg hc4, if_neg hc12, if_pos hc21]; done)
            | (grind [rStore]; done)
        rw [hE]
        exact ⟨rfl, h, Fp.rf μ⟩
    ·
      refine v_iconst (v := -1) dX7_store_15 (by first | rfl | decide) ?_
      refine v_iret dX7_store_16 rfl (by first | rfl | decide | exact nar_b (by first | assumption | rfl)) ?_
      have hE : rStore σ r x k = (-1, σ) := by
        first
          | (simp only [rStore, if_neg hc4, if_pos hc12]; done)
          | (grind [rStore]; done)
      rw [hE]
      exact ⟨rfl, h, Fp.rf μ⟩

set_option maxRecDepth 20000 in
set_option maxHeartbeats 4000000 in
theorem c_X7_empty {G : Cx} (d : Nat) {μ : Hp} {σ : ST} {r : Int32} {x : Int32} (h : Mo σ μ) (hw : Wp (sP σ)) (hwr : Wr (sR σ)) : Ct G (d + 2) 0 0 M_X7_empty [.ref 60, .int r, .int x] μ (Pm ((rEmpty σ r x).2) (.int ((rEmpty σ r x).1)) μ) := by
  refine Ct.ofV (by decide +kernel) (Nat.le_of_ble_eq_true rfl) ?_
  refine v_ls (ls' := [(0, .ref 60), (1, .int r), (2, .int x)]) rfl ?_
  obtain ⟨co, wh, un, lr, mr, hr, at9, fa, op, sg, hm, p, tt, ro, og, tc, op9, sp, nw, se, le, mo, ot, h60, h61, h62, h63, h64, h65, h66, h67, h68, h69, h70, h71, h72, h73, h74, h75, h76, h77, h78, h79, h80, hmk, hpl, htp, ht60⟩ := id h
  have hl8 := hw.1
  refine v_iload_n 1 dX7_empty_0 rfl rfl ?_
  refine v_callS (c_X7_isRack d ) cs_X7_314 dX7_empty_1 rfl rfl (Nat.le_of_ble_eq_true rfl) ?_
  refine rt_k ?_
  refine v_if_ne (tgt := 9) dX7_empty_4 (by decide) (fun hc4 => ?_) (fun hc4 => ?_)
  ·
    refine v_iload_n 2 dX7_empty_9 rfl rfl ?_
    refine v_callS (c_X7_isPlace d ) cs_X7_317 dX7_empty_10 rfl rfl (Nat.le_of_ble_eq_true rfl) ?_
    refine rt_k ?_
    refine v_if_ne (tgt := 19) dX7_empty_13 (by decide) (fun hc13 => ?_) (fun hc13 => ?_)
    ·
      obtain ⟨n, hn9, rfl⟩ := in_ix (n := 3) (by decide) hc4
      have hcn : (nI n).toNatClampNeg = n := clamp (by omega)
      obtain ⟨b, hb9, rfl⟩ := in_ix (n := 4) (by decide) hc13
      have hcb : (nI b).toNatClampNeg = b := clamp (by omega)
      refine v_aload_n 0 dX7_empty_19 rfl rfl ?_
      refine v_get fl_X7_52 dX7_empty_20 h60 rfl ?_
      refine v_iconst (v := 4) dX7_empty_23 (by first | rfl | decide) ?_
      refine v_iload_n 1 dX7_empty_24 rfl rfl ?_
      refine v_imul dX7_empty_25 ?_
      refine v_iload_n 2 dX7_empty_26 rfl rfl ?_
      refine v_iadd dX7_empty_27 ?_
      rw [ix4]
      refine v_iald dX7_empty_28 h73 (nI_in' (by omega)) ?_
      refine v_istore_n dX7_empty_29 rfl (by decide) (fun cc e_cc => ?_)
      refine v_ls (ls' := [(3, .int cc), (0, .ref 60), (1, .int (nI n)), (2, .int (nI b))]) rfl ?_
      have hcc : sR σ n b = cc := by rw [e_cc, clamp (show 4 * n + b < 2 ^ 31 by omega), rk_at _ hb9]
      refine v_aload_n 1 dX7_empty_30 rfl rfl ?_
      refine v_get fl_X7_52 dX7_empty_31 h60 rfl ?_
      refine v_iconst (v := 4) dX7_empty_34 (by first | rfl | decide) ?_
      refine v_iload_n 2 dX7_empty_35 rfl rfl ?_
      refine v_imul dX7_empty_36 ?_
      refine v_iload_n 3 dX7_empty_37 rfl rfl ?_
      refine v_iadd dX7_empty_38 ?_
      refine v_iconst (v := -1) dX7_empty_39 (by first | rfl | decide) ?_
      rw [ix4]
      refine v_iast dX7_empty_40 h73 (nI_in' (by omega)) ?_
      refine v_iload_n 0 dX7_empty_41 rfl rfl ?_
      refine v_iconst (v := -1) dX7_empty_42 (by first | rfl | decide) ?_
      refine v_icmp_ne (tgt := 51) dX7_empty_43 (by decide) (fun hc43 => ?_) (fun hc43 => ?_)
      ·
        refine v_iload_n 0 dX7_empty_51 rfl rfl ?_
        refine v_iret dX7_empty_52 rfl (by first | rfl | decide | exact nar_b (by first | assumption | rfl)) ?_
        have hvc : Vc cc := by
          have q := hwr n hn9 b hb9
          rw [hcc] at q
          exact q.resolve_left hc43
        have hE : rEmpty σ (nI n) (nI b) = (cc, toR σ (rowU (sR σ) n (upd (sR σ n) b (-1)))) := by
          have q : rkcO σ (nI n) (nI b) = cc := by simp only [rkcO, if_neg hc4, if_neg hc13, rAt, hcn, hcb, hcc, if_neg hc43]
          simp only [rEmpty, q, if_neg hvc.nn]
          show (cc, toR σ (rowU (sR σ) (nI n).toNatClampNeg (upd (sR σ (nI n).toNatClampNeg) (nI b).toNatClampNeg (-1)))) = _
          rw [hcn, hcb]
        rw [hE, clamp (show 4 * n + b < 2 ^ 31 by omega), rk_upd _ hb9]
        exact ⟨rfl, ⟨co, wh, un, lr, mr, hr, at9, fa, op, sg, hm, p, tt, ro, og, tc, op9, sp, nw, se, le, mo, ot, (by repeat (first | assumption | exact up_s _ _ _ | refine up_n (by omega) ?_)), (by repeat (first | assumption | exact up_s _ _ _ | refine up_n (by omega) ?_)), (by repeat (first | assumption | exact up_s _ _ _ | refine up_n (by omega) ?_)), (by repeat (first | assumption | exact up_s _ _ _ | refine up_n (by omega) ?_)), (by repeat (first | assumption | exact up_s _ _ _ | refine up_n (by omega) ?_)), (by repeat (first | assumption | exact up_s _ _ _ | refine up_n (by omega) ?_)), (by repeat (first | assumption | exact up_s _ _ _ | refine up_n (by omega) ?_)), (by repeat (first | assumption | exact up_s _ _ _ | refine up_n (by omega) ?_)), (by repeat (first | assumption | exact up_s _ _ _ | refine up_n (by omega) ?_)), (by repeat (first | assumption | exact up_s _ _ _ | refine up_n (by omega) ?_)), (by repeat (first | assumption | exact up_s _ _ _ | refine up_n (by omega) ?_)), (by repeat (first | assumption | exact up_s _ _ _ | refine up_n (by omega) ?_)), (by repeat (first | assumption | exact up_s _ _ _ | refine up_n (by omega) ?_)), (by repeat (first | assumption | exact up_s _ _ _ | refine up_n (by omega) ?_)), (by repeat (first | assumption | exact up_s _ _ _ | refine up_n (by omega) ?_)), (by repeat (first | assumption | exact up_s _ _ _ | refine up_n (by omega) ?_)), (by repeat (first | assumption | exact up_s _ _ _ | refine up_n (by omega) ?_)), (by repeat (first | assumption | exact up_s _ _ _ | refine up_n (by omega) ?_)), (by repeat (first | assumption | exact up_s _ _ _ | refine up_n (by omega) ?_)), (by repeat (first | assumption | exact up_s _ _ _ | refine up_n (by omega) ?_)), (by repeat (first | assumption | exact up_s _ _ _ | refine up_n (by omega) ?_)), (hmk.kept (fun i a b => by repeat (first | rfl | refine up_n (by omega) ?_))), hpl, htp, ht60⟩, fun i hi => by repeat (first | rfl | refine up_n (by omega) ?_)⟩
      ·
        refine v_bipush (v := -5) dX7_empty_46 (by first | rfl | decide) ?_
        refine v_goto (tgt := 52) dX7_empty_48 (by decide) ?_
        refine v_iret dX7_empty_52 rfl (by first | rfl | decide | exact nar_b (by first | assumption | rfl)) ?_
        have hE : rEmpty σ (nI n) (nI b) = (-5, σ) := by
          have q : rkcO σ (nI n) (nI b) = -5 := by simp only [rkcO, if_neg hc4, if_neg hc13, rAt, hcn, hcb, hcc, if_pos hc43]
          simp only [rEmpty, q]
          rfl
        rw [hE, clamp (show 4 * n + b < 2 ^ 31 by omega)]
        have hid : upd (rkF (sR σ)) (4 * n + b) (-1) = rkF (sR σ) := by
          funext j
          show (if j = 4 * n + b then (-1 : Int32) else rkF (sR σ) j) = _
          by_cases e : j = 4 * n + b
          · rw [if_pos e, e, rk_at _ hb9, hcc, hc43]
          · rw [if_neg e]
        rw [hid]
        exact ⟨rfl, ⟨co, wh, un, lr, mr, hr, at9, fa, op, sg, hm, p, tt, ro, og, tc, op9, sp, nw, se, le, mo, ot, (by repeat (first | assumption | exact up_s _ _ _ | refine up_n (by omega) ?_)), (by repeat (first | assumption | exact up_s _ _ _ | refine up_n (by omega) ?_)), (by repeat (first | assumption | exact up_s _ _ _ | refine up_n (by omega) ?_)), (by repeat (first | assumption | exact up_s _ _ _ | refine up_n (by omega) ?_)), (by repeat (first | assumption | exact up_s _ _ _ | refine up_n (by omega) ?_)), (by repeat (first | assumption | exact up_s _ _ _ | refine up_n (by omega) ?_)), (by repeat (first | assumption | exact up_s _ _ _ | refine up_n (by omega) ?_)), (by repeat (first | assumption | exact up_s _ _ _ | refine up_n (by omega) ?_)), (by repeat (first | assumption | exact up_s _ _ _ | refine up_n (by omega) ?_)), (by repeat (first | assumption | exact up_s _ _ _ | refine up_n (by omega) ?_)), (by repeat (first | assumption | exact up_s _ _ _ | refine up_n (by omega) ?_)), (by repeat (first | assumption | exact up_s _ _ _ | refine up_n (by omega) ?_)), (by repeat (first | assumption | exact up_s _ _ _ | refine up_n (by omega) ?_)), (by repeat (first | assumption | exact up_s _ _ _ | refine up_n (by omega) ?_)), (by repeat (first | assumption | exact up_s _ _ _ | refine up_n (by omega) ?_)), (by repeat (first | assumption | exact up_s _ _ _ | refine up_n (by omega) ?_)), (by repeat (first | assumption | exact up_s _ _ _ | refine up_n (by omega) ?_)), (by repeat (first | assumption | exact up_s _ _ _ | refine up_n (by omega) ?_)), (by repeat (first | assumption | exact up_s _ _ _ | refine up_n (by omega) ?_)), (by repeat (first | assumption | exact up_s _ _ _ | refine up_n (by omega) ?_)), (by repeat (first | assumption | exact up_s _ _ _ | refine up_n (by omega) ?_)), (hmk.kept (fun i a b => by repeat (first | rfl | refine up_n (by omega) ?_))), hpl, htp, ht60⟩, fun i hi => by repeat (first | rfl | refine up_n (by omega) ?_)⟩
    ·
      refine v_bipush (v := -13) dX7_empty_16 (by first | rfl | decide) ?_
      refine v_iret dX7_empty_18 rfl (by first | rfl | decide | exact nar_b (by first | assumption | rfl)) ?_
      have hE : rEmpty σ r x = (-13, σ) := by
        first
          | (simp only [rEmpty, rkcO, if_pos hc4]; done)
          | (simp only [rEmpty, rkcO, if_neg hc4, if_pos hc13]; done)
          | (simp only [rEmpty, rkcO, if_pos hc4]; rfl)
          | (simp only [rEmpty, rkcO, if_neg hc4, if_pos hc13]; rfl)
      rw [hE]
      exact ⟨rfl, h, Fp.rf μ⟩
  ·
    refine v_iconst (v := -1) dX7_empty_7 (by first | rfl | decide) ?_
    refine v_iret dX7_empty_8 rfl (by first | rfl | decide | exact nar_b (by first | assumption | rfl)) ?_
    have hE : rEmpty σ r x = (-1, σ) := by
      first
        | (simp only [rEmpty, rkcO, if_pos hc4]; done)
        | (simp only [rEmpty, rkcO, if_neg hc4, if_pos hc13]; done)
        | (simp only [rEmpty, rkcO, if_pos hc4]; rfl)
        | (simp only [rEmpty, rkcO, if_neg hc4, if_pos hc13]; rfl)
    rw [hE]
    exact ⟨rfl, h, Fp.rf μ⟩

set_option maxRecDepth 20000 in
set_option maxHeartbeats 4000000 in
theorem c_X7_fetch {G : Cx} (d : Nat) {μ : Hp} {σ : ST} {r : Int32} {x : Int32} (h : Mo σ μ) (hw : Wp (sP σ)) (hwr : Wr (sR σ)) : Ct G (d + 2) 0 0 M_X7_fetch [.ref 60, .int r, .int x] μ (Pm ((rFetch σ r x).2) (.int ((rFetch σ r x).1)) μ) := by
  refine Ct.ofV (by decide +kernel) (Nat.le_of_ble_eq_true rfl) ?_
  refine v_ls (ls' := [(0, .ref 60), (1, .int r), (2, .int x)]) rfl ?_
  obtain ⟨co, wh, un, lr, mr, hr, at9, fa, op, sg, hm, p, tt, ro, og, tc, op9, sp, nw, se, le, mo, ot, h60, h61, h62, h63, h64, h65, h66, h67, h68, h69, h70, h71, h72, h73, h74, h75, h76, h77, h78, h79, h80, hmk, hpl, htp, ht60⟩ := id h
  have hl8 := hw.1
  refine v_iload_n 1 dX7_fetch_0 rfl rfl ?_
  refine v_callS (c_X7_isRack d ) cs_X7_314 dX7_fetch_1 rfl rfl (Nat.le_of_ble_eq_true rfl) ?_
  refine rt_k ?_
  refine v_if_ne (tgt := 9) dX7_fetch_4 (by decide) (fun hc4 => ?_) (fun hc4 => ?_)
  ·
    refine v_iload_n 2 dX7_fetch_9 rfl rfl ?_
    refine v_callS (c_X7_isPlace d ) cs_X7_317 dX7_fetch_10 rfl rfl (Nat.le_of_ble_eq_true rfl) ?_
    refine rt_k ?_
    refine v_if_ne (tgt := 19) dX7_fetch_13 (by decide) (fun hc13 => ?_) (fun hc13 => ?_)
    ·
      obtain ⟨n, hn9, rfl⟩ := in_ix (n := 3) (by decide) hc4
      have hcn : (nI n).toNatClampNeg = n := clamp (by omega)
      obtain ⟨b, hb9, rfl⟩ := in_ix (n := 4) (by decide) hc13
      have hcb : (nI b).toNatClampNeg = b := clamp (by omega)
      refine v_aload_n 0 dX7_fetch_19 rfl rfl ?_
      refine v_get fl_X7_52 dX7_fetch_20 h60 rfl ?_
      refine v_iconst (v := 4) dX7_fetch_23 (by first | rfl | decide) ?_
      refine v_iload_n 1 dX7_fetch_24 rfl rfl ?_
      refine v_imul dX7_fetch_25 ?_
      refine v_iload_n 2 dX7_fetch_26 rfl rfl ?_
      refine v_iadd dX7_fetch_27 ?_
      rw [ix4]
      refine v_iald dX7_fetch_28 h73 (nI_in' (by omega)) ?_
      refine v_istore_n dX7_fetch_29 rfl (by decide) (fun cc e_cc => ?_)
      refine v_ls (ls' := [(3, .int cc), (0, .ref 60), (1, .int (nI n)), (2, .int (nI b))]) rfl ?_
      have hcc : sR σ n b = cc := by rw [e_cc, clamp (show 4 * n + b < 2 ^ 31 by omega), rk_at _ hb9]
      refine v_iload_n 0 dX7_fetch_30 rfl rfl ?_
      refine v_iconst (v := -1) dX7_fetch_31 (by first | rfl | decide) ?_
      refine v_icmp_ne (tgt := 40) dX7_fetch_32 (by decide) (fun hc32 => ?_) (fun hc32 => ?_)
      ·
        refine v_aload_n 1 dX7_fetch_40 rfl rfl ?_
        refine v_iload_n 0 dX7_fetch_41 rfl rfl ?_
        refine v_callV (c_X7_adds (d + 1) h hw) cs_X7_166 dX7_fetch_42 h60 rfl rfl (Nat.le_of_ble_eq_true rfl) ?_
        rintro _ m2 ⟨rfl, hq2, hq3⟩
        refine v_iret dX7_fetch_45 rfl (by first | rfl | decide | exact nar_b (by first | assumption | rfl)) ?_
        have hvc : Vc cc := by
          have q := hwr n hn9 b hb9
          rw [hcc] at q
          exact q.resolve_left hc32
        have hE : rFetch σ (nI n) (nI b) = rApp σ cc := by
          have q : rkcO σ (nI n) (nI b) = cc := by simp only [rkcO, if_neg hc4, if_neg hc13, rAt, hcn, hcb, hcc, if_neg hc32]
          simp only [rFetch, q, if_neg hvc.nn]
        rw [hE]
        exact ⟨rfl, hq2, hq3⟩
      ·
        refine v_bipush (v := -5) dX7_fetch_35 (by first | rfl | decide) ?_
        refine v_goto (tgt := 45) dX7_fetch_37 (by decide) ?_
        refine v_iret dX7_fetch_45 rfl (by first | rfl | decide | exact nar_b (by first | assumption | rfl)) ?_
        have hE : rFetch σ (nI n) (nI b) = (-5, σ) := by
          have q : rkcO σ (nI n) (nI b) = -5 := by simp only [rkcO, if_neg hc4, if_neg hc13, rAt, hcn, hcb, hcc, if_pos hc32]
          simp only [rFetch, q]
          rfl
        rw [hE]
        exact ⟨rfl, h, Fp.rf μ⟩
    ·
      refine v_bipush (v := -13) dX7_fetch_16 (by first | rfl | decide) ?_
      refine v_iret dX7_fetch_18 rfl (by first | rfl | decide | exact nar_b (by first | assumption | rfl)) ?_
      have hE : rFetch σ r x = (-13, σ) := by
        first
          | (simp only [rFetch, rkcO, if_pos hc4]; done)
          | (simp only [rFetch, rkcO, if_neg hc4, if_pos hc13]; done)
          | (simp only [rFetch, rkcO, if_pos hc4]; rfl)
          | (simp only [rFetch, rkcO, if_neg hc4, if_pos hc13]; rfl)
      rw [hE]
      exact ⟨rfl, h, Fp.rf μ⟩
  ·
    refine v_iconst (v := -1) dX7_fetch_7 (by first | rfl | decide) ?_
    refine v_iret dX7_fetch_8 rfl (by first | rfl | decide | exact nar_b (by first | assumption | rfl)) ?_
    have hE : rFetch σ r x = (-1, σ) := by
      first
        | (simp only [rFetch, rkcO, if_pos hc4]; done)
        | (simp only [rFetch, rkcO, if_neg hc4, if_pos hc13]; done)
        | (simp only [rFetch, rkcO, if_pos hc4]; rfl)
        | (simp only [rFetch, rkcO, if_neg hc4, if_pos hc13]; rfl)
    rw [hE]
    exact ⟨rfl, h, Fp.rf μ⟩

set_option maxRecDepth 20000 in
set_option maxHeartbeats 4000000 in
theorem c_X7_rack {G : Cx} (d : Nat) {μ : Hp} {σ : ST} {r : Int32} {x : Int32} (h : Mo σ μ) (hw : Wp (sP σ)) : Ct G (d + 2) 0 0 M_X7_rack [.ref 60, .int r, .int x] μ (Pm (σ) (.int (rRack σ r x)) μ) := by
  refine Ct.ofV (by decide +kernel) (Nat.le_of_ble_eq_true rfl) ?_
  refine v_ls (ls' := [(0, .ref 60), (1, .int r), (2, .int x)]) rfl ?_
  obtain ⟨co, wh, un, lr, mr, hr, at9, fa, op, sg, hm, p, tt, ro, og, tc, op9, sp, nw, se, le, mo, ot, h60, h61, h62, h63, h64, h65, h66, h67, h68, h69, h70, h71, h72, h73, h74, h75, h76, h77, h78, h79, h80, hmk, hpl, htp, ht60⟩ := id h
  have hl8 := hw.1
  refine v_iload_n 1 dX7_rack_0 rfl rfl ?_
  refine v_callS (c_X7_isRack d ) cs_X7_314 dX7_rack_1 rfl rfl (Nat.le_of_ble_eq_true rfl) ?_
  refine rt_k ?_
  refine v_if_ne (tgt := 9) dX7_rack_4 (by decide) (fun hc4 => ?_) (fun hc4 => ?_)
  ·
    obtain ⟨n, hn9, rfl⟩ := in_ix (n := 3) (by decide) hc4
    have hcn : (nI n).toNatClampNeg = n := clamp (by omega)
    refine v_iload_n 2 dX7_rack_9 rfl rfl ?_
    refine v_iconst (v := -1) dX7_rack_10 (by first | rfl | decide) ?_
    refine v_icmp_ne (tgt := 21) dX7_rack_11 (by decide) (fun hc11 => ?_) (fun hc11 => ?_)
    ·
      refine v_iload_n 2 dX7_rack_21 rfl rfl ?_
      refine v_callS (c_X7_isPlace d ) cs_X7_317 dX7_rack_22 rfl rfl (Nat.le_of_ble_eq_true rfl) ?_
      refine rt_k ?_
      refine v_if_ne (tgt := 31) dX7_rack_25 (by decide) (fun hc25 => ?_) (fun hc25 => ?_)
      ·
        obtain ⟨b, hb9, rfl⟩ := in_ix (n := 4) (by decide) hc25
        have hcb : (nI b).toNatClampNeg = b := clamp (by omega)
        refine v_aload_n 0 dX7_rack_31 rfl rfl ?_
        refine v_get fl_X7_52 dX7_rack_32 h60 rfl ?_
        refine v_iconst (v := 4) dX7_rack_35 (by first | rfl | decide) ?_
        refine v_iload_n 1 dX7_rack_36 rfl rfl ?_
        refine v_imul dX7_rack_37 ?_
        refine v_iload_n 2 dX7_rack_38 rfl rfl ?_
        refine v_iadd dX7_rack_39 ?_
        rw [ix4]
        refine v_iald dX7_rack_40 h73 (nI_in' (by omega)) ?_
        refine v_istore_n dX7_rack_41 rfl (by decide) (fun cc e_cc => ?_)
        refine v_ls (ls' := [(3, .int cc), (0, .ref 60), (1, .int (nI n)), (2, .int (nI b))]) rfl ?_
        have hcc : sR σ n b = cc := by rw [e_cc, clamp (show 4 * n + b < 2 ^ 31 by omega), rk_at _ hb9]
        refine v_iload_n 0 dX7_rack_42 rfl rfl ?_
        refine v_iconst (v := -1) dX7_rack_43 (by first | rfl | decide) ?_
        refine v_icmp_ne (tgt := 52) dX7_rack_44 (by decide) (fun hc44 => ?_) (fun hc44 => ?_)
        ·
          refine v_iload_n 0 dX7_rack_52 rfl rfl ?_
          refine v_iret dX7_rack_53 rfl (by first | rfl | decide | exact nar_b (by first | assumption | rfl)) ?_
          have hE : rRack σ (nI n) (nI b) = cc := by simp only [rRack, rkcO, if_neg hc4, if_neg hc11, if_neg hc25, rAt, hcn, hcb, hcc, if_neg hc44]
          rw [hE]
          exact ⟨rfl, h, Fp.rf μ⟩
        ·
          refine v_bipush (v := -5) dX7_rack_47 (by first | rfl | decide) ?_
          refine v_goto (tgt := 53) dX7_rack_49 (by decide) ?_
          refine v_iret dX7_rack_53 rfl (by first | rfl | decide | exact nar_b (by first | assumption | rfl)) ?_
          have hE : rRack σ (nI n) (nI b) = -5 := by simp only [rRack, rkcO, if_neg hc4, if_neg hc11, if_neg hc25, rAt, hcn, hcb, hcc, if_pos hc44]
          rw [hE]
          exact ⟨rfl, h, Fp.rf μ⟩
      ·
        refine v_bipush (v := -13) dX7_rack_28 (by first | rfl | decide) ?_
        refine v_iret dX7_rack_30 rfl (by first | rfl | decide | exact nar_b (by first | assumption | rfl)) ?_
        have hE : rRack σ (nI n) x = -13 := by simp only [rRack, rkcO, if_neg hc4, if_neg hc11, if_pos hc25]
        rw [hE]
        exact ⟨rfl, h, Fp.rf μ⟩
    ·
      refine v_aload_n 0 dX7_rack_14 rfl rfl ?_
      refine v_get fl_X7_55 dX7_rack_15 h60 rfl ?_
      refine v_iload_n 1 dX7_rack_18 rfl rfl ?_
      refine v_iald dX7_rack_19 h74 (nI_in' hn9) ?_
      refine v_iret dX7_rack_20 rfl (by first | rfl | decide | exact nar_b (by first | assumption | rfl)) ?_
      have hE : rRack σ (nI n) x = sK σ n := by simp only [rRack, if_neg hc4, if_pos hc11, kAt, hcn]
      rw [hE, hcn]
      exact ⟨rfl, h, Fp.rf μ⟩
  ·
    refine v_iconst (v := -1) dX7_rack_7 (by first | rfl | decide) ?_
    refine v_iret dX7_rack_8 rfl (by first | rfl | decide | exact nar_b (by first | assumption | rfl)) ?_
    have hE : rRack σ r x = -1 := by simp only [rRack, if_pos hc4]
    rw [hE]
    exact ⟨rfl, h, Fp.rf μ⟩

