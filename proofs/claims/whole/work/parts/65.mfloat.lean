theorem rf_nat : Cond.native ⟨"java/lang/Float", "floatToRawIntBits", "(F)I"⟩ ∈ gw := gwAt 1585 (by decide +kernel) rfl
theorem rf_stat : Cond.static ⟨"java/lang/Float", "floatToRawIntBits", "(F)I"⟩ ∈ gw := gwAt 1584 (by decide +kernel) rfl
theorem rf_ini : Cond.initialized "java/lang/Float" ∈ gw := gwAt 80 (by decide +kernel) rfl
theorem cs_Jxf58ca_74 : Cond.methodLink RJxf58ca 74 ⟨"java/lang/Float", "floatToRawIntBits", "(F)I"⟩ ∈ gw := gwAt 1583 (by decide +kernel) rfl
theorem v_rf {G : Cx} {M : MD} {d mc ms : Nat} {P : Option Value → Hp → Prop} {pc : Nat} {ls : List (Nat × Value)} {st : List Value} {μ : Hp} {idx : Nat} {b : UInt32} (hlk : Cond.methodLink M.1.cls idx ⟨"java/lang/Float", "floatToRawIntBits", "(F)I"⟩ ∈ gw) (hd : decode M.2.1 pc = .ok (.invokestatic idx, 3)) (h8 : (st.map fun v => v.category).sum ≤ 8) (k : V G M (d + 1) mc ms P (pc + 3) ls (.int b.toInt32 :: st) μ) : V G M (d + 1) mc ms P pc ls (.float b :: st) μ :=
  V.to k (fun h => oks_c okv_i (oks_t h)) (fun {p l e R s m args below meth c Q ad H locs cells slots sl} F _ _ _ hsl w => by
    obtain ⟨f1, f2, f3, f4, f5, f6, f7, f8, f9, f10, f11⟩ := id F
    have h9 := cat_x ad st h8
    exact vn_f2i f1 f2 (by rw [hsl.1, f3]) f5 (f8 _ hlk) (f8 _ rf_nat) (f8 _ rf_stat) (f8 _ rf_ini) (by omega) (by omega) hd w)
theorem rd_nat : Cond.native ⟨"java/lang/Double", "doubleToRawLongBits", "(D)J"⟩ ∈ gw := gwAt 1595 (by decide +kernel) rfl
theorem rd_stat : Cond.static ⟨"java/lang/Double", "doubleToRawLongBits", "(D)J"⟩ ∈ gw := gwAt 1594 (by decide +kernel) rfl
theorem rd_ini : Cond.initialized "java/lang/Double" ∈ gw := gwAt 81 (by decide +kernel) rfl
theorem cs_Jxe99ae_134 : Cond.methodLink RJxe99ae 134 ⟨"java/lang/Double", "doubleToRawLongBits", "(D)J"⟩ ∈ gw := gwAt 1593 (by decide +kernel) rfl
theorem v_rd {G : Cx} {M : MD} {d mc ms : Nat} {P : Option Value → Hp → Prop} {pc : Nat} {ls : List (Nat × Value)} {st : List Value} {μ : Hp} {idx : Nat} {b : UInt64} (hlk : Cond.methodLink M.1.cls idx ⟨"java/lang/Double", "doubleToRawLongBits", "(D)J"⟩ ∈ gw) (hd : decode M.2.1 pc = .ok (.invokestatic idx, 3)) (h8 : (st.map fun v => v.category).sum ≤ 8) (k : V G M (d + 1) mc ms P (pc + 3) ls (.long b.toInt64 :: st) μ) : V G M (d + 1) mc ms P pc ls (.double b :: st) μ :=
  V.to k (fun h => oks_c okv_l (oks_t h)) (fun {p l e R s m args below meth c Q ad H locs cells slots sl} F _ _ _ hsl w => by
    obtain ⟨f1, f2, f3, f4, f5, f6, f7, f8, f9, f10, f11⟩ := id F
    have h9 := cat_x ad st h8
    exact vn_d2l f1 f2 (by rw [hsl.1, f3]) f5 (f8 _ hlk) (f8 _ rd_nat) (f8 _ rd_stat) (f8 _ rd_ini) (by omega) (by omega) hd w)
theorem fw_ldcw {p : Program} {l : Launch} {e : Env} {R : Room} {s : State} {m : MethodId} {args : Array Value} {below : List Frame} {meth : Method} {c : Code} {locs : List Loc} {cells slots : Nat} {T : State} (X : Stand p l e R s m args below meth c T locs cells slots) (hexec : p.tables.exec = Jvm.exec) {own : String} {index : Nat} {v : UInt32} (hown : s.vm.findClass own = some m.cls)
    (hconst : (Cond.constantFloat own index v).before args s = true) {g : JFrame} (hg : g.method = m) (hdg : decode c.code g.pc = .ok (.ldc_w index, 3)) :
    ∀ target, Steps p.tables e below (T.setTop { g with pc := g.pc + 3, stack := .float v :: g.stack }) target → Steps p.tables e below (T.setTop g) target := by
  obtain ⟨k, cf, hk, hcf, hcp⟩ := Cond.constantFloat_spec hown hconst
  obtain ⟨k', hk', he⟩ := X.warmed.alike.2.2 _ _ hk
  intro target hrest
  subst hg
  jvm_step X.here [hexec, hdg, ldc_w.wp_float (s := T) (f := g) X.here.top hk' (by rw [he]; exact hcf) hcp]
  exact hrest
theorem v_ldcwf {G : Cx} {M : MD} {d mc ms : Nat} {P : Option Value → Hp → Prop} {pc : Nat} {ls : List (Nat × Value)} {st : List Value} {μ : Hp} {idx : Nat} {v : UInt32} (h : Cond.constantFloat M.1.cls idx v ∈ gw) (hd : decode M.2.1 pc = .ok (.ldc_w idx, 3)) (k : V G M d mc ms P (pc + 3) ls (.float v :: st) μ) : V G M d mc ms P pc ls st μ :=
  V.to k (fun h => oks_c okv_f h) (fun F _ _ _ _ w => by
    intro T hT X
    obtain ⟨t, a, b⟩ := w T hT X
    exact ⟨t, fw_ldcw X F.1 F.2.2.2.2.1 (F.2.2.2.2.2.2.2.1 _ h) rfl (by rw [F.2.1]; exact hd) t a, b⟩)
set_option maxRecDepth 20000 in
set_option maxHeartbeats 4000000 in
theorem c_Jxf58ca_isNaN_12338 {G : Cx} (d : Nat) {μ : Hp} {k : Nat} {x : UInt32} (h : B32 k x) : Ct G (d) 0 0 M_Jxf58ca_isNaN_12338 [.float x] μ (Rt (some (.int 0)) μ) := by
  refine Ct.ofV (by decide +kernel) (Nat.le_of_ble_eq_true rfl) ?_
  refine v_ls (ls' := [(0, .float x)]) rfl ?_
  refine v_fload_n 0 dJxf58ca_isNaN_12338_0 rfl rfl ?_
  refine v_fload_n 0 dJxf58ca_isNaN_12338_1 rfl rfl ?_
  refine v_fcmp dJxf58ca_isNaN_12338_2 ?_
  refine v_if_eq (tgt := 10) dJxf58ca_isNaN_12338_3 (by decide) (fun hc3 => ?_) (fun hc3 => ?_)
  ·
    refine v_iconst (v := 0) dJxf58ca_isNaN_12338_10 (by first | rfl | decide) ?_
    refine v_iret dJxf58ca_isNaN_12338_11 rfl (by first | rfl | decide | exact nar_b (by first | assumption | rfl)) ?_
    exact ⟨rfl, rfl⟩
  · exact absurd (by rw [h.self]; rfl) hc3

set_option maxRecDepth 20000 in
set_option maxHeartbeats 4000000 in
theorem c_Jxe99ae_isNaN_b9ae7 {G : Cx} (d : Nat) {μ : Hp} {k : Nat} {x : UInt64} (h : B64 k x) : Ct G (d) 0 0 M_Jxe99ae_isNaN_b9ae7 [.double x] μ (Rt (some (.int 0)) μ) := by
  refine Ct.ofV (by decide +kernel) (Nat.le_of_ble_eq_true rfl) ?_
  refine v_ls (ls' := [(0, .double x)]) rfl ?_
  refine v_dload_n 0 dJxe99ae_isNaN_b9ae7_0 rfl rfl ?_
  refine v_dload_n 0 dJxe99ae_isNaN_b9ae7_1 rfl rfl ?_
  refine v_dcmp dJxe99ae_isNaN_b9ae7_2 ?_
  refine v_if_eq (tgt := 10) dJxe99ae_isNaN_b9ae7_3 (by decide) (fun hc3 => ?_) (fun hc3 => ?_)
  ·
    refine v_iconst (v := 0) dJxe99ae_isNaN_b9ae7_10 (by first | rfl | decide) ?_
    refine v_iret dJxe99ae_isNaN_b9ae7_11 rfl (by first | rfl | decide | exact nar_b (by first | assumption | rfl)) ?_
    exact ⟨rfl, rfl⟩
  · exact absurd (by rw [h.self]; rfl) hc3

set_option maxRecDepth 20000 in
set_option maxHeartbeats 4000000 in
theorem c_Jxf58ca_floatToIntBits_5c35a {G : Cx} (d : Nat) {μ : Hp} {k : Nat} {x : UInt32} (h : B32 k x) : Ct G (d + 1) 0 0 M_Jxf58ca_floatToIntBits_5c35a [.float x] μ (Rt (some (.int x.toInt32)) μ) := by
  refine Ct.ofV (by decide +kernel) (Nat.le_of_ble_eq_true rfl) ?_
  refine v_ls (ls' := [(0, .float x)]) rfl ?_
  refine v_fload_n 0 dJxf58ca_floatToIntBits_5c35a_0 rfl rfl ?_
  refine v_callS (c_Jxf58ca_isNaN_12338 d h) cs_Jxf58ca_59 dJxf58ca_floatToIntBits_5c35a_1 rfl rfl (Nat.le_of_ble_eq_true rfl) ?_
  refine rt_k ?_
  refine v_if_ne (tgt := 12) dJxf58ca_floatToIntBits_5c35a_4 (by decide) (fun hc4 => ?_) (fun hc4 => ?_)
  · exact absurd rfl hc4
  ·
    refine v_fload_n 0 dJxf58ca_floatToIntBits_5c35a_7 rfl rfl ?_
    refine v_rf cs_Jxf58ca_74 dJxf58ca_floatToIntBits_5c35a_8 (Nat.le_of_ble_eq_true rfl) ?_
    skip
    refine v_iret dJxf58ca_floatToIntBits_5c35a_11 rfl (by first | rfl | decide | exact nar_b (by first | assumption | rfl)) ?_
    exact ⟨rfl, rfl⟩

set_option maxRecDepth 20000 in
set_option maxHeartbeats 4000000 in
theorem c_Jxe99ae_doubleToLongBits_ccdee {G : Cx} (d : Nat) {μ : Hp} {k : Nat} {x : UInt64} (h : B64 k x) : Ct G (d + 1) 0 0 M_Jxe99ae_doubleToLongBits_ccdee [.double x] μ (Rt (some (.long x.toInt64)) μ) := by
  refine Ct.ofV (by decide +kernel) (Nat.le_of_ble_eq_true rfl) ?_
  refine v_ls (ls' := [(0, .double x)]) rfl ?_
  refine v_dload_n 0 dJxe99ae_doubleToLongBits_ccdee_0 rfl rfl ?_
  refine v_callS (c_Jxe99ae_isNaN_b9ae7 d h) cs_Jxe99ae_122 dJxe99ae_doubleToLongBits_ccdee_1 rfl rfl (Nat.le_of_ble_eq_true rfl) ?_
  refine rt_k ?_
  refine v_if_ne (tgt := 12) dJxe99ae_doubleToLongBits_ccdee_4 (by decide) (fun hc4 => ?_) (fun hc4 => ?_)
  · exact absurd rfl hc4
  ·
    refine v_dload_n 0 dJxe99ae_doubleToLongBits_ccdee_7 rfl rfl ?_
    refine v_rd cs_Jxe99ae_134 dJxe99ae_doubleToLongBits_ccdee_8 (Nat.le_of_ble_eq_true rfl) ?_
    skip
    refine v_lret dJxe99ae_doubleToLongBits_ccdee_11 rfl ?_
    exact ⟨rfl, rfl⟩

set_option maxRecDepth 20000 in
set_option maxHeartbeats 4000000 in
theorem c_X7_meterNow {G : Cx} (d : Nat) {μ : Hp} {B : LT} {m un lr mr hr le at9 fa op tr sg hm hi : Int32} {co wh : Int64} (h60 : μ 60 = some (modC m co wh un lr mr hr le at9 fa op tr sg hm hi)) (h63 : μ 63 = some (mlg B)) (hB : Ph 1125899906842624 40 B) : Ct G (d) 0 0 M_X7_meterNow [.ref 60] μ (Rt (some (.double (meaO B))) μ) := by
  refine Ct.ofV (by decide +kernel) (Nat.le_of_ble_eq_true rfl) ?_
  refine v_ls (ls' := [(0, .ref 60)]) rfl ?_
  refine v_aload_n 0 dX7_meterNow_0 rfl rfl ?_
  refine v_get fl_X7_21 dX7_meterNow_1 h60 rfl ?_
  refine v_iconst (v := 0) dX7_meterNow_4 (by first | rfl | decide) ?_
  refine v_lald dX7_meterNow_5 h63 (nI_in' (k := 0) (by decide)) ?_
  refine v_l2d dX7_meterNow_6 ?_
  refine v_lconst (v := 1) dX7_meterNow_7 (by first | rfl | decide) ?_
  refine v_aload_n 0 dX7_meterNow_8 rfl rfl ?_
  refine v_get fl_X7_21 dX7_meterNow_9 h60 rfl ?_
  refine v_iconst (v := 4) dX7_meterNow_12 (by first | rfl | decide) ?_
  refine v_lald dX7_meterNow_13 h63 (nI_in' (k := 4) (by decide)) ?_
  refine v_l2i dX7_meterNow_14 ?_
  rw [show lvO B (4 : Int32).toNatClampNeg = B.2.2.2.2.toInt64 from rfl, e_rt]
  refine v_lshl dX7_meterNow_15 ?_
  refine v_l2d dX7_meterNow_16 ?_
  refine v_ddiv dX7_meterNow_17 ((mea_b hB).n) ?_
  refine v_dret dX7_meterNow_18 rfl ?_
  exact ⟨rfl, rfl⟩

set_option maxRecDepth 20000 in
set_option maxHeartbeats 4000000 in
theorem c_X7_meterAll {G : Cx} (d : Nat) {μ : Hp} {σ : ST} {p : Nat → Int32} {nw : Nat → Int64} {un lr mr hr le at9 fa op tr sg hm hi : Int32} {co wh : Int64} (h60 : μ 60 = some (modC (nI (sP σ).length) co wh un lr mr hr le at9 fa op tr sg hm hi)) (h61 : μ 61 = some (mlg (sM σ))) (h62 : μ 62 = some (arI 8 p)) (h63 : μ 63 = some (arJ 5 nw)) (hpl : Pl (sP σ) p) (hw : Wp (sP σ)) (hph : Ph 1000 0 (sM σ)) : Ct G (d + 5) 0 0 M_X7_meterAll [.ref 60] μ (Rt (some (.float (allM σ))) (up μ 63 (mlg (behO σ (sP σ).length)))) := by
  refine Ct.ofV (by decide +kernel) (Nat.le_of_ble_eq_true rfl) ?_
  refine v_ls (ls' := [(0, .ref 60)]) rfl ?_
  have hl8 := hw.1
  have heb : Eb 100 (sM σ) := ⟨hph.2.2.2.1, by have := hph.2.2.2.2; omega⟩
  have hB9 : Ph 1125899906842624 40 (behO σ (sP σ).length) := run8_ph hph (fun c hc => hw.2 c (List.mem_of_mem_take hc)) (by rw [List.length_take]; omega)
  refine v_aload_n 0 dX7_meterAll_0 rfl rfl ?_
  refine v_aload_n 0 dX7_meterAll_1 rfl rfl ?_
  refine v_get fl_X7_91 dX7_meterAll_2 h60 rfl ?_
  refine v_callV (c_X7_behind d h60 h62 hpl hl8 hw.2 (Nat.le_refl _) h61 h63 heb) cs_X7_195 dX7_meterAll_5 h60 rfl rfl (Nat.le_of_ble_eq_true rfl) ?_
  refine rt_k ?_
  refine v_aload_n 0 dX7_meterAll_8 rfl rfl ?_
  refine v_callV (c_X7_meterNow (d + 4) (up_n (by decide) h60) (up_s _ _ _) hB9) cs_X7_287 dX7_meterAll_9 (up_n (by decide) h60) rfl rfl (Nat.le_of_ble_eq_true rfl) ?_
  refine rt_k ?_
  refine v_d2f dX7_meterAll_12 (((mea_b hB9).d2f (by decide)).n) ?_
  refine v_fret dX7_meterAll_13 rfl ?_
  exact ⟨rfl, rfl⟩

set_option maxRecDepth 20000 in
set_option maxHeartbeats 4000000 in
theorem c_X7_meter {G : Cx} (d : Nat) {μ : Hp} {σ : ST} {k : Int32} {w : Int32} (h : Mo σ μ) (hw : Wp (sP σ)) (hph : Ph 1000 0 (sM σ)) : Ct G (d + 6) 0 0 M_X7_meter [.ref 60, .int k, .int w] μ (Pm (σ) (.long (rMeter σ k w)) μ) := by
  refine Ct.ofV (by decide +kernel) (Nat.le_of_ble_eq_true rfl) ?_
  refine v_ls (ls' := [(0, .ref 60), (1, .int k), (2, .int w)]) rfl ?_
  obtain ⟨co, wh, un, lr, mr, hr, at9, fa, op, sg, hm, p, tt, ro, og, tc, op9, sp, nw, se, le, mo, ot, h60, h61, h62, h63, h64, h65, h66, h67, h68, h69, h70, h71, h72, h73, h74, h75, h76, h77, h78, h79, h80, hmk, hpl, htp, ht60⟩ := id h
  have hl8 := hw.1
  have heb : Eb 100 (sM σ) := ⟨hph.2.2.2.1, by have := hph.2.2.2.2; omega⟩
  refine v_aload_n 0 dX7_meter_0 rfl rfl ?_
  refine v_iload_n 1 dX7_meter_1 rfl rfl ?_
  refine v_callV (c_X7_isBeh (d + 4) h60 (by omega)) cs_X7_188 dX7_meter_2 h60 rfl rfl (Nat.le_of_ble_eq_true rfl) ?_
  refine rt_k ?_
  refine v_if_eq (tgt := 18) dX7_meter_5 (by decide) (fun hc5 => ?_) (fun hc5 => ?_)
  ·
    refine v_ldc2 kc_X7_193 dX7_meter_18 ?_
    refine v_lret dX7_meter_21 rfl ?_
    have hE : rMeter σ k w = VD := by
      first
        | (simp only [rMeter, if_pos hc5]; done)
        | (grind [rMeter]; done)
    rw [hE]
    exact ⟨rfl, h, Fp.rf μ⟩
  ·
    refine v_iload_n 2 dX7_meter_8 rfl rfl ?_
    refine v_i2l dX7_meter_9 ?_
    refine v_lconst (v := 0) dX7_meter_10 (by first | rfl | decide) ?_
    refine v_lconst (v := 1) dX7_meter_11 (by first | rfl | decide) ?_
    refine v_callS (c_X7_inL (d + 5) 1 2 1 (by decide) rfl rfl) cs_X7_95 dX7_meter_12 rfl rfl (Nat.le_of_ble_eq_true rfl) ?_
    refine rt_k ?_
    refine v_if_ne (tgt := 22) dX7_meter_15 (by decide) (fun hc15 => ?_) (fun hc15 => ?_)
    ·
      obtain ⟨b, hb9, rfl⟩ := be_ix (by omega) hc5
      have hcb : (nI b).toNatClampNeg = b := clamp (by omega)
      have hB9 : Ph 1125899906842624 40 (behO σ b) := run8_ph hph (fun c hc => hw.2 c (List.mem_of_mem_take hc)) (by rw [List.length_take]; omega)
      refine v_aload_n 0 dX7_meter_22 rfl rfl ?_
      refine v_iload_n 1 dX7_meter_23 rfl rfl ?_
      refine v_callV (c_X7_behind (d + 1) h60 h62 hpl hl8 hw.2 (by omega) h61 h63 heb) cs_X7_195 dX7_meter_24 h60 rfl rfl (Nat.le_of_ble_eq_true rfl) ?_
      refine rt_k ?_
      refine v_aload_n 0 dX7_meter_27 rfl rfl ?_
      refine v_callV (c_X7_meterNow (d + 5) (up_n (by decide) h60) (up_s _ _ _) hB9) cs_X7_287 dX7_meter_28 (up_n (by decide) h60) rfl rfl (Nat.le_of_ble_eq_true rfl) ?_
      refine rt_k ?_
      refine v_dstore_n dX7_meter_31 rfl (by decide) (fun x3_1 e_x3_1 => ?_)
      refine v_ls (ls' := [(3, .double x3_1), (0, .ref 60), (1, .int (nI b)), (2, .int w)]) rfl ?_
      subst e_x3_1
      refine v_iload_n 3 dX7_meter_32 rfl rfl ?_
      refine v_if_ne (tgt := 45) dX7_meter_33 (by decide) (fun hc33 => ?_) (fun hc33 => ?_)
      ·
        refine v_dload_n 0 dX7_meter_45 rfl rfl ?_
        refine v_callS (c_Jxe99ae_doubleToLongBits_ccdee (d + 4) (mea_b hB9)) cs_X7_299 dX7_meter_46 rfl rfl (Nat.le_of_ble_eq_true rfl) ?_
        refine rt_k ?_
        refine v_lret dX7_meter_49 rfl ?_
        have hE : rMeter σ (nI b) w = (meaO (behO σ b)).toInt64 := by simp only [rMeter, if_neg hc5, if_neg hc15, hcb, if_neg hc33]
        rw [hE]
        exact ⟨rfl, h.now _, fun i hi => by repeat (first | rfl | refine up_n (by omega) ?_)⟩
      ·
        refine v_dload_n 0 dX7_meter_36 rfl rfl ?_
        refine v_d2f dX7_meter_37 (((mea_b hB9).d2f (by decide)).n) ?_
        refine v_callS (c_Jxf58ca_floatToIntBits_5c35a (d + 4) ((mea_b hB9).d2f (by decide))) cs_X7_293 dX7_meter_38 rfl rfl (Nat.le_of_ble_eq_true rfl) ?_
        refine rt_k ?_
        refine v_i2l dX7_meter_41 ?_
        refine v_goto (tgt := 49) dX7_meter_42 (by decide) ?_
        refine v_lret dX7_meter_49 rfl ?_
        have hE : rMeter σ (nI b) w = (FP.d2f (meaO (behO σ b))).toInt32.toInt64 := by simp only [rMeter, if_neg hc5, if_neg hc15, hcb, if_pos hc33]
        rw [hE]
        exact ⟨rfl, h.now _, fun i hi => by repeat (first | rfl | refine up_n (by omega) ?_)⟩
    ·
      refine v_ldc2 kc_X7_193 dX7_meter_18 ?_
      refine v_lret dX7_meter_21 rfl ?_
      have hE : rMeter σ k w = VD := by
        first
          | (simp only [rMeter, if_neg hc5, if_pos hc15]; done)
          | (grind [rMeter]; done)
      rw [hE]
      exact ⟨rfl, h, Fp.rf μ⟩

set_option maxRecDepth 20000 in
set_option maxHeartbeats 4000000 in
theorem c_X7_expose {G : Cx} (d : Nat) {μ : Hp} {σ : ST} {c : Int32} (h : Mo σ μ) (hw : Wp (sP σ)) {K : Nat} (hK : K < 8192) (hfm : ∀ j, j < 8 → B32 K (sF σ j)) (hph : Ph 1000 0 (sM σ)) : Ct G (d + 6) 0 0 M_X7_expose [.ref 60, .int c] μ (Pm ((rExpose σ c).2) (.int ((rExpose σ c).1)) μ) := by
  refine Ct.ofV (by decide +kernel) (Nat.le_of_ble_eq_true rfl) ?_
  refine v_ls (ls' := [(0, .ref 60), (1, .int c)]) rfl ?_
  obtain ⟨co, wh, un, lr, mr, hr, at9, fa, op, sg, hm, p, tt, ro, og, tc, op9, sp, nw, se, le, mo, ot, h60, h61, h62, h63, h64, h65, h66, h67, h68, h69, h70, h71, h72, h73, h74, h75, h76, h77, h78, h79, h80, hmk, hpl, htp, ht60⟩ := id h
  have hl8 := hw.1
  refine v_iload_n 1 dX7_expose_0 rfl rfl ?_
  refine v_callS (c_X7_isCell (d + 4) ) cs_X7_305 dX7_expose_1 rfl rfl (Nat.le_of_ble_eq_true rfl) ?_
  refine rt_k ?_
  refine v_if_ne (tgt := 9) dX7_expose_4 (by decide) (fun hc4 => ?_) (fun hc4 => ?_)
  ·
    obtain ⟨n, hn9, rfl⟩ := in_ix (n := 8) (by decide) hc4
    have hcn : (nI n).toNatClampNeg = n := clamp (by omega)
    refine v_aload_n 0 dX7_expose_9 rfl rfl ?_
    refine v_get fl_X7_48 dX7_expose_10 h60 rfl ?_
    refine v_iload_n 1 dX7_expose_13 rfl rfl ?_
    refine v_aload_n 0 dX7_expose_14 rfl rfl ?_
    refine v_get fl_X7_48 dX7_expose_15 h60 rfl ?_
    refine v_iload_n 1 dX7_expose_18 rfl rfl ?_
    refine v_fald dX7_expose_19 h72 (nI_in' hn9) ?_
    refine v_aload_n 0 dX7_expose_20 rfl rfl ?_
    refine v_callV (c_X7_meterAll d h60 h61 h62 h63 hpl hw hph) cs_X7_308 dX7_expose_21 h60 rfl rfl (Nat.le_of_ble_eq_true rfl) ?_
    refine rt_k ?_
    rw [hcn]
    have hA : B32 (K + 1) (FP.fadd (sF σ n) (allM σ)) := (hfm n hn9).add (B64.d2f (mea_b (run8_ph hph (fun c hc => hw.2 c (List.mem_of_mem_take hc)) (by rw [List.length_take]; omega))) (by decide)) (by omega)
    refine v_fadd dX7_expose_24 (hA.n) ?_
    refine v_fast dX7_expose_25 (up_n (by decide) h72) (nI_in' hn9) ?_
    rw [hcn]
    refine v_aload_n 0 dX7_expose_26 rfl rfl ?_
    refine v_get fl_X7_48 dX7_expose_27 (up_n (by decide) (up_n (by decide) h60)) rfl ?_
    refine v_iload_n 1 dX7_expose_30 rfl rfl ?_
    refine v_fald dX7_expose_31 (up_s _ _ _) (nI_in' hn9) ?_
    rw [hcn, show vf_upd (sF σ) n (FP.fadd (sF σ n) (allM σ)) n = FP.fadd (sF σ n) (allM σ) from if_pos rfl]
    refine v_callS (c_Jxf58ca_floatToIntBits_5c35a (d + 4) (hA)) cs_X7_293 dX7_expose_32 rfl rfl (Nat.le_of_ble_eq_true rfl) ?_
    refine rt_k ?_
    refine v_iret dX7_expose_35 rfl (by first | rfl | decide | exact nar_b (by first | assumption | rfl)) ?_
    have hE : rExpose σ (nI n) = ((FP.fadd (sF σ n) (allM σ)).toInt32, toF σ (vf_upd (sF σ) n (FP.fadd (sF σ n) (allM σ)))) := by simp only [rExpose, if_neg hc4, fAt, hcn]
    rw [hE]
    exact ⟨rfl, ⟨co, wh, un, lr, mr, hr, at9, fa, op, sg, hm, p, tt, ro, og, tc, op9, sp, _, se, le, mo, ot, (up_n (by decide) (up_n (by decide) h60)), (up_n (by decide) (up_n (by decide) h61)), (up_n (by decide) (up_n (by decide) h62)), (up_n (by decide) (up_s _ _ _)), (up_n (by decide) (up_n (by decide) h64)), (up_n (by decide) (up_n (by decide) h65)), (up_n (by decide) (up_n (by decide) h66)), (up_n (by decide) (up_n (by decide) h67)), (up_n (by decide) (up_n (by decide) h68)), (up_n (by decide) (up_n (by decide) h69)), (up_n (by decide) (up_n (by decide) h70)), (up_n (by decide) (up_n (by decide) h71)), (up_s _ _ _), (up_n (by decide) (up_n (by decide) h73)), (up_n (by decide) (up_n (by decide) h74)), (up_n (by decide) (up_n (by decide) h75)), (up_n (by decide) (up_n (by decide) h76)), (up_n (by decide) (up_n (by decide) h77)), (up_n (by decide) (up_n (by decide) h78)), (up_n (by decide) (up_n (by decide) h79)), (up_n (by decide) (up_n (by decide) h80)), (hmk.kept (fun i a b => by repeat (first | rfl | refine up_n (by omega) ?_))), hpl, htp, ht60⟩, fun i hi => by repeat (first | rfl | refine up_n (by omega) ?_)⟩
  ·
    refine v_iconst (v := -1) dX7_expose_7 (by first | rfl | decide) ?_
    refine v_iret dX7_expose_8 rfl (by first | rfl | decide | exact nar_b (by first | assumption | rfl)) ?_
    have hE : rExpose σ c = (-1, σ) := by
      first
        | (simp only [rExpose, if_pos hc4]; done)
        | (grind [rExpose]; done)
    rw [hE]
    exact ⟨rfl, h, Fp.rf μ⟩

set_option maxRecDepth 20000 in
set_option maxHeartbeats 4000000 in
theorem c_X7_dim {G : Cx} (d : Nat) {μ : Hp} {σ : ST} {c : Int32} {x : Int32} (h : Mo σ μ) (hw : Wp (sP σ)) {K : Nat} (hK : K < 8192) (hfm : ∀ j, j < 8 → B32 K (sF σ j)) : Ct G (d + 3) 0 0 M_X7_dim [.ref 60, .int c, .int x] μ (Pm ((rDim σ c x).2) (.int ((rDim σ c x).1)) μ) := by
  refine Ct.ofV (by decide +kernel) (Nat.le_of_ble_eq_true rfl) ?_
  refine v_ls (ls' := [(0, .ref 60), (1, .int c), (2, .int x)]) rfl ?_
  obtain ⟨co, wh, un, lr, mr, hr, at9, fa, op, sg, hm, p, tt, ro, og, tc, op9, sp, nw, se, le, mo, ot, h60, h61, h62, h63, h64, h65, h66, h67, h68, h69, h70, h71, h72, h73, h74, h75, h76, h77, h78, h79, h80, hmk, hpl, htp, ht60⟩ := id h
  have hl8 := hw.1
  refine v_iload_n 1 dX7_dim_0 rfl rfl ?_
  refine v_callS (c_X7_isCell (d + 1) ) cs_X7_305 dX7_dim_1 rfl rfl (Nat.le_of_ble_eq_true rfl) ?_
  refine rt_k ?_
  refine v_if_ne (tgt := 9) dX7_dim_4 (by decide) (fun hc4 => ?_) (fun hc4 => ?_)
  ·
    refine v_iload_n 2 dX7_dim_9 rfl rfl ?_
    refine v_i2l dX7_dim_10 ?_
    refine v_lconst (v := 0) dX7_dim_11 (by first | rfl | decide) ?_
    refine v_ldc2 kc_X7_9 dX7_dim_12 ?_
    refine v_callS (c_X7_inL (d + 2) 16 17 16 (by decide) rfl rfl) cs_X7_95 dX7_dim_15 rfl rfl (Nat.le_of_ble_eq_true rfl) ?_
    refine rt_k ?_
    refine v_if_ne (tgt := 24) dX7_dim_18 (by decide) (fun hc18 => ?_) (fun hc18 => ?_)
    ·
      obtain ⟨n, hn9, rfl⟩ := in_ix (n := 8) (by decide) hc4
      have hcn : (nI n).toNatClampNeg = n := clamp (by omega)
      obtain ⟨b, hb9, rfl⟩ := in_ix (n := 17) (by decide) hc18
      have hcb : (nI b).toNatClampNeg = b := clamp (by omega)
      have hA := (hfm n hn9).dim hb9 (by omega)
      refine v_aload_n 0 dX7_dim_24 rfl rfl ?_
      refine v_get fl_X7_48 dX7_dim_25 h60 rfl ?_
      refine v_iload_n 1 dX7_dim_28 rfl rfl ?_
      refine v_fald dX7_dim_29 h72 (nI_in' hn9) ?_
      refine v_iload_n 2 dX7_dim_30 rfl rfl ?_
      refine v_i2f dX7_dim_31 ?_
      rw [hcn]
      refine v_fmul dX7_dim_32 (hA.1.n) ?_
      refine v_fstore_n dX7_dim_33 rfl (by decide) (fun x3_1 e_x3_1 => ?_)
      refine v_ls (ls' := [(3, .float x3_1), (0, .ref 60), (1, .int (nI n)), (2, .int (nI b))]) rfl ?_
      subst e_x3_1
      refine v_aload_n 1 dX7_dim_34 rfl rfl ?_
      refine v_get fl_X7_48 dX7_dim_35 h60 rfl ?_
      refine v_iload_n 2 dX7_dim_38 rfl rfl ?_
      refine v_fload_n 0 dX7_dim_39 rfl rfl ?_
      refine v_ldcwf kc_X7_312 dX7_dim_40 ?_
      refine v_fdiv dX7_dim_43 (hA.2.n) ?_
      refine v_fast dX7_dim_44 h72 (nI_in' hn9) ?_
      rw [hcn]
      refine v_aload_n 1 dX7_dim_45 rfl rfl ?_
      refine v_get fl_X7_48 dX7_dim_46 (up_n (by decide) h60) rfl ?_
      refine v_iload_n 2 dX7_dim_49 rfl rfl ?_
      refine v_fald dX7_dim_50 (up_s _ _ _) (nI_in' hn9) ?_
      rw [hcn, show vf_upd (sF σ) n (FP.fdiv (FP.fmul (sF σ n) (FP.i2f (nI b))) 1098907648) n = dimO (sF σ n) (nI b) from if_pos rfl]
      refine v_callS (c_Jxf58ca_floatToIntBits_5c35a (d + 1) (hA.2)) cs_X7_293 dX7_dim_51 rfl rfl (Nat.le_of_ble_eq_true rfl) ?_
      refine rt_k ?_
      refine v_iret dX7_dim_54 rfl (by first | rfl | decide | exact nar_b (by first | assumption | rfl)) ?_
      have hE : rDim σ (nI n) (nI b) = ((dimO (sF σ n) (nI b)).toInt32, toF σ (vf_upd (sF σ) n (dimO (sF σ n) (nI b)))) := by simp only [rDim, if_neg hc4, if_neg hc18, fAt, hcn]
      rw [hE]
      exact ⟨rfl, ⟨co, wh, un, lr, mr, hr, at9, fa, op, sg, hm, p, tt, ro, og, tc, op9, sp, nw, se, le, mo, ot, (up_n (by decide) h60), (up_n (by decide) h61), (up_n (by decide) h62), (up_n (by decide) h63), (up_n (by decide) h64), (up_n (by decide) h65), (up_n (by decide) h66), (up_n (by decide) h67), (up_n (by decide) h68), (up_n (by decide) h69), (up_n (by decide) h70), (up_n (by decide) h71), (up_s _ _ _), (up_n (by decide) h73), (up_n (by decide) h74), (up_n (by decide) h75), (up_n (by decide) h76), (up_n (by decide) h77), (up_n (by decide) h78), (up_n (by decide) h79), (up_n (by decide) h80), (hmk.kept (fun i a b => by repeat (first | rfl | refine up_n (by omega) ?_))), hpl, htp, ht60⟩, fun i hi => by repeat (first | rfl | refine up_n (by omega) ?_)⟩
    ·
      refine v_bipush (v := -2) dX7_dim_21 (by first | rfl | decide) ?_
      refine v_iret dX7_dim_23 rfl (by first | rfl | decide | exact nar_b (by first | assumption | rfl)) ?_
      have hE : rDim σ c x = (-2, σ) := by
        first
          | (simp only [rDim, if_neg hc4, if_pos hc18]; done)
          | (grind [rDim]; done)
      rw [hE]
      exact ⟨rfl, h, Fp.rf μ⟩
  ·
    refine v_iconst (v := -1) dX7_dim_7 (by first | rfl | decide) ?_
    refine v_iret dX7_dim_8 rfl (by first | rfl | decide | exact nar_b (by first | assumption | rfl)) ?_
    have hE : rDim σ c x = (-1, σ) := by
      first
        | (simp only [rDim, if_pos hc4]; done)
        | (grind [rDim]; done)
    rw [hE]
    exact ⟨rfl, h, Fp.rf μ⟩

theorem cmp_gt (o9 : Option Ordering) : Op.cmpValue o9 .l ≤ 0 ↔ ¬ o9 = some .gt := by
  rcases o9 with _ | o9
  · decide
  · cases o9 <;> decide
theorem in3 {w : Int32} (h : ¬ inO w 3 = 0) : w = 0 ∨ w = 1 ∨ w = 2 := by
  obtain ⟨k, hk, rfl⟩ := in_ix (n := 3) (by decide) h
  match k, hk with
  | 0, _ => exact Or.inl rfl
  | 1, _ => exact Or.inr (Or.inl rfl)
  | 2, _ => exact Or.inr (Or.inr rfl)
theorem film_bad {σ : ST} {c w : Int32} (h4 : ¬ inO c 8 = 0) (h : inO w 3 = 0) : rFilm σ c w = -1 := by
  have h0 : ¬ w = 0 := fun z => by rw [z] at h; exact absurd h (by decide)
  have h1 : ¬ w = 1 := fun z => by rw [z] at h; exact absurd h (by decide)
  have h2 : ¬ w = 2 := fun z => by rw [z] at h; exact absurd h (by decide)
  simp only [rFilm, if_neg h4, if_neg h0, if_neg h1, if_neg h2]
set_option maxRecDepth 20000 in
set_option maxHeartbeats 4000000 in
theorem c_X7_film {G : Cx} (d : Nat) {μ : Hp} {σ : ST} {c : Int32} {w : Int32} (h : Mo σ μ) (hw : Wp (sP σ)) {K : Nat} (hK : K < 8192) (hfm : ∀ j, j < 8 → B32 K (sF σ j)) (hph : Ph 1000 0 (sM σ)) : Ct G (d + 6) 0 0 M_X7_film [.ref 60, .int c, .int w] μ (Pm (σ) (.int (rFilm σ c w)) μ) := by
  refine Ct.ofV (by decide +kernel) (Nat.le_of_ble_eq_true rfl) ?_
  refine v_ls (ls' := [(0, .ref 60), (1, .int c), (2, .int w)]) rfl ?_
  obtain ⟨co, wh, un, lr, mr, hr, at9, fa, op, sg, hm, p, tt, ro, og, tc, op9, sp, nw, se, le, mo, ot, h60, h61, h62, h63, h64, h65, h66, h67, h68, h69, h70, h71, h72, h73, h74, h75, h76, h77, h78, h79, h80, hmk, hpl, htp, ht60⟩ := id h
  have hl8 := hw.1
  refine v_iload_n 1 dX7_film_0 rfl rfl ?_
  refine v_callS (c_X7_isCell (d + 4) ) cs_X7_305 dX7_film_1 rfl rfl (Nat.le_of_ble_eq_true rfl) ?_
  refine rt_k ?_
  refine v_if_eq (tgt := 19) dX7_film_4 (by decide) (fun hc4 => ?_) (fun hc4 => ?_)
  ·
    refine v_iconst (v := -1) dX7_film_19 (by first | rfl | decide) ?_
    refine v_iret dX7_film_20 rfl (by first | rfl | decide | exact nar_b (by first | assumption | rfl)) ?_
    have hE : rFilm σ c w = -1 := by
      first
        | (simp only [rFilm, if_pos hc4]; done)
        | exact film_bad hc4 hc16
    rw [hE]
    exact ⟨rfl, h, Fp.rf μ⟩
  ·
    refine v_iload_n 2 dX7_film_7 rfl rfl ?_
    refine v_i2l dX7_film_8 ?_
    refine v_lconst (v := 0) dX7_film_9 (by first | rfl | decide) ?_
    refine v_ldc2 kc_X7_99 dX7_film_10 ?_
    refine v_callS (c_X7_inL (d + 5) 2 3 2 (by decide) rfl rfl) cs_X7_95 dX7_film_13 rfl rfl (Nat.le_of_ble_eq_true rfl) ?_
    refine rt_k ?_
    refine v_if_ne (tgt := 21) dX7_film_16 (by decide) (fun hc16 => ?_) (fun hc16 => ?_)
    ·
      obtain ⟨n, hn9, rfl⟩ := in_ix (n := 8) (by decide) hc4
      have hcn : (nI n).toNatClampNeg = n := clamp (by omega)
      refine v_iload_n 2 dX7_film_21 rfl rfl ?_
      refine v_iconst (v := 2) dX7_film_22 (by first | rfl | decide) ?_
      refine v_icmp_ne (tgt := 46) dX7_film_23 (by decide) (fun hc23 => ?_) (fun hc23 => ?_)
      ·
        refine v_iload_n 2 dX7_film_46 rfl rfl ?_
        refine v_if_ne (tgt := 62) dX7_film_47 (by decide) (fun hc47 => ?_) (fun hc47 => ?_)
        ·
          refine v_aload_n 0 dX7_film_62 rfl rfl ?_
          refine v_get fl_X7_48 dX7_film_63 h60 rfl ?_
          refine v_iload_n 1 dX7_film_66 rfl rfl ?_
          refine v_fald dX7_film_67 h72 (nI_in' hn9) ?_
          refine v_ldcwf kc_X7_313 dX7_film_68 ?_
          rw [hcn]
          refine v_fmul dX7_film_71 (((hfm n hn9).thou (by omega)).n) ?_
          refine v_f2i dX7_film_72 ?_
          refine v_iret dX7_film_73 rfl (by first | rfl | decide | exact nar_b (by first | assumption | rfl)) ?_
          have hw1 : w = 1 := ((in3 hc16).resolve_left hc47).resolve_right hc23
          have hE : rFilm σ (nI n) w = FP.f2i (FP.fmul (sF σ n) 1148846080) := by simp only [rFilm, if_neg hc4, if_neg hc47, if_pos hw1, fAt, hcn]
          rw [hE]
          exact ⟨rfl, h, Fp.rf μ⟩
        ·
          refine v_aload_n 0 dX7_film_50 rfl rfl ?_
          refine v_get fl_X7_48 dX7_film_51 h60 rfl ?_
          refine v_iload_n 1 dX7_film_54 rfl rfl ?_
          refine v_fald dX7_film_55 h72 (nI_in' hn9) ?_
          rw [hcn]
          refine v_callS (c_Jxf58ca_floatToIntBits_5c35a (d + 4) (hfm n hn9)) cs_X7_293 dX7_film_56 rfl rfl (Nat.le_of_ble_eq_true rfl) ?_
          refine rt_k ?_
          refine v_goto (tgt := 73) dX7_film_59 (by decide) ?_
          refine v_iret dX7_film_73 rfl (by first | rfl | decide | exact nar_b (by first | assumption | rfl)) ?_
          have hE : rFilm σ (nI n) w = (sF σ n).toInt32 := by simp only [rFilm, if_neg hc4, if_pos hc47, fAt, hcn]
          rw [hE]
          exact ⟨rfl, h, Fp.rf μ⟩
      ·
        refine v_aload_n 0 dX7_film_26 rfl rfl ?_
        refine v_get fl_X7_48 dX7_film_27 h60 rfl ?_
        refine v_iload_n 1 dX7_film_30 rfl rfl ?_
        refine v_fald dX7_film_31 h72 (nI_in' hn9) ?_
        refine v_aload_n 0 dX7_film_32 rfl rfl ?_
        refine v_callV (c_X7_meterAll d h60 h61 h62 h63 hpl hw hph) cs_X7_308 dX7_film_33 h60 rfl rfl (Nat.le_of_ble_eq_true rfl) ?_
        refine rt_k ?_
        rw [hcn]
        refine v_fcmp dX7_film_36 ?_
        refine v_if_le (tgt := 44) dX7_film_37 (by decide) (fun hc37 => ?_) (fun hc37 => ?_)
        ·
          refine v_iconst (v := 0) dX7_film_44 (by first | rfl | decide) ?_
          refine v_iret dX7_film_45 rfl (by first | rfl | decide | exact nar_b (by first | assumption | rfl)) ?_
          rw [cmp_gt] at hc37
          have hE : rFilm σ (nI n) w = 0 := by simp only [rFilm, if_neg hc4, if_neg (show ¬ w = 0 by rw [hc23]; decide), if_neg (show ¬ w = 1 by rw [hc23]; decide), if_pos hc23, if_neg hc37, fAt, hcn]
          rw [hE]
          exact ⟨rfl, h.now _, fun i hi => by repeat (first | rfl | refine up_n (by omega) ?_)⟩
        ·
          refine v_iconst (v := 1) dX7_film_40 (by first | rfl | decide) ?_
          refine v_goto (tgt := 45) dX7_film_41 (by decide) ?_
          refine v_iret dX7_film_45 rfl (by first | rfl | decide | exact nar_b (by first | assumption | rfl)) ?_
          rw [cmp_gt] at hc37
          have hc37 := Classical.not_not.mp hc37
          have hE : rFilm σ (nI n) w = 1 := by simp only [rFilm, if_neg hc4, if_neg (show ¬ w = 0 by rw [hc23]; decide), if_neg (show ¬ w = 1 by rw [hc23]; decide), if_pos hc23, if_pos hc37, fAt, hcn]
          rw [hE]
          exact ⟨rfl, h.now _, fun i hi => by repeat (first | rfl | refine up_n (by omega) ?_)⟩
    ·
      refine v_iconst (v := -1) dX7_film_19 (by first | rfl | decide) ?_
      refine v_iret dX7_film_20 rfl (by first | rfl | decide | exact nar_b (by first | assumption | rfl)) ?_
      have hE : rFilm σ c w = -1 := by
        first
          | (simp only [rFilm, if_pos hc4]; done)
          | exact film_bad hc4 hc16
      rw [hE]
      exact ⟨rfl, h, Fp.rf μ⟩

set_option maxRecDepth 20000 in
set_option maxHeartbeats 4000000 in
theorem sum_loop {G : Cx} (d : Nat) {σ : ST} {w : Int32} {μ : Hp} (h : Mo σ μ) (hw : Wp (sP σ)) {K : Nat} (hK : K < 8192) (hfm : ∀ j, j < 8 → B32 K (sF σ j)) (hw2 : ¬ inO w 2 = 0) : ∀ (k9 : Nat) (j : Nat), j + k9 = 8 → V G M_X7_sumFilm (d + 2) 0 0 (Pm σ (.long (rSum σ w)) μ) 21 [(5, .int (nI j)), (3, .double (sumW (sF σ) j)), (2, .float (sumN (sF σ) j)), (0, .ref 60), (1, .int w)] [] (μ) := by
  intro k9
  induction k9 with
  | zero =>
    intro j hj
    obtain ⟨co, wh, un, lr, mr, hr, at9, fa, op, sg, hm, p, tt, ro, og, tc, op9, sp, nw, se, le, mo, ot, h60, h61, h62, h63, h64, h65, h66, h67, h68, h69, h70, h71, h72, h73, h74, h75, h76, h77, h78, h79, h80, hmk, hpl, htp, ht60⟩ := id h
    have hl8 := hw.1
    have hbN := fun n (hn : n ≤ 8) => sumN_b (f := sF σ) (k := K) (by omega) n hn hfm
    have hbW := fun n (hn : n ≤ 8) => sumW_b (f := sF σ) (k := K) (by omega) n hn hfm
    refine v_iload 0 dX7_sumFilm_21 rfl ?_
    refine v_bipush (v := 8) dX7_sumFilm_23 (by first | rfl | decide) ?_
    refine v_icmp_ge (tgt := 55) dX7_sumFilm_25 (by decide) (fun hc25 => ?_) (fun hc25 => ?_)
    ·
      refine v_iload_n 4 dX7_sumFilm_55 rfl rfl ?_
      refine v_if_ne (tgt := 67) dX7_sumFilm_56 (by decide) (fun hc56 => ?_) (fun hc56 => ?_)
      ·
        refine v_dload_n 1 dX7_sumFilm_67 rfl rfl ?_
        refine v_callS (c_Jxe99ae_doubleToLongBits_ccdee d (hbW j (by omega))) cs_X7_299 dX7_sumFilm_68 rfl rfl (Nat.le_of_ble_eq_true rfl) ?_
        refine rt_k ?_
        refine v_lret dX7_sumFilm_71 rfl ?_
        obtain rfl : j = 8 := by omega
        have hE : rSum σ w = (sumW (sF σ) 8).toInt64 := by simp only [rSum, if_neg hw2, if_neg hc56]
        rw [hE]
        exact ⟨rfl, h, Fp.rf μ⟩
      ·
        refine v_fload_n 2 dX7_sumFilm_59 rfl rfl ?_
        refine v_callS (c_Jxf58ca_floatToIntBits_5c35a d (hbN j (by omega))) cs_X7_293 dX7_sumFilm_60 rfl rfl (Nat.le_of_ble_eq_true rfl) ?_
        refine rt_k ?_
        refine v_i2l dX7_sumFilm_63 ?_
        refine v_goto (tgt := 71) dX7_sumFilm_64 (by decide) ?_
        refine v_lret dX7_sumFilm_71 rfl ?_
        obtain rfl : j = 8 := by omega
        have hE : rSum σ w = (sumN (sF σ) 8).toInt32.toInt64 := by simp only [rSum, if_neg hw2, if_pos hc56]
        rw [hE]
        exact ⟨rfl, h, Fp.rf μ⟩
    · exact absurd ((nI_leI (a := 8) (by decide) (by omega)).mpr (by omega)) hc25
  | succ k9 ih =>
    intro j hj
    obtain ⟨co, wh, un, lr, mr, hr, at9, fa, op, sg, hm, p, tt, ro, og, tc, op9, sp, nw, se, le, mo, ot, h60, h61, h62, h63, h64, h65, h66, h67, h68, h69, h70, h71, h72, h73, h74, h75, h76, h77, h78, h79, h80, hmk, hpl, htp, ht60⟩ := id h
    have hl8 := hw.1
    have hbN := fun n (hn : n ≤ 8) => sumN_b (f := sF σ) (k := K) (by omega) n hn hfm
    have hbW := fun n (hn : n ≤ 8) => sumW_b (f := sF σ) (k := K) (by omega) n hn hfm
    refine v_iload 0 dX7_sumFilm_21 rfl ?_
    refine v_bipush (v := 8) dX7_sumFilm_23 (by first | rfl | decide) ?_
    refine v_icmp_ge (tgt := 55) dX7_sumFilm_25 (by decide) (fun hc25 => ?_) (fun hc25 => ?_)
    · have := (nI_leI (a := 8) (by decide) (by omega)).mp hc25
      omega
    ·
      refine v_fload_n 2 dX7_sumFilm_28 rfl rfl ?_
      refine v_aload_n 3 dX7_sumFilm_29 rfl rfl ?_
      refine v_get fl_X7_48 dX7_sumFilm_30 h60 rfl ?_
      refine v_iload 0 dX7_sumFilm_33 rfl ?_
      refine v_fald dX7_sumFilm_35 h72 (nI_in' (by omega)) ?_
      rw [clamp (show j < 2 ^ 31 by omega)]
      refine v_fadd dX7_sumFilm_36 ((hbN (j + 1) (by omega)).n) ?_
      refine v_fstore_n dX7_sumFilm_37 rfl (by decide) (fun y2 e_y2 => ?_)
      refine v_ls (ls' := [(2, .float y2), (5, .int (nI j)), (3, .double (sumW (sF σ) j)), (0, .ref 60), (1, .int w)]) rfl ?_
      subst e_y2
      refine v_dload_n 2 dX7_sumFilm_38 rfl rfl ?_
      refine v_aload_n 3 dX7_sumFilm_39 rfl rfl ?_
      refine v_get fl_X7_48 dX7_sumFilm_40 h60 rfl ?_
      refine v_iload 1 dX7_sumFilm_43 rfl ?_
      refine v_fald dX7_sumFilm_45 h72 (nI_in' (by omega)) ?_
      rw [clamp (show j < 2 ^ 31 by omega)]
      refine v_f2d dX7_sumFilm_46 ((B32.f2d (hfm j (by omega))).n) ?_
      refine v_dadd dX7_sumFilm_47 ((hbW (j + 1) (by omega)).n) ?_
      refine v_dstore_n dX7_sumFilm_48 rfl (by decide) (fun y3 e_y3 => ?_)
      refine v_ls (ls' := [(3, .double y3), (2, .float (FP.fadd (sumN (sF σ) j) (sF σ j))), (5, .int (nI j)), (0, .ref 60), (1, .int w)]) rfl ?_
      subst e_y3
      refine v_iinc (v := 1) 2 dX7_sumFilm_49 rfl rfl (by decide) (fun z e_z => ?_)
      refine v_ls (ls' := [(5, .int z), (3, .double (FP.dadd (sumW (sF σ) j) (FP.f2d (sF σ j)))), (2, .float (FP.fadd (sumN (sF σ) j) (sF σ j))), (0, .ref 60), (1, .int w)]) rfl ?_
      rw [nI_1] at e_z
      subst e_z
      refine v_goto (tgt := 21) dX7_sumFilm_52 (by decide) ?_
      refine v_pick [0, 1, 2, 3, 4] rfl ?_
      exact ih (j + 1) (by omega)
      

set_option maxRecDepth 20000 in
set_option maxHeartbeats 4000000 in
theorem c_X7_sumFilm {G : Cx} (d : Nat) {μ : Hp} {σ : ST} {w : Int32} (h : Mo σ μ) (hw : Wp (sP σ)) {K : Nat} (hK : K < 8192) (hfm : ∀ j, j < 8 → B32 K (sF σ j)) : Ct G (d + 2) 0 0 M_X7_sumFilm [.ref 60, .int w] μ (Pm (σ) (.long (rSum σ w)) μ) := by
  refine Ct.ofV (by decide +kernel) (Nat.le_of_ble_eq_true rfl) ?_
  refine v_ls (ls' := [(0, .ref 60), (1, .int w)]) rfl ?_
  obtain ⟨co, wh, un, lr, mr, hr, at9, fa, op, sg, hm, p, tt, ro, og, tc, op9, sp, nw, se, le, mo, ot, h60, h61, h62, h63, h64, h65, h66, h67, h68, h69, h70, h71, h72, h73, h74, h75, h76, h77, h78, h79, h80, hmk, hpl, htp, ht60⟩ := id h
  have hl8 := hw.1
  refine v_iload_n 1 dX7_sumFilm_0 rfl rfl ?_
  refine v_i2l dX7_sumFilm_1 ?_
  refine v_lconst (v := 0) dX7_sumFilm_2 (by first | rfl | decide) ?_
  refine v_lconst (v := 1) dX7_sumFilm_3 (by first | rfl | decide) ?_
  refine v_callS (c_X7_inL (d + 1) 1 2 1 (by decide) rfl rfl) cs_X7_95 dX7_sumFilm_4 rfl rfl (Nat.le_of_ble_eq_true rfl) ?_
  refine rt_k ?_
  refine v_if_ne (tgt := 14) dX7_sumFilm_7 (by decide) (fun hc7 => ?_) (fun hc7 => ?_)
  ·
    refine v_fconst0 dX7_sumFilm_14 ?_
    refine v_fstore_n dX7_sumFilm_15 rfl (by decide) (fun y2 e_y2 => ?_)
    refine v_ls (ls' := [(2, .float y2), (0, .ref 60), (1, .int w)]) rfl ?_
    subst e_y2
    refine v_dconst0 dX7_sumFilm_16 ?_
    refine v_dstore_n dX7_sumFilm_17 rfl (by decide) (fun y3 e_y3 => ?_)
    refine v_ls (ls' := [(3, .double y3), (2, .float FP.fconst0), (0, .ref 60), (1, .int w)]) rfl ?_
    subst e_y3
    refine v_iconst (v := 0) dX7_sumFilm_18 (by first | rfl | decide) ?_
    refine v_istore dX7_sumFilm_19 (by decide) (fun y5 e_y5 => ?_)
    refine v_ls (ls' := [(5, .int y5), (3, .double FP.dconst0), (2, .float FP.fconst0), (0, .ref 60), (1, .int w)]) rfl ?_
    subst e_y5
    exact sum_loop d h hw hK hfm hc7 8 0 (by omega)
    
  ·
    refine v_ldc2 kc_X7_193 dX7_sumFilm_10 ?_
    refine v_lret dX7_sumFilm_13 rfl ?_
    have hE : rSum σ w = VD := by
      first
        | (simp only [rSum, if_pos hc7]; done)
        | (grind [rSum]; done)
    rw [hE]
    exact ⟨rfl, h, Fp.rf μ⟩

