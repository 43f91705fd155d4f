theorem lv_inj {L K : LT} : alkO (lvO L) 0 (lvO K) 0 = 0 ↔ ¬ L = K := by
  have h : (lvO L 0 = lvO K 0 ∧ lvO L (0 + 1) = lvO K (0 + 1) ∧ lvO L (0 + 2) = lvO K (0 + 2) ∧ lvO L (0 + 3) = lvO K (0 + 3) ∧ lvO L (0 + 4) = lvO K (0 + 4)) ↔ L = K := by
    constructor
    · rintro ⟨h0, h1, h2, h3, h4⟩
      obtain ⟨a1, a2, a3, a4, a5⟩ := L
      obtain ⟨b1, b2, b3, b4, b5⟩ := K
      have h0 : a1 = b1 := h0
      have h1 : a2 = b2 := h1
      have h2 : a3 = b3 := h2
      have h3 : a4 = b4 := h3
      have h4 : a5 = b5 := i64_inj h4
      rw [h0, h1, h2, h3, h4]
    · rintro rfl
      exact ⟨rfl, rfl, rfl, rfl, rfl⟩
  unfold alkO
  by_cases e : L = K
  · rw [if_pos (h.mpr e)]
    exact ⟨fun z => absurd z (by decide), fun z => absurd e z⟩
  · rw [if_neg (fun z => e (h.mp z))]
    exact ⟨fun _ => e, fun _ => rfl⟩
theorem Mo.oth {σ : ST} {μ : Hp} (h : Mo σ μ) (f : Nat → Int64) : Mo σ (up μ 69 (arJ 5 f)) := by
  obtain ⟨co, wh, un, lr, mr, hr, at9, fa, op, sg, hm, p, t, ro, og, tc, op9, sp, nw, se, le, mo, ot, h60, h61, h62, h63, h64, h65, h66, h67, h68, h69, h70, h71, h72, h73, h74, h75, h76, h77, h78, h79, h80, hmk, hp, ht, h9⟩ := h
  exact ⟨co, wh, un, lr, mr, hr, at9, fa, op, sg, hm, p, t, ro, og, tc, op9, sp, nw, se, le, mo, f, up_n (by decide) h60, up_n (by decide) h61, up_n (by decide) h62, up_n (by decide) h63, up_n (by decide) h64, up_n (by decide) h65, up_n (by decide) h66, up_n (by decide) h67, up_n (by decide) h68, up_s _ _ _, up_n (by decide) h70, up_n (by decide) h71, up_n (by decide) h72, up_n (by decide) h73, up_n (by decide) h74, up_n (by decide) h75, up_n (by decide) h76, up_n (by decide) h77, up_n (by decide) h78, up_n (by decide) h79, up_n (by decide) h80, hmk.kept (fun i a b => up_n (by omega) rfl), hp, ht, h9⟩
set_option maxRecDepth 20000 in
set_option maxHeartbeats 4000000 in
theorem trade7_loop {G : Cx} (d : Nat) {σ : ST} {μ0 : Hp} (hw : Wp (sP σ)) {n b : Nat} (hn9 : n < (sP σ).length) (hb9 : b < (sP σ).length) : ∀ (m : Nat) (j : Nat) (μ : Hp), j + m = 4 → Mo σ μ → Fp μ μ0 → V G M_X7_trade (d + 4) 0 0 (Pm σ (.int (trdN ((sP σ).getD n 0) ((sP σ).getD b 0) j m)) μ0) 20 [(3, .int (nI j)), (0, .ref 60), (1, .int (nI n)), (2, .int (nI b))] [] (μ) := by
  intro m
  induction m with
  | zero =>
    intro j μ hj h hF
    obtain ⟨co, wh, un, lr, mr, hr, at9, fa, op, sg, hm, p, tt, ro, og, tc, op9, sp, nw, se, le, mo, ot, h60, h61, h62, h63, h64, h65, h66, h67, h68, h69, h70, h71, h72, h73, h74, h75, h76, h77, h78, h79, h80, hmk, hpl, htp, ht60⟩ := id h
    have hl8 := hw.1
    refine v_iload_n 0 dX7_trade_20 rfl rfl ?_
    refine v_iconst (v := 4) dX7_trade_21 (by first | rfl | decide) ?_
    refine v_icmp_ge (tgt := 125) dX7_trade_22 (by decide) (fun hc22 => ?_) (fun hc22 => ?_)
    ·
      refine v_iconst (v := 1) dX7_trade_125 (by first | rfl | decide) ?_
      refine v_iret dX7_trade_126 rfl (by first | rfl | decide | exact nar_b (by first | assumption | rfl)) ?_
      exact ⟨rfl, h, hF⟩
    · exact absurd ((nI_leI (a := 4) (by decide) (by omega)).mpr (by omega)) hc22
  | succ m ih =>
    intro j μ hj h hF
    obtain ⟨co, wh, un, lr, mr, hr, at9, fa, op, sg, hm, p, tt, ro, og, tc, op9, sp, nw, se, le, mo, ot, h60, h61, h62, h63, h64, h65, h66, h67, h68, h69, h70, h71, h72, h73, h74, h75, h76, h77, h78, h79, h80, hmk, hpl, htp, ht60⟩ := id h
    have hl8 := hw.1
    refine v_iload_n 0 dX7_trade_20 rfl rfl ?_
    refine v_iconst (v := 4) dX7_trade_21 (by first | rfl | decide) ?_
    refine v_icmp_ge (tgt := 125) dX7_trade_22 (by decide) (fun hc22 => ?_) (fun hc22 => ?_)
    · have := (nI_leI (a := 4) (by decide) (by omega)).mp hc22
      omega
    ·
      refine v_aload_n 1 dX7_trade_25 rfl rfl ?_
      refine v_iload_n 0 dX7_trade_26 rfl rfl ?_
      refine v_callV (c_X7_begins1 (d + 3) (show j < 4 by omega) h60 h63) cs_X7_265 dX7_trade_27 h60 rfl rfl (Nat.le_of_ble_eq_true rfl) ?_
      refine rt_k ?_
      refine v_aload_n 1 dX7_trade_30 rfl rfl ?_
      refine v_get fl_X7_21 dX7_trade_31 (up_n (by decide) h60) rfl ?_
      refine v_aload_n 1 dX7_trade_34 rfl rfl ?_
      refine v_get fl_X7_17 dX7_trade_35 (up_n (by decide) h60) rfl ?_
      refine v_iload_n 2 dX7_trade_38 rfl rfl ?_
      refine v_iald dX7_trade_39 (up_n (by decide) h62) (nI_in' (by omega)) ?_
      rw [clamp (show n < 2 ^ 31 by omega), ← getD_at hpl hn9]
      refine v_callS (c_X7_goes d (up_s _ _ _) (unit_e _ _) (hw.at hn9)) cs_X7_149 dX7_trade_40 rfl rfl (Nat.le_of_ble_eq_true rfl) ?_
      refine rt_k ?_
      refine v_hp (up_up _ _ _ _) ?_
      refine v_aload_n 1 dX7_trade_43 rfl rfl ?_
      refine v_get fl_X7_21 dX7_trade_44 (up_n (by decide) h60) rfl ?_
      refine v_aload_n 1 dX7_trade_47 rfl rfl ?_
      refine v_get fl_X7_17 dX7_trade_48 (up_n (by decide) h60) rfl ?_
      refine v_iload_n 3 dX7_trade_51 rfl rfl ?_
      refine v_iald dX7_trade_52 (up_n (by decide) h62) (nI_in' (by omega)) ?_
      rw [clamp (show b < 2 ^ 31 by omega), ← getD_at hpl hb9]
      refine v_callS (c_X7_goes d (up_s _ _ _) ⟨(passO_e (n := 0) (c := (sP σ).getD n 0) (unit_e (nI j) 0) (by decide)).1, by have := (passO_e (n := 0) (c := (sP σ).getD n 0) (unit_e (nI j) 0) (by decide)).2; omega⟩ (hw.at hb9)) cs_X7_149 dX7_trade_53 rfl rfl (Nat.le_of_ble_eq_true rfl) ?_
      refine rt_k ?_
      refine v_hp (up_up _ _ _ _) ?_
      refine v_aload_n 1 dX7_trade_56 rfl rfl ?_
      refine v_get fl_X7_21 dX7_trade_57 (up_n (by decide) h60) rfl ?_
      refine v_iconst (v := 0) dX7_trade_60 (by first | rfl | decide) ?_
      refine v_aload_n 1 dX7_trade_61 rfl rfl ?_
      refine v_get fl_X7_39 dX7_trade_62 (up_n (by decide) h60) rfl ?_
      refine v_iconst (v := 0) dX7_trade_65 (by first | rfl | decide) ?_
      refine v_iconst (v := 5) dX7_trade_66 (by first | rfl | decide) ?_
      refine v_copyl cs_X7_140 dX7_trade_67 (up_s _ _ _) (up_n (by decide) h69) rfl rfl (by decide) (by decide) (by decide) (by decide) (by decide) (fun i _ => rfl) (Nat.le_of_ble_eq_true rfl) ?_
      refine v_njJ (g := lvO (two ((sP σ).getD n 0) ((sP σ).getD b 0) (unitO (nI j)))) (all5 rfl rfl rfl rfl rfl) ?_
      refine v_aload_n 1 dX7_trade_70 rfl rfl ?_
      refine v_iload_n 0 dX7_trade_71 rfl rfl ?_
      refine v_callV (c_X7_begins1 (d + 3) (show j < 4 by omega) (up_n (by decide) (up_n (by decide) h60)) (up_n (by decide) (up_s _ _ _))) cs_X7_265 dX7_trade_72 (up_n (by decide) (up_n (by decide) h60)) rfl rfl (Nat.le_of_ble_eq_true rfl) ?_
      refine rt_k ?_
      refine v_aload_n 1 dX7_trade_75 rfl rfl ?_
      refine v_get fl_X7_21 dX7_trade_76 (up_n (by decide) (up_n (by decide) (up_n (by decide) h60))) rfl ?_
      refine v_aload_n 1 dX7_trade_79 rfl rfl ?_
      refine v_get fl_X7_17 dX7_trade_80 (up_n (by decide) (up_n (by decide) (up_n (by decide) h60))) rfl ?_
      refine v_iload_n 3 dX7_trade_83 rfl rfl ?_
      refine v_iald dX7_trade_84 (up_n (by decide) (up_n (by decide) (up_n (by decide) h62))) (nI_in' (by omega)) ?_
      rw [clamp (show b < 2 ^ 31 by omega), ← getD_at hpl hb9]
      refine v_callS (c_X7_goes d (up_s _ _ _) (unit_e _ _) (hw.at hb9)) cs_X7_149 dX7_trade_85 rfl rfl (Nat.le_of_ble_eq_true rfl) ?_
      refine rt_k ?_
      refine v_hp (up_up _ _ _ _) ?_
      refine v_aload_n 1 dX7_trade_88 rfl rfl ?_
      refine v_get fl_X7_21 dX7_trade_89 (up_n (by decide) (up_n (by decide) (up_n (by decide) h60))) rfl ?_
      refine v_aload_n 1 dX7_trade_92 rfl rfl ?_
      refine v_get fl_X7_17 dX7_trade_93 (up_n (by decide) (up_n (by decide) (up_n (by decide) h60))) rfl ?_
      refine v_iload_n 2 dX7_trade_96 rfl rfl ?_
      refine v_iald dX7_trade_97 (up_n (by decide) (up_n (by decide) (up_n (by decide) h62))) (nI_in' (by omega)) ?_
      rw [clamp (show n < 2 ^ 31 by omega), ← getD_at hpl hn9]
      refine v_callS (c_X7_goes d (up_s _ _ _) ⟨(passO_e (n := 0) (c := (sP σ).getD b 0) (unit_e (nI j) 0) (by decide)).1, by have := (passO_e (n := 0) (c := (sP σ).getD b 0) (unit_e (nI j) 0) (by decide)).2; omega⟩ (hw.at hn9)) cs_X7_149 dX7_trade_98 rfl rfl (Nat.le_of_ble_eq_true rfl) ?_
      refine rt_k ?_
      refine v_hp (up_up _ _ _ _) ?_
      refine v_aload_n 1 dX7_trade_101 rfl rfl ?_
      refine v_get fl_X7_21 dX7_trade_102 (up_n (by decide) (up_n (by decide) (up_n (by decide) h60))) rfl ?_
      refine v_iconst (v := 0) dX7_trade_105 (by first | rfl | decide) ?_
      refine v_aload_n 1 dX7_trade_106 rfl rfl ?_
      refine v_get fl_X7_39 dX7_trade_107 (up_n (by decide) (up_n (by decide) (up_n (by decide) h60))) rfl ?_
      refine v_iconst (v := 0) dX7_trade_110 (by first | rfl | decide) ?_
      refine v_callS (c_X7_areAlike (d + 3) (I := 0) (J := 0) (up_s _ _ _) (up_n (by decide) (up_s _ _ _)) (by decide) (by decide) (by decide) (by decide)) cs_X7_238 dX7_trade_111 rfl rfl (Nat.le_of_ble_eq_true rfl) ?_
      refine rt_k ?_
      refine v_if_ne (tgt := 119) dX7_trade_114 (by decide) (fun hc114 => ?_) (fun hc114 => ?_)
      ·
        refine v_iinc (v := 1) 0 dX7_trade_119 rfl rfl (by decide) (fun z e_z => ?_)
        refine v_ls (ls' := [(3, .int z), (0, .ref 60), (1, .int (nI n)), (2, .int (nI b))]) rfl ?_
        rw [nI_1] at e_z
        subst e_z
        refine v_goto (tgt := 20) dX7_trade_122 (by decide) ?_
        have hq : two ((sP σ).getD n 0) ((sP σ).getD b 0) (unitO (nI j)) = two ((sP σ).getD b 0) ((sP σ).getD n 0) (unitO (nI j)) := by
          by_cases z : two ((sP σ).getD n 0) ((sP σ).getD b 0) (unitO (nI j)) = two ((sP σ).getD b 0) ((sP σ).getD n 0) (unitO (nI j))
          · exact z
          · exact absurd (lv_inj.mpr (fun y => z y.symm)) hc114
        have hE : trdN ((sP σ).getD n 0) ((sP σ).getD b 0) j (m + 1) = trdN ((sP σ).getD n 0) ((sP σ).getD b 0) (j + 1) m := by simp only [trdN]; rw [if_pos hq]
        rw [hE]
        exact ih (j + 1) _ (by omega) (((h.now _).oth _).now _) (((hF.up (by decide) _).up (by decide) _).up (by decide) _)
        
      ·
        refine v_iconst (v := 0) dX7_trade_117 (by first | rfl | decide) ?_
        refine v_iret dX7_trade_118 rfl (by first | rfl | decide | exact nar_b (by first | assumption | rfl)) ?_
        have hq := lv_inj.mp hc114
        have hE : trdN ((sP σ).getD n 0) ((sP σ).getD b 0) j (m + 1) = 0 := by simp only [trdN]; rw [if_neg (fun z => hq z.symm)]
        rw [hE]
        exact ⟨rfl, ((h.now _).oth _).now _, ((hF.up (by decide) _).up (by decide) _).up (by decide) _⟩

set_option maxRecDepth 20000 in
set_option maxHeartbeats 4000000 in
theorem c_X7_trade {G : Cx} (d : Nat) {μ : Hp} {σ : ST} {i : Int32} {k : Int32} (h : Mo σ μ) (hw : Wp (sP σ)) : Ct G (d + 4) 0 0 M_X7_trade [.ref 60, .int i, .int k] μ (Pm (σ) (.int (rTrade σ i k)) μ) := by
  refine Ct.ofV (by decide +kernel) (Nat.le_of_ble_eq_true rfl) ?_
  refine v_ls (ls' := [(0, .ref 60), (1, .int i), (2, .int k)]) rfl ?_
  obtain ⟨co, wh, un, lr, mr, hr, at9, fa, op, sg, hm, p, tt, ro, og, tc, op9, sp, nw, se, le, mo, ot, h60, h61, h62, h63, h64, h65, h66, h67, h68, h69, h70, h71, h72, h73, h74, h75, h76, h77, h78, h79, h80, hmk, hpl, htp, ht60⟩ := id h
  have hl8 := hw.1
  refine v_aload_n 0 dX7_trade_0 rfl rfl ?_
  refine v_iload_n 1 dX7_trade_1 rfl rfl ?_
  refine v_callV (c_X7_isFilter (d + 2) h60 (by omega)) cs_X7_169 dX7_trade_2 h60 rfl rfl (Nat.le_of_ble_eq_true rfl) ?_
  refine rt_k ?_
  refine v_if_eq (tgt := 16) dX7_trade_5 (by decide) (fun hc5 => ?_) (fun hc5 => ?_)
  ·
    refine v_iconst (v := -1) dX7_trade_16 (by first | rfl | decide) ?_
    refine v_iret dX7_trade_17 rfl (by first | rfl | decide | exact nar_b (by first | assumption | rfl)) ?_
    have hE : rTrade σ i k = -1 := by
      first
        | (simp only [rTrade, if_pos hc5]; done)
        | (grind [rTrade]; done)
    rw [hE]
    exact ⟨rfl, h, Fp.rf μ⟩
  ·
    refine v_aload_n 0 dX7_trade_8 rfl rfl ?_
    refine v_iload_n 2 dX7_trade_9 rfl rfl ?_
    refine v_callV (c_X7_isFilter (d + 2) h60 (by omega)) cs_X7_169 dX7_trade_10 h60 rfl rfl (Nat.le_of_ble_eq_true rfl) ?_
    refine rt_k ?_
    refine v_if_ne (tgt := 18) dX7_trade_13 (by decide) (fun hc13 => ?_) (fun hc13 => ?_)
    ·
      obtain ⟨n, hn9, rfl⟩ := in_ix (by omega) hc5
      obtain ⟨b, hb9, rfl⟩ := in_ix (by omega) hc13
      refine v_iconst (v := 0) dX7_trade_18 (by first | rfl | decide) ?_
      refine v_istore_n dX7_trade_19 rfl (by decide) (fun x3 e_x3 => ?_)
      refine v_ls (ls' := [(3, .int x3), (0, .ref 60), (1, .int (nI n)), (2, .int (nI b))]) rfl ?_
      subst e_x3
      have hE : rTrade σ (nI n) (nI b) = trdN ((sP σ).getD n 0) ((sP σ).getD b 0) 0 4 := by simp only [rTrade, trdO, if_neg hc5, if_neg hc13, atP, clamp (show n < 2 ^ 31 by omega), clamp (show b < 2 ^ 31 by omega)]
      rw [hE]
      exact trade7_loop d hw hn9 hb9 4 0 μ (by omega) h (Fp.rf μ)
      
    ·
      refine v_iconst (v := -1) dX7_trade_16 (by first | rfl | decide) ?_
      refine v_iret dX7_trade_17 rfl (by first | rfl | decide | exact nar_b (by first | assumption | rfl)) ?_
      have hE : rTrade σ i k = -1 := by
        first
          | (simp only [rTrade, if_neg hc5, if_pos hc13]; done)
          | (grind [rTrade]; done)
      rw [hE]
      exact ⟨rfl, h, Fp.rf μ⟩

set_option maxRecDepth 20000 in
set_option maxHeartbeats 4000000 in
theorem cr7_in {G : Cx} (d : Nat) {σ : ST} {μ0 : Hp} (hw : Wp (sP σ)) {i : Nat} {w : Int32} (hi9 : i < (sP σ).length) : ∀ (m : Nat) (j x1 : Nat) (x2 : Int32) (μ : Hp), j + m = (sP σ).length → x1 + m ≤ 1000 → Mo σ μ → Fp μ μ0 → (∀ μ2, Mo σ μ2 → Fp μ2 μ0 → V G M_X7_crossed (d + 4) 0 0 (Pm σ (.int (rCrossed σ w)) μ0) 114 [(5, .int (nI (sP σ).length)), (4, .int (nI i)), (3, .int (crJ (sP σ) i (x1, x2) j m).2), (2, .int (nI (crJ (sP σ) i (x1, x2) j m).1)), (0, .ref 60), (1, .int w)] [] μ2) → V G M_X7_crossed (d + 4) 0 0 (Pm σ (.int (rCrossed σ w)) μ0) 35 [(5, .int (nI j)), (4, .int (nI i)), (3, .int x2), (2, .int (nI x1)), (0, .ref 60), (1, .int w)] [] (μ) := by
  intro m
  induction m with
  | zero =>
    intro j x1 x2 μ hj hx h hF HK
    obtain ⟨co, wh, un, lr, mr, hr, at9, fa, op, sg, hm, p, tt, ro, og, tc, op9, sp, nw, se, le, mo, ot, h60, h61, h62, h63, h64, h65, h66, h67, h68, h69, h70, h71, h72, h73, h74, h75, h76, h77, h78, h79, h80, hmk, hpl, htp, ht60⟩ := id h
    have hl8 := hw.1
    refine v_iload 0 dX7_crossed_35 rfl ?_
    refine v_aload_n 4 dX7_crossed_37 rfl rfl ?_
    refine v_get fl_X7_91 dX7_crossed_38 h60 rfl ?_
    refine v_icmp_ge (tgt := 114) dX7_crossed_41 (by decide) (fun hc41 => ?_) (fun hc41 => ?_)
    ·
      obtain rfl : j = (sP σ).length := by omega
      exact HK μ h hF
    · exact absurd ((nI_leI (by omega) (by omega)).mpr (by omega)) hc41
  | succ m ih =>
    intro j x1 x2 μ hj hx h hF HK
    obtain ⟨co, wh, un, lr, mr, hr, at9, fa, op, sg, hm, p, tt, ro, og, tc, op9, sp, nw, se, le, mo, ot, h60, h61, h62, h63, h64, h65, h66, h67, h68, h69, h70, h71, h72, h73, h74, h75, h76, h77, h78, h79, h80, hmk, hpl, htp, ht60⟩ := id h
    have hl8 := hw.1
    refine v_iload 0 dX7_crossed_35 rfl ?_
    refine v_aload_n 4 dX7_crossed_37 rfl rfl ?_
    refine v_get fl_X7_91 dX7_crossed_38 h60 rfl ?_
    refine v_icmp_ge (tgt := 114) dX7_crossed_41 (by decide) (fun hc41 => ?_) (fun hc41 => ?_)
    · have := (nI_leI (by omega) (by omega)).mp hc41
      omega
    ·
      refine v_aload_n 4 dX7_crossed_44 rfl rfl ?_
      refine v_iconst (v := 0) dX7_crossed_45 (by first | rfl | decide) ?_
      refine v_callV (c_X7_begins1 (d + 3) (c := 0) (by decide) h60 h63) cs_X7_265 dX7_crossed_46 h60 rfl rfl (Nat.le_of_ble_eq_true rfl) ?_
      refine rt_k ?_
      refine v_aload_n 4 dX7_crossed_49 rfl rfl ?_
      refine v_get fl_X7_21 dX7_crossed_50 (up_n (by decide) h60) rfl ?_
      refine v_aload_n 4 dX7_crossed_53 rfl rfl ?_
      refine v_get fl_X7_17 dX7_crossed_54 (up_n (by decide) h60) rfl ?_
      refine v_iload 1 dX7_crossed_57 rfl ?_
      refine v_iald dX7_crossed_59 (up_n (by decide) h62) (nI_in' (by omega)) ?_
      rw [clamp (show i < 2 ^ 31 by omega), ← getD_at hpl hi9]
      refine v_callS (c_X7_goes d (up_s _ _ _) (unit_e _ _) (hw.at hi9)) cs_X7_149 dX7_crossed_60 rfl rfl (Nat.le_of_ble_eq_true rfl) ?_
      refine rt_k ?_
      refine v_hp (up_up _ _ _ _) ?_
      refine v_aload_n 4 dX7_crossed_63 rfl rfl ?_
      refine v_get fl_X7_21 dX7_crossed_64 (up_n (by decide) h60) rfl ?_
      refine v_aload_n 4 dX7_crossed_67 rfl rfl ?_
      refine v_get fl_X7_17 dX7_crossed_68 (up_n (by decide) h60) rfl ?_
      refine v_iload 0 dX7_crossed_71 rfl ?_
      refine v_iald dX7_crossed_73 (up_n (by decide) h62) (nI_in' (by omega)) ?_
      rw [clamp (show j < 2 ^ 31 by omega), ← getD_at hpl (show j < (sP σ).length by omega)]
      refine v_callS (c_X7_goes d (up_s _ _ _) ⟨(passO_e (n := 0) (c := (sP σ).getD i 0) (unit_e (nI 0) 0) (by decide)).1, by have := (passO_e (n := 0) (c := (sP σ).getD i 0) (unit_e (nI 0) 0) (by decide)).2; omega⟩ (hw.at (show j < (sP σ).length by omega))) cs_X7_149 dX7_crossed_74 rfl rfl (Nat.le_of_ble_eq_true rfl) ?_
      refine rt_k ?_
      refine v_hp (up_up _ _ _ _) ?_
      refine v_aload_n 4 dX7_crossed_77 rfl rfl ?_
      refine v_get fl_X7_21 dX7_crossed_78 (up_n (by decide) h60) rfl ?_
      refine v_iconst (v := 0) dX7_crossed_81 (by first | rfl | decide) ?_
      refine v_lald dX7_crossed_82 (up_s _ _ _) (nI_in' (k := 0) (by decide)) ?_
      refine v_lconst (v := 0) dX7_crossed_83 (by first | rfl | decide) ?_
      refine v_lc_ne (tgt := 108) dX7_crossed_84 dX7_crossed_85 (by decide) (fun hc84 => ?_) (fun hc84 => ?_)
      ·
        refine v_iinc (v := 1) 0 dX7_crossed_108 rfl rfl (by decide) (fun z e_z => ?_)
        refine v_ls (ls' := [(5, .int z), (4, .int (nI i)), (3, .int x2), (2, .int (nI x1)), (0, .ref 60), (1, .int w)]) rfl ?_
        rw [nI_1] at e_z
        subst e_z
        refine v_goto (tgt := 35) dX7_crossed_111 (by decide) ?_
        have hcrs : ¬ crsO ((sP σ).getD i 0) ((sP σ).getD j 0) := hc84
        have hcr : crJ (sP σ) i (x1, x2) j (m + 1) = crJ (sP σ) i (x1, x2) (j + 1) m := by
          show crJ (sP σ) i (crS (sP σ) (x1, x2) i j) (j + 1) m = _
          rw [show crS (sP σ) (x1, x2) i j = (x1, x2) from if_neg hcrs]
        refine v_pick [0, 1, 2, 3, 4, 5] rfl ?_
        refine ih (j + 1) x1 x2 _ (by omega) (by omega) (h.now _) (hF.up (by decide) _) ?_
        intro μ2 q1 q2
        have := HK μ2 q1 q2
        rw [hcr] at this
        exact this
        
      ·
        refine v_iload_n 3 dX7_crossed_88 rfl rfl ?_
        refine v_if_ne (tgt := 103) dX7_crossed_89 (by decide) (fun hc89 => ?_) (fun hc89 => ?_)
        ·
          refine v_iload_n 2 dX7_crossed_103 rfl rfl ?_
          refine v_istore_n dX7_crossed_104 rfl (by decide) (fun y3 e_y3 => ?_)
          refine v_ls (ls' := [(3, .int y3), (5, .int (nI j)), (4, .int (nI i)), (2, .int (nI x1)), (0, .ref 60), (1, .int w)]) rfl ?_
          refine v_iinc (v := 1) 3 dX7_crossed_105 rfl rfl (by decide) (fun y2 e_y2 => ?_)
          refine v_ls (ls' := [(2, .int y2), (3, .int y3), (5, .int (nI j)), (4, .int (nI i)), (0, .ref 60), (1, .int w)]) rfl ?_
          refine v_iinc (v := 1) 2 dX7_crossed_108 rfl rfl (by decide) (fun z e_z => ?_)
          refine v_ls (ls' := [(5, .int z), (2, .int y2), (3, .int y3), (4, .int (nI i)), (0, .ref 60), (1, .int w)]) rfl ?_
          rw [nI_1] at e_z
          subst e_z
          refine v_goto (tgt := 35) dX7_crossed_111 (by decide) ?_
          have hx0 : ¬ x1 = 0 := fun z => hc89 (by rw [z]; rfl)
          have hcrs : crsO ((sP σ).getD i 0) ((sP σ).getD j 0) := hc84
          have hcr : crJ (sP σ) i (x1, x2) j (m + 1) = crJ (sP σ) i (x1 + 1, y3) (j + 1) m := by
            show crJ (sP σ) i (crS (sP σ) (x1, x2) i j) (j + 1) m = _
            rw [show crS (sP σ) (x1, x2) i j = (x1 + 1, y3) from by simp only [crS, if_pos hcrs, if_neg hx0, e_y3]]
          rw [nI_1] at e_y2
          subst e_y2
          refine v_pick [0, 3, 2, 1, 4, 5] rfl ?_
          refine ih (j + 1) (x1 + 1) y3 _ (by omega) (by omega) (h.now _) (hF.up (by decide) _) ?_
          intro μ2 q1 q2
          have := HK μ2 q1 q2
          rw [hcr] at this
          exact this
          
        ·
          refine v_bipush (v := 10) dX7_crossed_92 (by first | rfl | decide) ?_
          refine v_iload 1 dX7_crossed_94 rfl ?_
          refine v_imul dX7_crossed_96 ?_
          refine v_iload 0 dX7_crossed_97 rfl ?_
          refine v_iadd dX7_crossed_99 ?_
          refine v_goto (tgt := 104) dX7_crossed_100 (by decide) ?_
          refine v_istore_n dX7_crossed_104 rfl (by decide) (fun y3 e_y3 => ?_)
          refine v_ls (ls' := [(3, .int y3), (5, .int (nI j)), (4, .int (nI i)), (2, .int (nI x1)), (0, .ref 60), (1, .int w)]) rfl ?_
          refine v_iinc (v := 1) 3 dX7_crossed_105 rfl rfl (by decide) (fun y2 e_y2 => ?_)
          refine v_ls (ls' := [(2, .int y2), (3, .int y3), (5, .int (nI j)), (4, .int (nI i)), (0, .ref 60), (1, .int w)]) rfl ?_
          refine v_iinc (v := 1) 2 dX7_crossed_108 rfl rfl (by decide) (fun z e_z => ?_)
          refine v_ls (ls' := [(5, .int z), (2, .int y2), (3, .int y3), (4, .int (nI i)), (0, .ref 60), (1, .int w)]) rfl ?_
          rw [nI_1] at e_z
          subst e_z
          refine v_goto (tgt := 35) dX7_crossed_111 (by decide) ?_
          have hx0 : x1 = 0 := (nI_eq (b := 0) (by omega) (by decide)).mp hc89
          have hcrs : crsO ((sP σ).getD i 0) ((sP σ).getD j 0) := hc84
          have hcr : crJ (sP σ) i (x1, x2) j (m + 1) = crJ (sP σ) i (x1 + 1, y3) (j + 1) m := by
            show crJ (sP σ) i (crS (sP σ) (x1, x2) i j) (j + 1) m = _
            rw [show crS (sP σ) (x1, x2) i j = (x1 + 1, y3) from by simp only [crS, if_pos hcrs, if_pos hx0, e_y3]]
          rw [nI_1] at e_y2
          subst e_y2
          refine v_pick [0, 3, 2, 1, 4, 5] rfl ?_
          refine ih (j + 1) (x1 + 1) y3 _ (by omega) (by omega) (h.now _) (hF.up (by decide) _) ?_
          intro μ2 q1 q2
          have := HK μ2 q1 q2
          rw [hcr] at this
          exact this
          

set_option maxRecDepth 20000 in
set_option maxHeartbeats 4000000 in
theorem cr7_out {G : Cx} (d : Nat) {σ : ST} {μ0 : Hp} (hw : Wp (sP σ)) {w : Int32} (hw2 : ¬ inO w 2 = 0) : ∀ (m : Nat) (i x1 : Nat) (x2 : Int32) (μ : Hp), i + m = (sP σ).length → x1 + 8 * m ≤ 900 → Mo σ μ → Fp μ μ0 → crI (sP σ) (0, -5) 0 (sP σ).length = crI (sP σ) (x1, x2) i m → V G M_X7_crossed (d + 4) 0 0 (Pm σ (.int (rCrossed σ w)) μ0) 20 [(4, .int (nI i)), (3, .int x2), (2, .int (nI x1)), (0, .ref 60), (1, .int w)] [] (μ) := by
  intro m
  induction m with
  | zero =>
    intro i x1 x2 μ hj hx h hF hcr
    obtain ⟨co, wh, un, lr, mr, hr, at9, fa, op, sg, hm, p, tt, ro, og, tc, op9, sp, nw, se, le, mo, ot, h60, h61, h62, h63, h64, h65, h66, h67, h68, h69, h70, h71, h72, h73, h74, h75, h76, h77, h78, h79, h80, hmk, hpl, htp, ht60⟩ := id h
    have hl8 := hw.1
    refine v_iload 0 dX7_crossed_20 rfl ?_
    refine v_aload_n 3 dX7_crossed_22 rfl rfl ?_
    refine v_get fl_X7_91 dX7_crossed_23 h60 rfl ?_
    refine v_icmp_ge (tgt := 120) dX7_crossed_26 (by decide) (fun hc26 => ?_) (fun hc26 => ?_)
    ·
      refine v_iload_n 4 dX7_crossed_120 rfl rfl ?_
      refine v_if_ne (tgt := 128) dX7_crossed_121 (by decide) (fun hc121 => ?_) (fun hc121 => ?_)
      ·
        refine v_iload_n 1 dX7_crossed_128 rfl rfl ?_
        refine v_iret dX7_crossed_129 rfl (by first | rfl | decide | exact nar_b (by first | assumption | rfl)) ?_
        have hE : rCrossed σ w = x2 := by
          simp only [rCrossed, if_neg hw2, if_neg hc121, hcr]
          rfl
        rw [hE]
        exact ⟨rfl, h, hF⟩
      ·
        refine v_iload_n 2 dX7_crossed_124 rfl rfl ?_
        refine v_goto (tgt := 129) dX7_crossed_125 (by decide) ?_
        refine v_iret dX7_crossed_129 rfl (by first | rfl | decide | exact nar_b (by first | assumption | rfl)) ?_
        have hE : rCrossed σ w = nI x1 := by
          simp only [rCrossed, if_neg hw2, if_pos hc121, hcr]
          rfl
        rw [hE]
        exact ⟨rfl, h, hF⟩
    · exact absurd ((nI_leI (by omega) (by omega)).mpr (by omega)) hc26
  | succ m ih =>
    intro i x1 x2 μ hj hx h hF hcr
    obtain ⟨co, wh, un, lr, mr, hr, at9, fa, op, sg, hm, p, tt, ro, og, tc, op9, sp, nw, se, le, mo, ot, h60, h61, h62, h63, h64, h65, h66, h67, h68, h69, h70, h71, h72, h73, h74, h75, h76, h77, h78, h79, h80, hmk, hpl, htp, ht60⟩ := id h
    have hl8 := hw.1
    refine v_iload 0 dX7_crossed_20 rfl ?_
    refine v_aload_n 3 dX7_crossed_22 rfl rfl ?_
    refine v_get fl_X7_91 dX7_crossed_23 h60 rfl ?_
    refine v_icmp_ge (tgt := 120) dX7_crossed_26 (by decide) (fun hc26 => ?_) (fun hc26 => ?_)
    · have := (nI_leI (by omega) (by omega)).mp hc26
      omega
    ·
      refine v_iload 0 dX7_crossed_29 rfl ?_
      refine v_iconst (v := 1) dX7_crossed_31 (by first | rfl | decide) ?_
      refine v_iadd dX7_crossed_32 ?_
      refine v_istore dX7_crossed_33 (by decide) (fun x5 e_x5 => ?_)
      refine v_ls (ls' := [(5, .int x5), (4, .int (nI i)), (3, .int x2), (2, .int (nI x1)), (0, .ref 60), (1, .int w)]) rfl ?_
      rw [nI_1] at e_x5
      subst e_x5
      refine cr7_in d hw (show i < (sP σ).length by omega) ((sP σ).length - (i + 1)) (i + 1) x1 x2 μ (by omega) (by omega) h hF ?_
      intro μ2 q1 q2
      have hle := crJ_le (sP σ) i ((sP σ).length - (i + 1)) (i + 1) (x1, x2)
      have hle : (crJ (sP σ) i (x1, x2) (i + 1) ((sP σ).length - (i + 1))).1 ≤ x1 + ((sP σ).length - (i + 1)) := hle
      generalize hX : crJ (sP σ) i (x1, x2) (i + 1) ((sP σ).length - (i + 1)) = X at hle ⊢
      refine v_iinc (v := 1) 1 dX7_crossed_114 rfl rfl (by decide) (fun z e_z => ?_)
      rw [nI_1] at e_z
      subst e_z
      refine v_goto (tgt := 20) dX7_crossed_117 (by decide) ?_
      refine v_pick [0, 2, 3, 4, 5] rfl ?_
      refine ih (i + 1) X.1 X.2 μ2 (by omega) (by omega) q1 q2 ?_
      rw [hcr, ← hX]
      rfl
      

set_option maxRecDepth 20000 in
set_option maxHeartbeats 4000000 in
theorem c_X7_crossed {G : Cx} (d : Nat) {μ : Hp} {σ : ST} {w : Int32} (h : Mo σ μ) (hw : Wp (sP σ)) : Ct G (d + 4) 0 0 M_X7_crossed [.ref 60, .int w] μ (Pm (σ) (.int (rCrossed σ w)) μ) := by
  refine Ct.ofV (by decide +kernel) (Nat.le_of_ble_eq_true rfl) ?_
  refine v_ls (ls' := [(0, .ref 60), (1, .int w)]) rfl ?_
  obtain ⟨co, wh, un, lr, mr, hr, at9, fa, op, sg, hm, p, tt, ro, og, tc, op9, sp, nw, se, le, mo, ot, h60, h61, h62, h63, h64, h65, h66, h67, h68, h69, h70, h71, h72, h73, h74, h75, h76, h77, h78, h79, h80, hmk, hpl, htp, ht60⟩ := id h
  have hl8 := hw.1
  refine v_iload_n 1 dX7_crossed_0 rfl rfl ?_
  refine v_i2l dX7_crossed_1 ?_
  refine v_lconst (v := 0) dX7_crossed_2 (by first | rfl | decide) ?_
  refine v_lconst (v := 1) dX7_crossed_3 (by first | rfl | decide) ?_
  refine v_callS (c_X7_inL (d + 3) 1 2 1 (by decide) rfl rfl) cs_X7_95 dX7_crossed_4 rfl rfl (Nat.le_of_ble_eq_true rfl) ?_
  refine rt_k ?_
  refine v_if_ne (tgt := 12) dX7_crossed_7 (by decide) (fun hc7 => ?_) (fun hc7 => ?_)
  ·
    refine v_iconst (v := 0) dX7_crossed_12 (by first | rfl | decide) ?_
    refine v_istore_n dX7_crossed_13 rfl (by decide) (fun x2_1 e_x2_1 => ?_)
    refine v_ls (ls' := [(2, .int x2_1), (0, .ref 60), (1, .int w)]) rfl ?_
    subst e_x2_1
    refine v_bipush (v := -5) dX7_crossed_14 (by first | rfl | decide) ?_
    refine v_istore_n dX7_crossed_16 rfl (by decide) (fun x3_1 e_x3_1 => ?_)
    refine v_ls (ls' := [(3, .int x3_1), (2, .int (0)), (0, .ref 60), (1, .int w)]) rfl ?_
    subst e_x3_1
    refine v_iconst (v := 0) dX7_crossed_17 (by first | rfl | decide) ?_
    refine v_istore dX7_crossed_18 (by decide) (fun x4 e_x4 => ?_)
    refine v_ls (ls' := [(4, .int x4), (3, .int (-5)), (2, .int (0)), (0, .ref 60), (1, .int w)]) rfl ?_
    subst e_x4
    refine v_pick [0, 1, 2, 3, 4] rfl ?_
    exact cr7_out d hw hc7 (sP σ).length 0 0 (-5) μ (by omega) (by omega) h (Fp.rf μ) rfl
    
  ·
    refine v_iconst (v := -1) dX7_crossed_10 (by first | rfl | decide) ?_
    refine v_iret dX7_crossed_11 rfl (by first | rfl | decide | exact nar_b (by first | assumption | rfl)) ?_
    have hE : rCrossed σ w = -1 := by
      first
        | (simp only [rCrossed, if_pos hc7]; done)
        | (grind [rCrossed]; done)
    rw [hE]
    exact ⟨rfl, h, Fp.rf μ⟩

