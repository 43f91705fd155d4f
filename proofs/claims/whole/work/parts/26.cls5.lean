theorem like_iff (L K : LT) : likeO L K = 0 ↔ ¬ L = K := by
  obtain ⟨a1, a2, a3, a4, a5⟩ := L
  obtain ⟨b1, b2, b3, b4, b5⟩ := K
  unfold likeO
  simp only [Prod.mk.injEq]
  by_cases h1 : a1 = b1
  · by_cases h2 : a2 = b2
    · by_cases h3 : a3 = b3
      · by_cases h4 : a4 = b4
        · by_cases h5 : a5 = b5
          · simp [h1, h2, h3, h4, h5]
          · simp [h1, h2, h3, h4, h5]
        · simp [h1, h2, h3, h4]
      · simp [h1, h2, h3]
    · simp [h1, h2]
  · simp [h1]
set_option maxRecDepth 20000 in
set_option maxHeartbeats 4000000 in
theorem trade_loop {G : Cx} (d : Nat) {σ : ST} {μ0 : Hp} (hw : Wp (sP σ)) {n b : Nat} (hn9 : n < (sP σ).length) (hb9 : b < (sP σ).length) : ∀ (m : Nat) (j : Nat) (μ : Hp), j + m = 4 → Cl σ μ → Fo μ μ0 → V G M_X6_trade (d + 3) 0 0 (Po σ (.int (trdN ((sP σ).getD n 0) ((sP σ).getD b 0) j m)) μ0) 26 [(3, .int (nI j)), (0, .ref 0), (1, .int (nI n)), (2, .int (nI b))] [] (μ) := by
  intro m
  induction m with
  | zero =>
    intro j μ hj h hF
    obtain ⟨h0, ⟨p, h1, h2, h3, h4, h5, h6, h7, h8, h9, hpl⟩, ⟨bk, hbk, pk, k11, k12, k13, k14, k15, k16, k17, k18, k19, hpk⟩, ⟨h20, h21, h22, h23, h24⟩, ⟨tt, ops, cd, kk, pp, ff, h25, h26, h27, h28, htp, ht60⟩, ⟨h29, h30, h31⟩, ⟨⟨oc, hoc⟩, h37, h38, h39⟩, hsx, ⟨B0, B1, B2, h50, h51, h52⟩⟩ := id h
    have hl8 := hw.1
    refine v_iload_n 0 dX6_trade_26 rfl rfl ?_
    refine v_iconst (v := 4) dX6_trade_27 (by first | rfl | decide) ?_
    refine v_icmp_ge (tgt := 133) dX6_trade_28 (by decide) (fun hc28 => ?_) (fun hc28 => ?_)
    ·
      refine v_iconst (v := 1) dX6_trade_133 (by first | rfl | decide) ?_
      refine v_iret dX6_trade_134 rfl (by first | rfl | decide | exact nar_b (by first | assumption | rfl)) ?_
      exact ⟨rfl, h, hF⟩
    · exact absurd ((nI_leI (a := 4) (by decide) (by omega)).mpr (by omega)) hc28
  | succ m ih =>
    intro j μ hj h hF
    obtain ⟨h0, ⟨p, h1, h2, h3, h4, h5, h6, h7, h8, h9, hpl⟩, ⟨bk, hbk, pk, k11, k12, k13, k14, k15, k16, k17, k18, k19, hpk⟩, ⟨h20, h21, h22, h23, h24⟩, ⟨tt, ops, cd, kk, pp, ff, h25, h26, h27, h28, htp, ht60⟩, ⟨h29, h30, h31⟩, ⟨⟨oc, hoc⟩, h37, h38, h39⟩, hsx, ⟨B0, B1, B2, h50, h51, h52⟩⟩ := id h
    have hl8 := hw.1
    refine v_iload_n 0 dX6_trade_26 rfl rfl ?_
    refine v_iconst (v := 4) dX6_trade_27 (by first | rfl | decide) ?_
    refine v_icmp_ge (tgt := 133) dX6_trade_28 (by decide) (fun hc28 => ?_) (fun hc28 => ?_)
    · have := (nI_leI (a := 4) (by decide) (by omega)).mp hc28
      omega
    ·
      refine v_aload_n 1 dX6_trade_31 rfl rfl ?_
      refine v_get fl_X6_68 dX6_trade_32 h0 rfl ?_
      refine v_iload_n 0 dX6_trade_35 rfl rfl ?_
      refine v_callV (c_X1_becomeUnit (d + 1) h50) cs_X6_239 dX6_trade_36 h50 rfl rfl (Nat.le_of_ble_eq_true rfl) ?_
      refine rt_k ?_
      refine v_aload_n 1 dX6_trade_39 rfl rfl ?_
      refine v_get fl_X6_68 dX6_trade_40 (up_n (by decide) h0) rfl ?_
      refine v_aload_n 1 dX6_trade_43 rfl rfl ?_
      refine v_get fl_X6_12 dX6_trade_44 (up_n (by decide) h0) rfl ?_
      refine v_get fl_X6_118 dX6_trade_47 (up_n (by decide) h1) rfl ?_
      refine v_iload_n 2 dX6_trade_50 rfl rfl ?_
      refine v_iald dX6_trade_51 (up_n (by decide) h3) (nI_in' (by omega)) ?_
      rw [clamp (show n < 2 ^ 31 by omega), ← getD_at hpl hn9]
      refine v_callV (c_X1_pass d (up_s _ _ _)) cs_X6_252 dX6_trade_52 (up_s _ _ _) rfl rfl (Nat.le_of_ble_eq_true rfl) ?_
      refine rt_k ?_
      refine v_hp (up_up _ _ _ _) ?_
      refine v_aload_n 1 dX6_trade_55 rfl rfl ?_
      refine v_get fl_X6_68 dX6_trade_56 (up_n (by decide) h0) rfl ?_
      refine v_aload_n 1 dX6_trade_59 rfl rfl ?_
      refine v_get fl_X6_12 dX6_trade_60 (up_n (by decide) h0) rfl ?_
      refine v_get fl_X6_118 dX6_trade_63 (up_n (by decide) h1) rfl ?_
      refine v_iload_n 3 dX6_trade_66 rfl rfl ?_
      refine v_iald dX6_trade_67 (up_n (by decide) h3) (nI_in' (by omega)) ?_
      rw [clamp (show b < 2 ^ 31 by omega), ← getD_at hpl hb9]
      refine v_callV (c_X1_pass d (up_s _ _ _)) cs_X6_252 dX6_trade_68 (up_s _ _ _) rfl rfl (Nat.le_of_ble_eq_true rfl) ?_
      refine rt_k ?_
      refine v_hp (up_up _ _ _ _) ?_
      refine v_aload_n 1 dX6_trade_71 rfl rfl ?_
      refine v_get fl_X6_72 dX6_trade_72 (up_n (by decide) h0) rfl ?_
      refine v_iload_n 0 dX6_trade_75 rfl rfl ?_
      refine v_callV (c_X1_becomeUnit (d + 1) (up_n (by decide) h51)) cs_X6_239 dX6_trade_76 (up_n (by decide) h51) rfl rfl (Nat.le_of_ble_eq_true rfl) ?_
      refine rt_k ?_
      refine v_aload_n 1 dX6_trade_79 rfl rfl ?_
      refine v_get fl_X6_72 dX6_trade_80 (up_n (by decide) (up_n (by decide) h0)) rfl ?_
      refine v_aload_n 1 dX6_trade_83 rfl rfl ?_
      refine v_get fl_X6_12 dX6_trade_84 (up_n (by decide) (up_n (by decide) h0)) rfl ?_
      refine v_get fl_X6_118 dX6_trade_87 (up_n (by decide) (up_n (by decide) h1)) rfl ?_
      refine v_iload_n 3 dX6_trade_90 rfl rfl ?_
      refine v_iald dX6_trade_91 (up_n (by decide) (up_n (by decide) h3)) (nI_in' (by omega)) ?_
      rw [clamp (show b < 2 ^ 31 by omega), ← getD_at hpl hb9]
      refine v_callV (c_X1_pass d (up_s _ _ _)) cs_X6_252 dX6_trade_92 (up_s _ _ _) rfl rfl (Nat.le_of_ble_eq_true rfl) ?_
      refine rt_k ?_
      refine v_hp (up_up _ _ _ _) ?_
      refine v_aload_n 1 dX6_trade_95 rfl rfl ?_
      refine v_get fl_X6_72 dX6_trade_96 (up_n (by decide) (up_n (by decide) h0)) rfl ?_
      refine v_aload_n 1 dX6_trade_99 rfl rfl ?_
      refine v_get fl_X6_12 dX6_trade_100 (up_n (by decide) (up_n (by decide) h0)) rfl ?_
      refine v_get fl_X6_118 dX6_trade_103 (up_n (by decide) (up_n (by decide) h1)) rfl ?_
      refine v_iload_n 2 dX6_trade_106 rfl rfl ?_
      refine v_iald dX6_trade_107 (up_n (by decide) (up_n (by decide) h3)) (nI_in' (by omega)) ?_
      rw [clamp (show n < 2 ^ 31 by omega), ← getD_at hpl hn9]
      refine v_callV (c_X1_pass d (up_s _ _ _)) cs_X6_252 dX6_trade_108 (up_s _ _ _) rfl rfl (Nat.le_of_ble_eq_true rfl) ?_
      refine rt_k ?_
      refine v_hp (up_up _ _ _ _) ?_
      refine v_aload_n 1 dX6_trade_111 rfl rfl ?_
      refine v_get fl_X6_68 dX6_trade_112 (up_n (by decide) (up_n (by decide) h0)) rfl ?_
      refine v_aload_n 1 dX6_trade_115 rfl rfl ?_
      refine v_get fl_X6_72 dX6_trade_116 (up_n (by decide) (up_n (by decide) h0)) rfl ?_
      refine v_callV (c_X1_isLike (d + 2) (up_n (by decide) (up_s _ _ _)) (up_s _ _ _)) cs_X6_255 dX6_trade_119 (up_n (by decide) (up_s _ _ _)) rfl rfl (Nat.le_of_ble_eq_true rfl) ?_
      refine rt_k ?_
      refine v_if_ne (tgt := 127) dX6_trade_122 (by decide) (fun hc122 => ?_) (fun hc122 => ?_)
      ·
        refine v_iinc (v := 1) 0 dX6_trade_127 rfl rfl (by decide) (fun z e_z => ?_)
        refine v_ls (ls' := [(3, .int z), (0, .ref 0), (1, .int (nI n)), (2, .int (nI b))]) rfl ?_
        rw [nI_1] at e_z
        subst e_z
        refine v_goto (tgt := 26) dX6_trade_130 (by decide) ?_
        have hq : two ((sP σ).getD n 0) ((sP σ).getD b 0) (unitO (nI j)) = two ((sP σ).getD b 0) ((sP σ).getD n 0) (unitO (nI j)) := by
          by_cases z : two ((sP σ).getD n 0) ((sP σ).getD b 0) (unitO (nI j)) = two ((sP σ).getD b 0) ((sP σ).getD n 0) (unitO (nI j))
          · exact z
          · exact absurd ((like_iff _ _).mpr z) hc122
        have hE : trdN ((sP σ).getD n 0) ((sP σ).getD b 0) j (m + 1) = trdN ((sP σ).getD n 0) ((sP σ).getD b 0) (j + 1) m := by simp only [trdN]; rw [if_pos hq]
        rw [hE]
        exact ih (j + 1) _ (by omega) ((h.beam _).aside _) ((hF.up (by decide) _).up (by decide) _)
        
      ·
        refine v_iconst (v := 0) dX6_trade_125 (by first | rfl | decide) ?_
        refine v_iret dX6_trade_126 rfl (by first | rfl | decide | exact nar_b (by first | assumption | rfl)) ?_
        have hq := (like_iff _ _).mp hc122
        have hE : trdN ((sP σ).getD n 0) ((sP σ).getD b 0) j (m + 1) = 0 := by simp only [trdN]; rw [if_neg hq]
        rw [hE]
        exact ⟨rfl, (h.beam _).aside _, (hF.up (by decide) _).up (by decide) _⟩

set_option maxRecDepth 20000 in
set_option maxHeartbeats 4000000 in
theorem c_X6_trade {G : Cx} (d : Nat) {μ : Hp} {σ : ST} {i : Int32} {k : Int32} (h : Cl σ μ) (hw : Wp (sP σ)) : Ct G (d + 3) 0 0 M_X6_trade [.ref 0, .int i, .int k] μ (Po (σ) (.int (rTrade σ i k)) μ) := by
  refine Ct.ofV (by decide +kernel) (Nat.le_of_ble_eq_true rfl) ?_
  refine v_ls (ls' := [(0, .ref 0), (1, .int i), (2, .int k)]) rfl ?_
  obtain ⟨h0, ⟨p, h1, h2, h3, h4, h5, h6, h7, h8, h9, hpl⟩, ⟨bk, hbk, pk, k11, k12, k13, k14, k15, k16, k17, k18, k19, hpk⟩, ⟨h20, h21, h22, h23, h24⟩, ⟨tt, ops, cd, kk, pp, ff, h25, h26, h27, h28, htp, ht60⟩, ⟨h29, h30, h31⟩, ⟨⟨oc, hoc⟩, h37, h38, h39⟩, hsx, ⟨B0, B1, B2, h50, h51, h52⟩⟩ := id h
  have hl8 := hw.1
  refine v_aload_n 0 dX6_trade_0 rfl rfl ?_
  refine v_get fl_X6_12 dX6_trade_1 h0 rfl ?_
  refine v_iload_n 1 dX6_trade_4 rfl rfl ?_
  refine v_callV (c_X0_has (d + 2) h1) cs_X6_111 dX6_trade_5 h1 rfl rfl (Nat.le_of_ble_eq_true rfl) ?_
  refine rt_k ?_
  refine v_if_eq (tgt := 22) dX6_trade_8 (by decide) (fun hc8 => ?_) (fun hc8 => ?_)
  ·
    refine v_iconst (v := -1) dX6_trade_22 (by first | rfl | decide) ?_
    refine v_iret dX6_trade_23 rfl (by first | rfl | decide | exact nar_b (by first | assumption | rfl)) ?_
    have hE : rTrade σ i k = -1 := by
      first | (simp only [rTrade, if_pos hc8]; done) | grind [rTrade]
    rw [hE]
    exact ⟨rfl, h, Fo.rf μ⟩
  ·
    refine v_aload_n 0 dX6_trade_11 rfl rfl ?_
    refine v_get fl_X6_12 dX6_trade_12 h0 rfl ?_
    refine v_iload_n 2 dX6_trade_15 rfl rfl ?_
    refine v_callV (c_X0_has (d + 2) h1) cs_X6_111 dX6_trade_16 h1 rfl rfl (Nat.le_of_ble_eq_true rfl) ?_
    refine rt_k ?_
    refine v_if_ne (tgt := 24) dX6_trade_19 (by decide) (fun hc19 => ?_) (fun hc19 => ?_)
    ·
      obtain ⟨n, hn9, rfl⟩ := in_ix (by omega) hc8
      obtain ⟨b, hb9, rfl⟩ := in_ix (by omega) hc19
      refine v_iconst (v := 0) dX6_trade_24 (by first | rfl | decide) ?_
      refine v_istore_n dX6_trade_25 rfl (by decide) (fun x3 e_x3 => ?_)
      refine v_ls (ls' := [(3, .int x3), (0, .ref 0), (1, .int (nI n)), (2, .int (nI b))]) rfl ?_
      subst e_x3
      have hE : rTrade σ (nI n) (nI b) = trdN ((sP σ).getD n 0) ((sP σ).getD b 0) 0 4 := by simp only [rTrade, trdO, if_neg hc8, if_neg hc19, atP, clamp (show n < 2 ^ 31 by omega), clamp (show b < 2 ^ 31 by omega)]
      rw [hE]
      exact trade_loop d hw hn9 hb9 4 0 μ (by omega) h (Fo.rf μ)
      
    ·
      refine v_iconst (v := -1) dX6_trade_22 (by first | rfl | decide) ?_
      refine v_iret dX6_trade_23 rfl (by first | rfl | decide | exact nar_b (by first | assumption | rfl)) ?_
      have hE : rTrade σ i k = -1 := by
        first | (simp only [rTrade, if_neg hc8, if_pos hc19]; done) | grind [rTrade]
      rw [hE]
      exact ⟨rfl, h, Fo.rf μ⟩

set_option maxRecDepth 20000 in
set_option maxHeartbeats 4000000 in
theorem c_X6_without {G : Cx} (d : Nat) {μ : Hp} {σ : ST} {i : Int32} {w : Int32} (h : Cl σ μ) (hw : Wp (sP σ)) : Ct G (d + 5) 0 0 M_X6_without [.ref 0, .int i, .int w] μ (Po (σ) (.long (rWithout σ i w)) μ) := by
  refine Ct.ofV (by decide +kernel) (Nat.le_of_ble_eq_true rfl) ?_
  refine v_ls (ls' := [(0, .ref 0), (1, .int i), (2, .int w)]) rfl ?_
  obtain ⟨h0, ⟨p, h1, h2, h3, h4, h5, h6, h7, h8, h9, hpl⟩, ⟨bk, hbk, pk, k11, k12, k13, k14, k15, k16, k17, k18, k19, hpk⟩, ⟨h20, h21, h22, h23, h24⟩, ⟨tt, ops, cd, kk, pp, ff, h25, h26, h27, h28, htp, ht60⟩, ⟨h29, h30, h31⟩, ⟨⟨oc, hoc⟩, h37, h38, h39⟩, hsx, ⟨B0, B1, B2, h50, h51, h52⟩⟩ := id h
  have hl8 := hw.1
  refine v_aload_n 0 dX6_without_0 rfl rfl ?_
  refine v_get fl_X6_12 dX6_without_1 h0 rfl ?_
  refine v_iload_n 1 dX6_without_4 rfl rfl ?_
  refine v_callV (c_X0_has (d + 4) h1) cs_X6_111 dX6_without_5 h1 rfl rfl (Nat.le_of_ble_eq_true rfl) ?_
  refine rt_k ?_
  refine v_if_eq (tgt := 18) dX6_without_8 (by decide) (fun hc8 => ?_) (fun hc8 => ?_)
  ·
    refine v_ldc2 kc_X6_174 dX6_without_18 ?_
    refine v_lret dX6_without_21 rfl ?_
    have hE : rWithout σ i w = VD := by
      first | (simp only [rWithout, if_pos hc8]; done) | grind [rWithout]
    rw [hE]
    exact ⟨rfl, h, Fo.rf μ⟩
  ·
    refine v_iload_n 2 dX6_without_11 rfl rfl ?_
    refine v_callS (c_X6_isFractionPart (d + 4) ) cs_X6_183 dX6_without_12 rfl rfl (Nat.le_of_ble_eq_true rfl) ?_
    refine rt_k ?_
    refine v_if_ne (tgt := 22) dX6_without_15 (by decide) (fun hc15 => ?_) (fun hc15 => ?_)
    ·
      obtain ⟨n, hn9, rfl⟩ := in_ix (by omega) hc8
      refine v_aload_n 0 dX6_without_22 rfl rfl ?_
      refine v_iload_n 1 dX6_without_23 rfl rfl ?_
      refine v_callV (c_X6_shineBehind d h0 h1 h2 h3 hpl hl8 h50 (by omega)) cs_X6_176 dX6_without_24 h0 rfl rfl (Nat.le_of_ble_eq_true rfl) ?_
      refine rt_k ?_
      refine v_aload_n 0 dX6_without_27 rfl rfl ?_
      refine v_get fl_X6_12 dX6_without_28 (up_n (by decide) h0) rfl ?_
      refine v_aload_n 0 dX6_without_31 rfl rfl ?_
      refine v_get fl_X6_68 dX6_without_32 (up_n (by decide) h0) rfl ?_
      refine v_iload_n 1 dX6_without_35 rfl rfl ?_
      refine v_iconst (v := 1) dX6_without_36 (by first | rfl | decide) ?_
      refine v_iadd dX6_without_37 ?_
      refine v_aload_n 0 dX6_without_38 rfl rfl ?_
      refine v_get fl_X6_12 dX6_without_39 (up_n (by decide) h0) rfl ?_
      refine v_get fl_X6_140 dX6_without_42 (up_n (by decide) h1) rfl ?_
      rw [nI_1]
      refine v_callV (c_X0_send (d + 1) (i := n + 1) (b := (sP σ).length) (up_n (by decide) h1) (up_n (by decide) h3) hpl hl8 (by decide) (by decide) (up_s _ _ _) (by omega) (by omega)) cs_X6_242 dX6_without_45 (up_n (by decide) h1) rfl rfl (Nat.le_of_ble_eq_true rfl) ?_
      refine rt_k ?_
      rw [List.take_length]
      refine v_hp (up_up _ _ _ _) ?_
      refine v_aload_n 0 dX6_without_48 rfl rfl ?_
      refine v_iload_n 2 dX6_without_49 rfl rfl ?_
      refine v_callV (c_X6_leftInBeam (d + 1) (σ := σ) (up_n (by decide) h0) (up_n (by decide) h1) (up_n (by decide) h2) (up_s _ _ _)) cs_X6_186 dX6_without_50 (up_n (by decide) h0) rfl rfl (Nat.le_of_ble_eq_true rfl) ?_
      refine rt_k ?_
      refine v_lret dX6_without_53 rfl ?_
      exact ⟨by simp only [rWithout, if_neg hc8, if_neg hc15, clamp (show n < 2 ^ 31 by omega)], h.beam _, fun i hi => by repeat (first | rfl | refine up_n (by omega) ?_)⟩
    ·
      refine v_ldc2 kc_X6_174 dX6_without_18 ?_
      refine v_lret dX6_without_21 rfl ?_
      have hE : rWithout σ i w = VD := by
        first | (simp only [rWithout, if_neg hc8, if_pos hc15]; done) | grind [rWithout]
      rw [hE]
      exact ⟨rfl, h, Fo.rf μ⟩

theorem seg1 {l : List Int32} {k : Nat} (hk : k < l.length) : (l.take (k + 1)).drop k = [l.getD k 0] := by
  rw [List.take_add_one, List.drop_append_of_le_length (by rw [List.length_take]; omega), List.drop_of_length_le (by rw [List.length_take]; omega)]
  rw [List.getD_eq_getElem?_getD, List.getElem?_eq_getElem hk]
  rfl
theorem drop_g {l : List Int32} {k : Nat} (hk : k < l.length) : l.drop k = l.getD k 0 :: l.drop (k + 1) := by
  rw [List.drop_eq_getElem_cons hk, List.getD_eq_getElem?_getD, List.getElem?_eq_getElem hk]
  rfl
def darX (l : List Int32) (L : LT) (k : Nat) : Int32 := if k ≤ l.length then darO L k (l.drop k) else -5
set_option maxRecDepth 20000 in
set_option maxHeartbeats 4000000 in
theorem dark_loop {G : Cx} (d : Nat) {σ : ST} {μ0 : Hp} (hw : Wp (sP σ)) : ∀ (m : Nat) (j : Nat) (L : LT) (μ : Hp), j + m = (sP σ).length + 1 → Cl σ μ → Fo μ μ0 → μ 50 = some (ligL L) → V G M_X6_darkens (d + 4) 0 0 (Po σ (.int (darX (sP σ) L j)) μ0) 16 [(1, .int (nI j)), (0, .ref 0)] [] (μ) := by
  intro m
  induction m with
  | zero =>
    intro j L μ hj h hF h50b
    obtain ⟨h0, ⟨p, h1, h2, h3, h4, h5, h6, h7, h8, h9, hpl⟩, ⟨bk, hbk, pk, k11, k12, k13, k14, k15, k16, k17, k18, k19, hpk⟩, ⟨h20, h21, h22, h23, h24⟩, ⟨tt, ops, cd, kk, pp, ff, h25, h26, h27, h28, htp, ht60⟩, ⟨h29, h30, h31⟩, ⟨⟨oc, hoc⟩, h37, h38, h39⟩, hsx, ⟨B0, B1, B2, h50, h51, h52⟩⟩ := id h
    have hl8 := hw.1
    refine v_iload_n 0 dX6_darkens_16 rfl rfl ?_
    refine v_aload_n 1 dX6_darkens_17 rfl rfl ?_
    refine v_get fl_X6_12 dX6_darkens_18 h0 rfl ?_
    refine v_get fl_X6_140 dX6_darkens_21 h1 rfl ?_
    refine v_icmp_gt (tgt := 60) dX6_darkens_24 (by decide) (fun hc24 => ?_) (fun hc24 => ?_)
    ·
      refine v_bipush (v := -5) dX6_darkens_60 (by first | rfl | decide) ?_
      refine v_iret dX6_darkens_62 rfl (by first | rfl | decide | exact nar_b (by first | assumption | rfl)) ?_
      have hE : darX (sP σ) L j = -5 := by unfold darX; rw [if_neg (by omega)]
      rw [hE]
      exact ⟨rfl, h, hF⟩
    · exact absurd ((nI_ltI (by omega) (by omega)).mpr (by omega)) hc24
  | succ m ih =>
    intro j L μ hj h hF h50b
    obtain ⟨h0, ⟨p, h1, h2, h3, h4, h5, h6, h7, h8, h9, hpl⟩, ⟨bk, hbk, pk, k11, k12, k13, k14, k15, k16, k17, k18, k19, hpk⟩, ⟨h20, h21, h22, h23, h24⟩, ⟨tt, ops, cd, kk, pp, ff, h25, h26, h27, h28, htp, ht60⟩, ⟨h29, h30, h31⟩, ⟨⟨oc, hoc⟩, h37, h38, h39⟩, hsx, ⟨B0, B1, B2, h50, h51, h52⟩⟩ := id h
    have hl8 := hw.1
    refine v_iload_n 0 dX6_darkens_16 rfl rfl ?_
    refine v_aload_n 1 dX6_darkens_17 rfl rfl ?_
    refine v_get fl_X6_12 dX6_darkens_18 h0 rfl ?_
    refine v_get fl_X6_140 dX6_darkens_21 h1 rfl ?_
    refine v_icmp_gt (tgt := 60) dX6_darkens_24 (by decide) (fun hc24 => ?_) (fun hc24 => ?_)
    · have := (nI_ltI (by omega) (by omega)).mp hc24
      omega
    ·
      refine v_aload_n 1 dX6_darkens_27 rfl rfl ?_
      refine v_get fl_X6_68 dX6_darkens_28 h0 rfl ?_
      refine v_callV (c_X1_isDark (d + 3) h50b) cs_X6_189 dX6_darkens_31 h50b rfl rfl (Nat.le_of_ble_eq_true rfl) ?_
      refine rt_k ?_
      refine v_if_eq (tgt := 39) dX6_darkens_34 (by decide) (fun hc34 => ?_) (fun hc34 => ?_)
      ·
        have hi0 : ¬ L.1 = 0 := fun z => by rw [if_pos z] at hc34; exact absurd hc34 (by decide)
        refine v_aload_n 1 dX6_darkens_39 rfl rfl ?_
        refine v_get fl_X6_12 dX6_darkens_40 h0 rfl ?_
        refine v_aload_n 1 dX6_darkens_43 rfl rfl ?_
        refine v_get fl_X6_68 dX6_darkens_44 h0 rfl ?_
        refine v_iload_n 0 dX6_darkens_47 rfl rfl ?_
        refine v_iload_n 0 dX6_darkens_48 rfl rfl ?_
        refine v_iconst (v := 1) dX6_darkens_49 (by first | rfl | decide) ?_
        refine v_iadd dX6_darkens_50 ?_
        rw [nI_1]
        refine v_callV (c_X0_send d (i := j) (b := j + 1) h1 h3 hpl hl8 (by decide) (by decide) h50b (by omega) (by omega)) cs_X6_242 dX6_darkens_51 h1 rfl rfl (Nat.le_of_ble_eq_true rfl) ?_
        refine rt_k ?_
        refine v_iinc (v := 1) 0 dX6_darkens_54 rfl rfl (by decide) (fun z e_z => ?_)
        refine v_ls (ls' := [(1, .int z), (0, .ref 0)]) rfl ?_
        rw [nI_1] at e_z
        subst e_z
        refine v_goto (tgt := 16) dX6_darkens_57 (by decide) ?_
        have hE : darX (sP σ) L j = darX (sP σ) (runO (((sP σ).take (j + 1)).drop j) L) (j + 1) := by
          unfold darX
          rw [if_pos (show j ≤ _ by omega)]
          by_cases e : j < (sP σ).length
          · rw [if_pos (show j + 1 ≤ _ by omega), seg1 e, drop_g e]
            simp only [darO, if_neg hi0]
            rfl
          · rw [if_neg (show ¬ j + 1 ≤ _ by omega), List.drop_of_length_le (show _ ≤ j by omega)]
            simp only [darO, if_neg hi0]
        rw [hE]
        exact ih (j + 1) _ _ (by omega) (h.beam _) (hF.up (by decide) _) (up_s _ _ _)
        
      ·
        refine v_iload_n 0 dX6_darkens_37 rfl rfl ?_
        refine v_iret dX6_darkens_38 rfl (by first | rfl | decide | exact nar_b (by first | assumption | rfl)) ?_
        have hi0 : L.1 = 0 := by
          by_cases z : L.1 = 0
          · exact z
          · exact absurd (if_neg z) hc34
        have hE : darX (sP σ) L j = nI j := by
          unfold darX
          rw [if_pos (by omega)]
          cases (sP σ).drop j <;> simp only [darO, if_pos hi0]
        rw [hE]
        exact ⟨rfl, h, hF⟩

set_option maxRecDepth 20000 in
set_option maxHeartbeats 4000000 in
theorem c_X6_darkens {G : Cx} (d : Nat) {μ : Hp} {σ : ST}  (h : Cl σ μ) (hw : Wp (sP σ)) : Ct G (d + 4) 0 0 M_X6_darkens [.ref 0] μ (Po (σ) (.int (rDarkens σ)) μ) := by
  refine Ct.ofV (by decide +kernel) (Nat.le_of_ble_eq_true rfl) ?_
  refine v_ls (ls' := [(0, .ref 0)]) rfl ?_
  obtain ⟨h0, ⟨p, h1, h2, h3, h4, h5, h6, h7, h8, h9, hpl⟩, ⟨bk, hbk, pk, k11, k12, k13, k14, k15, k16, k17, k18, k19, hpk⟩, ⟨h20, h21, h22, h23, h24⟩, ⟨tt, ops, cd, kk, pp, ff, h25, h26, h27, h28, htp, ht60⟩, ⟨h29, h30, h31⟩, ⟨⟨oc, hoc⟩, h37, h38, h39⟩, hsx, ⟨B0, B1, B2, h50, h51, h52⟩⟩ := id h
  have hl8 := hw.1
  refine v_aload_n 0 dX6_darkens_0 rfl rfl ?_
  refine v_get fl_X6_68 dX6_darkens_1 h0 rfl ?_
  refine v_aload_n 0 dX6_darkens_4 rfl rfl ?_
  refine v_get fl_X6_12 dX6_darkens_5 h0 rfl ?_
  refine v_get fl_X6_86 dX6_darkens_8 h1 rfl ?_
  refine v_callV (c_X1_takeFrom (d + 2) h50 h2) cs_X6_89 dX6_darkens_11 h50 rfl rfl (Nat.le_of_ble_eq_true rfl) ?_
  refine rt_k ?_
  refine v_iconst (v := 0) dX6_darkens_14 (by first | rfl | decide) ?_
  refine v_istore_n dX6_darkens_15 rfl (by decide) (fun x1 e_x1 => ?_)
  refine v_ls (ls' := [(1, .int x1), (0, .ref 0)]) rfl ?_
  subst e_x1
  have hE : rDarkens σ = darX (sP σ) (sM σ) 0 := by
    unfold rDarkens darX
    rw [if_pos (Nat.zero_le _)]
    rfl
  rw [hE]
  exact dark_loop d hw ((sP σ).length + 1) 0 (sM σ) _ (by omega) (h.beam _) ((Fo.rf μ).up (by decide) _) (up_s _ _ _)
  

