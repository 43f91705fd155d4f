theorem tel_e {f : Nat → Int64} (h : ¬ telB f = 0) : Eb 20 (telO f) := by
  have h4 : ¬ frO (f 4) 0 20 = 0 := fun q => h (by
    unfold telB
    by_cases z : frO (f 0) 0 1000000 = 0
    · rw [if_pos z]
    · rw [if_neg z, if_pos q])
  have q := fr_lo h4
  rw [show (0 : Int64).toInt = 0 from rfl, show (20 : Int64).toInt = 20 from rfl] at q
  refine lowO_e ?_
  have e : ((f 4).toInt32).toInt = (f 4).toInt := by
    rw [Int64.toInt_toInt32]
    exact Int.bmod_eq_of_le (by simp; omega) (by simp; omega)
  exact ⟨by show 0 ≤ ((f 4).toInt32).toInt; omega, by show ((f 4).toInt32).toInt ≤ _; omega⟩
theorem tt_tls {σ : ST} {t : Int32} (h : ¬ inO t 3 = 0) : ttB (sZ σ) (sL σ) t = tlsB σ t := by
  unfold ttB
  rw [if_neg h]
  rfl
theorem tt_ok {σ : ST} {t : Int32} (h : ¬ ttB (sZ σ) (sL σ) t = 0) : ¬ inO t 3 = 0 ∧ ¬ tlsB σ t = 0 ∧ Eb 20 (telO (lAt σ t)) := by
  have h1 : ¬ inO t 3 = 0 := fun q => h (by unfold ttB; rw [if_pos q])
  have h2 : ¬ tlsB σ t = 0 := by rw [← tt_tls h1]; exact h
  refine ⟨h1, h2, tel_e (fun q => h2 ?_)⟩
  unfold tlsB
  by_cases z : zAt σ t < 5
  · rw [if_pos z]
  · rw [if_neg z]; exact q
set_option maxRecDepth 20000 in
set_option maxHeartbeats 4000000 in
theorem thr_loop {G : Cx} (d : Nat) {σ : ST} {μ0 : Hp} (hw : Wp (sP σ)) {t w : Int32} (hw5 : ¬ inO w 5 = 0) : ∀ (m : Nat) (j : Nat) (L : LT) (μ : Hp), j + m = (sP σ).length → Eb (5 * j + 20) L → Mo σ μ → Fp μ μ0 → μ 63 = some (mlg L) → V G M_X7_through (d + 4) 0 0 (Pm σ (.long (partO (runO ((sP σ).drop j) L) w)) μ0) 26 [(3, .int (nI j)), (0, .ref 60), (1, .int t), (2, .int w)] [] (μ) := by
  intro m
  induction m with
  | zero =>
    intro j L μ hj he h hF h63b
    obtain ⟨co, wh, un, lr, mr, hr, at9, fa, op, sg, hm, p, tt, ro, og, tc, op9, sp, nw, se, le, mo, ot, h60, h61, h62, h63, h64, h65, h66, h67, h68, h69, h70, h71, h72, h73, h74, h75, h76, h77, h78, h79, h80, hmk, hpl, htp, ht60⟩ := id h
    have hl8 := hw.1
    refine v_iload_n 0 dX7_through_26 rfl rfl ?_
    refine v_aload_n 1 dX7_through_27 rfl rfl ?_
    refine v_get fl_X7_91 dX7_through_28 h60 rfl ?_
    refine v_icmp_ge (tgt := 53) dX7_through_31 (by decide) (fun hc31 => ?_) (fun hc31 => ?_)
    ·
      refine v_aload_n 1 dX7_through_53 rfl rfl ?_
      refine v_get fl_X7_21 dX7_through_54 h60 rfl ?_
      refine v_iload_n 3 dX7_through_57 rfl rfl ?_
      refine v_lald dX7_through_58 h63b (in5 hw5) ?_
      refine v_lret dX7_through_59 rfl ?_
      rw [List.drop_of_length_le (show (sP σ).length ≤ j by omega), lv_part L hw5]
      exact ⟨rfl, h, hF⟩
    · exact absurd ((nI_leI (by omega) (by omega)).mpr (by omega)) hc31
  | succ m ih =>
    intro j L μ hj he h hF h63b
    obtain ⟨co, wh, un, lr, mr, hr, at9, fa, op, sg, hm, p, tt, ro, og, tc, op9, sp, nw, se, le, mo, ot, h60, h61, h62, h63, h64, h65, h66, h67, h68, h69, h70, h71, h72, h73, h74, h75, h76, h77, h78, h79, h80, hmk, hpl, htp, ht60⟩ := id h
    have hl8 := hw.1
    refine v_iload_n 0 dX7_through_26 rfl rfl ?_
    refine v_aload_n 1 dX7_through_27 rfl rfl ?_
    refine v_get fl_X7_91 dX7_through_28 h60 rfl ?_
    refine v_icmp_ge (tgt := 53) dX7_through_31 (by decide) (fun hc31 => ?_) (fun hc31 => ?_)
    · have := (nI_leI (by omega) (by omega)).mp hc31
      omega
    ·
      refine v_aload_n 1 dX7_through_34 rfl rfl ?_
      refine v_get fl_X7_21 dX7_through_35 h60 rfl ?_
      refine v_aload_n 1 dX7_through_38 rfl rfl ?_
      refine v_get fl_X7_17 dX7_through_39 h60 rfl ?_
      refine v_iload_n 0 dX7_through_42 rfl rfl ?_
      refine v_iald dX7_through_43 h62 (nI_in' (by omega)) ?_
      rw [clamp (show j < 2 ^ 31 by omega), ← getD_at hpl (show j < (sP σ).length by omega)]
      refine v_callS (c_X7_goes d h63b ⟨he.1, by have := he.2; omega⟩ (hw.at (show j < (sP σ).length by omega))) cs_X7_149 dX7_through_44 rfl rfl (Nat.le_of_ble_eq_true rfl) ?_
      refine rt_k ?_
      refine v_iinc (v := 1) 0 dX7_through_47 rfl rfl (by decide) (fun z e_z => ?_)
      refine v_ls (ls' := [(3, .int z), (0, .ref 60), (1, .int t), (2, .int w)]) rfl ?_
      rw [nI_1] at e_z
      subst e_z
      refine v_goto (tgt := 26) dX7_through_50 (by decide) ?_
      rw [drop_g (show j < (sP σ).length by omega), runO_cons]
      exact ih (j + 1) _ _ (by omega) (by have := passO_e (c := (sP σ).getD j 0) he (by omega); exact ⟨this.1, by have := this.2; omega⟩) (h.now _) (hF.up (by decide) _) (up_s _ _ _)
      

set_option maxRecDepth 20000 in
set_option maxHeartbeats 4000000 in
theorem c_X7_through {G : Cx} (d : Nat) {μ : Hp} {σ : ST} {t : Int32} {w : Int32} (h : Mo σ μ) (hw : Wp (sP σ)) : Ct G (d + 4) 0 0 M_X7_through [.ref 60, .int t, .int w] μ (Pm (σ) (.long (rThrough σ t w)) μ) := by
  refine Ct.ofV (by decide +kernel) (Nat.le_of_ble_eq_true rfl) ?_
  refine v_ls (ls' := [(0, .ref 60), (1, .int t), (2, .int w)]) rfl ?_
  obtain ⟨co, wh, un, lr, mr, hr, at9, fa, op, sg, hm, p, tt, ro, og, tc, op9, sp, nw, se, le, mo, ot, h60, h61, h62, h63, h64, h65, h66, h67, h68, h69, h70, h71, h72, h73, h74, h75, h76, h77, h78, h79, h80, hmk, hpl, htp, ht60⟩ := id h
  have hl8 := hw.1
  refine v_iload_n 2 dX7_through_0 rfl rfl ?_
  refine v_i2l dX7_through_1 ?_
  refine v_lconst (v := 0) dX7_through_2 (by first | rfl | decide) ?_
  refine v_ldc2 kc_X7_191 dX7_through_3 ?_
  refine v_callS (c_X7_inL (d + 3) 4 5 4 (by decide) rfl rfl) cs_X7_95 dX7_through_6 rfl rfl (Nat.le_of_ble_eq_true rfl) ?_
  refine rt_k ?_
  refine v_if_eq (tgt := 20) dX7_through_9 (by decide) (fun hc9 => ?_) (fun hc9 => ?_)
  ·
    refine v_ldc2 kc_X7_193 dX7_through_20 ?_
    refine v_lret dX7_through_23 rfl ?_
    have hE : rThrough σ t w = VD := by
      by_cases q1 : inO t 3 = 0
      · simp only [rThrough, if_pos q1]
      · first
          | (simp only [rThrough, if_neg q1, if_pos hc9]; done)
          | (rw [tt_tls q1] at hc17; simp only [rThrough, if_neg q1, if_neg hc9, if_pos hc17]; done)
    rw [hE]
    exact ⟨rfl, h, Fp.rf μ⟩
  ·
    refine v_aload_n 0 dX7_through_12 rfl rfl ?_
    refine v_iload_n 1 dX7_through_13 rfl rfl ?_
    refine v_callV (c_X7_tellsLight d h60 h63 h70 h71) cs_X7_284 dX7_through_14 h60 rfl rfl (Nat.le_of_ble_eq_true rfl) ?_
    rintro _ _ ⟨rfl, g9, rfl, hg9⟩
    refine v_if_ne (tgt := 24) dX7_through_17 (by decide) (fun hc17 => ?_) (fun hc17 => ?_)
    ·
      obtain rfl := hg9 hc17
      obtain ⟨q1, q2, q3⟩ := tt_ok hc17
      refine v_iconst (v := 0) dX7_through_24 (by first | rfl | decide) ?_
      refine v_istore_n dX7_through_25 rfl (by decide) (fun x3 e_x3 => ?_)
      refine v_ls (ls' := [(3, .int x3), (0, .ref 60), (1, .int t), (2, .int w)]) rfl ?_
      subst e_x3
      have hE : rThrough σ t w = partO (runO ((sP σ).drop 0) (telO (lAt σ t))) w := by simp only [rThrough, if_neg q1, if_neg hc9, if_neg q2, List.drop_zero]
      rw [hE]
      exact thr_loop d hw hc9 (sP σ).length 0 (telO (lAt σ t)) _ (by omega) q3 (h.now _) (fun i hi => by repeat (first | rfl | refine up_n (by omega) ?_)) (up_s _ _ _)
      
    ·
      refine v_ldc2 kc_X7_193 dX7_through_20 ?_
      refine v_lret dX7_through_23 rfl ?_
      have hE : rThrough σ t w = VD := by
        by_cases q1 : inO t 3 = 0
        · simp only [rThrough, if_pos q1]
        · first
            | (simp only [rThrough, if_neg q1, if_pos hc9]; done)
            | (rw [tt_tls q1] at hc17; simp only [rThrough, if_neg q1, if_neg hc9, if_pos hc17]; done)
      rw [hE]
      exact ⟨rfl, h.now _, fun i hi => by repeat (first | rfl | refine up_n (by omega) ?_)⟩

set_option maxRecDepth 20000 in
set_option maxHeartbeats 4000000 in
theorem c_X7_refound {G : Cx} (d : Nat) {μ : Hp} {σ : ST} {t : Int32} {w : Int32} (h : Mo σ μ) (hw : Wp (sP σ)) : Ct G (d + 3) 0 0 M_X7_refound [.ref 60, .int t, .int w] μ (Pm (σ) (.long (rRefound σ t w)) μ) := by
  refine Ct.ofV (by decide +kernel) (Nat.le_of_ble_eq_true rfl) ?_
  refine v_ls (ls' := [(0, .ref 60), (1, .int t), (2, .int w)]) rfl ?_
  obtain ⟨co, wh, un, lr, mr, hr, at9, fa, op, sg, hm, p, tt, ro, og, tc, op9, sp, nw, se, le, mo, ot, h60, h61, h62, h63, h64, h65, h66, h67, h68, h69, h70, h71, h72, h73, h74, h75, h76, h77, h78, h79, h80, hmk, hpl, htp, ht60⟩ := id h
  have hl8 := hw.1
  refine v_aload_n 0 dX7_refound_0 rfl rfl ?_
  refine v_iload_n 1 dX7_refound_1 rfl rfl ?_
  refine v_callV (c_X7_hasFive d h60 h71) cs_X7_277 dX7_refound_2 h60 rfl rfl (Nat.le_of_ble_eq_true rfl) ?_
  refine rt_k ?_
  refine v_if_eq (tgt := 20) dX7_refound_5 (by decide) (fun hc5 => ?_) (fun hc5 => ?_)
  ·
    refine v_ldc2 kc_X7_193 dX7_refound_20 ?_
    refine v_lret dX7_refound_23 rfl ?_
    have hE : rRefound σ t w = VD := by
      by_cases q1 : inO t 3 = 0
      · simp only [rRefound, if_pos q1]
      · by_cases q6 : inO w 6 = 0
        · simp only [rRefound, if_neg q1, if_pos q6]
        · first
            | exact absurd hc17 q6
            | (have q2 : zAt σ t < 5 := by
                 unfold hfO at hc5
                 rw [if_neg q1] at hc5
                 by_cases q : zAt σ t < 5
                 · exact q
                 · rw [if_neg q] at hc5; exact absurd hc5 (by decide)
               simp only [rRefound, if_neg q1, if_neg q6, if_pos q2])
    rw [hE]
    exact ⟨rfl, h, Fp.rf μ⟩
  ·
    refine v_iload_n 2 dX7_refound_8 rfl rfl ?_
    refine v_i2l dX7_refound_9 ?_
    refine v_lconst (v := 0) dX7_refound_10 (by first | rfl | decide) ?_
    refine v_ldc2 kc_X7_119 dX7_refound_11 ?_
    refine v_callS (c_X7_inL (d + 2) 5 6 5 (by decide) rfl rfl) cs_X7_95 dX7_refound_14 rfl rfl (Nat.le_of_ble_eq_true rfl) ?_
    refine rt_k ?_
    refine v_if_ne (tgt := 24) dX7_refound_17 (by decide) (fun hc17 => ?_) (fun hc17 => ?_)
    ·
      have q1 : ¬ inO t 3 = 0 := fun q => hc5 (by unfold hfO; rw [if_pos q])
      have q2 : ¬ sZ σ t.toNatClampNeg < 5 := fun q => hc5 (by unfold hfO; rw [if_neg q1, if_pos q])
      obtain ⟨n, hn9, rfl⟩ := in_ix (n := 3) (by decide) q1
      have hcn : (nI n).toNatClampNeg = n := clamp (by omega)
      rw [hcn] at q2
      have hl0 : lsF (sL σ) (nI (12 * n)).toNatClampNeg = sL σ n 0 := by rw [clamp (by omega)]; exact ls_at (sL σ) (n := n) (b := 0) (by decide)
      have hl1 : lsF (sL σ) (nI (12 * n + 1)).toNatClampNeg = sL σ n 1 := by rw [clamp (by omega)]; exact ls_at (sL σ) (by decide)
      have hl2 : lsF (sL σ) (nI (12 * n + 2)).toNatClampNeg = sL σ n 2 := by rw [clamp (by omega)]; exact ls_at (sL σ) (by decide)
      have hl3 : lsF (sL σ) (nI (12 * n + 3)).toNatClampNeg = sL σ n 3 := by rw [clamp (by omega)]; exact ls_at (sL σ) (by decide)
      have hl4 : lsF (sL σ) (nI (12 * n + 4)).toNatClampNeg = sL σ n 4 := by rw [clamp (by omega)]; exact ls_at (sL σ) (by decide)
      refine v_bipush (v := 12) dX7_refound_24 (by first | rfl | decide) ?_
      refine v_iload_n 1 dX7_refound_26 rfl rfl ?_
      refine v_imul dX7_refound_27 ?_
      refine v_istore_n dX7_refound_28 rfl (by decide) (fun y3 e_y3 => ?_)
      refine v_ls (ls' := [(3, .int y3), (0, .ref 60), (1, .int (nI n)), (2, .int w)]) rfl ?_
      rw [m12] at e_y3
      subst e_y3
      refine v_iconst (v := 0) dX7_refound_29 (by first | rfl | decide) ?_
      refine v_istore dX7_refound_30 (by decide) (fun y4 e_y4 => ?_)
      refine v_ls (ls' := [(4, .int y4), (3, .int (nI (12 * n))), (0, .ref 60), (1, .int (nI n)), (2, .int w)]) rfl ?_
      subst e_y4
      refine v_iload 0 dX7_refound_32 rfl ?_
      refine v_iconst (v := 4) dX7_refound_34 (by first | rfl | decide) ?_
      refine v_icmp_ge (tgt := 67) dX7_refound_35 (by decide) (fun hc35 => ?_) (fun hc35 => ?_)
      · exact absurd hc35 (by decide)
      ·
        refine v_aload_n 2 dX7_refound_38 rfl rfl ?_
        refine v_get fl_X7_42 dX7_refound_39 h60 rfl ?_
        refine v_iload_n 1 dX7_refound_42 rfl rfl ?_
        refine v_iload 0 dX7_refound_43 rfl ?_
        refine v_iadd dX7_refound_45 ?_
        rw [show nI (12 * n) + 0 = nI (12 * n + 0) from nI_add _ _]
        refine v_lald dX7_refound_46 h70 (nI_in' (by omega)) ?_
        refine v_lconst (v := 0) dX7_refound_47 (by first | rfl | decide) ?_
        refine v_ldc2 kc_X7_280 dX7_refound_48 ?_
        rw [show lsF (sL σ) (nI (12 * n + 0)).toNatClampNeg = sL σ n 0 from hl0]
        refine v_callS (c_X7_in (d + 2)) cs_X7_95 dX7_refound_51 rfl rfl (Nat.le_of_ble_eq_true rfl) ?_
        refine rt_k ?_
        refine v_if_ne (tgt := 61) dX7_refound_54 (by decide) (fun hk0 => ?_) (fun hk0 => ?_)
        ·
          refine v_iinc (v := 1) 0 dX7_refound_61 rfl rfl (by decide) (fun z_ ez_ => ?_)
          obtain rfl : z_ = 1 := by rw [ez_]; decide
          refine v_ls (ls' := [(4, .int (1)), (3, .int (nI (12 * n))), (0, .ref 60), (1, .int (nI n)), (2, .int w)]) rfl ?_
          refine v_goto (tgt := 32) dX7_refound_64 (by decide) ?_
          refine v_iload 0 dX7_refound_32 rfl ?_
          refine v_iconst (v := 4) dX7_refound_34 (by first | rfl | decide) ?_
          refine v_icmp_ge (tgt := 67) dX7_refound_35 (by decide) (fun hc35 => ?_) (fun hc35 => ?_)
          · exact absurd hc35 (by decide)
          ·
            refine v_aload_n 2 dX7_refound_38 rfl rfl ?_
            refine v_get fl_X7_42 dX7_refound_39 h60 rfl ?_
            refine v_iload_n 1 dX7_refound_42 rfl rfl ?_
            refine v_iload 0 dX7_refound_43 rfl ?_
            refine v_iadd dX7_refound_45 ?_
            rw [show nI (12 * n) + 1 = nI (12 * n + 1) from nI_add _ _]
            refine v_lald dX7_refound_46 h70 (nI_in' (by omega)) ?_
            refine v_lconst (v := 0) dX7_refound_47 (by first | rfl | decide) ?_
            refine v_ldc2 kc_X7_280 dX7_refound_48 ?_
            rw [show lsF (sL σ) (nI (12 * n + 1)).toNatClampNeg = sL σ n 1 from hl1]
            refine v_callS (c_X7_in (d + 2)) cs_X7_95 dX7_refound_51 rfl rfl (Nat.le_of_ble_eq_true rfl) ?_
            refine rt_k ?_
            refine v_if_ne (tgt := 61) dX7_refound_54 (by decide) (fun hk1 => ?_) (fun hk1 => ?_)
            ·
              refine v_iinc (v := 1) 0 dX7_refound_61 rfl rfl (by decide) (fun z_ ez_ => ?_)
              obtain rfl : z_ = 2 := by rw [ez_]; decide
              refine v_ls (ls' := [(4, .int (2)), (3, .int (nI (12 * n))), (0, .ref 60), (1, .int (nI n)), (2, .int w)]) rfl ?_
              refine v_goto (tgt := 32) dX7_refound_64 (by decide) ?_
              refine v_iload 0 dX7_refound_32 rfl ?_
              refine v_iconst (v := 4) dX7_refound_34 (by first | rfl | decide) ?_
              refine v_icmp_ge (tgt := 67) dX7_refound_35 (by decide) (fun hc35 => ?_) (fun hc35 => ?_)
              · exact absurd hc35 (by decide)
              ·
                refine v_aload_n 2 dX7_refound_38 rfl rfl ?_
                refine v_get fl_X7_42 dX7_refound_39 h60 rfl ?_
                refine v_iload_n 1 dX7_refound_42 rfl rfl ?_
                refine v_iload 0 dX7_refound_43 rfl ?_
                refine v_iadd dX7_refound_45 ?_
                rw [show nI (12 * n) + 2 = nI (12 * n + 2) from nI_add _ _]
                refine v_lald dX7_refound_46 h70 (nI_in' (by omega)) ?_
                refine v_lconst (v := 0) dX7_refound_47 (by first | rfl | decide) ?_
                refine v_ldc2 kc_X7_280 dX7_refound_48 ?_
                rw [show lsF (sL σ) (nI (12 * n + 2)).toNatClampNeg = sL σ n 2 from hl2]
                refine v_callS (c_X7_in (d + 2)) cs_X7_95 dX7_refound_51 rfl rfl (Nat.le_of_ble_eq_true rfl) ?_
                refine rt_k ?_
                refine v_if_ne (tgt := 61) dX7_refound_54 (by decide) (fun hk2 => ?_) (fun hk2 => ?_)
                ·
                  refine v_iinc (v := 1) 0 dX7_refound_61 rfl rfl (by decide) (fun z_ ez_ => ?_)
                  obtain rfl : z_ = 3 := by rw [ez_]; decide
                  refine v_ls (ls' := [(4, .int (3)), (3, .int (nI (12 * n))), (0, .ref 60), (1, .int (nI n)), (2, .int w)]) rfl ?_
                  refine v_goto (tgt := 32) dX7_refound_64 (by decide) ?_
                  refine v_iload 0 dX7_refound_32 rfl ?_
                  refine v_iconst (v := 4) dX7_refound_34 (by first | rfl | decide) ?_
                  refine v_icmp_ge (tgt := 67) dX7_refound_35 (by decide) (fun hc35 => ?_) (fun hc35 => ?_)
                  · exact absurd hc35 (by decide)
                  ·
                    refine v_aload_n 2 dX7_refound_38 rfl rfl ?_
                    refine v_get fl_X7_42 dX7_refound_39 h60 rfl ?_
                    refine v_iload_n 1 dX7_refound_42 rfl rfl ?_
                    refine v_iload 0 dX7_refound_43 rfl ?_
                    refine v_iadd dX7_refound_45 ?_
                    rw [show nI (12 * n) + 3 = nI (12 * n + 3) from nI_add _ _]
                    refine v_lald dX7_refound_46 h70 (nI_in' (by omega)) ?_
                    refine v_lconst (v := 0) dX7_refound_47 (by first | rfl | decide) ?_
                    refine v_ldc2 kc_X7_280 dX7_refound_48 ?_
                    rw [show lsF (sL σ) (nI (12 * n + 3)).toNatClampNeg = sL σ n 3 from hl3]
                    refine v_callS (c_X7_in (d + 2)) cs_X7_95 dX7_refound_51 rfl rfl (Nat.le_of_ble_eq_true rfl) ?_
                    refine rt_k ?_
                    refine v_if_ne (tgt := 61) dX7_refound_54 (by decide) (fun hk3 => ?_) (fun hk3 => ?_)
                    ·
                      refine v_iinc (v := 1) 0 dX7_refound_61 rfl rfl (by decide) (fun z_ ez_ => ?_)
                      obtain rfl : z_ = 4 := by rw [ez_]; decide
                      refine v_ls (ls' := [(4, .int (4)), (3, .int (nI (12 * n))), (0, .ref 60), (1, .int (nI n)), (2, .int w)]) rfl ?_
                      refine v_goto (tgt := 32) dX7_refound_64 (by decide) ?_
                      refine v_iload 0 dX7_refound_32 rfl ?_
                      refine v_iconst (v := 4) dX7_refound_34 (by first | rfl | decide) ?_
                      refine v_icmp_ge (tgt := 67) dX7_refound_35 (by decide) (fun hc35 => ?_) (fun hc35 => ?_)
                      ·
                        refine v_aload_n 2 dX7_refound_67 rfl rfl ?_
                        refine v_get fl_X7_42 dX7_refound_68 h60 rfl ?_
                        refine v_iload_n 1 dX7_refound_71 rfl rfl ?_
                        refine v_iconst (v := 4) dX7_refound_72 (by first | rfl | decide) ?_
                        refine v_iadd dX7_refound_73 ?_
                        rw [show nI (12 * n) + 4 = nI (12 * n + 4) from nI_add _ _]
                        refine v_lald dX7_refound_74 h70 (nI_in' (by omega)) ?_
                        refine v_lconst (v := 1) dX7_refound_75 (by first | rfl | decide) ?_
                        refine v_ldc2 kc_X7_282 dX7_refound_76 ?_
                        rw [hl4]
                        refine v_callS (c_X7_in (d + 2)) cs_X7_95 dX7_refound_79 rfl rfl (Nat.le_of_ble_eq_true rfl) ?_
                        refine rt_k ?_
                        refine v_if_ne (tgt := 89) dX7_refound_82 (by decide) (fun hc82 => ?_) (fun hc82 => ?_)
                        ·
                          refine v_aload_n 2 dX7_refound_89 rfl rfl ?_
                          refine v_get fl_X7_21 dX7_refound_90 h60 rfl ?_
                          refine v_iconst (v := 0) dX7_refound_93 (by first | rfl | decide) ?_
                          refine v_aload_n 2 dX7_refound_94 rfl rfl ?_
                          refine v_get fl_X7_42 dX7_refound_95 h60 rfl ?_
                          refine v_iload_n 1 dX7_refound_98 rfl rfl ?_
                          refine v_lald dX7_refound_99 h70 (nI_in' (by omega)) ?_
                          refine v_aload_n 2 dX7_refound_100 rfl rfl ?_
                          refine v_get fl_X7_42 dX7_refound_101 h60 rfl ?_
                          refine v_iload_n 1 dX7_refound_104 rfl rfl ?_
                          refine v_iconst (v := 2) dX7_refound_105 (by first | rfl | decide) ?_
                          refine v_iadd dX7_refound_106 ?_
                          rw [show nI (12 * n) + 2 = nI (12 * n + 2) from nI_add _ _]
                          refine v_lald dX7_refound_107 h70 (nI_in' (by omega)) ?_
                          refine v_ladd dX7_refound_108 ?_
                          refine v_last dX7_refound_109 h63 (nI_in' (k := 0) (by decide)) ?_
                          refine v_aload_n 2 dX7_refound_110 rfl rfl ?_
                          refine v_get fl_X7_21 dX7_refound_111 (up_n (by decide) h60) rfl ?_
                          refine v_iconst (v := 1) dX7_refound_114 (by first | rfl | decide) ?_
                          refine v_aload_n 2 dX7_refound_115 rfl rfl ?_
                          refine v_get fl_X7_42 dX7_refound_116 (up_n (by decide) h60) rfl ?_
                          refine v_iload_n 1 dX7_refound_119 rfl rfl ?_
                          refine v_lald dX7_refound_120 (up_n (by decide) h70) (nI_in' (by omega)) ?_
                          refine v_aload_n 2 dX7_refound_121 rfl rfl ?_
                          refine v_get fl_X7_42 dX7_refound_122 (up_n (by decide) h60) rfl ?_
                          refine v_iload_n 1 dX7_refound_125 rfl rfl ?_
                          refine v_iconst (v := 2) dX7_refound_126 (by first | rfl | decide) ?_
                          refine v_iadd dX7_refound_127 ?_
                          rw [show nI (12 * n) + 2 = nI (12 * n + 2) from nI_add _ _]
                          refine v_lald dX7_refound_128 (up_n (by decide) h70) (nI_in' (by omega)) ?_
                          refine v_lsub dX7_refound_129 ?_
                          refine v_last dX7_refound_130 (up_s _ _ _) (nI_in' (k := 1) (by decide)) ?_
                          refine v_hp (up_up _ _ _ _) ?_
                          refine v_aload_n 2 dX7_refound_131 rfl rfl ?_
                          refine v_get fl_X7_21 dX7_refound_132 (up_n (by decide) h60) rfl ?_
                          refine v_iconst (v := 2) dX7_refound_135 (by first | rfl | decide) ?_
                          refine v_ldc2 kc_X7_99 dX7_refound_136 ?_
                          refine v_aload_n 2 dX7_refound_139 rfl rfl ?_
                          refine v_get fl_X7_42 dX7_refound_140 (up_n (by decide) h60) rfl ?_
                          refine v_iload_n 1 dX7_refound_143 rfl rfl ?_
                          refine v_iconst (v := 1) dX7_refound_144 (by first | rfl | decide) ?_
                          refine v_iadd dX7_refound_145 ?_
                          rw [show nI (12 * n) + 1 = nI (12 * n + 1) from nI_add _ _]
                          refine v_lald dX7_refound_146 (up_n (by decide) h70) (nI_in' (by omega)) ?_
                          refine v_lmul dX7_refound_147 ?_
                          refine v_aload_n 2 dX7_refound_148 rfl rfl ?_
                          refine v_get fl_X7_21 dX7_refound_149 (up_n (by decide) h60) rfl ?_
                          refine v_iconst (v := 0) dX7_refound_152 (by first | rfl | decide) ?_
                          refine v_lald dX7_refound_153 (up_s _ _ _) (nI_in' (k := 0) (by decide)) ?_
                          refine v_lsub dX7_refound_154 ?_
                          refine v_last dX7_refound_155 (up_s _ _ _) (nI_in' (k := 2) (by decide)) ?_
                          refine v_hp (up_up _ _ _ _) ?_
                          refine v_aload_n 2 dX7_refound_156 rfl rfl ?_
                          refine v_get fl_X7_21 dX7_refound_157 (up_n (by decide) h60) rfl ?_
                          refine v_iconst (v := 3) dX7_refound_160 (by first | rfl | decide) ?_
                          refine v_ldc2 kc_X7_99 dX7_refound_161 ?_
                          refine v_aload_n 2 dX7_refound_164 rfl rfl ?_
                          refine v_get fl_X7_42 dX7_refound_165 (up_n (by decide) h60) rfl ?_
                          refine v_iload_n 1 dX7_refound_168 rfl rfl ?_
                          refine v_iconst (v := 3) dX7_refound_169 (by first | rfl | decide) ?_
                          refine v_iadd dX7_refound_170 ?_
                          rw [show nI (12 * n) + 3 = nI (12 * n + 3) from nI_add _ _]
                          refine v_lald dX7_refound_171 (up_n (by decide) h70) (nI_in' (by omega)) ?_
                          refine v_lmul dX7_refound_172 ?_
                          refine v_aload_n 2 dX7_refound_173 rfl rfl ?_
                          refine v_get fl_X7_21 dX7_refound_174 (up_n (by decide) h60) rfl ?_
                          refine v_iconst (v := 0) dX7_refound_177 (by first | rfl | decide) ?_
                          refine v_lald dX7_refound_178 (up_s _ _ _) (nI_in' (k := 0) (by decide)) ?_
                          refine v_lsub dX7_refound_179 ?_
                          refine v_last dX7_refound_180 (up_s _ _ _) (nI_in' (k := 3) (by decide)) ?_
                          refine v_hp (up_up _ _ _ _) ?_
                          refine v_aload_n 2 dX7_refound_181 rfl rfl ?_
                          refine v_get fl_X7_21 dX7_refound_182 (up_n (by decide) h60) rfl ?_
                          refine v_iconst (v := 4) dX7_refound_185 (by first | rfl | decide) ?_
                          refine v_aload_n 2 dX7_refound_186 rfl rfl ?_
                          refine v_get fl_X7_42 dX7_refound_187 (up_n (by decide) h60) rfl ?_
                          refine v_iload_n 1 dX7_refound_190 rfl rfl ?_
                          refine v_iconst (v := 4) dX7_refound_191 (by first | rfl | decide) ?_
                          refine v_iadd dX7_refound_192 ?_
                          rw [show nI (12 * n) + 4 = nI (12 * n + 4) from nI_add _ _]
                          refine v_lald dX7_refound_193 (up_n (by decide) h70) (nI_in' (by omega)) ?_
                          refine v_last dX7_refound_194 (up_s _ _ _) (nI_in' (k := 4) (by decide)) ?_
                          refine v_hp (up_up _ _ _ _) ?_
                          rw [hl0, hl1, hl2, hl3, hl4]
                          have hrb : ¬ refB (sL σ n) = 0 := by
                            simp only [refB, if_neg hk0, if_neg hk1, if_neg hk2, if_neg hk3]
                            exact hc82
                          have he4 : (sL σ n 4).toInt32.toInt64 = sL σ n 4 := by
                            have q := fr_lo hc82
                            rw [show (1 : Int64).toInt = 1 from rfl, show (20 : Int64).toInt = 20 from rfl] at q
                            apply Int64.toInt_inj.mp
                            rw [Int32.toInt_toInt64, Int64.toInt_toInt32]
                            exact Int.bmod_eq_of_le (by simp; omega) (by simp; omega)
                          refine v_njJ (g := lvO (sL σ n 0 + sL σ n 2, sL σ n 0 - sL σ n 2, 2 * sL σ n 1 - (sL σ n 0 + sL σ n 2), 2 * sL σ n 3 - (sL σ n 0 + sL σ n 2), (sL σ n 4).toInt32)) (all5 rfl rfl rfl rfl he4.symm) ?_
                          refine v_aload_n 2 dX7_refound_195 rfl rfl ?_
                          refine v_get fl_X7_21 dX7_refound_196 (up_n (by decide) h60) rfl ?_
                          refine v_callS (c_X7_toLowest (d + 2) (up_s _ _ _)) cs_X7_136 dX7_refound_199 rfl rfl (Nat.le_of_ble_eq_true rfl) ?_
                          refine rt_k ?_
                          refine v_hp (up_up _ _ _ _) ?_
                          refine v_iload_n 4 dX7_refound_202 rfl rfl ?_
                          refine v_iconst (v := 5) dX7_refound_203 (by first | rfl | decide) ?_
                          refine v_icmp_ge (tgt := 216) dX7_refound_204 (by decide) (fun hc204 => ?_) (fun hc204 => ?_)
                          ·
                            refine v_aload_n 2 dX7_refound_216 rfl rfl ?_
                            refine v_get fl_X7_21 dX7_refound_217 (up_n (by decide) h60) rfl ?_
                            refine v_iconst (v := 0) dX7_refound_220 (by first | rfl | decide) ?_
                            refine v_lald dX7_refound_221 (up_s _ _ _) (nI_in' (k := 0) (by decide)) ?_
                            refine v_aload_n 2 dX7_refound_222 rfl rfl ?_
                            refine v_get fl_X7_21 dX7_refound_223 (up_n (by decide) h60) rfl ?_
                            refine v_iconst (v := 1) dX7_refound_226 (by first | rfl | decide) ?_
                            refine v_lald dX7_refound_227 (up_s _ _ _) (nI_in' (k := 1) (by decide)) ?_
                            refine v_aload_n 2 dX7_refound_228 rfl rfl ?_
                            refine v_get fl_X7_21 dX7_refound_229 (up_n (by decide) h60) rfl ?_
                            refine v_iconst (v := 2) dX7_refound_232 (by first | rfl | decide) ?_
                            refine v_lald dX7_refound_233 (up_s _ _ _) (nI_in' (k := 2) (by decide)) ?_
                            refine v_aload_n 2 dX7_refound_234 rfl rfl ?_
                            refine v_get fl_X7_21 dX7_refound_235 (up_n (by decide) h60) rfl ?_
                            refine v_iconst (v := 3) dX7_refound_238 (by first | rfl | decide) ?_
                            refine v_lald dX7_refound_239 (up_s _ _ _) (nI_in' (k := 3) (by decide)) ?_
                            refine v_callS (c_X7_mayBe (d + 1) ) cs_X7_154 dX7_refound_240 rfl rfl (Nat.le_of_ble_eq_true rfl) ?_
                            refine rt_k ?_
                            refine v_if_eq (tgt := 250) dX7_refound_243 (by decide) (fun hc243 => ?_) (fun hc243 => ?_)
                            ·
                              refine v_lconst (v := 0) dX7_refound_250 (by first | rfl | decide) ?_
                              refine v_lret dX7_refound_251 rfl ?_
                              have hw9 : w = 5 := by
                                have q := hc17
                                clear h hw h60 h61 h62 h63 h64 h65 h66 h67 h68 h69 h70 h71 h72 h73 h74 h75 h76 h77 h78 h79 h80 hmk hpl htp hk0 hk1 hk2 hk3 hc82 hrb he4 hl0 hl1 hl2 hl3 hl4 hc243
                                grind
                              have hmm : mayO (refO (sL σ n)) = 0 := hc243
                              have hE : rRefound σ (nI n) w = 0 := by
                                simp only [rRefound, if_neg q1, if_neg hc17, zAt, lAt, hcn, if_neg q2, if_neg hrb, if_pos hw9, hmm]
                                rfl
                              rw [hE]
                              exact ⟨rfl, h.now _, fun i hi => by repeat (first | rfl | refine up_n (by omega) ?_)⟩
                            ·
                              refine v_lconst (v := 1) dX7_refound_246 (by first | rfl | decide) ?_
                              refine v_goto (tgt := 251) dX7_refound_247 (by decide) ?_
                              refine v_lret dX7_refound_251 rfl ?_
                              have hw9 : w = 5 := by
                                have q := hc17
                                clear h hw h60 h61 h62 h63 h64 h65 h66 h67 h68 h69 h70 h71 h72 h73 h74 h75 h76 h77 h78 h79 h80 hmk hpl htp hk0 hk1 hk2 hk3 hc82 hrb he4 hl0 hl1 hl2 hl3 hl4 hc243
                                grind
                              have hmm : mayO (refO (sL σ n)) = 1 := (mayO_b _).resolve_left hc243
                              have hE : rRefound σ (nI n) w = 1 := by
                                simp only [rRefound, if_neg q1, if_neg hc17, zAt, lAt, hcn, if_neg q2, if_neg hrb, if_pos hw9, hmm]
                                rfl
                              rw [hE]
                              exact ⟨rfl, h.now _, fun i hi => by repeat (first | rfl | refine up_n (by omega) ?_)⟩
                          ·
                            refine v_aload_n 2 dX7_refound_207 rfl rfl ?_
                            refine v_get fl_X7_21 dX7_refound_208 (up_n (by decide) h60) rfl ?_
                            refine v_iload_n 4 dX7_refound_211 rfl rfl ?_
                            have hw5 : ¬ inO w 5 = 0 := by
                              have q := hc17
                              clear h hw h60 h61 h62 h63 h64 h65 h66 h67 h68 h69 h70 h71 h72 h73 h74 h75 h76 h77 h78 h79 h80 hmk hpl htp hk0 hk1 hk2 hk3 hc82 hrb he4 hl0 hl1 hl2 hl3 hl4
                              grind
                            refine v_lald dX7_refound_212 (up_s _ _ _) (in5 hw5) ?_
                            refine v_goto (tgt := 251) dX7_refound_213 (by decide) ?_
                            refine v_lret dX7_refound_251 rfl ?_
                            have hw9 : ¬ w = 5 := fun z => by rw [z] at hw5; exact hw5 (by decide)
                            rw [lv_part _ hw5]
                            have hE : rRefound σ (nI n) w = partO (refO (sL σ n)) w := by
                              simp only [rRefound, if_neg q1, if_neg hc17, zAt, lAt, hcn, if_neg q2, if_neg hrb, if_neg hw9]
                            rw [hE]
                            exact ⟨rfl, h.now _, fun i hi => by repeat (first | rfl | refine up_n (by omega) ?_)⟩
                        ·
                          refine v_ldc2 kc_X7_193 dX7_refound_85 ?_
                          refine v_lret dX7_refound_88 rfl ?_
                          have hE : rRefound σ (nI n) w = VD := by
                            simp only [rRefound, if_neg q1, if_neg hc17, zAt, lAt, hcn, if_neg q2, refB, if_neg hk0, if_neg hk1, if_neg hk2, if_neg hk3, if_pos hc82]
                          rw [hE]
                          exact ⟨rfl, h, Fp.rf μ⟩
                      · exact absurd (by decide) hc35
                    ·
                      refine v_ldc2 kc_X7_193 dX7_refound_57 ?_
                      refine v_lret dX7_refound_60 rfl ?_
                      have hE : rRefound σ (nI n) w = VD := by
                        simp only [rRefound, if_neg q1, if_neg hc17, zAt, lAt, hcn, if_neg q2, refB, if_neg hk0, if_neg hk1, if_neg hk2, if_pos hk3]
                        rfl
                      rw [hE]
                      exact ⟨rfl, h, Fp.rf μ⟩
                ·
                  refine v_ldc2 kc_X7_193 dX7_refound_57 ?_
                  refine v_lret dX7_refound_60 rfl ?_
                  have hE : rRefound σ (nI n) w = VD := by
                    simp only [rRefound, if_neg q1, if_neg hc17, zAt, lAt, hcn, if_neg q2, refB, if_neg hk0, if_neg hk1, if_pos hk2]
                    rfl
                  rw [hE]
                  exact ⟨rfl, h, Fp.rf μ⟩
            ·
              refine v_ldc2 kc_X7_193 dX7_refound_57 ?_
              refine v_lret dX7_refound_60 rfl ?_
              have hE : rRefound σ (nI n) w = VD := by
                simp only [rRefound, if_neg q1, if_neg hc17, zAt, lAt, hcn, if_neg q2, refB, if_neg hk0, if_pos hk1]
                rfl
              rw [hE]
              exact ⟨rfl, h, Fp.rf μ⟩
        ·
          refine v_ldc2 kc_X7_193 dX7_refound_57 ?_
          refine v_lret dX7_refound_60 rfl ?_
          have hE : rRefound σ (nI n) w = VD := by
            simp only [rRefound, if_neg q1, if_neg hc17, zAt, lAt, hcn, if_neg q2, refB, if_pos hk0]
            rfl
          rw [hE]
          exact ⟨rfl, h, Fp.rf μ⟩
    ·
      refine v_ldc2 kc_X7_193 dX7_refound_20 ?_
      refine v_lret dX7_refound_23 rfl ?_
      have hE : rRefound σ t w = VD := by
        by_cases q1 : inO t 3 = 0
        · simp only [rRefound, if_pos q1]
        · by_cases q6 : inO w 6 = 0
          · simp only [rRefound, if_neg q1, if_pos q6]
          · first
              | exact absurd hc17 q6
              | (have q2 : zAt σ t < 5 := by
                   unfold hfO at hc5
                   rw [if_neg q1] at hc5
                   by_cases q : zAt σ t < 5
                   · exact q
                   · rw [if_neg q] at hc5; exact absurd hc5 (by decide)
                 simp only [rRefound, if_neg q1, if_neg q6, if_pos q2])
      rw [hE]
      exact ⟨rfl, h, Fp.rf μ⟩

