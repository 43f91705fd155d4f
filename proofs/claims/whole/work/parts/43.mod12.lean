theorem half_0 : (0 : Int64) >>> ((1 : Int32).toInt64 &&& 63) = 0 := by decide +kernel
theorem half_v (v : Int64) (e : Int32) : halfO (v, 0, 0, 0, e) = (v >>> ((1 : Int32).toInt64 &&& 63), 0, 0, 0, e - 1) := by
  unfold halfO
  simp only [half_0]
theorem evn_v (v : Int64) (e : Int32) : evnO (v, 0, 0, 0, e) ↔ v.toInt % 2 = 0 := by
  rw [evn_iff]
  exact ⟨fun z => z.1, fun z => ⟨z, show (0 : Int64).toInt % 2 = 0 by decide, show (0 : Int64).toInt % 2 = 0 by decide, show (0 : Int64).toInt % 2 = 0 by decide⟩⟩
set_option maxRecDepth 20000 in
set_option maxHeartbeats 4000000 in
theorem mlow_loop {G : Cx} (d : Nat) {σ : ST} {μ μ0 : Hp} {r c w : Int32} (h : Mo σ μ) (hF : Fp μ μ0) : ∀ (m : Nat) (v : Int64) (e : Int32), e.toNatClampNeg = m → V G M_X7_matrix (d + 4) 0 0 (Pm σ (.long (if w = 0 then (lowN m (v, 0, 0, 0, e)).1 else (lowN m (v, 0, 0, 0, e)).2.2.2.2.toInt64)) μ0) 91 [(6, .long e.toInt64), (4, .long v), (0, .ref 60), (1, .int r), (2, .int c), (3, .int w)] [] (μ) := by
  intro m
  induction m with
  | zero =>
    intro v e hm
    refine v_lload 0 dX7_matrix_91 rfl ?_
    refine v_lconst (v := 0) dX7_matrix_93 (by first | rfl | decide) ?_
    refine v_lc_le (tgt := 126) dX7_matrix_94 dX7_matrix_95 (by decide) (fun hc94 => ?_) (fun hc94 => ?_)
    ·
      refine v_iload_n 5 dX7_matrix_126 rfl rfl ?_
      refine v_if_ne (tgt := 135) dX7_matrix_127 (by decide) (fun hc127 => ?_) (fun hc127 => ?_)
      ·
        refine v_lload 0 dX7_matrix_135 rfl ?_
        refine v_lret dX7_matrix_137 rfl ?_
        have hlow : lowN 0 (v, 0, 0, 0, e) = (v, 0, 0, 0, e) := by
          rfl
        rw [hlow, if_neg hc127]
        exact ⟨rfl, h, hF⟩
      ·
        refine v_lload 1 dX7_matrix_130 rfl ?_
        refine v_goto (tgt := 137) dX7_matrix_132 (by decide) ?_
        refine v_lret dX7_matrix_137 rfl ?_
        have hlow : lowN 0 (v, 0, 0, 0, e) = (v, 0, 0, 0, e) := by
          rfl
        rw [hlow, if_pos hc127]
        exact ⟨rfl, h, hF⟩
    · have hz : ¬ e ≤ 0 := fun z => hc94 ((w_le0 _).mpr z)
      obtain ⟨n, h1, -⟩ := tnc_pos hz
      omega
  | succ m ih =>
    intro v e hm
    refine v_lload 0 dX7_matrix_91 rfl ?_
    refine v_lconst (v := 0) dX7_matrix_93 (by first | rfl | decide) ?_
    refine v_lc_le (tgt := 126) dX7_matrix_94 dX7_matrix_95 (by decide) (fun hc94 => ?_) (fun hc94 => ?_)
    ·
      refine v_iload_n 5 dX7_matrix_126 rfl rfl ?_
      refine v_if_ne (tgt := 135) dX7_matrix_127 (by decide) (fun hc127 => ?_) (fun hc127 => ?_)
      ·
        refine v_lload 0 dX7_matrix_135 rfl ?_
        refine v_lret dX7_matrix_137 rfl ?_
        have hlow : lowN (m + 1) (v, 0, 0, 0, e) = (v, 0, 0, 0, e) := by
          by_cases q0 : e ≤ 0
          · simp only [lowN, if_pos q0]
          · have q1 : ¬ evnO (v, 0, 0, 0, e) := fun q => by
              have q2 := (evn_v v e).mp q
              first
                | exact q0 ((w_le0 _).mp hc94)
                | exact hc105 ((even_rem _).mpr q2)
            simp only [lowN, if_neg q0, if_neg q1]
        rw [hlow, if_neg hc127]
        exact ⟨rfl, h, hF⟩
      ·
        refine v_lload 1 dX7_matrix_130 rfl ?_
        refine v_goto (tgt := 137) dX7_matrix_132 (by decide) ?_
        refine v_lret dX7_matrix_137 rfl ?_
        have hlow : lowN (m + 1) (v, 0, 0, 0, e) = (v, 0, 0, 0, e) := by
          by_cases q0 : e ≤ 0
          · simp only [lowN, if_pos q0]
          · have q1 : ¬ evnO (v, 0, 0, 0, e) := fun q => by
              have q2 := (evn_v v e).mp q
              first
                | exact q0 ((w_le0 _).mp hc94)
                | exact hc105 ((even_rem _).mpr q2)
            simp only [lowN, if_neg q0, if_neg q1]
        rw [hlow, if_pos hc127]
        exact ⟨rfl, h, hF⟩
    ·
      refine v_lload 1 dX7_matrix_98 rfl ?_
      refine v_ldc2 kc_X7_99 dX7_matrix_100 ?_
      refine v_lrem dX7_matrix_103 (by decide) ?_
      refine v_lconst (v := 0) dX7_matrix_104 (by first | rfl | decide) ?_
      refine v_lc_ne (tgt := 126) dX7_matrix_105 dX7_matrix_106 (by decide) (fun hc105 => ?_) (fun hc105 => ?_)
      ·
        refine v_iload_n 5 dX7_matrix_126 rfl rfl ?_
        refine v_if_ne (tgt := 135) dX7_matrix_127 (by decide) (fun hc127 => ?_) (fun hc127 => ?_)
        ·
          refine v_lload 0 dX7_matrix_135 rfl ?_
          refine v_lret dX7_matrix_137 rfl ?_
          have hlow : lowN (m + 1) (v, 0, 0, 0, e) = (v, 0, 0, 0, e) := by
            by_cases q0 : e ≤ 0
            · simp only [lowN, if_pos q0]
            · have q1 : ¬ evnO (v, 0, 0, 0, e) := fun q => by
                have q2 := (evn_v v e).mp q
                first
                  | exact q0 ((w_le0 _).mp hc94)
                  | exact hc105 ((even_rem _).mpr q2)
              simp only [lowN, if_neg q0, if_neg q1]
          rw [hlow, if_neg hc127]
          exact ⟨rfl, h, hF⟩
        ·
          refine v_lload 1 dX7_matrix_130 rfl ?_
          refine v_goto (tgt := 137) dX7_matrix_132 (by decide) ?_
          refine v_lret dX7_matrix_137 rfl ?_
          have hlow : lowN (m + 1) (v, 0, 0, 0, e) = (v, 0, 0, 0, e) := by
            by_cases q0 : e ≤ 0
            · simp only [lowN, if_pos q0]
            · have q1 : ¬ evnO (v, 0, 0, 0, e) := fun q => by
                have q2 := (evn_v v e).mp q
                first
                  | exact q0 ((w_le0 _).mp hc94)
                  | exact hc105 ((even_rem _).mpr q2)
              simp only [lowN, if_neg q0, if_neg q1]
          rw [hlow, if_pos hc127]
          exact ⟨rfl, h, hF⟩
      ·
        refine v_lload 1 dX7_matrix_109 rfl ?_
        refine v_ldc2 kc_X7_99 dX7_matrix_111 ?_
        refine v_ldiv dX7_matrix_114 (by decide) ?_
        refine v_lstore dX7_matrix_115 (by decide) (fun z4 e_z4 => ?_)
        refine v_ls (ls' := [(4, .long z4), (6, .long e.toInt64), (0, .ref 60), (1, .int r), (2, .int c), (3, .int w)]) rfl ?_
        refine v_lload 1 dX7_matrix_117 rfl ?_
        refine v_lconst (v := 1) dX7_matrix_119 (by first | rfl | decide) ?_
        refine v_lsub dX7_matrix_120 ?_
        refine v_lstore dX7_matrix_121 (by decide) (fun z6 e_z6 => ?_)
        refine v_ls (ls' := [(6, .long z6), (4, .long z4), (0, .ref 60), (1, .int r), (2, .int c), (3, .int w)]) rfl ?_
        refine v_goto (tgt := 91) dX7_matrix_123 (by decide) ?_
        have q0 : ¬ e ≤ 0 := fun z => hc94 ((w_le0 _).mpr z)
        have k1 := (even_rem v).mp hc105
        have q1 : evnO (v, 0, 0, 0, e) := (evn_v v e).mpr k1
        have hg : lowN (m + 1) (v, 0, 0, 0, e) = lowN m (z4, 0, 0, 0, e - 1) := by
          simp only [lowN, if_neg q0, if_pos q1]
          rw [half_v, e_z4, half_div k1]
        rw [hg]
        obtain ⟨n2, h1, h2⟩ := tnc_pos q0
        have hz6 : z6 = (e - 1).toInt64 := by
          rw [e_z6]
          exact (w_sub (a := e) (b := 1) (by have := e.le_toInt; have : ¬ e.toInt ≤ (0 : Int32).toInt := fun z => q0 (Int32.le_iff_toInt_le.mpr z); rw [show (0 : Int32).toInt = 0 from rfl] at this; rw [show (1 : Int32).toInt = 1 from rfl]; omega) (by have := e.toInt_lt; rw [show (1 : Int32).toInt = 1 from rfl]; omega)).symm
        clear e_z6
        subst hz6
        exact ih z4 (e - 1) (by omega)
        

set_option maxRecDepth 20000 in
set_option maxHeartbeats 4000000 in
theorem mat_loop {G : Cx} (d : Nat) {σ : ST} {μ0 : Hp} (hw : Wp (sP σ)) {n : Nat} {c w : Int32} (hn9 : n < 4) : ∀ (m : Nat) (j : Nat) (L : LT) (μ : Hp), j + m = (sP σ).length → Eb (5 * j) L → Mo σ μ → Fp μ μ0 → μ 63 = some (mlg L) → V G M_X7_matrix (d + 4) 0 0 (Pm σ (.long (if w = 0 then (lowO (partO (runO ((sP σ).drop j) L) (nI n), 0, 0, 0, (runO ((sP σ).drop j) L).2.2.2.2)).1 else (lowO (partO (runO ((sP σ).drop j) L) (nI n), 0, 0, 0, (runO ((sP σ).drop j) L).2.2.2.2)).2.2.2.2.toInt64)) μ0) 46 [(4, .int (nI j)), (0, .ref 60), (1, .int (nI n)), (2, .int c), (3, .int w)] [] (μ) := by
  intro m
  induction m with
  | zero =>
    intro j L μ hj he h hF h63b
    obtain ⟨co, wh, un, lr, mr, hr, at9, fa, op, sg, hm, p, tt, ro, og, tc, op9, sp, nw, se, le, mo, ot, h60, h61, h62, h63, h64, h65, h66, h67, h68, h69, h70, h71, h72, h73, h74, h75, h76, h77, h78, h79, h80, hmk, hpl, htp, ht60⟩ := id h
    have hl8 := hw.1
    refine v_iload 0 dX7_matrix_46 rfl ?_
    refine v_aload_n 1 dX7_matrix_48 rfl rfl ?_
    refine v_get fl_X7_91 dX7_matrix_49 h60 rfl ?_
    refine v_icmp_ge (tgt := 75) dX7_matrix_52 (by decide) (fun hc52 => ?_) (fun hc52 => ?_)
    ·
      rw [List.drop_of_length_le (show (sP σ).length ≤ j by omega)]
      have hlp : lvO L (nI n).toNatClampNeg = partO L (nI n) := lv_part L (in_ok2 (n := 4) (by decide) (nI_pos (by omega)) (fun z => absurd ((nI_ltI (a := 4) (by decide) (by omega)).mp z) (by omega)))
      refine v_aload_n 1 dX7_matrix_75 rfl rfl ?_
      refine v_get fl_X7_21 dX7_matrix_76 h60 rfl ?_
      refine v_iload_n 2 dX7_matrix_79 rfl rfl ?_
      refine v_lald dX7_matrix_80 h63b (nI_in' (by omega)) ?_
      refine v_lstore dX7_matrix_81 (by decide) (fun v4 e_v4 => ?_)
      refine v_ls (ls' := [(4, .long v4), (0, .ref 60), (1, .int (nI n)), (2, .int c), (3, .int w)]) rfl ?_
      rw [hlp] at e_v4
      subst e_v4
      refine v_aload_n 1 dX7_matrix_83 rfl rfl ?_
      refine v_get fl_X7_21 dX7_matrix_84 h60 rfl ?_
      refine v_iconst (v := 4) dX7_matrix_87 (by first | rfl | decide) ?_
      refine v_lald dX7_matrix_88 h63b (nI_in' (k := 4) (by decide)) ?_
      refine v_lstore dX7_matrix_89 (by decide) (fun v6 e_v6 => ?_)
      refine v_ls (ls' := [(6, .long v6), (4, _), (0, .ref 60), (1, .int (nI n)), (2, .int c), (3, .int w)]) rfl ?_
      subst e_v6
      exact mlow_loop d h hF _ (partO L (nI n)) L.2.2.2.2 rfl
      
    · exact absurd ((nI_leI (by omega) (by omega)).mpr (by omega)) hc52
  | succ m ih =>
    intro j L μ hj he h hF h63b
    obtain ⟨co, wh, un, lr, mr, hr, at9, fa, op, sg, hm, p, tt, ro, og, tc, op9, sp, nw, se, le, mo, ot, h60, h61, h62, h63, h64, h65, h66, h67, h68, h69, h70, h71, h72, h73, h74, h75, h76, h77, h78, h79, h80, hmk, hpl, htp, ht60⟩ := id h
    have hl8 := hw.1
    refine v_iload 0 dX7_matrix_46 rfl ?_
    refine v_aload_n 1 dX7_matrix_48 rfl rfl ?_
    refine v_get fl_X7_91 dX7_matrix_49 h60 rfl ?_
    refine v_icmp_ge (tgt := 75) dX7_matrix_52 (by decide) (fun hc52 => ?_) (fun hc52 => ?_)
    · have := (nI_leI (by omega) (by omega)).mp hc52
      omega
    ·
      refine v_aload_n 1 dX7_matrix_55 rfl rfl ?_
      refine v_get fl_X7_21 dX7_matrix_56 h60 rfl ?_
      refine v_aload_n 1 dX7_matrix_59 rfl rfl ?_
      refine v_get fl_X7_17 dX7_matrix_60 h60 rfl ?_
      refine v_iload 0 dX7_matrix_63 rfl ?_
      refine v_iald dX7_matrix_65 h62 (nI_in' (by omega)) ?_
      rw [clamp (show j < 2 ^ 31 by omega), ← getD_at hpl (show j < (sP σ).length by omega)]
      refine v_callS (c_X7_goes d h63b ⟨he.1, by have := he.2; omega⟩ (hw.at (show j < (sP σ).length by omega))) cs_X7_149 dX7_matrix_66 rfl rfl (Nat.le_of_ble_eq_true rfl) ?_
      refine rt_k ?_
      refine v_iinc (v := 1) 0 dX7_matrix_69 rfl rfl (by decide) (fun z e_z => ?_)
      refine v_ls (ls' := [(4, .int z), (0, .ref 60), (1, .int (nI n)), (2, .int c), (3, .int w)]) rfl ?_
      rw [nI_1] at e_z
      subst e_z
      refine v_goto (tgt := 46) dX7_matrix_72 (by decide) ?_
      rw [drop_g (show j < (sP σ).length by omega), runO_cons]
      exact ih (j + 1) _ _ (by omega) (passO_e (n := 5 * j) he (by omega)) (h.now _) (hF.up (by decide) _) (up_s _ _ _)
      

set_option maxRecDepth 20000 in
set_option maxHeartbeats 4000000 in
theorem c_X7_matrix {G : Cx} (d : Nat) {μ : Hp} {σ : ST} {r : Int32} {c : Int32} {w : Int32} (h : Mo σ μ) (hw : Wp (sP σ)) : Ct G (d + 4) 0 0 M_X7_matrix [.ref 60, .int r, .int c, .int w] μ (Pm (σ) (.long (rMatrix σ r c w)) μ) := by
  refine Ct.ofV (by decide +kernel) (Nat.le_of_ble_eq_true rfl) ?_
  refine v_ls (ls' := [(0, .ref 60), (1, .int r), (2, .int c), (3, .int w)]) rfl ?_
  obtain ⟨co, wh, un, lr, mr, hr, at9, fa, op, sg, hm, p, tt, ro, og, tc, op9, sp, nw, se, le, mo, ot, h60, h61, h62, h63, h64, h65, h66, h67, h68, h69, h70, h71, h72, h73, h74, h75, h76, h77, h78, h79, h80, hmk, hpl, htp, ht60⟩ := id h
  have hl8 := hw.1
  refine v_iload_n 1 dX7_matrix_0 rfl rfl ?_
  refine v_i2l dX7_matrix_1 ?_
  refine v_lconst (v := 0) dX7_matrix_2 (by first | rfl | decide) ?_
  refine v_ldc2 kc_X7_160 dX7_matrix_3 ?_
  refine v_callS (c_X7_inL (d + 3) 3 4 3 (by decide) rfl rfl) cs_X7_95 dX7_matrix_6 rfl rfl (Nat.le_of_ble_eq_true rfl) ?_
  refine rt_k ?_
  refine v_if_eq (tgt := 34) dX7_matrix_9 (by decide) (fun hc9 => ?_) (fun hc9 => ?_)
  ·
    refine v_ldc2 kc_X7_193 dX7_matrix_34 ?_
    refine v_lret dX7_matrix_37 rfl ?_
    have hE : rMatrix σ r c w = VD := by
      first
        | exact mat_bad (Or.inl hc9)
        | exact mat_bad (Or.inr (Or.inl hc21))
        | exact mat_bad (Or.inr (Or.inr hc31))
    rw [hE]
    exact ⟨rfl, h, Fp.rf μ⟩
  ·
    refine v_iload_n 2 dX7_matrix_12 rfl rfl ?_
    refine v_i2l dX7_matrix_13 ?_
    refine v_lconst (v := 0) dX7_matrix_14 (by first | rfl | decide) ?_
    refine v_ldc2 kc_X7_160 dX7_matrix_15 ?_
    refine v_callS (c_X7_inL (d + 3) 3 4 3 (by decide) rfl rfl) cs_X7_95 dX7_matrix_18 rfl rfl (Nat.le_of_ble_eq_true rfl) ?_
    refine rt_k ?_
    refine v_if_eq (tgt := 34) dX7_matrix_21 (by decide) (fun hc21 => ?_) (fun hc21 => ?_)
    ·
      refine v_ldc2 kc_X7_193 dX7_matrix_34 ?_
      refine v_lret dX7_matrix_37 rfl ?_
      have hE : rMatrix σ r c w = VD := by
        first
          | exact mat_bad (Or.inl hc9)
          | exact mat_bad (Or.inr (Or.inl hc21))
          | exact mat_bad (Or.inr (Or.inr hc31))
      rw [hE]
      exact ⟨rfl, h, Fp.rf μ⟩
    ·
      refine v_iload_n 3 dX7_matrix_24 rfl rfl ?_
      refine v_i2l dX7_matrix_25 ?_
      refine v_lconst (v := 0) dX7_matrix_26 (by first | rfl | decide) ?_
      refine v_lconst (v := 1) dX7_matrix_27 (by first | rfl | decide) ?_
      refine v_callS (c_X7_inL (d + 3) 1 2 1 (by decide) rfl rfl) cs_X7_95 dX7_matrix_28 rfl rfl (Nat.le_of_ble_eq_true rfl) ?_
      refine rt_k ?_
      refine v_if_ne (tgt := 38) dX7_matrix_31 (by decide) (fun hc31 => ?_) (fun hc31 => ?_)
      ·
        obtain ⟨n, hn9, rfl⟩ := in_ix (n := 4) (by decide) hc9
        obtain ⟨b, hb9, rfl⟩ := in_ix (n := 4) (by decide) hc21
        refine v_aload_n 0 dX7_matrix_38 rfl rfl ?_
        refine v_iload_n 2 dX7_matrix_39 rfl rfl ?_
        refine v_callV (c_X7_begins1 (d + 3) hb9 h60 h63) cs_X7_265 dX7_matrix_40 h60 rfl rfl (Nat.le_of_ble_eq_true rfl) ?_
        refine rt_k ?_
        refine v_iconst (v := 0) dX7_matrix_43 (by first | rfl | decide) ?_
        refine v_istore dX7_matrix_44 (by decide) (fun x4 e_x4 => ?_)
        refine v_ls (ls' := [(4, .int x4), (0, .ref 60), (1, .int (nI n)), (2, .int (nI b)), (3, .int w)]) rfl ?_
        subst e_x4
        have hE : rMatrix σ (nI n) (nI b) w = (if w = 0 then (matO σ (nI n) (nI b)).1 else (matO σ (nI n) (nI b)).2.2.2.2.toInt64) := by simp only [rMatrix, if_neg hc9, if_neg hc21, if_neg hc31]
        rw [hE]
        exact mat_loop d hw hn9 (sP σ).length 0 (unitO (nI b)) _ (by omega) (unit_e _ _) (h.now _) (fun i hi => by repeat (first | rfl | refine up_n (by omega) ?_)) (up_s _ _ _)
        
      ·
        refine v_ldc2 kc_X7_193 dX7_matrix_34 ?_
        refine v_lret dX7_matrix_37 rfl ?_
        have hE : rMatrix σ r c w = VD := by
          first
            | exact mat_bad (Or.inl hc9)
            | exact mat_bad (Or.inr (Or.inl hc21))
            | exact mat_bad (Or.inr (Or.inr hc31))
        rw [hE]
        exact ⟨rfl, h, Fp.rf μ⟩

theorem beh_s (σ : ST) (j : Nat) : behO σ (j + 1) = runO (((sP σ).take (j + 1)).drop j) (behO σ j) := by
  show runO ((sP σ).take (j + 1)) (sM σ) = runO _ (runO ((sP σ).take j) (sM σ))
  rw [← runO_app]
  congr 1
  have := (List.take_append_drop j ((sP σ).take (j + 1))).symm
  rw [List.take_take, show min j (j + 1) = j by omega] at this
  exact this
theorem dar_step {σ : ST} {j : Nat} (hj : j ≤ (sP σ).length) (hi0 : ¬ (behO σ j).1 = 0) : darX (sP σ) (behO σ j) j = darX (sP σ) (behO σ (j + 1)) (j + 1) := by
  rw [beh_s]
  unfold darX
  rw [if_pos hj]
  by_cases e : j < (sP σ).length
  · rw [if_pos (show j + 1 ≤ _ by omega), seg1 e, drop_g e]
    simp only [darO, if_neg hi0]
    rfl
  · rw [if_neg (show ¬ j + 1 ≤ _ by omega), List.drop_of_length_le (show _ ≤ j by omega)]
    simp only [darO, if_neg hi0]
theorem dar_0 {σ : ST} {j : Nat} (hj : j ≤ (sP σ).length) (hi0 : (behO σ j).1 = 0) : darX (sP σ) (behO σ j) j = nI j := by
  unfold darX
  rw [if_pos hj]
  cases (sP σ).drop j <;> simp only [darO, if_pos hi0]
set_option maxRecDepth 20000 in
set_option maxHeartbeats 4000000 in
theorem dark7_loop {G : Cx} (d : Nat) {σ : ST} {μ0 : Hp} (hw : Wp (sP σ)) (heb : Eb 100 (sM σ)) : ∀ (m : Nat) (j : Nat) (μ : Hp), j + m = (sP σ).length + 1 → Mo σ μ → Fp μ μ0 → V G M_X7_darkens (d + 5) 0 0 (Pm σ (.int (darX (sP σ) (behO σ j) j)) μ0) 2 [(1, .int (nI j)), (0, .ref 60)] [] (μ) := by
  intro m
  induction m with
  | zero =>
    intro j μ hj h hF
    obtain ⟨co, wh, un, lr, mr, hr, at9, fa, op, sg, hm, p, tt, ro, og, tc, op9, sp, nw, se, le, mo, ot, h60, h61, h62, h63, h64, h65, h66, h67, h68, h69, h70, h71, h72, h73, h74, h75, h76, h77, h78, h79, h80, hmk, hpl, htp, ht60⟩ := id h
    have hl8 := hw.1
    refine v_iload_n 0 dX7_darkens_2 rfl rfl ?_
    refine v_aload_n 1 dX7_darkens_3 rfl rfl ?_
    refine v_get fl_X7_91 dX7_darkens_4 h60 rfl ?_
    refine v_icmp_gt (tgt := 34) dX7_darkens_7 (by decide) (fun hc7 => ?_) (fun hc7 => ?_)
    ·
      refine v_bipush (v := -5) dX7_darkens_34 (by first | rfl | decide) ?_
      refine v_iret dX7_darkens_36 rfl (by first | rfl | decide | exact nar_b (by first | assumption | rfl)) ?_
      have hE : darX (sP σ) (behO σ j) j = -5 := by unfold darX; rw [if_neg (by omega)]
      rw [hE]
      exact ⟨rfl, h, hF⟩
    · exact absurd ((nI_ltI (by omega) (by omega)).mpr (by omega)) hc7
  | succ m ih =>
    intro j μ hj h hF
    obtain ⟨co, wh, un, lr, mr, hr, at9, fa, op, sg, hm, p, tt, ro, og, tc, op9, sp, nw, se, le, mo, ot, h60, h61, h62, h63, h64, h65, h66, h67, h68, h69, h70, h71, h72, h73, h74, h75, h76, h77, h78, h79, h80, hmk, hpl, htp, ht60⟩ := id h
    have hl8 := hw.1
    refine v_iload_n 0 dX7_darkens_2 rfl rfl ?_
    refine v_aload_n 1 dX7_darkens_3 rfl rfl ?_
    refine v_get fl_X7_91 dX7_darkens_4 h60 rfl ?_
    refine v_icmp_gt (tgt := 34) dX7_darkens_7 (by decide) (fun hc7 => ?_) (fun hc7 => ?_)
    · have := (nI_ltI (by omega) (by omega)).mp hc7
      omega
    ·
      refine v_aload_n 1 dX7_darkens_10 rfl rfl ?_
      refine v_iload_n 0 dX7_darkens_11 rfl rfl ?_
      refine v_callV (c_X7_behind d h60 h62 hpl hl8 hw.2 (by omega) h61 h63 heb) cs_X7_195 dX7_darkens_12 h60 rfl rfl (Nat.le_of_ble_eq_true rfl) ?_
      refine rt_k ?_
      refine v_aload_n 1 dX7_darkens_15 rfl rfl ?_
      refine v_get fl_X7_21 dX7_darkens_16 (up_n (by decide) h60) rfl ?_
      refine v_iconst (v := 0) dX7_darkens_19 (by first | rfl | decide) ?_
      refine v_lald dX7_darkens_20 (up_s _ _ _) (nI_in' (k := 0) (by decide)) ?_
      refine v_lconst (v := 0) dX7_darkens_21 (by first | rfl | decide) ?_
      refine v_lc_ne (tgt := 28) dX7_darkens_22 dX7_darkens_23 (by decide) (fun hc22 => ?_) (fun hc22 => ?_)
      ·
        refine v_iinc (v := 1) 0 dX7_darkens_28 rfl rfl (by decide) (fun z e_z => ?_)
        refine v_ls (ls' := [(1, .int z), (0, .ref 60)]) rfl ?_
        rw [nI_1] at e_z
        subst e_z
        refine v_goto (tgt := 2) dX7_darkens_31 (by decide) ?_
        rw [dar_step (by omega) hc22]
        exact ih (j + 1) _ (by omega) (h.now _) (hF.up (by decide) _)
        
      ·
        refine v_iload_n 0 dX7_darkens_26 rfl rfl ?_
        refine v_iret dX7_darkens_27 rfl (by first | rfl | decide | exact nar_b (by first | assumption | rfl)) ?_
        rw [dar_0 (by omega) hc22]
        exact ⟨rfl, h.now _, hF.up (by decide) _⟩

set_option maxRecDepth 20000 in
set_option maxHeartbeats 4000000 in
theorem c_X7_darkens {G : Cx} (d : Nat) {μ : Hp} {σ : ST}  (h : Mo σ μ) (hw : Wp (sP σ)) (heb : Eb 100 (sM σ)) : Ct G (d + 5) 0 0 M_X7_darkens [.ref 60] μ (Pm (σ) (.int (rDarkens σ)) μ) := by
  refine Ct.ofV (by decide +kernel) (Nat.le_of_ble_eq_true rfl) ?_
  refine v_ls (ls' := [(0, .ref 60)]) rfl ?_
  obtain ⟨co, wh, un, lr, mr, hr, at9, fa, op, sg, hm, p, tt, ro, og, tc, op9, sp, nw, se, le, mo, ot, h60, h61, h62, h63, h64, h65, h66, h67, h68, h69, h70, h71, h72, h73, h74, h75, h76, h77, h78, h79, h80, hmk, hpl, htp, ht60⟩ := id h
  have hl8 := hw.1
  refine v_iconst (v := 0) dX7_darkens_0 (by first | rfl | decide) ?_
  refine v_istore_n dX7_darkens_1 rfl (by decide) (fun x1 e_x1 => ?_)
  refine v_ls (ls' := [(1, .int x1), (0, .ref 60)]) rfl ?_
  subst e_x1
  have hE : rDarkens σ = darX (sP σ) (behO σ 0) 0 := by
    unfold rDarkens darX
    rw [if_pos (Nat.zero_le _)]
    rfl
  rw [hE]
  exact dark7_loop d hw heb ((sP σ).length + 1) 0 μ (by omega) h (Fp.rf μ)
  

