theorem in_iff {x : Int32} {n : Nat} (hn : n + 1 < 2 ^ 31) : inO x (nI (n + 1)) = 0 ↔ x < 0 ∨ nI n < x := by
  constructor
  · intro h
    by_cases h0 : x < 0
    · exact Or.inl h0
    · by_cases h1 : nI n < x
      · exact Or.inr h1
      · exact absurd h (in_ok2 hn h0 h1)
  · rintro (h | h)
    · exact in_b1 h
    · exact in_b3 hn h
set_option maxRecDepth 20000 in
set_option maxHeartbeats 4000000 in
theorem c_X7_lamp {G : Cx} (d : Nat) {μ : Hp} {σ : ST} {i : Int32} {q : Int32} {u : Int32} {v : Int32} (h : Mo σ μ) (hw : Wp (sP σ)) (hlm : lvO (sM σ) 4 = 0) : Ct G (d + 2) 0 0 M_X7_lamp [.ref 60, .int i, .int q, .int u, .int v] μ (Pm ((rLamp σ i q u v).2) (.int ((rLamp σ i q u v).1)) μ) := by
  refine Ct.ofV (by decide +kernel) (Nat.le_of_ble_eq_true rfl) ?_
  refine v_ls (ls' := [(0, .ref 60), (1, .int i), (2, .int q), (3, .int u), (4, .int v)]) rfl ?_
  obtain ⟨co, wh, un, lr, mr, hr, at9, fa, op, sg, hm, p, tt, ro, og, tc, op9, sp, nw, se, le, mo, ot, h60, h61, h62, h63, h64, h65, h66, h67, h68, h69, h70, h71, h72, h73, h74, h75, h76, h77, h78, h79, h80, hmk, hpl, htp, ht60⟩ := id h
  have hl8 := hw.1
  refine v_iload_n 1 dX7_lamp_0 rfl rfl ?_
  refine v_i2l dX7_lamp_1 ?_
  refine v_lconst (v := 0) dX7_lamp_2 (by first | rfl | decide) ?_
  refine v_ldc2 kc_X7_152 dX7_lamp_3 ?_
  refine v_callS (c_X7_inL (d + 1) 1000 1001 1000 (by decide) rfl rfl) cs_X7_95 dX7_lamp_6 rfl rfl (Nat.le_of_ble_eq_true rfl) ?_
  refine rt_k ?_
  refine v_if_eq (tgt := 27) dX7_lamp_9 (by decide) (fun hc9 => ?_) (fun hc9 => ?_)
  ·
    refine v_bipush (v := -2) dX7_lamp_27 (by first | rfl | decide) ?_
    refine v_iret dX7_lamp_29 rfl (by first | rfl | decide | exact nar_b (by first | assumption | rfl)) ?_
    have hq := (in_iff (n := 1000) (by decide)).mp hc9
    have hE : rLamp σ i q u v = (-2, σ) := by
      unfold rLamp
      rcases hq with z | z
      · rw [if_pos z]
      · rw [if_pos (show 1000 < i from z)]
        split <;> rfl
    rw [hE]
    exact ⟨rfl, h, Fp.rf μ⟩
  ·
    refine v_iload_n 1 dX7_lamp_12 rfl rfl ?_
    refine v_i2l dX7_lamp_13 ?_
    refine v_iload_n 2 dX7_lamp_14 rfl rfl ?_
    refine v_i2l dX7_lamp_15 ?_
    refine v_iload_n 3 dX7_lamp_16 rfl rfl ?_
    refine v_i2l dX7_lamp_17 ?_
    refine v_iload 4 dX7_lamp_18 rfl ?_
    refine v_i2l dX7_lamp_20 ?_
    refine v_callS (c_X7_mayBe d ) cs_X7_154 dX7_lamp_21 rfl rfl (Nat.le_of_ble_eq_true rfl) ?_
    refine rt_k ?_
    refine v_if_ne (tgt := 30) dX7_lamp_24 (by decide) (fun hc24 => ?_) (fun hc24 => ?_)
    ·
      refine v_aload_n 0 dX7_lamp_30 rfl rfl ?_
      refine v_get fl_X7_11 dX7_lamp_31 h60 rfl ?_
      refine v_iconst (v := 0) dX7_lamp_34 (by first | rfl | decide) ?_
      refine v_iload_n 1 dX7_lamp_35 rfl rfl ?_
      refine v_i2l dX7_lamp_36 ?_
      refine v_last dX7_lamp_37 h61 (nI_in' (k := 0) (by decide)) ?_
      refine v_aload_n 0 dX7_lamp_38 rfl rfl ?_
      refine v_get fl_X7_11 dX7_lamp_39 (up_n (by decide) h60) rfl ?_
      refine v_iconst (v := 1) dX7_lamp_42 (by first | rfl | decide) ?_
      refine v_iload_n 2 dX7_lamp_43 rfl rfl ?_
      refine v_i2l dX7_lamp_44 ?_
      refine v_last dX7_lamp_45 (up_s _ _ _) (nI_in' (k := 1) (by decide)) ?_
      refine v_hp (up_up _ _ _ _) ?_
      refine v_aload_n 0 dX7_lamp_46 rfl rfl ?_
      refine v_get fl_X7_11 dX7_lamp_47 (up_n (by decide) h60) rfl ?_
      refine v_iconst (v := 2) dX7_lamp_50 (by first | rfl | decide) ?_
      refine v_iload_n 3 dX7_lamp_51 rfl rfl ?_
      refine v_i2l dX7_lamp_52 ?_
      refine v_last dX7_lamp_53 (up_s _ _ _) (nI_in' (k := 2) (by decide)) ?_
      refine v_hp (up_up _ _ _ _) ?_
      refine v_aload_n 0 dX7_lamp_54 rfl rfl ?_
      refine v_get fl_X7_11 dX7_lamp_55 (up_n (by decide) h60) rfl ?_
      refine v_iconst (v := 3) dX7_lamp_58 (by first | rfl | decide) ?_
      refine v_iload 4 dX7_lamp_59 rfl ?_
      refine v_i2l dX7_lamp_61 ?_
      refine v_last dX7_lamp_62 (up_s _ _ _) (nI_in' (k := 3) (by decide)) ?_
      refine v_hp (up_up _ _ _ _) ?_
      refine v_njJ (g := lvO (i.toInt64, q.toInt64, u.toInt64, v.toInt64, 0)) (all5 rfl rfl rfl rfl hlm) ?_
      refine v_iconst (v := 1) dX7_lamp_63 (by first | rfl | decide) ?_
      refine v_iret dX7_lamp_64 rfl (by first | rfl | decide | exact nar_b (by first | assumption | rfl)) ?_
      have hq : ¬ (i < 0 ∨ nI 1000 < i) := fun z => hc9 ((in_iff (n := 1000) (by decide)).mpr z)
      have hE : rLamp σ i q u v = (1, toM σ (i.toInt64, q.toInt64, u.toInt64, v.toInt64, 0)) := by
        unfold rLamp
        rw [if_neg (fun z => hq (Or.inl z)), if_neg (show ¬ 1000 < i from fun z => hq (Or.inr z)), if_neg hc24]
      rw [hE]
      exact ⟨rfl, ⟨co, wh, un, lr, mr, hr, at9, fa, op, sg, hm, p, tt, ro, og, tc, op9, sp, nw, se, le, mo, ot, (by repeat (first | assumption | exact up_s _ _ _ | refine up_n (by omega) ?_)), (by repeat (first | assumption | exact up_s _ _ _ | refine up_n (by omega) ?_)), (by repeat (first | assumption | exact up_s _ _ _ | refine up_n (by omega) ?_)), (by repeat (first | assumption | exact up_s _ _ _ | refine up_n (by omega) ?_)), (by repeat (first | assumption | exact up_s _ _ _ | refine up_n (by omega) ?_)), (by repeat (first | assumption | exact up_s _ _ _ | refine up_n (by omega) ?_)), (by repeat (first | assumption | exact up_s _ _ _ | refine up_n (by omega) ?_)), (by repeat (first | assumption | exact up_s _ _ _ | refine up_n (by omega) ?_)), (by repeat (first | assumption | exact up_s _ _ _ | refine up_n (by omega) ?_)), (by repeat (first | assumption | exact up_s _ _ _ | refine up_n (by omega) ?_)), (by repeat (first | assumption | exact up_s _ _ _ | refine up_n (by omega) ?_)), (by repeat (first | assumption | exact up_s _ _ _ | refine up_n (by omega) ?_)), (by repeat (first | assumption | exact up_s _ _ _ | refine up_n (by omega) ?_)), (by repeat (first | assumption | exact up_s _ _ _ | refine up_n (by omega) ?_)), (by repeat (first | assumption | exact up_s _ _ _ | refine up_n (by omega) ?_)), (by repeat (first | assumption | exact up_s _ _ _ | refine up_n (by omega) ?_)), (by repeat (first | assumption | exact up_s _ _ _ | refine up_n (by omega) ?_)), (by repeat (first | assumption | exact up_s _ _ _ | refine up_n (by omega) ?_)), (by repeat (first | assumption | exact up_s _ _ _ | refine up_n (by omega) ?_)), (by repeat (first | assumption | exact up_s _ _ _ | refine up_n (by omega) ?_)), (by repeat (first | assumption | exact up_s _ _ _ | refine up_n (by omega) ?_)), (hmk.kept (fun i a b => by repeat (first | rfl | refine up_n (by omega) ?_))), hpl, htp, ht60⟩, fun i hi => by repeat (first | rfl | refine up_n (by omega) ?_)⟩
    ·
      refine v_bipush (v := -2) dX7_lamp_27 (by first | rfl | decide) ?_
      refine v_iret dX7_lamp_29 rfl (by first | rfl | decide | exact nar_b (by first | assumption | rfl)) ?_
      have hE : rLamp σ i q u v = (-2, σ) := by
        unfold rLamp
        rw [if_pos hc24]
        split
        · rfl
        · split <;> rfl
      rw [hE]
      exact ⟨rfl, h, Fp.rf μ⟩

set_option maxRecDepth 20000 in
set_option maxHeartbeats 4000000 in
theorem c_X7_adds {G : Cx} (d : Nat) {μ : Hp} {σ : ST} {c : Int32} (h : Mo σ μ) (hw : Wp (sP σ)) : Ct G (d) 0 0 M_X7_adds [.ref 60, .int c] μ (Pm (rApp σ c).2 (.int (rApp σ c).1) μ) := by
  refine Ct.ofV (by decide +kernel) (Nat.le_of_ble_eq_true rfl) ?_
  refine v_ls (ls' := [(0, .ref 60), (1, .int c)]) rfl ?_
  obtain ⟨co, wh, un, lr, mr, hr, at9, fa, op, sg, hm, p, tt, ro, og, tc, op9, sp, nw, se, le, mo, ot, h60, h61, h62, h63, h64, h65, h66, h67, h68, h69, h70, h71, h72, h73, h74, h75, h76, h77, h78, h79, h80, hmk, hpl, htp, ht60⟩ := id h
  have hl8 := hw.1
  have h6 : nI (sP σ).length = 8 ↔ (sP σ).length = 8 := nI_eq (b := 8) (by omega) (by decide)
  refine v_aload_n 0 dX7_adds_0 rfl rfl ?_
  refine v_get fl_X7_91 dX7_adds_1 h60 rfl ?_
  refine v_bipush (v := 8) dX7_adds_4 (by first | rfl | decide) ?_
  refine v_icmp_ne (tgt := 12) dX7_adds_6 (by decide) (fun hc6 => ?_) (fun hc6 => ?_)
  ·
    have hq : ¬ (sP σ).length = 8 := fun z => hc6 (h6.mpr z)
    refine v_aload_n 0 dX7_adds_12 rfl rfl ?_
    refine v_get fl_X7_17 dX7_adds_13 h60 rfl ?_
    refine v_aload_n 0 dX7_adds_16 rfl rfl ?_
    refine v_get fl_X7_91 dX7_adds_17 h60 rfl ?_
    refine v_iload_n 1 dX7_adds_20 rfl rfl ?_
    refine v_iast dX7_adds_21 h62 (nI_in' (by omega)) ?_
    refine v_aload_n 0 dX7_adds_22 rfl rfl ?_
    refine v_dup dX7_adds_23 rfl ?_
    refine v_get fl_X7_91 dX7_adds_24 (up_n (by decide) h60) rfl ?_
    refine v_iconst (v := 1) dX7_adds_27 (by first | rfl | decide) ?_
    refine v_iadd dX7_adds_28 ?_
    refine v_put fp_X7_91 dX7_adds_29 (up_n (by decide) h60) (Nat.le_of_ble_eq_true rfl) (by first | rfl | decide) (by first | rfl | decide) ?_
    refine v_aload_n 0 dX7_adds_32 rfl rfl ?_
    refine v_get fl_X7_91 dX7_adds_33 (up_s _ _ _) rfl ?_
    refine v_iconst (v := 1) dX7_adds_36 (by first | rfl | decide) ?_
    refine v_isub dX7_adds_37 ?_
    refine v_iret dX7_adds_38 rfl (by first | rfl | decide | exact nar_b (by first | assumption | rfl)) ?_
    have hE : rApp σ c = (sN σ, toP σ (sP σ ++ [c])) := by simp only [rApp, if_neg hq]
    rw [hE]
    have hl2 : (sP σ ++ [c]).length = (sP σ).length + 1 := by rw [List.length_append]; rfl
    refine ⟨?_, ?_, fun i hi => by repeat (first | rfl | refine up_n (by omega) ?_)⟩
    · rw [nI_1, nI_pred]
    · rw [clamp (by omega), nI_1]
      have hx : nI (sP (toP σ (sP σ ++ [c]))).length = nI ((sP σ).length + 1) := by show nI (sP σ ++ [c]).length = _; rw [hl2]
      exact ⟨co, wh, un, lr, mr, hr, at9, fa, op, sg, hm, (upd p (sP σ).length c), tt, ro, og, tc, op9, sp, nw, se, le, mo, ot, (by rw [hx]; exact up_s _ _ _), (by repeat (first | assumption | exact up_s _ _ _ | refine up_n (by omega) ?_)), (by repeat (first | assumption | exact up_s _ _ _ | refine up_n (by omega) ?_)), (by repeat (first | assumption | exact up_s _ _ _ | refine up_n (by omega) ?_)), (by repeat (first | assumption | exact up_s _ _ _ | refine up_n (by omega) ?_)), (by repeat (first | assumption | exact up_s _ _ _ | refine up_n (by omega) ?_)), (by repeat (first | assumption | exact up_s _ _ _ | refine up_n (by omega) ?_)), (by repeat (first | assumption | exact up_s _ _ _ | refine up_n (by omega) ?_)), (by repeat (first | assumption | exact up_s _ _ _ | refine up_n (by omega) ?_)), (by repeat (first | assumption | exact up_s _ _ _ | refine up_n (by omega) ?_)), (by repeat (first | assumption | exact up_s _ _ _ | refine up_n (by omega) ?_)), (by repeat (first | assumption | exact up_s _ _ _ | refine up_n (by omega) ?_)), (by repeat (first | assumption | exact up_s _ _ _ | refine up_n (by omega) ?_)), (by repeat (first | assumption | exact up_s _ _ _ | refine up_n (by omega) ?_)), (by repeat (first | assumption | exact up_s _ _ _ | refine up_n (by omega) ?_)), (by repeat (first | assumption | exact up_s _ _ _ | refine up_n (by omega) ?_)), (by repeat (first | assumption | exact up_s _ _ _ | refine up_n (by omega) ?_)), (by repeat (first | assumption | exact up_s _ _ _ | refine up_n (by omega) ?_)), (by repeat (first | assumption | exact up_s _ _ _ | refine up_n (by omega) ?_)), (by repeat (first | assumption | exact up_s _ _ _ | refine up_n (by omega) ?_)), (by repeat (first | assumption | exact up_s _ _ _ | refine up_n (by omega) ?_)), (hmk.kept (fun i a b => by repeat (first | rfl | refine up_n (by omega) ?_))), (hpl.app c), htp, ht60⟩
  ·
    refine v_bipush (v := -4) dX7_adds_9 (by first | rfl | decide) ?_
    refine v_iret dX7_adds_11 rfl (by first | rfl | decide | exact nar_b (by first | assumption | rfl)) ?_
    have hE : rApp σ c = (-4, σ) := by simp only [rApp, if_pos (h6.mp hc6)]
    rw [hE]
    exact ⟨rfl, h, Fp.rf μ⟩

set_option maxRecDepth 20000 in
set_option maxHeartbeats 4000000 in
theorem c_X7_add {G : Cx} (d : Nat) {μ : Hp} {σ : ST} {k : Int32} {a : Int32} {f : Int32} (h : Mo σ μ) (hw : Wp (sP σ)) : Ct G (d + 1) 0 0 M_X7_add [.ref 60, .int k, .int a, .int f] μ (Pm ((rAdd σ k a f).2) (.int ((rAdd σ k a f).1)) μ) := by
  refine Ct.ofV (by decide +kernel) (Nat.le_of_ble_eq_true rfl) ?_
  refine v_ls (ls' := [(0, .ref 60), (1, .int k), (2, .int a), (3, .int f)]) rfl ?_
  obtain ⟨co, wh, un, lr, mr, hr, at9, fa, op, sg, hm, p, tt, ro, og, tc, op9, sp, nw, se, le, mo, ot, h60, h61, h62, h63, h64, h65, h66, h67, h68, h69, h70, h71, h72, h73, h74, h75, h76, h77, h78, h79, h80, hmk, hpl, htp, ht60⟩ := id h
  have hl8 := hw.1
  refine v_iload_n 1 dX7_add_0 rfl rfl ?_
  refine v_i2l dX7_add_1 ?_
  refine v_lconst (v := 0) dX7_add_2 (by first | rfl | decide) ?_
  refine v_ldc2 kc_X7_158 dX7_add_3 ?_
  refine v_callS (c_X7_inL d 6 7 6 (by decide) rfl rfl) cs_X7_95 dX7_add_6 rfl rfl (Nat.le_of_ble_eq_true rfl) ?_
  refine rt_k ?_
  refine v_if_ne (tgt := 14) dX7_add_9 (by decide) (fun hc9 => ?_) (fun hc9 => ?_)
  ·
    refine v_iload_n 2 dX7_add_14 rfl rfl ?_
    refine v_i2l dX7_add_15 ?_
    refine v_lconst (v := 0) dX7_add_16 (by first | rfl | decide) ?_
    refine v_ldc2 kc_X7_160 dX7_add_17 ?_
    refine v_callS (c_X7_inL d 3 4 3 (by decide) rfl rfl) cs_X7_95 dX7_add_20 rfl rfl (Nat.le_of_ble_eq_true rfl) ?_
    refine rt_k ?_
    refine v_if_eq (tgt := 38) dX7_add_23 (by decide) (fun hc23 => ?_) (fun hc23 => ?_)
    ·
      refine v_bipush (v := -2) dX7_add_38 (by first | rfl | decide) ?_
      refine v_iret dX7_add_40 rfl (by first | rfl | decide | exact nar_b (by first | assumption | rfl)) ?_
      have hE : rAdd σ k a f = (-2, σ) := by
        first
          | (simp only [rAdd, if_neg hc9, if_pos hc23]; done)
          | (grind [rAdd]; done)
      rw [hE]
      exact ⟨rfl, h, Fp.rf μ⟩
    ·
      refine v_iload_n 3 dX7_add_26 rfl rfl ?_
      refine v_i2l dX7_add_27 ?_
      refine v_lconst (v := 0) dX7_add_28 (by first | rfl | decide) ?_
      refine v_ldc2 kc_X7_9 dX7_add_29 ?_
      refine v_callS (c_X7_inL d 16 17 16 (by decide) rfl rfl) cs_X7_95 dX7_add_32 rfl rfl (Nat.le_of_ble_eq_true rfl) ?_
      refine rt_k ?_
      refine v_if_ne (tgt := 41) dX7_add_35 (by decide) (fun hc35 => ?_) (fun hc35 => ?_)
      ·
        refine v_aload_n 0 dX7_add_41 rfl rfl ?_
        refine v_iload_n 1 dX7_add_42 rfl rfl ?_
        refine v_iload_n 2 dX7_add_43 rfl rfl ?_
        refine v_iload_n 3 dX7_add_44 rfl rfl ?_
        refine v_callS (c_X7_codeOf d ) cs_X7_162 dX7_add_45 rfl rfl (Nat.le_of_ble_eq_true rfl) ?_
        refine rt_k ?_
        refine v_callV (c_X7_adds d h hw) cs_X7_166 dX7_add_48 h60 rfl rfl (Nat.le_of_ble_eq_true rfl) ?_
        rintro _ m2 ⟨rfl, hq2, hq3⟩
        refine v_iret dX7_add_51 rfl (by first | rfl | decide | exact nar_b (by first | assumption | rfl)) ?_
        have hE : rAdd σ k a f = rApp σ (cdO k a f) := by simp only [rAdd, if_neg hc9, if_neg hc23, if_neg hc35]
        rw [hE]
        exact ⟨rfl, hq2, hq3⟩
      ·
        refine v_bipush (v := -2) dX7_add_38 (by first | rfl | decide) ?_
        refine v_iret dX7_add_40 rfl (by first | rfl | decide | exact nar_b (by first | assumption | rfl)) ?_
        have hE : rAdd σ k a f = (-2, σ) := by
          first
            | (simp only [rAdd, if_neg hc9, if_neg hc23, if_pos hc35]; done)
            | (grind [rAdd]; done)
        rw [hE]
        exact ⟨rfl, h, Fp.rf μ⟩
  ·
    refine v_iconst (v := -1) dX7_add_12 (by first | rfl | decide) ?_
    refine v_iret dX7_add_13 rfl (by first | rfl | decide | exact nar_b (by first | assumption | rfl)) ?_
    have hE : rAdd σ k a f = (-1, σ) := by
      first
        | (simp only [rAdd, if_pos hc9]; done)
        | (grind [rAdd]; done)
    rw [hE]
    exact ⟨rfl, h, Fp.rf μ⟩

set_option maxRecDepth 20000 in
set_option maxHeartbeats 4000000 in
theorem c_X7_told {G : Cx} (d : Nat) {μ : Hp} {c w : Int32}  : Ct G (d + 1) 0 0 M_X7_told [.int c, .int w] μ (Rt (some (.int (tolO c w))) μ) := by
  refine Ct.ofV (by decide +kernel) (Nat.le_of_ble_eq_true rfl) ?_
  refine v_ls (ls' := [(0, .int c), (1, .int w)]) rfl ?_
  refine v_iload_n 1 dX7_told_0 rfl rfl ?_
  refine v_if_ne (tgt := 11) dX7_told_1 (by decide) (fun hc1 => ?_) (fun hc1 => ?_)
  ·
    refine v_iload_n 1 dX7_told_11 rfl rfl ?_
    refine v_iconst (v := 1) dX7_told_12 (by first | rfl | decide) ?_
    refine v_icmp_ne (tgt := 23) dX7_told_13 (by decide) (fun hc13 => ?_) (fun hc13 => ?_)
    ·
      refine v_iload_n 0 dX7_told_23 rfl rfl ?_
      refine v_callS (c_X7_figureOf d ) cs_X7_105 dX7_told_24 rfl rfl (Nat.le_of_ble_eq_true rfl) ?_
      refine rt_k ?_
      refine v_iret dX7_told_27 rfl (by first | rfl | decide | exact nar_b (by first | assumption | rfl)) ?_
      exact ⟨by simp only [tolO, if_neg hc1, if_neg hc13], rfl⟩
    ·
      refine v_iload_n 0 dX7_told_16 rfl rfl ?_
      refine v_callS (c_X7_angleOf d ) cs_X7_114 dX7_told_17 rfl rfl (Nat.le_of_ble_eq_true rfl) ?_
      refine rt_k ?_
      refine v_goto (tgt := 27) dX7_told_20 (by decide) ?_
      refine v_iret dX7_told_27 rfl (by first | rfl | decide | exact nar_b (by first | assumption | rfl)) ?_
      exact ⟨by simp only [tolO, if_neg hc1, if_pos hc13], rfl⟩
  ·
    refine v_iload_n 0 dX7_told_4 rfl rfl ?_
    refine v_callS (c_X7_kindOf d ) cs_X7_101 dX7_told_5 rfl rfl (Nat.le_of_ble_eq_true rfl) ?_
    refine rt_k ?_
    refine v_goto (tgt := 27) dX7_told_8 (by decide) ?_
    refine v_iret dX7_told_27 rfl (by first | rfl | decide | exact nar_b (by first | assumption | rfl)) ?_
    exact ⟨by simp only [tolO, if_pos hc1], rfl⟩

set_option maxRecDepth 20000 in
set_option maxHeartbeats 4000000 in
theorem c_X7_with {G : Cx} (d : Nat) {μ : Hp} {c w v : Int32}  : Ct G (d + 1) 0 0 M_X7_with [.int c, .int w, .int v] μ (Rt (some (.int (witO c w v))) μ) := by
  refine Ct.ofV (by decide +kernel) (Nat.le_of_ble_eq_true rfl) ?_
  refine v_ls (ls' := [(0, .int c), (1, .int w), (2, .int v)]) rfl ?_
  refine v_iload_n 1 dX7_with_0 rfl rfl ?_
  refine v_if_ne (tgt := 8) dX7_with_1 (by decide) (fun hc1 => ?_) (fun hc1 => ?_)
  ·
    refine v_iload_n 0 dX7_with_8 rfl rfl ?_
    refine v_callS (c_X7_kindOf d ) cs_X7_101 dX7_with_9 rfl rfl (Nat.le_of_ble_eq_true rfl) ?_
    refine rt_k ?_
    refine v_iload_n 1 dX7_with_12 rfl rfl ?_
    refine v_iconst (v := 1) dX7_with_13 (by first | rfl | decide) ?_
    refine v_icmp_ne (tgt := 21) dX7_with_14 (by decide) (fun hc14 => ?_) (fun hc14 => ?_)
    ·
      refine v_iload_n 0 dX7_with_21 rfl rfl ?_
      refine v_callS (c_X7_angleOf d ) cs_X7_114 dX7_with_22 rfl rfl (Nat.le_of_ble_eq_true rfl) ?_
      refine rt_k ?_
      refine v_iload_n 1 dX7_with_25 rfl rfl ?_
      refine v_iconst (v := 2) dX7_with_26 (by first | rfl | decide) ?_
      refine v_icmp_ne (tgt := 34) dX7_with_27 (by decide) (fun hc27 => ?_) (fun hc27 => ?_)
      ·
        refine v_iload_n 0 dX7_with_34 rfl rfl ?_
        refine v_callS (c_X7_figureOf d ) cs_X7_105 dX7_with_35 rfl rfl (Nat.le_of_ble_eq_true rfl) ?_
        refine rt_k ?_
        refine v_callS (c_X7_codeOf d ) cs_X7_162 dX7_with_38 rfl rfl (Nat.le_of_ble_eq_true rfl) ?_
        refine rt_k ?_
        refine v_iret dX7_with_41 rfl (by first | rfl | decide | exact nar_b (by first | assumption | rfl)) ?_
        exact ⟨by simp only [witO, if_neg hc1, if_neg hc14, if_neg hc27], rfl⟩
      ·
        refine v_iload_n 2 dX7_with_30 rfl rfl ?_
        refine v_goto (tgt := 38) dX7_with_31 (by decide) ?_
        refine v_callS (c_X7_codeOf d ) cs_X7_162 dX7_with_38 rfl rfl (Nat.le_of_ble_eq_true rfl) ?_
        refine rt_k ?_
        refine v_iret dX7_with_41 rfl (by first | rfl | decide | exact nar_b (by first | assumption | rfl)) ?_
        exact ⟨by simp only [witO, if_neg hc1, if_neg hc14, if_pos hc27], rfl⟩
    ·
      refine v_iload_n 2 dX7_with_17 rfl rfl ?_
      refine v_goto (tgt := 25) dX7_with_18 (by decide) ?_
      refine v_iload_n 1 dX7_with_25 rfl rfl ?_
      refine v_iconst (v := 2) dX7_with_26 (by first | rfl | decide) ?_
      refine v_icmp_ne (tgt := 34) dX7_with_27 (by decide) (fun hc27 => ?_) (fun hc27 => ?_)
      ·
        refine v_iload_n 0 dX7_with_34 rfl rfl ?_
        refine v_callS (c_X7_figureOf d ) cs_X7_105 dX7_with_35 rfl rfl (Nat.le_of_ble_eq_true rfl) ?_
        refine rt_k ?_
        refine v_callS (c_X7_codeOf d ) cs_X7_162 dX7_with_38 rfl rfl (Nat.le_of_ble_eq_true rfl) ?_
        refine rt_k ?_
        refine v_iret dX7_with_41 rfl (by first | rfl | decide | exact nar_b (by first | assumption | rfl)) ?_
        exact ⟨by simp only [witO, if_neg hc1, if_pos hc14, if_neg hc27], rfl⟩
      ·
        refine v_iload_n 2 dX7_with_30 rfl rfl ?_
        refine v_goto (tgt := 38) dX7_with_31 (by decide) ?_
        refine v_callS (c_X7_codeOf d ) cs_X7_162 dX7_with_38 rfl rfl (Nat.le_of_ble_eq_true rfl) ?_
        refine rt_k ?_
        refine v_iret dX7_with_41 rfl (by first | rfl | decide | exact nar_b (by first | assumption | rfl)) ?_
        exact ⟨by simp only [witO, if_neg hc1, if_pos hc14, if_pos hc27], rfl⟩
  ·
    refine v_iload_n 2 dX7_with_4 rfl rfl ?_
    refine v_goto (tgt := 12) dX7_with_5 (by decide) ?_
    refine v_iload_n 1 dX7_with_12 rfl rfl ?_
    refine v_iconst (v := 1) dX7_with_13 (by first | rfl | decide) ?_
    refine v_icmp_ne (tgt := 21) dX7_with_14 (by decide) (fun hc14 => ?_) (fun hc14 => ?_)
    ·
      refine v_iload_n 0 dX7_with_21 rfl rfl ?_
      refine v_callS (c_X7_angleOf d ) cs_X7_114 dX7_with_22 rfl rfl (Nat.le_of_ble_eq_true rfl) ?_
      refine rt_k ?_
      refine v_iload_n 1 dX7_with_25 rfl rfl ?_
      refine v_iconst (v := 2) dX7_with_26 (by first | rfl | decide) ?_
      refine v_icmp_ne (tgt := 34) dX7_with_27 (by decide) (fun hc27 => ?_) (fun hc27 => ?_)
      ·
        refine v_iload_n 0 dX7_with_34 rfl rfl ?_
        refine v_callS (c_X7_figureOf d ) cs_X7_105 dX7_with_35 rfl rfl (Nat.le_of_ble_eq_true rfl) ?_
        refine rt_k ?_
        refine v_callS (c_X7_codeOf d ) cs_X7_162 dX7_with_38 rfl rfl (Nat.le_of_ble_eq_true rfl) ?_
        refine rt_k ?_
        refine v_iret dX7_with_41 rfl (by first | rfl | decide | exact nar_b (by first | assumption | rfl)) ?_
        exact ⟨by simp only [witO, if_pos hc1, if_neg hc14, if_neg hc27], rfl⟩
      ·
        refine v_iload_n 2 dX7_with_30 rfl rfl ?_
        refine v_goto (tgt := 38) dX7_with_31 (by decide) ?_
        refine v_callS (c_X7_codeOf d ) cs_X7_162 dX7_with_38 rfl rfl (Nat.le_of_ble_eq_true rfl) ?_
        refine rt_k ?_
        refine v_iret dX7_with_41 rfl (by first | rfl | decide | exact nar_b (by first | assumption | rfl)) ?_
        exact ⟨by simp only [witO, if_pos hc1, if_neg hc14, if_pos hc27], rfl⟩
    ·
      refine v_iload_n 2 dX7_with_17 rfl rfl ?_
      refine v_goto (tgt := 25) dX7_with_18 (by decide) ?_
      refine v_iload_n 1 dX7_with_25 rfl rfl ?_
      refine v_iconst (v := 2) dX7_with_26 (by first | rfl | decide) ?_
      refine v_icmp_ne (tgt := 34) dX7_with_27 (by decide) (fun hc27 => ?_) (fun hc27 => ?_)
      ·
        refine v_iload_n 0 dX7_with_34 rfl rfl ?_
        refine v_callS (c_X7_figureOf d ) cs_X7_105 dX7_with_35 rfl rfl (Nat.le_of_ble_eq_true rfl) ?_
        refine rt_k ?_
        refine v_callS (c_X7_codeOf d ) cs_X7_162 dX7_with_38 rfl rfl (Nat.le_of_ble_eq_true rfl) ?_
        refine rt_k ?_
        refine v_iret dX7_with_41 rfl (by first | rfl | decide | exact nar_b (by first | assumption | rfl)) ?_
        exact ⟨by simp only [witO, if_pos hc1, if_pos hc14, if_neg hc27], rfl⟩
      ·
        refine v_iload_n 2 dX7_with_30 rfl rfl ?_
        refine v_goto (tgt := 38) dX7_with_31 (by decide) ?_
        refine v_callS (c_X7_codeOf d ) cs_X7_162 dX7_with_38 rfl rfl (Nat.le_of_ble_eq_true rfl) ?_
        refine rt_k ?_
        refine v_iret dX7_with_41 rfl (by first | rfl | decide | exact nar_b (by first | assumption | rfl)) ?_
        exact ⟨by simp only [witO, if_pos hc1, if_pos hc14, if_pos hc27], rfl⟩

set_option maxRecDepth 20000 in
set_option maxHeartbeats 4000000 in
theorem c_X7_change {G : Cx} (d : Nat) {μ : Hp} {σ : ST} {i : Int32} {w : Int32} {v : Int32} (h : Mo σ μ) (hw : Wp (sP σ)) : Ct G (d + 2) 0 0 M_X7_change [.ref 60, .int i, .int w, .int v] μ (Pm ((rChange σ i w v).2) (.int ((rChange σ i w v).1)) μ) := by
  refine Ct.ofV (by decide +kernel) (Nat.le_of_ble_eq_true rfl) ?_
  refine v_ls (ls' := [(0, .ref 60), (1, .int i), (2, .int w), (3, .int v)]) rfl ?_
  obtain ⟨co, wh, un, lr, mr, hr, at9, fa, op, sg, hm, p, tt, ro, og, tc, op9, sp, nw, se, le, mo, ot, h60, h61, h62, h63, h64, h65, h66, h67, h68, h69, h70, h71, h72, h73, h74, h75, h76, h77, h78, h79, h80, hmk, hpl, htp, ht60⟩ := id h
  have hl8 := hw.1
  refine v_aload_n 0 dX7_change_0 rfl rfl ?_
  refine v_iload_n 1 dX7_change_1 rfl rfl ?_
  refine v_callV (c_X7_isFilter d h60 (by omega)) cs_X7_169 dX7_change_2 h60 rfl rfl (Nat.le_of_ble_eq_true rfl) ?_
  refine rt_k ?_
  refine v_if_eq (tgt := 20) dX7_change_5 (by decide) (fun hc5 => ?_) (fun hc5 => ?_)
  ·
    refine v_iconst (v := -1) dX7_change_20 (by first | rfl | decide) ?_
    refine v_iret dX7_change_21 rfl (by first | rfl | decide | exact nar_b (by first | assumption | rfl)) ?_
    have hE : rChange σ i w v = (-1, σ) := by
      first
        | (simp only [rChange, if_pos hc5]; done)
        | (grind [rChange]; done)
    rw [hE]
    exact ⟨rfl, h, Fp.rf μ⟩
  ·
    refine v_iload_n 2 dX7_change_8 rfl rfl ?_
    refine v_i2l dX7_change_9 ?_
    refine v_lconst (v := 0) dX7_change_10 (by first | rfl | decide) ?_
    refine v_ldc2 kc_X7_99 dX7_change_11 ?_
    refine v_callS (c_X7_inL (d + 1) 2 3 2 (by decide) rfl rfl) cs_X7_95 dX7_change_14 rfl rfl (Nat.le_of_ble_eq_true rfl) ?_
    refine rt_k ?_
    refine v_if_ne (tgt := 22) dX7_change_17 (by decide) (fun hc17 => ?_) (fun hc17 => ?_)
    ·
      obtain ⟨n, hn9, rfl⟩ := in_ix (by omega) hc5
      have hcn : (nI n).toNatClampNeg = n := clamp (by omega)
      refine v_iload_n 3 dX7_change_22 rfl rfl ?_
      refine v_i2l dX7_change_23 ?_
      refine v_lconst (v := 0) dX7_change_24 (by first | rfl | decide) ?_
      refine v_iload_n 2 dX7_change_25 rfl rfl ?_
      refine v_if_ne (tgt := 35) dX7_change_26 (by decide) (fun hc26 => ?_) (fun hc26 => ?_)
      ·
        refine v_iload_n 2 dX7_change_35 rfl rfl ?_
        refine v_iconst (v := 1) dX7_change_36 (by first | rfl | decide) ?_
        refine v_icmp_ne (tgt := 46) dX7_change_37 (by decide) (fun hc37 => ?_) (fun hc37 => ?_)
        ·
          refine v_ldc2 kc_X7_9 dX7_change_46 ?_
          refine v_callS (c_X7_inL (d + 1) 16 17 16 (by decide) rfl rfl) cs_X7_95 dX7_change_49 rfl rfl (Nat.le_of_ble_eq_true rfl) ?_
          refine rt_k ?_
          refine v_if_ne (tgt := 58) dX7_change_52 (by decide) (fun hc52 => ?_) (fun hc52 => ?_)
          ·
            have hpn : atP σ (nI n) = p n := at_nI hpl hn9 hl8
            refine v_aload_n 0 dX7_change_58 rfl rfl ?_
            refine v_get fl_X7_17 dX7_change_59 h60 rfl ?_
            refine v_iload_n 1 dX7_change_62 rfl rfl ?_
            refine v_iald dX7_change_63 h62 (nI_in' (by omega)) ?_
            refine v_iload_n 2 dX7_change_64 rfl rfl ?_
            refine v_callS (c_X7_told d ) cs_X7_173 dX7_change_65 rfl rfl (Nat.le_of_ble_eq_true rfl) ?_
            refine rt_k ?_
            refine v_istore dX7_change_68 (by decide) (fun x4_1 e_x4_1 => ?_)
            refine v_ls (ls' := [(4, .int x4_1), (0, .ref 60), (1, .int (nI n)), (2, .int w), (3, .int v)]) rfl ?_
            subst e_x4_1
            refine v_aload_n 1 dX7_change_70 rfl rfl ?_
            refine v_get fl_X7_17 dX7_change_71 h60 rfl ?_
            refine v_iload_n 2 dX7_change_74 rfl rfl ?_
            refine v_aload_n 1 dX7_change_75 rfl rfl ?_
            refine v_get fl_X7_17 dX7_change_76 h60 rfl ?_
            refine v_iload_n 2 dX7_change_79 rfl rfl ?_
            refine v_iald dX7_change_80 h62 (nI_in' (by omega)) ?_
            refine v_iload_n 3 dX7_change_81 rfl rfl ?_
            refine v_iload_n 4 dX7_change_82 rfl rfl ?_
            refine v_callS (c_X7_with d ) cs_X7_177 dX7_change_83 rfl rfl (Nat.le_of_ble_eq_true rfl) ?_
            refine rt_k ?_
            refine v_iast dX7_change_86 h62 (nI_in' (by omega)) ?_
            refine v_iload 0 dX7_change_87 rfl ?_
            refine v_iret dX7_change_89 rfl (by first | rfl | decide | exact nar_b (by first | assumption | rfl)) ?_
            have hE : rChange σ (nI n) w v = (tolO (p n) w, toP σ ((sP σ).set n (witO (p n) w v))) := by
              have hiv : ¬ inO v (nmO w) = 0 := by simp only [nmO, if_neg hc26, if_neg hc37]; exact hc52
              simp only [rChange, if_neg hc5, if_neg hc17, if_neg hiv, hpn, hcn]
            rw [hE]
            rw [hcn]
            have hx : nI (sP (toP σ ((sP σ).set n (witO (p n) w v)))).length = nI (sP σ).length := by show nI ((sP σ).set n _).length = _; rw [List.length_set]
            exact ⟨rfl, ⟨co, wh, un, lr, mr, hr, at9, fa, op, sg, hm, (upd p n (witO (p n) w v)), tt, ro, og, tc, op9, sp, nw, se, le, mo, ot, (by rw [hx]; repeat (first | assumption | refine up_n (by omega) ?_)), (by repeat (first | assumption | exact up_s _ _ _ | refine up_n (by omega) ?_)), (by repeat (first | assumption | exact up_s _ _ _ | refine up_n (by omega) ?_)), (by repeat (first | assumption | exact up_s _ _ _ | refine up_n (by omega) ?_)), (by repeat (first | assumption | exact up_s _ _ _ | refine up_n (by omega) ?_)), (by repeat (first | assumption | exact up_s _ _ _ | refine up_n (by omega) ?_)), (by repeat (first | assumption | exact up_s _ _ _ | refine up_n (by omega) ?_)), (by repeat (first | assumption | exact up_s _ _ _ | refine up_n (by omega) ?_)), (by repeat (first | assumption | exact up_s _ _ _ | refine up_n (by omega) ?_)), (by repeat (first | assumption | exact up_s _ _ _ | refine up_n (by omega) ?_)), (by repeat (first | assumption | exact up_s _ _ _ | refine up_n (by omega) ?_)), (by repeat (first | assumption | exact up_s _ _ _ | refine up_n (by omega) ?_)), (by repeat (first | assumption | exact up_s _ _ _ | refine up_n (by omega) ?_)), (by repeat (first | assumption | exact up_s _ _ _ | refine up_n (by omega) ?_)), (by repeat (first | assumption | exact up_s _ _ _ | refine up_n (by omega) ?_)), (by repeat (first | assumption | exact up_s _ _ _ | refine up_n (by omega) ?_)), (by repeat (first | assumption | exact up_s _ _ _ | refine up_n (by omega) ?_)), (by repeat (first | assumption | exact up_s _ _ _ | refine up_n (by omega) ?_)), (by repeat (first | assumption | exact up_s _ _ _ | refine up_n (by omega) ?_)), (by repeat (first | assumption | exact up_s _ _ _ | refine up_n (by omega) ?_)), (by repeat (first | assumption | exact up_s _ _ _ | refine up_n (by omega) ?_)), (hmk.kept (fun i a b => by repeat (first | rfl | refine up_n (by omega) ?_))), (hpl.set n _), htp, ht60⟩, fun i hi => by repeat (first | rfl | refine up_n (by omega) ?_)⟩
          ·
            refine v_bipush (v := -2) dX7_change_55 (by first | rfl | decide) ?_
            refine v_iret dX7_change_57 rfl (by first | rfl | decide | exact nar_b (by first | assumption | rfl)) ?_
            have hE : rChange σ (nI n) w v = (-2, σ) := by simp only [rChange, if_neg hc5, if_neg hc17, nmO, if_neg hc26, if_neg hc37, if_pos hc52]
            rw [hE]
            exact ⟨rfl, h, Fp.rf μ⟩
        ·
          refine v_ldc2 kc_X7_160 dX7_change_40 ?_
          refine v_goto (tgt := 49) dX7_change_43 (by decide) ?_
          refine v_callS (c_X7_inL (d + 1) 3 4 3 (by decide) rfl rfl) cs_X7_95 dX7_change_49 rfl rfl (Nat.le_of_ble_eq_true rfl) ?_
          refine rt_k ?_
          refine v_if_ne (tgt := 58) dX7_change_52 (by decide) (fun hc52 => ?_) (fun hc52 => ?_)
          ·
            have hpn : atP σ (nI n) = p n := at_nI hpl hn9 hl8
            refine v_aload_n 0 dX7_change_58 rfl rfl ?_
            refine v_get fl_X7_17 dX7_change_59 h60 rfl ?_
            refine v_iload_n 1 dX7_change_62 rfl rfl ?_
            refine v_iald dX7_change_63 h62 (nI_in' (by omega)) ?_
            refine v_iload_n 2 dX7_change_64 rfl rfl ?_
            refine v_callS (c_X7_told d ) cs_X7_173 dX7_change_65 rfl rfl (Nat.le_of_ble_eq_true rfl) ?_
            refine rt_k ?_
            refine v_istore dX7_change_68 (by decide) (fun x4_2 e_x4_2 => ?_)
            refine v_ls (ls' := [(4, .int x4_2), (0, .ref 60), (1, .int (nI n)), (2, .int w), (3, .int v)]) rfl ?_
            subst e_x4_2
            refine v_aload_n 1 dX7_change_70 rfl rfl ?_
            refine v_get fl_X7_17 dX7_change_71 h60 rfl ?_
            refine v_iload_n 2 dX7_change_74 rfl rfl ?_
            refine v_aload_n 1 dX7_change_75 rfl rfl ?_
            refine v_get fl_X7_17 dX7_change_76 h60 rfl ?_
            refine v_iload_n 2 dX7_change_79 rfl rfl ?_
            refine v_iald dX7_change_80 h62 (nI_in' (by omega)) ?_
            refine v_iload_n 3 dX7_change_81 rfl rfl ?_
            refine v_iload_n 4 dX7_change_82 rfl rfl ?_
            refine v_callS (c_X7_with d ) cs_X7_177 dX7_change_83 rfl rfl (Nat.le_of_ble_eq_true rfl) ?_
            refine rt_k ?_
            refine v_iast dX7_change_86 h62 (nI_in' (by omega)) ?_
            refine v_iload 0 dX7_change_87 rfl ?_
            refine v_iret dX7_change_89 rfl (by first | rfl | decide | exact nar_b (by first | assumption | rfl)) ?_
            have hE : rChange σ (nI n) w v = (tolO (p n) w, toP σ ((sP σ).set n (witO (p n) w v))) := by
              have hiv : ¬ inO v (nmO w) = 0 := by simp only [nmO, if_neg hc26, if_pos hc37]; exact hc52
              simp only [rChange, if_neg hc5, if_neg hc17, if_neg hiv, hpn, hcn]
            rw [hE]
            rw [hcn]
            have hx : nI (sP (toP σ ((sP σ).set n (witO (p n) w v)))).length = nI (sP σ).length := by show nI ((sP σ).set n _).length = _; rw [List.length_set]
            exact ⟨rfl, ⟨co, wh, un, lr, mr, hr, at9, fa, op, sg, hm, (upd p n (witO (p n) w v)), tt, ro, og, tc, op9, sp, nw, se, le, mo, ot, (by rw [hx]; repeat (first | assumption | refine up_n (by omega) ?_)), (by repeat (first | assumption | exact up_s _ _ _ | refine up_n (by omega) ?_)), (by repeat (first | assumption | exact up_s _ _ _ | refine up_n (by omega) ?_)), (by repeat (first | assumption | exact up_s _ _ _ | refine up_n (by omega) ?_)), (by repeat (first | assumption | exact up_s _ _ _ | refine up_n (by omega) ?_)), (by repeat (first | assumption | exact up_s _ _ _ | refine up_n (by omega) ?_)), (by repeat (first | assumption | exact up_s _ _ _ | refine up_n (by omega) ?_)), (by repeat (first | assumption | exact up_s _ _ _ | refine up_n (by omega) ?_)), (by repeat (first | assumption | exact up_s _ _ _ | refine up_n (by omega) ?_)), (by repeat (first | assumption | exact up_s _ _ _ | refine up_n (by omega) ?_)), (by repeat (first | assumption | exact up_s _ _ _ | refine up_n (by omega) ?_)), (by repeat (first | assumption | exact up_s _ _ _ | refine up_n (by omega) ?_)), (by repeat (first | assumption | exact up_s _ _ _ | refine up_n (by omega) ?_)), (by repeat (first | assumption | exact up_s _ _ _ | refine up_n (by omega) ?_)), (by repeat (first | assumption | exact up_s _ _ _ | refine up_n (by omega) ?_)), (by repeat (first | assumption | exact up_s _ _ _ | refine up_n (by omega) ?_)), (by repeat (first | assumption | exact up_s _ _ _ | refine up_n (by omega) ?_)), (by repeat (first | assumption | exact up_s _ _ _ | refine up_n (by omega) ?_)), (by repeat (first | assumption | exact up_s _ _ _ | refine up_n (by omega) ?_)), (by repeat (first | assumption | exact up_s _ _ _ | refine up_n (by omega) ?_)), (by repeat (first | assumption | exact up_s _ _ _ | refine up_n (by omega) ?_)), (hmk.kept (fun i a b => by repeat (first | rfl | refine up_n (by omega) ?_))), (hpl.set n _), htp, ht60⟩, fun i hi => by repeat (first | rfl | refine up_n (by omega) ?_)⟩
          ·
            refine v_bipush (v := -2) dX7_change_55 (by first | rfl | decide) ?_
            refine v_iret dX7_change_57 rfl (by first | rfl | decide | exact nar_b (by first | assumption | rfl)) ?_
            have hE : rChange σ (nI n) w v = (-2, σ) := by simp only [rChange, if_neg hc5, if_neg hc17, nmO, if_neg hc26, if_pos hc37, if_pos hc52]
            rw [hE]
            exact ⟨rfl, h, Fp.rf μ⟩
      ·
        refine v_ldc2 kc_X7_158 dX7_change_29 ?_
        refine v_goto (tgt := 49) dX7_change_32 (by decide) ?_
        refine v_callS (c_X7_inL (d + 1) 6 7 6 (by decide) rfl rfl) cs_X7_95 dX7_change_49 rfl rfl (Nat.le_of_ble_eq_true rfl) ?_
        refine rt_k ?_
        refine v_if_ne (tgt := 58) dX7_change_52 (by decide) (fun hc52 => ?_) (fun hc52 => ?_)
        ·
          have hpn : atP σ (nI n) = p n := at_nI hpl hn9 hl8
          refine v_aload_n 0 dX7_change_58 rfl rfl ?_
          refine v_get fl_X7_17 dX7_change_59 h60 rfl ?_
          refine v_iload_n 1 dX7_change_62 rfl rfl ?_
          refine v_iald dX7_change_63 h62 (nI_in' (by omega)) ?_
          refine v_iload_n 2 dX7_change_64 rfl rfl ?_
          refine v_callS (c_X7_told d ) cs_X7_173 dX7_change_65 rfl rfl (Nat.le_of_ble_eq_true rfl) ?_
          refine rt_k ?_
          refine v_istore dX7_change_68 (by decide) (fun x4_3 e_x4_3 => ?_)
          refine v_ls (ls' := [(4, .int x4_3), (0, .ref 60), (1, .int (nI n)), (2, .int w), (3, .int v)]) rfl ?_
          subst e_x4_3
          refine v_aload_n 1 dX7_change_70 rfl rfl ?_
          refine v_get fl_X7_17 dX7_change_71 h60 rfl ?_
          refine v_iload_n 2 dX7_change_74 rfl rfl ?_
          refine v_aload_n 1 dX7_change_75 rfl rfl ?_
          refine v_get fl_X7_17 dX7_change_76 h60 rfl ?_
          refine v_iload_n 2 dX7_change_79 rfl rfl ?_
          refine v_iald dX7_change_80 h62 (nI_in' (by omega)) ?_
          refine v_iload_n 3 dX7_change_81 rfl rfl ?_
          refine v_iload_n 4 dX7_change_82 rfl rfl ?_
          refine v_callS (c_X7_with d ) cs_X7_177 dX7_change_83 rfl rfl (Nat.le_of_ble_eq_true rfl) ?_
          refine rt_k ?_
          refine v_iast dX7_change_86 h62 (nI_in' (by omega)) ?_
          refine v_iload 0 dX7_change_87 rfl ?_
          refine v_iret dX7_change_89 rfl (by first | rfl | decide | exact nar_b (by first | assumption | rfl)) ?_
          have hE : rChange σ (nI n) w v = (tolO (p n) w, toP σ ((sP σ).set n (witO (p n) w v))) := by
            have hiv : ¬ inO v (nmO w) = 0 := by simp only [nmO, if_pos hc26]; exact hc52
            simp only [rChange, if_neg hc5, if_neg hc17, if_neg hiv, hpn, hcn]
          rw [hE]
          rw [hcn]
          have hx : nI (sP (toP σ ((sP σ).set n (witO (p n) w v)))).length = nI (sP σ).length := by show nI ((sP σ).set n _).length = _; rw [List.length_set]
          exact ⟨rfl, ⟨co, wh, un, lr, mr, hr, at9, fa, op, sg, hm, (upd p n (witO (p n) w v)), tt, ro, og, tc, op9, sp, nw, se, le, mo, ot, (by rw [hx]; repeat (first | assumption | refine up_n (by omega) ?_)), (by repeat (first | assumption | exact up_s _ _ _ | refine up_n (by omega) ?_)), (by repeat (first | assumption | exact up_s _ _ _ | refine up_n (by omega) ?_)), (by repeat (first | assumption | exact up_s _ _ _ | refine up_n (by omega) ?_)), (by repeat (first | assumption | exact up_s _ _ _ | refine up_n (by omega) ?_)), (by repeat (first | assumption | exact up_s _ _ _ | refine up_n (by omega) ?_)), (by repeat (first | assumption | exact up_s _ _ _ | refine up_n (by omega) ?_)), (by repeat (first | assumption | exact up_s _ _ _ | refine up_n (by omega) ?_)), (by repeat (first | assumption | exact up_s _ _ _ | refine up_n (by omega) ?_)), (by repeat (first | assumption | exact up_s _ _ _ | refine up_n (by omega) ?_)), (by repeat (first | assumption | exact up_s _ _ _ | refine up_n (by omega) ?_)), (by repeat (first | assumption | exact up_s _ _ _ | refine up_n (by omega) ?_)), (by repeat (first | assumption | exact up_s _ _ _ | refine up_n (by omega) ?_)), (by repeat (first | assumption | exact up_s _ _ _ | refine up_n (by omega) ?_)), (by repeat (first | assumption | exact up_s _ _ _ | refine up_n (by omega) ?_)), (by repeat (first | assumption | exact up_s _ _ _ | refine up_n (by omega) ?_)), (by repeat (first | assumption | exact up_s _ _ _ | refine up_n (by omega) ?_)), (by repeat (first | assumption | exact up_s _ _ _ | refine up_n (by omega) ?_)), (by repeat (first | assumption | exact up_s _ _ _ | refine up_n (by omega) ?_)), (by repeat (first | assumption | exact up_s _ _ _ | refine up_n (by omega) ?_)), (by repeat (first | assumption | exact up_s _ _ _ | refine up_n (by omega) ?_)), (hmk.kept (fun i a b => by repeat (first | rfl | refine up_n (by omega) ?_))), (hpl.set n _), htp, ht60⟩, fun i hi => by repeat (first | rfl | refine up_n (by omega) ?_)⟩
        ·
          refine v_bipush (v := -2) dX7_change_55 (by first | rfl | decide) ?_
          refine v_iret dX7_change_57 rfl (by first | rfl | decide | exact nar_b (by first | assumption | rfl)) ?_
          have hE : rChange σ (nI n) w v = (-2, σ) := by simp only [rChange, if_neg hc5, if_neg hc17, nmO, if_pos hc26, if_pos hc52]
          rw [hE]
          exact ⟨rfl, h, Fp.rf μ⟩
    ·
      refine v_iconst (v := -1) dX7_change_20 (by first | rfl | decide) ?_
      refine v_iret dX7_change_21 rfl (by first | rfl | decide | exact nar_b (by first | assumption | rfl)) ?_
      have hE : rChange σ i w v = (-1, σ) := by
        first
          | (simp only [rChange, if_neg hc5, if_pos hc17]; done)
          | (grind [rChange]; done)
      rw [hE]
      exact ⟨rfl, h, Fp.rf μ⟩

theorem turn_m (a : Nat) (ha : a < 4) (y : Int32) : irem (irem (nI a + irem y 4) 4 + 4) 4 = trnO (nI a) y := by
  unfold trnO
  rw [nI_toInt (by omega), irem_mod, irem_mod, irem_mod]
  apply Int32.toInt_inj.mp
  have hy : (y % 4).toInt = y.toInt.tmod 4 := Int32.toInt_mod _ _
  have hr : y.toInt.tmod 4 = y.toInt % 4 - (if 0 ≤ y.toInt ∨ (4 : Int) ∣ y.toInt then 0 else 4) := by
    rw [Int.tmod_eq_emod]
    split <;> rfl
  have b1 : -4 < y.toInt.tmod 4 ∧ y.toInt.tmod 4 < 4 ∧ (y.toInt.tmod 4) % 4 = y.toInt % 4 := by
    rw [hr]
    split <;> omega
  have e1 : (nI a + y % 4).toInt = a + y.toInt.tmod 4 := by
    rw [Int32.toInt_add, nI_toInt (by omega), hy]
    exact Int.bmod_eq_of_le (by simp; omega) (by simp; omega)
  generalize y.toInt.tmod 4 = Y at *
  have h2 : ((nI a + y % 4) % 4).toInt = ((a : Int) + Y).tmod 4 := by rw [Int32.toInt_mod, e1]; rfl
  have hr2 : ((a : Int) + Y).tmod 4 = ((a : Int) + Y) % 4 - (if 0 ≤ (a : Int) + Y ∨ (4 : Int) ∣ (a : Int) + Y then 0 else 4) := by
    rw [Int.tmod_eq_emod]
    split <;> rfl
  have b2 : -4 < ((a : Int) + Y).tmod 4 ∧ ((a : Int) + Y).tmod 4 < 4 ∧ (((a : Int) + Y).tmod 4) % 4 = ((a : Int) + Y) % 4 := by
    rw [hr2]
    split <;> omega
  generalize ((a : Int) + Y).tmod 4 = Z at *
  have e3 : ((nI a + y % 4) % 4 + 4).toInt = Z + 4 := by
    rw [Int32.toInt_add, h2, show (4 : Int32).toInt = 4 from rfl]
    exact Int.bmod_eq_of_le (by simp; omega) (by simp; omega)
  rw [Int32.toInt_mod, e3, show (4 : Int32).toInt = 4 from rfl, nI_toInt (by omega), Int.tmod_eq_emod_of_nonneg (by omega)]
  omega
set_option maxRecDepth 20000 in
set_option maxHeartbeats 4000000 in
theorem c_X7_turn {G : Cx} (d : Nat) {μ : Hp} {σ : ST} {i : Int32} {y : Int32} (h : Mo σ μ) (hw : Wp (sP σ)) : Ct G (d + 2) 0 0 M_X7_turn [.ref 60, .int i, .int y] μ (Pm ((rTurn σ i y).2) (.int ((rTurn σ i y).1)) μ) := by
  refine Ct.ofV (by decide +kernel) (Nat.le_of_ble_eq_true rfl) ?_
  refine v_ls (ls' := [(0, .ref 60), (1, .int i), (2, .int y)]) rfl ?_
  obtain ⟨co, wh, un, lr, mr, hr, at9, fa, op, sg, hm, p, tt, ro, og, tc, op9, sp, nw, se, le, mo, ot, h60, h61, h62, h63, h64, h65, h66, h67, h68, h69, h70, h71, h72, h73, h74, h75, h76, h77, h78, h79, h80, hmk, hpl, htp, ht60⟩ := id h
  have hl8 := hw.1
  refine v_aload_n 0 dX7_turn_0 rfl rfl ?_
  refine v_iload_n 1 dX7_turn_1 rfl rfl ?_
  refine v_callV (c_X7_isFilter d h60 (by omega)) cs_X7_169 dX7_turn_2 h60 rfl rfl (Nat.le_of_ble_eq_true rfl) ?_
  refine rt_k ?_
  refine v_if_ne (tgt := 10) dX7_turn_5 (by decide) (fun hc5 => ?_) (fun hc5 => ?_)
  ·
    obtain ⟨n, hn9, rfl⟩ := in_ix (by omega) hc5
    have hcn : (nI n).toNatClampNeg = n := clamp (by omega)
    refine v_aload_n 0 dX7_turn_10 rfl rfl ?_
    refine v_get fl_X7_17 dX7_turn_11 h60 rfl ?_
    refine v_iload_n 1 dX7_turn_14 rfl rfl ?_
    refine v_iald dX7_turn_15 h62 (nI_in' (by omega)) ?_
    have hpn : atP σ (nI n) = p n := at_nI hpl hn9 hl8
    rw [hcn]
    have hvc : Vc (p n) := by rw [← getD_at hpl hn9]; exact hw.at hn9
    obtain ⟨a8, ha8, hae⟩ := hvc.an
    refine v_callS (c_X7_angleOf (d + 1) ) cs_X7_114 dX7_turn_16 rfl rfl (Nat.le_of_ble_eq_true rfl) ?_
    refine rt_k ?_
    refine v_iload_n 2 dX7_turn_19 rfl rfl ?_
    refine v_iconst (v := 4) dX7_turn_20 (by first | rfl | decide) ?_
    refine v_irem dX7_turn_21 (by decide) ?_
    refine v_iadd dX7_turn_22 ?_
    refine v_iconst (v := 4) dX7_turn_23 (by first | rfl | decide) ?_
    refine v_irem dX7_turn_24 (by decide) ?_
    refine v_iconst (v := 4) dX7_turn_25 (by first | rfl | decide) ?_
    refine v_iadd dX7_turn_26 ?_
    refine v_iconst (v := 4) dX7_turn_27 (by first | rfl | decide) ?_
    refine v_irem dX7_turn_28 (by decide) ?_
    refine v_istore_n dX7_turn_29 rfl (by decide) (fun x3 e_x3 => ?_)
    refine v_ls (ls' := [(3, .int x3), (0, .ref 60), (1, .int (nI n)), (2, .int y)]) rfl ?_
    have hx3 : x3 = trnO (anO (p n)) y := by rw [e_x3, hae]; exact turn_m a8 ha8 y
    clear e_x3
    subst hx3
    refine v_aload_n 1 dX7_turn_30 rfl rfl ?_
    refine v_get fl_X7_17 dX7_turn_31 h60 rfl ?_
    refine v_iload_n 2 dX7_turn_34 rfl rfl ?_
    refine v_aload_n 1 dX7_turn_35 rfl rfl ?_
    refine v_get fl_X7_17 dX7_turn_36 h60 rfl ?_
    refine v_iload_n 2 dX7_turn_39 rfl rfl ?_
    refine v_iald dX7_turn_40 h62 (nI_in' (by omega)) ?_
    refine v_iconst (v := 1) dX7_turn_41 (by first | rfl | decide) ?_
    refine v_iload_n 0 dX7_turn_42 rfl rfl ?_
    refine v_callS (c_X7_with d ) cs_X7_177 dX7_turn_43 rfl rfl (Nat.le_of_ble_eq_true rfl) ?_
    refine rt_k ?_
    refine v_iast dX7_turn_46 h62 (nI_in' (by omega)) ?_
    refine v_iload_n 0 dX7_turn_47 rfl rfl ?_
    refine v_iret dX7_turn_48 rfl (by first | rfl | decide | exact nar_b (by first | assumption | rfl)) ?_
    have hE : rTurn σ (nI n) y = (trnO (anO (p n)) y, toP σ ((sP σ).set n (witO (p n) 1 (trnO (anO (p n)) y)))) := by
      simp only [rTurn, if_neg hc5, hpn, hcn]
      rfl
    rw [hE]
    rw [hcn]
    have hx : nI (sP (toP σ ((sP σ).set n (witO (p n) 1 (trnO (anO (p n)) y))))).length = nI (sP σ).length := by show nI ((sP σ).set n _).length = _; rw [List.length_set]
    exact ⟨rfl, ⟨co, wh, un, lr, mr, hr, at9, fa, op, sg, hm, (upd p n (witO (p n) 1 (trnO (anO (p n)) y))), tt, ro, og, tc, op9, sp, nw, se, le, mo, ot, (by rw [hx]; repeat (first | assumption | refine up_n (by omega) ?_)), (by repeat (first | assumption | exact up_s _ _ _ | refine up_n (by omega) ?_)), (by repeat (first | assumption | exact up_s _ _ _ | refine up_n (by omega) ?_)), (by repeat (first | assumption | exact up_s _ _ _ | refine up_n (by omega) ?_)), (by repeat (first | assumption | exact up_s _ _ _ | refine up_n (by omega) ?_)), (by repeat (first | assumption | exact up_s _ _ _ | refine up_n (by omega) ?_)), (by repeat (first | assumption | exact up_s _ _ _ | refine up_n (by omega) ?_)), (by repeat (first | assumption | exact up_s _ _ _ | refine up_n (by omega) ?_)), (by repeat (first | assumption | exact up_s _ _ _ | refine up_n (by omega) ?_)), (by repeat (first | assumption | exact up_s _ _ _ | refine up_n (by omega) ?_)), (by repeat (first | assumption | exact up_s _ _ _ | refine up_n (by omega) ?_)), (by repeat (first | assumption | exact up_s _ _ _ | refine up_n (by omega) ?_)), (by repeat (first | assumption | exact up_s _ _ _ | refine up_n (by omega) ?_)), (by repeat (first | assumption | exact up_s _ _ _ | refine up_n (by omega) ?_)), (by repeat (first | assumption | exact up_s _ _ _ | refine up_n (by omega) ?_)), (by repeat (first | assumption | exact up_s _ _ _ | refine up_n (by omega) ?_)), (by repeat (first | assumption | exact up_s _ _ _ | refine up_n (by omega) ?_)), (by repeat (first | assumption | exact up_s _ _ _ | refine up_n (by omega) ?_)), (by repeat (first | assumption | exact up_s _ _ _ | refine up_n (by omega) ?_)), (by repeat (first | assumption | exact up_s _ _ _ | refine up_n (by omega) ?_)), (by repeat (first | assumption | exact up_s _ _ _ | refine up_n (by omega) ?_)), (hmk.kept (fun i a b => by repeat (first | rfl | refine up_n (by omega) ?_))), (hpl.set n _), htp, ht60⟩, fun i hi => by repeat (first | rfl | refine up_n (by omega) ?_)⟩
  ·
    refine v_iconst (v := -1) dX7_turn_8 (by first | rfl | decide) ?_
    refine v_iret dX7_turn_9 rfl (by first | rfl | decide | exact nar_b (by first | assumption | rfl)) ?_
    have hE : rTurn σ i y = (-1, σ) := by
      first
        | (simp only [rTurn, if_pos hc5]; done)
        | (grind [rTurn]; done)
    rw [hE]
    exact ⟨rfl, h, Fp.rf μ⟩

