set_option maxRecDepth 20000 in
set_option maxHeartbeats 4000000 in
theorem c_X7_image {G : Cx} (d : Nat) {μ : Hp} {σ : ST}  (h : Mo σ μ) (hw : Wp (sP σ)) : Ct G (d + 1) 0 0 M_X7_image [.ref 60] μ (Pm ((rImage σ).2) (.int ((rImage σ).1)) μ) := by
  refine Ct.ofV (by decide +kernel) (Nat.le_of_ble_eq_true rfl) ?_
  refine v_ls (ls' := [(0, .ref 60)]) rfl ?_
  obtain ⟨co, wh, un, lr, mr, hr, at9, fa, op, sg, hm, p, tt, ro, og, tc, op9, sp, nw, se, le, mo, ot, h60, h61, h62, h63, h64, h65, h66, h67, h68, h69, h70, h71, h72, h73, h74, h75, h76, h77, h78, h79, h80, hmk, hpl, htp, ht60⟩ := id h
  have hl8 := hw.1
  obtain ⟨g1, g2, g4, g5, g3, k81, k82, k83, k84, k85, hkk⟩ := id hmk
  refine v_aload_n 0 dX7_image_0 rfl rfl ?_
  refine v_get fl_X7_11 dX7_image_1 h60 rfl ?_
  refine v_iconst (v := 0) dX7_image_4 (by first | rfl | decide) ?_
  refine v_aload_n 0 dX7_image_5 rfl rfl ?_
  refine v_get fl_X7_76 dX7_image_6 h60 rfl ?_
  refine v_iconst (v := 0) dX7_image_9 (by first | rfl | decide) ?_
  refine v_iconst (v := 5) dX7_image_10 (by first | rfl | decide) ?_
  refine v_copyl cs_X7_140 dX7_image_11 h61 k81 rfl rfl (by decide) (by decide) (by decide) (by decide) (by decide) (fun i _ => rfl) (Nat.le_of_ble_eq_true rfl) ?_
  skip
  refine v_njJ (cpy_eq _ _ _) ?_
  refine v_aload_n 0 dX7_image_14 rfl rfl ?_
  refine v_get fl_X7_17 dX7_image_15 (up_n (by decide) h60) rfl ?_
  refine v_iconst (v := 0) dX7_image_18 (by first | rfl | decide) ?_
  refine v_aload_n 0 dX7_image_19 rfl rfl ?_
  refine v_get fl_X7_79 dX7_image_20 (up_n (by decide) h60) rfl ?_
  refine v_iconst (v := 0) dX7_image_23 (by first | rfl | decide) ?_
  refine v_bipush (v := 8) dX7_image_24 (by first | rfl | decide) ?_
  refine v_copyi cs_X7_140 dX7_image_26 (up_n (by decide) h62) (up_n (by decide) k82) rfl rfl (by decide) (by decide) (by decide) (by decide) (by decide) (fun i _ => rfl) (Nat.le_of_ble_eq_true rfl) ?_
  skip
  skip
  refine v_aload_n 0 dX7_image_29 rfl rfl ?_
  refine v_aload_n 0 dX7_image_30 rfl rfl ?_
  refine v_get fl_X7_91 dX7_image_31 (up_n (by decide) (up_n (by decide) h60)) rfl ?_
  refine v_put fp_X7_380 dX7_image_34 (up_n (by decide) (up_n (by decide) h60)) (Nat.le_of_ble_eq_true rfl) (by first | rfl | decide) (by first | rfl | decide) ?_
  refine v_aload_n 0 dX7_image_37 rfl rfl ?_
  refine v_get fl_X7_48 dX7_image_38 (up_s _ _ _) rfl ?_
  refine v_iconst (v := 0) dX7_image_41 (by first | rfl | decide) ?_
  refine v_aload_n 0 dX7_image_42 rfl rfl ?_
  refine v_get fl_X7_82 dX7_image_43 (up_s _ _ _) rfl ?_
  refine v_iconst (v := 0) dX7_image_46 (by first | rfl | decide) ?_
  refine v_bipush (v := 8) dX7_image_47 (by first | rfl | decide) ?_
  refine v_copyf cs_X7_140 dX7_image_49 (up_n (by decide) (up_n (by decide) (up_n (by decide) h72))) (up_n (by decide) (up_n (by decide) (up_n (by decide) k83))) rfl rfl (by decide) (by decide) (by decide) (by decide) (by decide) (fun i _ => rfl) (Nat.le_of_ble_eq_true rfl) ?_
  skip
  refine v_nfF (cpy_eq _ _ _) ?_
  refine v_aload_n 0 dX7_image_52 rfl rfl ?_
  refine v_get fl_X7_52 dX7_image_53 (up_n (by decide) (up_s _ _ _)) rfl ?_
  refine v_iconst (v := 0) dX7_image_56 (by first | rfl | decide) ?_
  refine v_aload_n 0 dX7_image_57 rfl rfl ?_
  refine v_get fl_X7_85 dX7_image_58 (up_n (by decide) (up_s _ _ _)) rfl ?_
  refine v_iconst (v := 0) dX7_image_61 (by first | rfl | decide) ?_
  refine v_bipush (v := 12) dX7_image_62 (by first | rfl | decide) ?_
  refine v_copyi cs_X7_140 dX7_image_64 (up_n (by decide) (up_n (by decide) (up_n (by decide) (up_n (by decide) h73)))) (up_n (by decide) (up_n (by decide) (up_n (by decide) (up_n (by decide) k84)))) rfl rfl (by decide) (by decide) (by decide) (by decide) (by decide) (fun i _ => rfl) (Nat.le_of_ble_eq_true rfl) ?_
  skip
  refine v_niI (cpy_eq _ _ _) ?_
  refine v_aload_n 0 dX7_image_67 rfl rfl ?_
  refine v_get fl_X7_55 dX7_image_68 (up_n (by decide) (up_n (by decide) (up_s _ _ _))) rfl ?_
  refine v_iconst (v := 0) dX7_image_71 (by first | rfl | decide) ?_
  refine v_aload_n 0 dX7_image_72 rfl rfl ?_
  refine v_get fl_X7_88 dX7_image_73 (up_n (by decide) (up_n (by decide) (up_s _ _ _))) rfl ?_
  refine v_iconst (v := 0) dX7_image_76 (by first | rfl | decide) ?_
  refine v_iconst (v := 3) dX7_image_77 (by first | rfl | decide) ?_
  refine v_copyi cs_X7_140 dX7_image_78 (up_n (by decide) (up_n (by decide) (up_n (by decide) (up_n (by decide) (up_n (by decide) h74))))) (up_n (by decide) (up_n (by decide) (up_n (by decide) (up_n (by decide) (up_n (by decide) k85))))) rfl rfl (by decide) (by decide) (by decide) (by decide) (by decide) (fun i _ => rfl) (Nat.le_of_ble_eq_true rfl) ?_
  skip
  refine v_niI (cpy_eq _ _ _) ?_
  refine v_aload_n 0 dX7_image_81 rfl rfl ?_
  refine v_iconst (v := 1) dX7_image_82 (by first | rfl | decide) ?_
  refine v_put fp_X7_383 dX7_image_83 (up_n (by decide) (up_n (by decide) (up_n (by decide) (up_s _ _ _)))) (Nat.le_of_ble_eq_true rfl) (by first | rfl | decide) (by first | rfl | decide) ?_
  refine v_aload_n 0 dX7_image_86 rfl rfl ?_
  refine v_get fl_X7_91 dX7_image_87 (up_s _ _ _) rfl ?_
  refine v_iret dX7_image_90 rfl (by first | rfl | decide | exact nar_b (by first | assumption | rfl)) ?_
  have hpc : Pl (sP σ) (va_cpy p g2 0 0 8) := fun j hj => by
    rw [cpy_eq _ _ _ j (by omega)]
    exact hpl j hj
  exact ⟨rfl, ⟨co, wh, un, lr, mr, hr, at9, fa, op, sg, (nI (sP σ).length), p, tt, ro, og, tc, op9, sp, nw, se, le, mo, ot, (by repeat (first | exact up_s _ _ _ | refine up_n (by omega) ?_)), (by repeat (first | assumption | exact up_s _ _ _ | refine up_n (by omega) ?_)), (by repeat (first | assumption | exact up_s _ _ _ | refine up_n (by omega) ?_)), (by repeat (first | assumption | exact up_s _ _ _ | refine up_n (by omega) ?_)), (by repeat (first | assumption | exact up_s _ _ _ | refine up_n (by omega) ?_)), (by repeat (first | assumption | exact up_s _ _ _ | refine up_n (by omega) ?_)), (by repeat (first | assumption | exact up_s _ _ _ | refine up_n (by omega) ?_)), (by repeat (first | assumption | exact up_s _ _ _ | refine up_n (by omega) ?_)), (by repeat (first | assumption | exact up_s _ _ _ | refine up_n (by omega) ?_)), (by repeat (first | assumption | exact up_s _ _ _ | refine up_n (by omega) ?_)), (by repeat (first | assumption | exact up_s _ _ _ | refine up_n (by omega) ?_)), (by repeat (first | assumption | exact up_s _ _ _ | refine up_n (by omega) ?_)), (by repeat (first | assumption | exact up_s _ _ _ | refine up_n (by omega) ?_)), (by repeat (first | assumption | exact up_s _ _ _ | refine up_n (by omega) ?_)), (by repeat (first | assumption | exact up_s _ _ _ | refine up_n (by omega) ?_)), (by repeat (first | assumption | exact up_s _ _ _ | refine up_n (by omega) ?_)), (by repeat (first | assumption | exact up_s _ _ _ | refine up_n (by omega) ?_)), (by repeat (first | assumption | exact up_s _ _ _ | refine up_n (by omega) ?_)), (by repeat (first | assumption | exact up_s _ _ _ | refine up_n (by omega) ?_)), (by repeat (first | assumption | exact up_s _ _ _ | refine up_n (by omega) ?_)), (by repeat (first | assumption | exact up_s _ _ _ | refine up_n (by omega) ?_)), ⟨lvO (sM σ), va_cpy p g2 0 0 8, rkF (sR σ), sK σ, sF σ, (by repeat (first | assumption | exact up_s _ _ _ | refine up_n (by omega) ?_)), (by repeat (first | assumption | exact up_s _ _ _ | refine up_n (by omega) ?_)), (by repeat (first | assumption | exact up_s _ _ _ | refine up_n (by omega) ?_)), (by repeat (first | assumption | exact up_s _ _ _ | refine up_n (by omega) ?_)), (by repeat (first | assumption | exact up_s _ _ _ | refine up_n (by omega) ?_)), fun b hb => by cases hb; exact ⟨rfl, hpc, rfl, rfl, rfl, rfl⟩⟩, hpl, htp, ht60⟩, fun i hi => by repeat (first | rfl | refine up_n (by omega) ?_)⟩

set_option maxRecDepth 20000 in
set_option maxHeartbeats 4000000 in
theorem c_X7_undo {G : Cx} (d : Nat) {μ : Hp} {σ : ST}  (h : Mo σ μ) (hw : Wp (sP σ)) (hk8 : ∀ b, sI σ = some b → b.2.1.length ≤ 8) : Ct G (d + 1) 0 0 M_X7_undo [.ref 60] μ (Pm ((rUndo σ).2) (.int ((rUndo σ).1)) μ) := by
  refine Ct.ofV (by decide +kernel) (Nat.le_of_ble_eq_true rfl) ?_
  refine v_ls (ls' := [(0, .ref 60)]) rfl ?_
  obtain ⟨co, wh, un, lr, mr, hr, at9, fa, op, sg, hm, p, tt, ro, og, tc, op9, sp, nw, se, le, mo, ot, h60, h61, h62, h63, h64, h65, h66, h67, h68, h69, h70, h71, h72, h73, h74, h75, h76, h77, h78, h79, h80, hmk, hpl, htp, ht60⟩ := id h
  have hl8 := hw.1
  obtain ⟨g1, g2, g4, g5, g3, k81, k82, k83, k84, k85, hkk⟩ := id hmk
  refine v_aload_n 0 dX7_undo_0 rfl rfl ?_
  refine v_get fl_X7_383 dX7_undo_1 h60 rfl ?_
  refine v_if_ne (tgt := 10) dX7_undo_4 (by decide) (fun hc4 => ?_) (fun hc4 => ?_)
  ·
    obtain ⟨b9, hi9⟩ : ∃ b, sI σ = some b := by
      cases hi8 : sI σ with
      | none => rw [hi8] at hc4; exact absurd rfl hc4
      | some b => exact ⟨b, rfl⟩
    obtain ⟨q1, q2, q3, q4, q5, q6⟩ := hkk b9 hi9
    have hE : rUndo σ = (nI b9.2.1.length, toB σ b9) := by
      unfold rUndo
      rw [hi9]
    rw [hE]
    refine v_aload_n 0 dX7_undo_10 rfl rfl ?_
    refine v_get fl_X7_76 dX7_undo_11 h60 rfl ?_
    refine v_iconst (v := 0) dX7_undo_14 (by first | rfl | decide) ?_
    refine v_aload_n 0 dX7_undo_15 rfl rfl ?_
    refine v_get fl_X7_11 dX7_undo_16 h60 rfl ?_
    refine v_iconst (v := 0) dX7_undo_19 (by first | rfl | decide) ?_
    refine v_iconst (v := 5) dX7_undo_20 (by first | rfl | decide) ?_
    refine v_copyl cs_X7_140 dX7_undo_21 k81 h61 rfl rfl (by decide) (by decide) (by decide) (by decide) (by decide) (fun i _ => rfl) (Nat.le_of_ble_eq_true rfl) ?_
    skip
    refine v_njJ (cpy_eq _ _ _) ?_
    refine v_aload_n 0 dX7_undo_24 rfl rfl ?_
    refine v_get fl_X7_79 dX7_undo_25 (up_n (by decide) h60) rfl ?_
    refine v_iconst (v := 0) dX7_undo_28 (by first | rfl | decide) ?_
    refine v_aload_n 0 dX7_undo_29 rfl rfl ?_
    refine v_get fl_X7_17 dX7_undo_30 (up_n (by decide) h60) rfl ?_
    refine v_iconst (v := 0) dX7_undo_33 (by first | rfl | decide) ?_
    refine v_bipush (v := 8) dX7_undo_34 (by first | rfl | decide) ?_
    refine v_copyi cs_X7_140 dX7_undo_36 (up_n (by decide) k82) (up_n (by decide) h62) rfl rfl (by decide) (by decide) (by decide) (by decide) (by decide) (fun i _ => rfl) (Nat.le_of_ble_eq_true rfl) ?_
    skip
    skip
    refine v_aload_n 0 dX7_undo_39 rfl rfl ?_
    refine v_aload_n 0 dX7_undo_40 rfl rfl ?_
    refine v_get fl_X7_380 dX7_undo_41 (up_n (by decide) (up_n (by decide) h60)) rfl ?_
    refine v_put fp_X7_91 dX7_undo_44 (up_n (by decide) (up_n (by decide) h60)) (Nat.le_of_ble_eq_true rfl) (by first | rfl | decide) (by first | rfl | decide) ?_
    refine v_aload_n 0 dX7_undo_47 rfl rfl ?_
    refine v_get fl_X7_82 dX7_undo_48 (up_s _ _ _) rfl ?_
    refine v_iconst (v := 0) dX7_undo_51 (by first | rfl | decide) ?_
    refine v_aload_n 0 dX7_undo_52 rfl rfl ?_
    refine v_get fl_X7_48 dX7_undo_53 (up_s _ _ _) rfl ?_
    refine v_iconst (v := 0) dX7_undo_56 (by first | rfl | decide) ?_
    refine v_bipush (v := 8) dX7_undo_57 (by first | rfl | decide) ?_
    refine v_copyf cs_X7_140 dX7_undo_59 (up_n (by decide) (up_n (by decide) (up_n (by decide) k83))) (up_n (by decide) (up_n (by decide) (up_n (by decide) h72))) rfl rfl (by decide) (by decide) (by decide) (by decide) (by decide) (fun i _ => rfl) (Nat.le_of_ble_eq_true rfl) ?_
    skip
    refine v_nfF (cpy_eq _ _ _) ?_
    refine v_aload_n 0 dX7_undo_62 rfl rfl ?_
    refine v_get fl_X7_85 dX7_undo_63 (up_n (by decide) (up_s _ _ _)) rfl ?_
    refine v_iconst (v := 0) dX7_undo_66 (by first | rfl | decide) ?_
    refine v_aload_n 0 dX7_undo_67 rfl rfl ?_
    refine v_get fl_X7_52 dX7_undo_68 (up_n (by decide) (up_s _ _ _)) rfl ?_
    refine v_iconst (v := 0) dX7_undo_71 (by first | rfl | decide) ?_
    refine v_bipush (v := 12) dX7_undo_72 (by first | rfl | decide) ?_
    refine v_copyi cs_X7_140 dX7_undo_74 (up_n (by decide) (up_n (by decide) (up_n (by decide) (up_n (by decide) k84)))) (up_n (by decide) (up_n (by decide) (up_n (by decide) (up_n (by decide) h73)))) rfl rfl (by decide) (by decide) (by decide) (by decide) (by decide) (fun i _ => rfl) (Nat.le_of_ble_eq_true rfl) ?_
    skip
    refine v_niI (cpy_eq _ _ _) ?_
    refine v_aload_n 0 dX7_undo_77 rfl rfl ?_
    refine v_get fl_X7_88 dX7_undo_78 (up_n (by decide) (up_n (by decide) (up_s _ _ _))) rfl ?_
    refine v_iconst (v := 0) dX7_undo_81 (by first | rfl | decide) ?_
    refine v_aload_n 0 dX7_undo_82 rfl rfl ?_
    refine v_get fl_X7_55 dX7_undo_83 (up_n (by decide) (up_n (by decide) (up_s _ _ _))) rfl ?_
    refine v_iconst (v := 0) dX7_undo_86 (by first | rfl | decide) ?_
    refine v_iconst (v := 3) dX7_undo_87 (by first | rfl | decide) ?_
    refine v_copyi cs_X7_140 dX7_undo_88 (up_n (by decide) (up_n (by decide) (up_n (by decide) (up_n (by decide) (up_n (by decide) k85))))) (up_n (by decide) (up_n (by decide) (up_n (by decide) (up_n (by decide) (up_n (by decide) h74))))) rfl rfl (by decide) (by decide) (by decide) (by decide) (by decide) (fun i _ => rfl) (Nat.le_of_ble_eq_true rfl) ?_
    skip
    refine v_niI (cpy_eq _ _ _) ?_
    refine v_aload_n 0 dX7_undo_91 rfl rfl ?_
    refine v_get fl_X7_91 dX7_undo_92 (up_n (by decide) (up_n (by decide) (up_n (by decide) (up_s _ _ _)))) rfl ?_
    refine v_iret dX7_undo_95 rfl (by first | rfl | decide | exact nar_b (by first | assumption | rfl)) ?_
    have hpc : Pl b9.2.1 (va_cpy g2 p 0 0 8) := fun j hj => by
      rw [cpy_eq _ _ _ j (by have := hk8 b9 hi9; omega)]
      exact q2 j hj
    subst q1 q3 q4 q5 q6
    exact ⟨rfl, ⟨co, wh, un, lr, mr, hr, at9, fa, op, sg, (nI b9.2.1.length), (va_cpy g2 p 0 0 8), tt, ro, og, tc, op9, sp, nw, se, le, mo, ot, (by repeat (first | exact up_s _ _ _ | refine up_n (by omega) ?_)), (by repeat (first | assumption | exact up_s _ _ _ | refine up_n (by omega) ?_)), (by repeat (first | assumption | exact up_s _ _ _ | refine up_n (by omega) ?_)), (by repeat (first | assumption | exact up_s _ _ _ | refine up_n (by omega) ?_)), (by repeat (first | assumption | exact up_s _ _ _ | refine up_n (by omega) ?_)), (by repeat (first | assumption | exact up_s _ _ _ | refine up_n (by omega) ?_)), (by repeat (first | assumption | exact up_s _ _ _ | refine up_n (by omega) ?_)), (by repeat (first | assumption | exact up_s _ _ _ | refine up_n (by omega) ?_)), (by repeat (first | assumption | exact up_s _ _ _ | refine up_n (by omega) ?_)), (by repeat (first | assumption | exact up_s _ _ _ | refine up_n (by omega) ?_)), (by repeat (first | assumption | exact up_s _ _ _ | refine up_n (by omega) ?_)), (by repeat (first | assumption | exact up_s _ _ _ | refine up_n (by omega) ?_)), (by repeat (first | assumption | exact up_s _ _ _ | refine up_n (by omega) ?_)), (by repeat (first | assumption | exact up_s _ _ _ | refine up_n (by omega) ?_)), (by repeat (first | assumption | exact up_s _ _ _ | refine up_n (by omega) ?_)), (by repeat (first | assumption | exact up_s _ _ _ | refine up_n (by omega) ?_)), (by repeat (first | assumption | exact up_s _ _ _ | refine up_n (by omega) ?_)), (by repeat (first | assumption | exact up_s _ _ _ | refine up_n (by omega) ?_)), (by repeat (first | assumption | exact up_s _ _ _ | refine up_n (by omega) ?_)), (by repeat (first | assumption | exact up_s _ _ _ | refine up_n (by omega) ?_)), (by repeat (first | assumption | exact up_s _ _ _ | refine up_n (by omega) ?_)), ⟨lvO b9.1, g2, rkF b9.2.2.2.1, b9.2.2.2.2, b9.2.2.1, (by repeat (first | assumption | exact up_s _ _ _ | refine up_n (by omega) ?_)), (by repeat (first | assumption | exact up_s _ _ _ | refine up_n (by omega) ?_)), (by repeat (first | assumption | exact up_s _ _ _ | refine up_n (by omega) ?_)), (by repeat (first | assumption | exact up_s _ _ _ | refine up_n (by omega) ?_)), (by repeat (first | assumption | exact up_s _ _ _ | refine up_n (by omega) ?_)), hkk⟩, hpc, htp, ht60⟩, fun i hi => by repeat (first | rfl | refine up_n (by omega) ?_)⟩
  ·
    refine v_bipush (v := -3) dX7_undo_7 (by first | rfl | decide) ?_
    refine v_iret dX7_undo_9 rfl (by first | rfl | decide | exact nar_b (by first | assumption | rfl)) ?_
    have hE : rUndo σ = (-3, σ) := by
      unfold rUndo
      cases hi9 : sI σ with
      | none => rfl
      | some b => rw [hi9] at hc4; exact absurd hc4 (show ¬ (1 : Int32) = 0 by decide)
    rw [hE]
    exact ⟨rfl, h, Fp.rf μ⟩

set_option maxRecDepth 20000 in
set_option maxHeartbeats 4000000 in
theorem cnt_loop {G : Cx} (d : Nat) {μ : Hp} {w : Int32} {f : Nat → UInt32} {m un lr mr hr le at9 fa op tr sg hm hi : Int32} {co wh : Int64} (h60 : μ 60 = some (modC m co wh un lr mr hr le at9 fa op tr sg hm hi)) (h72 : μ 72 = some (arF 8 f)) : ∀ (m : Nat) (j k : Nat), j + m = 8 → k = litO f j → V G M_X7_count (d + 1) 0 0 (Rt (some (.int (nI (litO f 8)))) μ) 63 [(3, .int (nI j)), (2, .int (nI k)), (0, .ref 60), (1, .int w)] [] (μ) := by
  intro m
  induction m with
  | zero =>
    intro j k hj hk
    refine v_iload_n 0 dX7_count_63 rfl rfl ?_
    refine v_bipush (v := 8) dX7_count_64 (by first | rfl | decide) ?_
    refine v_icmp_ge (tgt := 94) dX7_count_66 (by decide) (fun hc66 => ?_) (fun hc66 => ?_)
    ·
      refine v_iload_n 1 dX7_count_94 rfl rfl ?_
      refine v_iret dX7_count_95 rfl (by first | rfl | decide | exact nar_b (by first | assumption | rfl)) ?_
      exact ⟨by rw [hk, show j = 8 by omega], rfl⟩
    · exact absurd ((nI_leI (a := 8) (by decide) (by omega)).mpr (by omega)) hc66
  | succ m ih =>
    intro j k hj hk
    refine v_iload_n 0 dX7_count_63 rfl rfl ?_
    refine v_bipush (v := 8) dX7_count_64 (by first | rfl | decide) ?_
    refine v_icmp_ge (tgt := 94) dX7_count_66 (by decide) (fun hc66 => ?_) (fun hc66 => ?_)
    · have := (nI_leI (a := 8) (by decide) (by omega)).mp hc66
      omega
    ·
      refine v_iload_n 1 dX7_count_69 rfl rfl ?_
      refine v_aload_n 2 dX7_count_70 rfl rfl ?_
      refine v_get fl_X7_48 dX7_count_71 h60 rfl ?_
      refine v_iload_n 0 dX7_count_74 rfl rfl ?_
      refine v_fald dX7_count_75 h72 (nI_in' (by omega)) ?_
      refine v_fconst0 dX7_count_76 ?_
      refine v_fcmp dX7_count_77 ?_
      refine v_if_eq (tgt := 85) dX7_count_78 (by decide) (fun hc78 => ?_) (fun hc78 => ?_)
      ·
        refine v_iconst (v := 0) dX7_count_85 (by first | rfl | decide) ?_
        refine v_iadd dX7_count_86 ?_
        refine v_istore_n dX7_count_87 rfl (by decide) (fun y2 e_y2 => ?_)
        refine v_ls (ls' := [(2, .int y2), (3, .int (nI j)), (0, .ref 60), (1, .int w)]) rfl ?_
        refine v_iinc (v := 1) 1 dX7_count_88 rfl rfl (by decide) (fun z e_z => ?_)
        refine v_ls (ls' := [(3, .int z), (2, .int y2), (0, .ref 60), (1, .int w)]) rfl ?_
        rw [nI_1] at e_z
        subst e_z
        refine v_goto (tgt := 63) dX7_count_91 (by decide) ?_
        rw [clamp (by omega)] at hc78
        have hv : y2 = nI (litO f (j + 1)) := by
          rw [e_y2, hk]
          show _ = nI (litO f j + (if Op.cmpValue (FP.fcmp (f j) FP.fconst0) .l = 0 then 0 else 1))
          rw [if_pos hc78]; exact nI_add _ 0
        clear e_y2
        subst hv
        refine v_pick [0, 1, 2, 3] rfl ?_
        exact ih (j + 1) _ (by omega) rfl
        
      ·
        refine v_iconst (v := 1) dX7_count_81 (by first | rfl | decide) ?_
        refine v_goto (tgt := 86) dX7_count_82 (by decide) ?_
        refine v_iadd dX7_count_86 ?_
        refine v_istore_n dX7_count_87 rfl (by decide) (fun y2 e_y2 => ?_)
        refine v_ls (ls' := [(2, .int y2), (3, .int (nI j)), (0, .ref 60), (1, .int w)]) rfl ?_
        refine v_iinc (v := 1) 1 dX7_count_88 rfl rfl (by decide) (fun z e_z => ?_)
        refine v_ls (ls' := [(3, .int z), (2, .int y2), (0, .ref 60), (1, .int w)]) rfl ?_
        rw [nI_1] at e_z
        subst e_z
        refine v_goto (tgt := 63) dX7_count_91 (by decide) ?_
        rw [clamp (by omega)] at hc78
        have hv : y2 = nI (litO f (j + 1)) := by
          rw [e_y2, hk]
          show _ = nI (litO f j + (if Op.cmpValue (FP.fcmp (f j) FP.fconst0) .l = 0 then 0 else 1))
          rw [if_neg hc78]; exact nI_1 _
        clear e_y2
        subst hv
        refine v_pick [0, 1, 2, 3] rfl ?_
        exact ih (j + 1) _ (by omega) rfl
        

theorem hlr_12 (f : Nat → Nat → Int32) : nI (hlr (rkF f) 0 12) = nI (hldO (f 0) 4) + nI (hldO (f 1) 4) + nI (hldO (f 2) 4) := by
  have h1 := hlr_add (rkF f) 4 8 0
  have h2 := hlr_add (rkF f) 4 4 4
  have q0 := hlr_4 f 0
  have q1 := hlr_4 f 1
  have q2 := hlr_4 f 2
  rw [nI_add, nI_add, ← q0, ← q1, ← q2]
  congr 1
  rw [show (12 : Nat) = 4 + 8 from rfl, h1, show (0 : Nat) + 4 = 4 from rfl, show (8 : Nat) = 4 + 4 from rfl, h2]
  exact (Nat.add_assoc _ _ _).symm
set_option maxRecDepth 20000 in
set_option maxHeartbeats 4000000 in
theorem c_X7_count {G : Cx} (d : Nat) {μ : Hp} {σ : ST} {w : Int32} (h : Mo σ μ) (hw : Wp (sP σ)) : Ct G (d + 1) 0 0 M_X7_count [.ref 60, .int w] μ (Pm (σ) (.int (rCount σ w)) μ) := by
  refine Ct.ofV (by decide +kernel) (Nat.le_of_ble_eq_true rfl) ?_
  refine v_ls (ls' := [(0, .ref 60), (1, .int w)]) rfl ?_
  obtain ⟨co, wh, un, lr, mr, hr, at9, fa, op, sg, hm, p, tt, ro, og, tc, op9, sp, nw, se, le, mo, ot, h60, h61, h62, h63, h64, h65, h66, h67, h68, h69, h70, h71, h72, h73, h74, h75, h76, h77, h78, h79, h80, hmk, hpl, htp, ht60⟩ := id h
  have hl8 := hw.1
  refine v_iload_n 1 dX7_count_0 rfl rfl ?_
  by_cases cl1 : (w).toInt < 0
  · refine v_tableOut (tgt := 96) dX7_count_1 (Or.inl cl1) (by decide) ?_
    have cs1_0 : ¬ w = 0 := sw_lo cl1 (by decide)
    have cs1_1 : ¬ w = 1 := sw_lo cl1 (by decide)
    have cs1_2 : ¬ w = 2 := sw_lo cl1 (by decide)
    have cs1_3 : ¬ w = 3 := sw_lo cl1 (by decide)
    have cs1_4 : ¬ w = 4 := sw_lo cl1 (by decide)
    refine v_iconst (v := -1) dX7_count_96 (by first | rfl | decide) ?_
    refine v_iret dX7_count_97 rfl (by first | rfl | decide | exact nar_b (by first | assumption | rfl)) ?_
    have hE : rCount σ w = -1 := by simp only [rCount, if_neg cs1_0, if_neg cs1_1, if_neg cs1_2, if_neg cs1_3, if_neg cs1_4]
    rw [hE]
    exact ⟨rfl, h, Fp.rf μ⟩
  by_cases ch1 : 4 < (w).toInt
  · refine v_tableOut (tgt := 96) dX7_count_1 (Or.inr ch1) (by decide) ?_
    have cs1_0 : ¬ w = 0 := sw_hi ch1 (by decide)
    have cs1_1 : ¬ w = 1 := sw_hi ch1 (by decide)
    have cs1_2 : ¬ w = 2 := sw_hi ch1 (by decide)
    have cs1_3 : ¬ w = 3 := sw_hi ch1 (by decide)
    have cs1_4 : ¬ w = 4 := sw_hi ch1 (by decide)
    refine v_iconst (v := -1) dX7_count_96 (by first | rfl | decide) ?_
    refine v_iret dX7_count_97 rfl (by first | rfl | decide | exact nar_b (by first | assumption | rfl)) ?_
    have hE : rCount σ w = -1 := by simp only [rCount, if_neg cs1_0, if_neg cs1_1, if_neg cs1_2, if_neg cs1_3, if_neg cs1_4]
    rw [hE]
    exact ⟨rfl, h, Fp.rf μ⟩
  by_cases cs1_0 : w = 0
  · refine v_tableIn (off := 35) (tgt := 36) dX7_count_1 cl1 ch1 (by rw [cs1_0]; rfl) (by decide) ?_
    refine v_aload_n 0 dX7_count_36 rfl rfl ?_
    refine v_get fl_X7_91 dX7_count_37 h60 rfl ?_
    refine v_iret dX7_count_40 rfl (by first | rfl | decide | exact nar_b (by first | assumption | rfl)) ?_
    have hE : rCount σ w = nI (sP σ).length := by simp only [rCount, if_pos cs1_0]
    rw [hE]
    exact ⟨rfl, h, Fp.rf μ⟩
  by_cases cs1_1 : w = 1
  · refine v_tableIn (off := 40) (tgt := 41) dX7_count_1 cl1 ch1 (by rw [cs1_1]; rfl) (by decide) ?_
    refine v_aload_n 0 dX7_count_41 rfl rfl ?_
    refine v_get fl_X7_328 dX7_count_42 h60 rfl ?_
    refine v_iret dX7_count_45 rfl (by first | rfl | decide | exact nar_b (by first | assumption | rfl)) ?_
    have hE : rCount σ w = nI (sT σ).length := by simp only [rCount, if_neg cs1_0, if_pos cs1_1]
    rw [hE]
    exact ⟨rfl, h, Fp.rf μ⟩
  by_cases cs1_2 : w = 2
  · refine v_tableIn (off := 45) (tgt := 46) dX7_count_1 cl1 ch1 (by rw [cs1_2]; rfl) (by decide) ?_
    refine v_aload_n 0 dX7_count_46 rfl rfl ?_
    refine v_get fl_X7_217 dX7_count_47 h60 rfl ?_
    refine v_iret dX7_count_50 rfl (by first | rfl | decide | exact nar_b (by first | assumption | rfl)) ?_
    have hE : rCount σ w = nI (sW σ).1 := by simp only [rCount, if_neg cs1_0, if_neg cs1_1, if_pos cs1_2]
    rw [hE]
    exact ⟨rfl, h, Fp.rf μ⟩
  by_cases cs1_3 : w = 3
  · refine v_tableIn (off := 50) (tgt := 51) dX7_count_1 cl1 ch1 (by rw [cs1_3]; rfl) (by decide) ?_
    refine v_aload_n 0 dX7_count_51 rfl rfl ?_
    refine v_iconst (v := 0) dX7_count_52 (by first | rfl | decide) ?_
    refine v_bipush (v := 12) dX7_count_53 (by first | rfl | decide) ?_
    refine v_callV (c_X7_heldIn d (a := 0) (b := 12) h60 h73 (by decide) (by decide)) cs_X7_323 dX7_count_55 h60 rfl rfl (Nat.le_of_ble_eq_true rfl) ?_
    refine rt_k ?_
    refine v_iret dX7_count_58 rfl (by first | rfl | decide | exact nar_b (by first | assumption | rfl)) ?_
    have hE : rCount σ w = nI (hldO (sR σ 0) 4) + nI (hldO (sR σ 1) 4) + nI (hldO (sR σ 2) 4) := by simp only [rCount, if_neg cs1_0, if_neg cs1_1, if_neg cs1_2, if_pos cs1_3]
    rw [hE]
    exact ⟨by rw [← hlr_12], h, Fp.rf μ⟩
  by_cases cs1_4 : w = 4
  · refine v_tableIn (off := 58) (tgt := 59) dX7_count_1 cl1 ch1 (by rw [cs1_4]; rfl) (by decide) ?_
    refine v_iconst (v := 0) dX7_count_59 (by first | rfl | decide) ?_
    refine v_istore_n dX7_count_60 rfl (by decide) (fun x2_1 e_x2_1 => ?_)
    refine v_ls (ls' := [(2, .int x2_1), (0, .ref 60), (1, .int w)]) rfl ?_
    subst e_x2_1
    refine v_iconst (v := 0) dX7_count_61 (by first | rfl | decide) ?_
    refine v_istore_n dX7_count_62 rfl (by decide) (fun x3 e_x3 => ?_)
    refine v_ls (ls' := [(3, .int x3), (2, .int (0)), (0, .ref 60), (1, .int w)]) rfl ?_
    subst e_x3
    have hE : rCount σ w = nI (litO (sF σ) 8) := by simp only [rCount, if_neg cs1_0, if_neg cs1_1, if_neg cs1_2, if_neg cs1_3, if_pos cs1_4]
    rw [hE]
    refine v_post (cnt_loop d h60 h72 8 0 0 (by omega) rfl) ?_
    rintro _ m2 ⟨rfl, e2⟩
    rw [e2]
    exact ⟨rfl, h, Fp.rf μ⟩
    
  exfalso
  have q1_0 := lv_neT (a := 0) cs1_0 (by decide)
  have q1_1 := lv_neT (a := 1) cs1_1 (by decide)
  have q1_2 := lv_neT (a := 2) cs1_2 (by decide)
  have q1_3 := lv_neT (a := 3) cs1_3 (by decide)
  have q1_4 := lv_neT (a := 4) cs1_4 (by decide)
  omega

