set_option maxRecDepth 20000 in
set_option maxHeartbeats 4000000 in
theorem racked_loop {G : Cx} (d : Nat) {μ : Hp} {n : Int32} {rk : Nat} {f : Nat → Int32} (h1 : μ 1 = some (benC 2 3 n 4 5 9)) (h5 : μ 5 = some (arR 4 3 (rowF 6 3))) (hr : μ (6 + rk) = some (arI 4 f)) (hk : rk < 3) : ∀ (m : Nat) (j k : Nat), j + m = 4 → k = hldO f j → V G M_X0_racked (d + 0) 0 0 (Rt (some (.int (nI (hldO f 4)))) μ) 4 [(3, .int (nI j)), (2, .int (nI k)), (0, .ref 1), (1, .int (nI rk))] [] (μ) := by
  intro m
  induction m with
  | zero =>
    intro j k hj hq
    refine v_iload_n 0 dX0_racked_4 rfl rfl ?_
    refine v_iconst (v := 4) dX0_racked_5 (by first | rfl | decide) ?_
    refine v_icmp_ge (tgt := 30) dX0_racked_6 (by decide) (fun c6 => ?_) (fun c6 => ?_)
    ·
      refine v_iload_n 1 dX0_racked_30 rfl rfl ?_
      refine v_iret dX0_racked_31 rfl (by first | rfl | decide | exact nar_b (by first | assumption | rfl)) ?_
      exact ⟨by rw [hq, show j = 4 by omega], rfl⟩
    · exact absurd ((nI_leI (a := 4) (by decide) (by omega)).mpr (by omega)) c6
  | succ m ih =>
    intro j k hj hq
    refine v_iload_n 0 dX0_racked_4 rfl rfl ?_
    refine v_iconst (v := 4) dX0_racked_5 (by first | rfl | decide) ?_
    refine v_icmp_ge (tgt := 30) dX0_racked_6 (by decide) (fun c6 => ?_) (fun c6 => ?_)
    · have := (nI_leI (a := 4) (by decide) (by omega)).mp c6
      omega
    ·
      refine v_aload_n 2 dX0_racked_9 rfl rfl ?_
      refine v_get fl_X0_28 dX0_racked_10 h1 rfl ?_
      refine v_iload_n 3 dX0_racked_13 rfl rfl ?_
      refine v_aald dX0_racked_14 h5 rfl rfl (nI_in' hk) (by rw [clamp (by omega)]; exact if_pos hk) ?_
      refine v_iload_n 0 dX0_racked_15 rfl rfl ?_
      refine v_iald dX0_racked_16 hr (nI_in' (by omega)) ?_
      refine v_iconst (v := -1) dX0_racked_17 (by first | rfl | decide) ?_
      refine v_icmp_eq (tgt := 24) dX0_racked_18 (by decide) (fun c18 => ?_) (fun c18 => ?_)
      ·
        refine v_iinc (v := 1) 0 dX0_racked_24 rfl rfl (by decide) (fun z e_z => ?_)
        refine v_ls (ls' := [(3, .int z), (2, .int (nI k)), (0, .ref 1), (1, .int (nI rk))]) rfl ?_
        rw [nI_1] at e_z
        subst e_z
        refine v_goto (tgt := 4) dX0_racked_27 (by decide) ?_
        rw [clamp (by omega)] at c18
        first
          | (have h0 : hldO f (j + 1) = hldO f j + 1 := by show hldO f j + _ = _; rw [if_neg c18]
             refine v_pick [0, 1, 2, 3] rfl ?_
             exact ih (j + 1) _ (by omega) (by rw [h0, hq]))
          | (have h0 : hldO f (j + 1) = hldO f j := by show hldO f j + _ = _; rw [if_pos c18]; rfl
             refine v_pick [0, 1, 2, 3] rfl ?_
             exact ih (j + 1) _ (by omega) (by rw [h0, hq]))
        
      ·
        refine v_iinc (v := 1) 1 dX0_racked_21 rfl rfl (by decide) (fun w e_w => ?_)
        refine v_ls (ls' := [(2, .int w), (3, .int (nI j)), (0, .ref 1), (1, .int (nI rk))]) rfl ?_
        rw [nI_1] at e_w
        subst e_w
        refine v_iinc (v := 1) 1 dX0_racked_24 rfl rfl (by decide) (fun z e_z => ?_)
        refine v_ls (ls' := [(3, .int z), (2, _), (0, .ref 1), (1, .int (nI rk))]) rfl ?_
        rw [nI_1] at e_z
        subst e_z
        refine v_goto (tgt := 4) dX0_racked_27 (by decide) ?_
        rw [clamp (by omega)] at c18
        first
          | (have h0 : hldO f (j + 1) = hldO f j + 1 := by show hldO f j + _ = _; rw [if_neg c18]
             refine v_pick [0, 1, 2, 3] rfl ?_
             exact ih (j + 1) _ (by omega) (by rw [h0, hq]))
          | (have h0 : hldO f (j + 1) = hldO f j := by show hldO f j + _ = _; rw [if_pos c18]; rfl
             refine v_pick [0, 1, 2, 3] rfl ?_
             exact ih (j + 1) _ (by omega) (by rw [h0, hq]))
        

set_option maxRecDepth 20000 in
set_option maxHeartbeats 4000000 in
theorem c_X0_racked {G : Cx} (d : Nat) {μ : Hp} {n : Int32} {rk : Nat} {f : Nat → Int32} (h1 : μ 1 = some (benC 2 3 n 4 5 9)) (h5 : μ 5 = some (arR 4 3 (rowF 6 3))) (hr : μ (6 + rk) = some (arI 4 f)) (hk : rk < 3) : Ct G (d) 0 0 M_X0_racked [.ref 1, .int (nI rk)] μ (Rt (some (.int (nI (hldO f 4)))) μ) := by
  refine Ct.ofV (by decide +kernel) (Nat.le_of_ble_eq_true rfl) ?_
  refine v_ls (ls' := [(0, .ref 1), (1, .int (nI rk))]) rfl ?_
  refine v_iconst (v := 0) dX0_racked_0 (by first | rfl | decide) ?_
  refine v_istore_n dX0_racked_1 rfl (by decide) (fun x2 e_x2 => ?_)
  refine v_ls (ls' := [(2, .int x2), (0, .ref 1), (1, .int (nI rk))]) rfl ?_
  subst e_x2
  refine v_iconst (v := 0) dX0_racked_2 (by first | rfl | decide) ?_
  refine v_istore_n dX0_racked_3 rfl (by decide) (fun x3 e_x3 => ?_)
  refine v_ls (ls' := [(3, .int x3), (2, _), (0, .ref 1), (1, .int (nI rk))]) rfl ?_
  subst e_x3
  exact racked_loop d h1 h5 hr hk 4 0 0 (by omega) rfl
  

set_option maxRecDepth 20000 in
set_option maxHeartbeats 4000000 in
theorem lit_loop {G : Cx} (d : Nat) {μ : Hp} {n : Int32} {f : Nat → UInt32} (h1 : μ 1 = some (benC 2 3 n 4 5 9)) (h4 : μ 4 = some (arF 8 f)) : ∀ (m : Nat) (j k : Nat), j + m = 8 → k = litO f j → V G M_X0_litCells (d + 0) 0 0 (Rt (some (.int (nI (litO f 8)))) μ) 4 [(2, .int (nI j)), (1, .int (nI k)), (0, .ref 1)] [] (μ) := by
  intro m
  induction m with
  | zero =>
    intro j k hj hq
    refine v_iload_n 0 dX0_litCells_4 rfl rfl ?_
    refine v_bipush (v := 8) dX0_litCells_5 (by first | rfl | decide) ?_
    refine v_icmp_ge (tgt := 30) dX0_litCells_7 (by decide) (fun c7 => ?_) (fun c7 => ?_)
    ·
      refine v_iload_n 1 dX0_litCells_30 rfl rfl ?_
      refine v_iret dX0_litCells_31 rfl (by first | rfl | decide | exact nar_b (by first | assumption | rfl)) ?_
      exact ⟨by rw [hq, show j = 8 by omega], rfl⟩
    · exact absurd ((nI_leI (a := 8) (by decide) (by omega)).mpr (by omega)) c7
  | succ m ih =>
    intro j k hj hq
    refine v_iload_n 0 dX0_litCells_4 rfl rfl ?_
    refine v_bipush (v := 8) dX0_litCells_5 (by first | rfl | decide) ?_
    refine v_icmp_ge (tgt := 30) dX0_litCells_7 (by decide) (fun c7 => ?_) (fun c7 => ?_)
    · have := (nI_leI (a := 8) (by decide) (by omega)).mp c7
      omega
    ·
      refine v_aload_n 2 dX0_litCells_10 rfl rfl ?_
      refine v_get fl_X0_22 dX0_litCells_11 h1 rfl ?_
      refine v_iload_n 0 dX0_litCells_14 rfl rfl ?_
      refine v_fald dX0_litCells_15 h4 (nI_in' (by omega)) ?_
      refine v_fconst0 dX0_litCells_16 ?_
      refine v_fcmp dX0_litCells_17 ?_
      refine v_if_eq (tgt := 24) dX0_litCells_18 (by decide) (fun c18 => ?_) (fun c18 => ?_)
      ·
        refine v_iinc (v := 1) 0 dX0_litCells_24 rfl rfl (by decide) (fun z e_z => ?_)
        refine v_ls (ls' := [(2, .int z), (1, .int (nI k)), (0, .ref 1)]) rfl ?_
        rw [nI_1] at e_z
        subst e_z
        refine v_goto (tgt := 4) dX0_litCells_27 (by decide) ?_
        rw [clamp (by omega)] at c18
        first
          | (have h0 : litO f (j + 1) = litO f j + 1 := by show litO f j + _ = _; rw [if_neg c18]
             refine v_pick [0, 1, 2] rfl ?_
             exact ih (j + 1) _ (by omega) (by rw [h0, hq]))
          | (have h0 : litO f (j + 1) = litO f j := by show litO f j + _ = _; rw [if_pos c18]; rfl
             refine v_pick [0, 1, 2] rfl ?_
             exact ih (j + 1) _ (by omega) (by rw [h0, hq]))
        
      ·
        refine v_iinc (v := 1) 1 dX0_litCells_21 rfl rfl (by decide) (fun w e_w => ?_)
        refine v_ls (ls' := [(1, .int w), (2, .int (nI j)), (0, .ref 1)]) rfl ?_
        rw [nI_1] at e_w
        subst e_w
        refine v_iinc (v := 1) 1 dX0_litCells_24 rfl rfl (by decide) (fun z e_z => ?_)
        refine v_ls (ls' := [(2, .int z), (1, _), (0, .ref 1)]) rfl ?_
        rw [nI_1] at e_z
        subst e_z
        refine v_goto (tgt := 4) dX0_litCells_27 (by decide) ?_
        rw [clamp (by omega)] at c18
        first
          | (have h0 : litO f (j + 1) = litO f j + 1 := by show litO f j + _ = _; rw [if_neg c18]
             refine v_pick [0, 1, 2] rfl ?_
             exact ih (j + 1) _ (by omega) (by rw [h0, hq]))
          | (have h0 : litO f (j + 1) = litO f j := by show litO f j + _ = _; rw [if_pos c18]; rfl
             refine v_pick [0, 1, 2] rfl ?_
             exact ih (j + 1) _ (by omega) (by rw [h0, hq]))
        

set_option maxRecDepth 20000 in
set_option maxHeartbeats 4000000 in
theorem c_X0_litCells {G : Cx} (d : Nat) {μ : Hp} {n : Int32} {f : Nat → UInt32} (h1 : μ 1 = some (benC 2 3 n 4 5 9)) (h4 : μ 4 = some (arF 8 f)) : Ct G (d) 0 0 M_X0_litCells [.ref 1] μ (Rt (some (.int (nI (litO f 8)))) μ) := by
  refine Ct.ofV (by decide +kernel) (Nat.le_of_ble_eq_true rfl) ?_
  refine v_ls (ls' := [(0, .ref 1)]) rfl ?_
  refine v_iconst (v := 0) dX0_litCells_0 (by first | rfl | decide) ?_
  refine v_istore_n dX0_litCells_1 rfl (by decide) (fun x1 e_x1 => ?_)
  refine v_ls (ls' := [(1, .int x1), (0, .ref 1)]) rfl ?_
  subst e_x1
  refine v_iconst (v := 0) dX0_litCells_2 (by first | rfl | decide) ?_
  refine v_istore_n dX0_litCells_3 rfl (by decide) (fun x2 e_x2 => ?_)
  refine v_ls (ls' := [(2, .int x2), (1, _), (0, .ref 1)]) rfl ?_
  subst e_x2
  exact lit_loop d h1 h4 8 0 0 (by omega) rfl
  

set_option maxRecDepth 20000 in
set_option maxHeartbeats 4000000 in
theorem c_X0_takeFrom_11_1 {G : Cx} (d : Nat) {μ : Hp} {na nb : Int32} {La Lb : LT} {pa pb ta tb ra0 ra1 ra2 rb0 rb1 rb2 : Nat → Int32} {fa fb : Nat → UInt32} (h11 : μ 11 = some (benC 12 13 na 14 15 19)) (h12 : μ 12 = some (ligL La)) (h13 : μ 13 = some (arI 8 pa)) (h14 : μ 14 = some (arF 8 fa)) (h15 : μ 15 = some (arR 4 3 (rowF 16 3))) (h16 : μ 16 = some (arI 4 ra0)) (h17 : μ 17 = some (arI 4 ra1)) (h18 : μ 18 = some (arI 4 ra2)) (h19 : μ 19 = some (arI 3 ta)) (h1 : μ 1 = some (benC 2 3 nb 4 5 9)) (h2 : μ 2 = some (ligL Lb)) (h3 : μ 3 = some (arI 8 pb)) (h4 : μ 4 = some (arF 8 fb)) (h5 : μ 5 = some (arR 4 3 (rowF 6 3))) (h6 : μ 6 = some (arI 4 rb0)) (h7 : μ 7 = some (arI 4 rb1)) (h8 : μ 8 = some (arI 4 rb2)) (h9 : μ 9 = some (arI 3 tb)) : Ct G (d + 2) 0 0 M_X0_takeFrom [.ref 11, .ref 1] μ (Rt none (up (up (up (up (up (up (up (up μ 12 (ligL Lb)) 11 (benC 12 13 nb 14 15 19)) 13 (arI 8 (va_cpy pb pa 0 0 8))) 14 (arF 8 (va_cpy fb fa 0 0 8))) 19 (arI 3 (va_cpy tb ta 0 0 3))) 16 (arI 4 (va_cpy rb0 ra0 0 0 4))) 17 (arI 4 (va_cpy rb1 ra1 0 0 4))) 18 (arI 4 (va_cpy rb2 ra2 0 0 4)))) := by
  refine Ct.ofV (by decide +kernel) (Nat.le_of_ble_eq_true rfl) ?_
  refine v_ls (ls' := [(0, .ref 11), (1, .ref 1)]) rfl ?_
  refine v_aload_n 0 dX0_takeFrom_0 rfl rfl ?_
  refine v_get fl_X0_12 dX0_takeFrom_1 h11 rfl ?_
  refine v_aload_n 1 dX0_takeFrom_4 rfl rfl ?_
  refine v_get fl_X0_12 dX0_takeFrom_5 h1 rfl ?_
  refine v_callV (c_X1_takeFrom d h12 h2) cs_X0_40 dX0_takeFrom_8 h12 rfl rfl (Nat.le_of_ble_eq_true rfl) ?_
  refine rt_k ?_
  refine v_aload_n 0 dX0_takeFrom_11 rfl rfl ?_
  refine v_aload_n 1 dX0_takeFrom_12 rfl rfl ?_
  refine v_get fl_X0_44 dX0_takeFrom_13 (up_n (by decide) h1) rfl ?_
  refine v_put fp_X0_44 dX0_takeFrom_16 (up_n (by decide) h11) (Nat.le_of_ble_eq_true rfl) (by first | rfl | decide) (by first | rfl | decide) ?_
  refine v_aload_n 1 dX0_takeFrom_19 rfl rfl ?_
  refine v_get fl_X0_18 dX0_takeFrom_20 (up_n (by decide) (up_n (by decide) h1)) rfl ?_
  refine v_iconst (v := 0) dX0_takeFrom_23 (by first | rfl | decide) ?_
  refine v_aload_n 0 dX0_takeFrom_24 rfl rfl ?_
  refine v_get fl_X0_18 dX0_takeFrom_25 (up_s _ _ _) rfl ?_
  refine v_iconst (v := 0) dX0_takeFrom_28 (by first | rfl | decide) ?_
  refine v_bipush (v := 8) dX0_takeFrom_29 (by first | rfl | decide) ?_
  refine v_copyi cs_X0_48 dX0_takeFrom_31 (up_n (by decide) (up_n (by decide) h3)) (up_n (by decide) (up_n (by decide) h13)) rfl rfl (by decide) (by decide) (by decide) (by decide) (by decide) (fun i _ => rfl) (Nat.le_of_ble_eq_true rfl) ?_
  skip
  refine v_aload_n 1 dX0_takeFrom_34 rfl rfl ?_
  refine v_get fl_X0_22 dX0_takeFrom_35 (up_n (by decide) (up_n (by decide) (up_n (by decide) h1))) rfl ?_
  refine v_iconst (v := 0) dX0_takeFrom_38 (by first | rfl | decide) ?_
  refine v_aload_n 0 dX0_takeFrom_39 rfl rfl ?_
  refine v_get fl_X0_22 dX0_takeFrom_40 (up_n (by decide) (up_s _ _ _)) rfl ?_
  refine v_iconst (v := 0) dX0_takeFrom_43 (by first | rfl | decide) ?_
  refine v_bipush (v := 8) dX0_takeFrom_44 (by first | rfl | decide) ?_
  refine v_copyf cs_X0_48 dX0_takeFrom_46 (up_n (by decide) (up_n (by decide) (up_n (by decide) h4))) (up_n (by decide) (up_n (by decide) (up_n (by decide) h14))) rfl rfl (by decide) (by decide) (by decide) (by decide) (by decide) (fun i _ => rfl) (Nat.le_of_ble_eq_true rfl) ?_
  skip
  refine v_aload_n 1 dX0_takeFrom_49 rfl rfl ?_
  refine v_get fl_X0_31 dX0_takeFrom_50 (up_n (by decide) (up_n (by decide) (up_n (by decide) (up_n (by decide) h1)))) rfl ?_
  refine v_iconst (v := 0) dX0_takeFrom_53 (by first | rfl | decide) ?_
  refine v_aload_n 0 dX0_takeFrom_54 rfl rfl ?_
  refine v_get fl_X0_31 dX0_takeFrom_55 (up_n (by decide) (up_n (by decide) (up_s _ _ _))) rfl ?_
  refine v_iconst (v := 0) dX0_takeFrom_58 (by first | rfl | decide) ?_
  refine v_iconst (v := 3) dX0_takeFrom_59 (by first | rfl | decide) ?_
  refine v_copyi cs_X0_48 dX0_takeFrom_60 (up_n (by decide) (up_n (by decide) (up_n (by decide) (up_n (by decide) h9)))) (up_n (by decide) (up_n (by decide) (up_n (by decide) (up_n (by decide) h19)))) rfl rfl (by decide) (by decide) (by decide) (by decide) (by decide) (fun i _ => rfl) (Nat.le_of_ble_eq_true rfl) ?_
  skip
  refine v_iconst (v := 0) dX0_takeFrom_63 (by first | rfl | decide) ?_
  refine v_istore_n dX0_takeFrom_64 rfl (by decide) (fun x2 e_x2 => ?_)
  refine v_ls (ls' := [(2, .int x2), (0, .ref 11), (1, .ref 1)]) rfl ?_
  subst e_x2
  refine v_iload_n 0 dX0_takeFrom_65 rfl rfl ?_
  refine v_iconst (v := 3) dX0_takeFrom_66 (by first | rfl | decide) ?_
  refine v_icmp_ge (tgt := 94) dX0_takeFrom_67 (by decide) (fun c67 => ?_) (fun c67 => ?_)
  · exact absurd c67 (by decide)
  ·
    refine v_aload_n 2 dX0_takeFrom_70 rfl rfl ?_
    refine v_get fl_X0_28 dX0_takeFrom_71 (up_n (by decide) (up_n (by decide) (up_n (by decide) (up_n (by decide) (up_n (by decide) h1))))) rfl ?_
    refine v_iload_n 0 dX0_takeFrom_74 rfl rfl ?_
    refine v_aald dX0_takeFrom_75 (up_n (by decide) (up_n (by decide) (up_n (by decide) (up_n (by decide) (up_n (by decide) h5))))) rfl rfl (nI_in' (k := 0) (by decide)) (rfl) ?_
    refine v_iconst (v := 0) dX0_takeFrom_76 (by first | rfl | decide) ?_
    refine v_aload_n 1 dX0_takeFrom_77 rfl rfl ?_
    refine v_get fl_X0_28 dX0_takeFrom_78 (up_n (by decide) (up_n (by decide) (up_n (by decide) (up_s _ _ _)))) rfl ?_
    refine v_iload_n 0 dX0_takeFrom_81 rfl rfl ?_
    refine v_aald dX0_takeFrom_82 (up_n (by decide) (up_n (by decide) (up_n (by decide) (up_n (by decide) (up_n (by decide) h15))))) rfl rfl (nI_in' (k := 0) (by decide)) (rfl) ?_
    refine v_iconst (v := 0) dX0_takeFrom_83 (by first | rfl | decide) ?_
    refine v_iconst (v := 4) dX0_takeFrom_84 (by first | rfl | decide) ?_
    refine v_copyi cs_X0_48 dX0_takeFrom_85 (up_n (by decide) (up_n (by decide) (up_n (by decide) (up_n (by decide) (up_n (by decide) h6))))) (up_n (by decide) (up_n (by decide) (up_n (by decide) (up_n (by decide) (up_n (by decide) h16))))) rfl rfl (by decide) (by decide) (by decide) (by decide) (by decide) (fun i _ => rfl) (Nat.le_of_ble_eq_true rfl) ?_
    skip
    refine v_iinc (v := 1) 0 dX0_takeFrom_88 rfl rfl (by decide) (fun z_ ez_ => ?_)
    obtain rfl : z_ = 1 := by rw [ez_]; decide
    refine v_ls (ls' := [(2, .int (1)), (0, .ref 11), (1, .ref 1)]) rfl ?_
    refine v_goto (tgt := 65) dX0_takeFrom_91 (by decide) ?_
    refine v_iload_n 0 dX0_takeFrom_65 rfl rfl ?_
    refine v_iconst (v := 3) dX0_takeFrom_66 (by first | rfl | decide) ?_
    refine v_icmp_ge (tgt := 94) dX0_takeFrom_67 (by decide) (fun c67 => ?_) (fun c67 => ?_)
    · exact absurd c67 (by decide)
    ·
      refine v_aload_n 2 dX0_takeFrom_70 rfl rfl ?_
      refine v_get fl_X0_28 dX0_takeFrom_71 (up_n (by decide) (up_n (by decide) (up_n (by decide) (up_n (by decide) (up_n (by decide) (up_n (by decide) h1)))))) rfl ?_
      refine v_iload_n 0 dX0_takeFrom_74 rfl rfl ?_
      refine v_aald dX0_takeFrom_75 (up_n (by decide) (up_n (by decide) (up_n (by decide) (up_n (by decide) (up_n (by decide) (up_n (by decide) h5)))))) rfl rfl (nI_in' (k := 1) (by decide)) (rfl) ?_
      refine v_iconst (v := 0) dX0_takeFrom_76 (by first | rfl | decide) ?_
      refine v_aload_n 1 dX0_takeFrom_77 rfl rfl ?_
      refine v_get fl_X0_28 dX0_takeFrom_78 (up_n (by decide) (up_n (by decide) (up_n (by decide) (up_n (by decide) (up_s _ _ _))))) rfl ?_
      refine v_iload_n 0 dX0_takeFrom_81 rfl rfl ?_
      refine v_aald dX0_takeFrom_82 (up_n (by decide) (up_n (by decide) (up_n (by decide) (up_n (by decide) (up_n (by decide) (up_n (by decide) h15)))))) rfl rfl (nI_in' (k := 1) (by decide)) (rfl) ?_
      refine v_iconst (v := 0) dX0_takeFrom_83 (by first | rfl | decide) ?_
      refine v_iconst (v := 4) dX0_takeFrom_84 (by first | rfl | decide) ?_
      refine v_copyi cs_X0_48 dX0_takeFrom_85 (up_n (by decide) (up_n (by decide) (up_n (by decide) (up_n (by decide) (up_n (by decide) (up_n (by decide) h7)))))) (up_n (by decide) (up_n (by decide) (up_n (by decide) (up_n (by decide) (up_n (by decide) (up_n (by decide) h17)))))) rfl rfl (by decide) (by decide) (by decide) (by decide) (by decide) (fun i _ => rfl) (Nat.le_of_ble_eq_true rfl) ?_
      skip
      refine v_iinc (v := 1) 0 dX0_takeFrom_88 rfl rfl (by decide) (fun z_ ez_ => ?_)
      obtain rfl : z_ = 2 := by rw [ez_]; decide
      refine v_ls (ls' := [(2, .int (2)), (0, .ref 11), (1, .ref 1)]) rfl ?_
      refine v_goto (tgt := 65) dX0_takeFrom_91 (by decide) ?_
      refine v_iload_n 0 dX0_takeFrom_65 rfl rfl ?_
      refine v_iconst (v := 3) dX0_takeFrom_66 (by first | rfl | decide) ?_
      refine v_icmp_ge (tgt := 94) dX0_takeFrom_67 (by decide) (fun c67 => ?_) (fun c67 => ?_)
      · exact absurd c67 (by decide)
      ·
        refine v_aload_n 2 dX0_takeFrom_70 rfl rfl ?_
        refine v_get fl_X0_28 dX0_takeFrom_71 (up_n (by decide) (up_n (by decide) (up_n (by decide) (up_n (by decide) (up_n (by decide) (up_n (by decide) (up_n (by decide) h1))))))) rfl ?_
        refine v_iload_n 0 dX0_takeFrom_74 rfl rfl ?_
        refine v_aald dX0_takeFrom_75 (up_n (by decide) (up_n (by decide) (up_n (by decide) (up_n (by decide) (up_n (by decide) (up_n (by decide) (up_n (by decide) h5))))))) rfl rfl (nI_in' (k := 2) (by decide)) (rfl) ?_
        refine v_iconst (v := 0) dX0_takeFrom_76 (by first | rfl | decide) ?_
        refine v_aload_n 1 dX0_takeFrom_77 rfl rfl ?_
        refine v_get fl_X0_28 dX0_takeFrom_78 (up_n (by decide) (up_n (by decide) (up_n (by decide) (up_n (by decide) (up_n (by decide) (up_s _ _ _)))))) rfl ?_
        refine v_iload_n 0 dX0_takeFrom_81 rfl rfl ?_
        refine v_aald dX0_takeFrom_82 (up_n (by decide) (up_n (by decide) (up_n (by decide) (up_n (by decide) (up_n (by decide) (up_n (by decide) (up_n (by decide) h15))))))) rfl rfl (nI_in' (k := 2) (by decide)) (rfl) ?_
        refine v_iconst (v := 0) dX0_takeFrom_83 (by first | rfl | decide) ?_
        refine v_iconst (v := 4) dX0_takeFrom_84 (by first | rfl | decide) ?_
        refine v_copyi cs_X0_48 dX0_takeFrom_85 (up_n (by decide) (up_n (by decide) (up_n (by decide) (up_n (by decide) (up_n (by decide) (up_n (by decide) (up_n (by decide) h8))))))) (up_n (by decide) (up_n (by decide) (up_n (by decide) (up_n (by decide) (up_n (by decide) (up_n (by decide) (up_n (by decide) h18))))))) rfl rfl (by decide) (by decide) (by decide) (by decide) (by decide) (fun i _ => rfl) (Nat.le_of_ble_eq_true rfl) ?_
        skip
        refine v_iinc (v := 1) 0 dX0_takeFrom_88 rfl rfl (by decide) (fun z_ ez_ => ?_)
        obtain rfl : z_ = 3 := by rw [ez_]; decide
        refine v_ls (ls' := [(2, .int (3)), (0, .ref 11), (1, .ref 1)]) rfl ?_
        refine v_goto (tgt := 65) dX0_takeFrom_91 (by decide) ?_
        refine v_iload_n 0 dX0_takeFrom_65 rfl rfl ?_
        refine v_iconst (v := 3) dX0_takeFrom_66 (by first | rfl | decide) ?_
        refine v_icmp_ge (tgt := 94) dX0_takeFrom_67 (by decide) (fun c67 => ?_) (fun c67 => ?_)
        ·
          refine v_vret dX0_takeFrom_94 rfl ?_
          exact ⟨rfl, rfl⟩
        · exact absurd (by decide) c67

set_option maxRecDepth 20000 in
set_option maxHeartbeats 4000000 in
theorem c_X0_takeFrom_1_11 {G : Cx} (d : Nat) {μ : Hp} {na nb : Int32} {La Lb : LT} {pa pb ta tb ra0 ra1 ra2 rb0 rb1 rb2 : Nat → Int32} {fa fb : Nat → UInt32} (h1 : μ 1 = some (benC 2 3 na 4 5 9)) (h2 : μ 2 = some (ligL La)) (h3 : μ 3 = some (arI 8 pa)) (h4 : μ 4 = some (arF 8 fa)) (h5 : μ 5 = some (arR 4 3 (rowF 6 3))) (h6 : μ 6 = some (arI 4 ra0)) (h7 : μ 7 = some (arI 4 ra1)) (h8 : μ 8 = some (arI 4 ra2)) (h9 : μ 9 = some (arI 3 ta)) (h11 : μ 11 = some (benC 12 13 nb 14 15 19)) (h12 : μ 12 = some (ligL Lb)) (h13 : μ 13 = some (arI 8 pb)) (h14 : μ 14 = some (arF 8 fb)) (h15 : μ 15 = some (arR 4 3 (rowF 16 3))) (h16 : μ 16 = some (arI 4 rb0)) (h17 : μ 17 = some (arI 4 rb1)) (h18 : μ 18 = some (arI 4 rb2)) (h19 : μ 19 = some (arI 3 tb)) : Ct G (d + 2) 0 0 M_X0_takeFrom [.ref 1, .ref 11] μ (Rt none (up (up (up (up (up (up (up (up μ 2 (ligL Lb)) 1 (benC 2 3 nb 4 5 9)) 3 (arI 8 (va_cpy pb pa 0 0 8))) 4 (arF 8 (va_cpy fb fa 0 0 8))) 9 (arI 3 (va_cpy tb ta 0 0 3))) 6 (arI 4 (va_cpy rb0 ra0 0 0 4))) 7 (arI 4 (va_cpy rb1 ra1 0 0 4))) 8 (arI 4 (va_cpy rb2 ra2 0 0 4)))) := by
  refine Ct.ofV (by decide +kernel) (Nat.le_of_ble_eq_true rfl) ?_
  refine v_ls (ls' := [(0, .ref 1), (1, .ref 11)]) rfl ?_
  refine v_aload_n 0 dX0_takeFrom_0 rfl rfl ?_
  refine v_get fl_X0_12 dX0_takeFrom_1 h1 rfl ?_
  refine v_aload_n 1 dX0_takeFrom_4 rfl rfl ?_
  refine v_get fl_X0_12 dX0_takeFrom_5 h11 rfl ?_
  refine v_callV (c_X1_takeFrom d h2 h12) cs_X0_40 dX0_takeFrom_8 h2 rfl rfl (Nat.le_of_ble_eq_true rfl) ?_
  refine rt_k ?_
  refine v_aload_n 0 dX0_takeFrom_11 rfl rfl ?_
  refine v_aload_n 1 dX0_takeFrom_12 rfl rfl ?_
  refine v_get fl_X0_44 dX0_takeFrom_13 (up_n (by decide) h11) rfl ?_
  refine v_put fp_X0_44 dX0_takeFrom_16 (up_n (by decide) h1) (Nat.le_of_ble_eq_true rfl) (by first | rfl | decide) (by first | rfl | decide) ?_
  refine v_aload_n 1 dX0_takeFrom_19 rfl rfl ?_
  refine v_get fl_X0_18 dX0_takeFrom_20 (up_n (by decide) (up_n (by decide) h11)) rfl ?_
  refine v_iconst (v := 0) dX0_takeFrom_23 (by first | rfl | decide) ?_
  refine v_aload_n 0 dX0_takeFrom_24 rfl rfl ?_
  refine v_get fl_X0_18 dX0_takeFrom_25 (up_s _ _ _) rfl ?_
  refine v_iconst (v := 0) dX0_takeFrom_28 (by first | rfl | decide) ?_
  refine v_bipush (v := 8) dX0_takeFrom_29 (by first | rfl | decide) ?_
  refine v_copyi cs_X0_48 dX0_takeFrom_31 (up_n (by decide) (up_n (by decide) h13)) (up_n (by decide) (up_n (by decide) h3)) rfl rfl (by decide) (by decide) (by decide) (by decide) (by decide) (fun i _ => rfl) (Nat.le_of_ble_eq_true rfl) ?_
  skip
  refine v_aload_n 1 dX0_takeFrom_34 rfl rfl ?_
  refine v_get fl_X0_22 dX0_takeFrom_35 (up_n (by decide) (up_n (by decide) (up_n (by decide) h11))) rfl ?_
  refine v_iconst (v := 0) dX0_takeFrom_38 (by first | rfl | decide) ?_
  refine v_aload_n 0 dX0_takeFrom_39 rfl rfl ?_
  refine v_get fl_X0_22 dX0_takeFrom_40 (up_n (by decide) (up_s _ _ _)) rfl ?_
  refine v_iconst (v := 0) dX0_takeFrom_43 (by first | rfl | decide) ?_
  refine v_bipush (v := 8) dX0_takeFrom_44 (by first | rfl | decide) ?_
  refine v_copyf cs_X0_48 dX0_takeFrom_46 (up_n (by decide) (up_n (by decide) (up_n (by decide) h14))) (up_n (by decide) (up_n (by decide) (up_n (by decide) h4))) rfl rfl (by decide) (by decide) (by decide) (by decide) (by decide) (fun i _ => rfl) (Nat.le_of_ble_eq_true rfl) ?_
  skip
  refine v_aload_n 1 dX0_takeFrom_49 rfl rfl ?_
  refine v_get fl_X0_31 dX0_takeFrom_50 (up_n (by decide) (up_n (by decide) (up_n (by decide) (up_n (by decide) h11)))) rfl ?_
  refine v_iconst (v := 0) dX0_takeFrom_53 (by first | rfl | decide) ?_
  refine v_aload_n 0 dX0_takeFrom_54 rfl rfl ?_
  refine v_get fl_X0_31 dX0_takeFrom_55 (up_n (by decide) (up_n (by decide) (up_s _ _ _))) rfl ?_
  refine v_iconst (v := 0) dX0_takeFrom_58 (by first | rfl | decide) ?_
  refine v_iconst (v := 3) dX0_takeFrom_59 (by first | rfl | decide) ?_
  refine v_copyi cs_X0_48 dX0_takeFrom_60 (up_n (by decide) (up_n (by decide) (up_n (by decide) (up_n (by decide) h19)))) (up_n (by decide) (up_n (by decide) (up_n (by decide) (up_n (by decide) h9)))) rfl rfl (by decide) (by decide) (by decide) (by decide) (by decide) (fun i _ => rfl) (Nat.le_of_ble_eq_true rfl) ?_
  skip
  refine v_iconst (v := 0) dX0_takeFrom_63 (by first | rfl | decide) ?_
  refine v_istore_n dX0_takeFrom_64 rfl (by decide) (fun x2 e_x2 => ?_)
  refine v_ls (ls' := [(2, .int x2), (0, .ref 1), (1, .ref 11)]) rfl ?_
  subst e_x2
  refine v_iload_n 0 dX0_takeFrom_65 rfl rfl ?_
  refine v_iconst (v := 3) dX0_takeFrom_66 (by first | rfl | decide) ?_
  refine v_icmp_ge (tgt := 94) dX0_takeFrom_67 (by decide) (fun c67 => ?_) (fun c67 => ?_)
  · exact absurd c67 (by decide)
  ·
    refine v_aload_n 2 dX0_takeFrom_70 rfl rfl ?_
    refine v_get fl_X0_28 dX0_takeFrom_71 (up_n (by decide) (up_n (by decide) (up_n (by decide) (up_n (by decide) (up_n (by decide) h11))))) rfl ?_
    refine v_iload_n 0 dX0_takeFrom_74 rfl rfl ?_
    refine v_aald dX0_takeFrom_75 (up_n (by decide) (up_n (by decide) (up_n (by decide) (up_n (by decide) (up_n (by decide) h15))))) rfl rfl (nI_in' (k := 0) (by decide)) (rfl) ?_
    refine v_iconst (v := 0) dX0_takeFrom_76 (by first | rfl | decide) ?_
    refine v_aload_n 1 dX0_takeFrom_77 rfl rfl ?_
    refine v_get fl_X0_28 dX0_takeFrom_78 (up_n (by decide) (up_n (by decide) (up_n (by decide) (up_s _ _ _)))) rfl ?_
    refine v_iload_n 0 dX0_takeFrom_81 rfl rfl ?_
    refine v_aald dX0_takeFrom_82 (up_n (by decide) (up_n (by decide) (up_n (by decide) (up_n (by decide) (up_n (by decide) h5))))) rfl rfl (nI_in' (k := 0) (by decide)) (rfl) ?_
    refine v_iconst (v := 0) dX0_takeFrom_83 (by first | rfl | decide) ?_
    refine v_iconst (v := 4) dX0_takeFrom_84 (by first | rfl | decide) ?_
    refine v_copyi cs_X0_48 dX0_takeFrom_85 (up_n (by decide) (up_n (by decide) (up_n (by decide) (up_n (by decide) (up_n (by decide) h16))))) (up_n (by decide) (up_n (by decide) (up_n (by decide) (up_n (by decide) (up_n (by decide) h6))))) rfl rfl (by decide) (by decide) (by decide) (by decide) (by decide) (fun i _ => rfl) (Nat.le_of_ble_eq_true rfl) ?_
    skip
    refine v_iinc (v := 1) 0 dX0_takeFrom_88 rfl rfl (by decide) (fun z_ ez_ => ?_)
    obtain rfl : z_ = 1 := by rw [ez_]; decide
    refine v_ls (ls' := [(2, .int (1)), (0, .ref 1), (1, .ref 11)]) rfl ?_
    refine v_goto (tgt := 65) dX0_takeFrom_91 (by decide) ?_
    refine v_iload_n 0 dX0_takeFrom_65 rfl rfl ?_
    refine v_iconst (v := 3) dX0_takeFrom_66 (by first | rfl | decide) ?_
    refine v_icmp_ge (tgt := 94) dX0_takeFrom_67 (by decide) (fun c67 => ?_) (fun c67 => ?_)
    · exact absurd c67 (by decide)
    ·
      refine v_aload_n 2 dX0_takeFrom_70 rfl rfl ?_
      refine v_get fl_X0_28 dX0_takeFrom_71 (up_n (by decide) (up_n (by decide) (up_n (by decide) (up_n (by decide) (up_n (by decide) (up_n (by decide) h11)))))) rfl ?_
      refine v_iload_n 0 dX0_takeFrom_74 rfl rfl ?_
      refine v_aald dX0_takeFrom_75 (up_n (by decide) (up_n (by decide) (up_n (by decide) (up_n (by decide) (up_n (by decide) (up_n (by decide) h15)))))) rfl rfl (nI_in' (k := 1) (by decide)) (rfl) ?_
      refine v_iconst (v := 0) dX0_takeFrom_76 (by first | rfl | decide) ?_
      refine v_aload_n 1 dX0_takeFrom_77 rfl rfl ?_
      refine v_get fl_X0_28 dX0_takeFrom_78 (up_n (by decide) (up_n (by decide) (up_n (by decide) (up_n (by decide) (up_s _ _ _))))) rfl ?_
      refine v_iload_n 0 dX0_takeFrom_81 rfl rfl ?_
      refine v_aald dX0_takeFrom_82 (up_n (by decide) (up_n (by decide) (up_n (by decide) (up_n (by decide) (up_n (by decide) (up_n (by decide) h5)))))) rfl rfl (nI_in' (k := 1) (by decide)) (rfl) ?_
      refine v_iconst (v := 0) dX0_takeFrom_83 (by first | rfl | decide) ?_
      refine v_iconst (v := 4) dX0_takeFrom_84 (by first | rfl | decide) ?_
      refine v_copyi cs_X0_48 dX0_takeFrom_85 (up_n (by decide) (up_n (by decide) (up_n (by decide) (up_n (by decide) (up_n (by decide) (up_n (by decide) h17)))))) (up_n (by decide) (up_n (by decide) (up_n (by decide) (up_n (by decide) (up_n (by decide) (up_n (by decide) h7)))))) rfl rfl (by decide) (by decide) (by decide) (by decide) (by decide) (fun i _ => rfl) (Nat.le_of_ble_eq_true rfl) ?_
      skip
      refine v_iinc (v := 1) 0 dX0_takeFrom_88 rfl rfl (by decide) (fun z_ ez_ => ?_)
      obtain rfl : z_ = 2 := by rw [ez_]; decide
      refine v_ls (ls' := [(2, .int (2)), (0, .ref 1), (1, .ref 11)]) rfl ?_
      refine v_goto (tgt := 65) dX0_takeFrom_91 (by decide) ?_
      refine v_iload_n 0 dX0_takeFrom_65 rfl rfl ?_
      refine v_iconst (v := 3) dX0_takeFrom_66 (by first | rfl | decide) ?_
      refine v_icmp_ge (tgt := 94) dX0_takeFrom_67 (by decide) (fun c67 => ?_) (fun c67 => ?_)
      · exact absurd c67 (by decide)
      ·
        refine v_aload_n 2 dX0_takeFrom_70 rfl rfl ?_
        refine v_get fl_X0_28 dX0_takeFrom_71 (up_n (by decide) (up_n (by decide) (up_n (by decide) (up_n (by decide) (up_n (by decide) (up_n (by decide) (up_n (by decide) h11))))))) rfl ?_
        refine v_iload_n 0 dX0_takeFrom_74 rfl rfl ?_
        refine v_aald dX0_takeFrom_75 (up_n (by decide) (up_n (by decide) (up_n (by decide) (up_n (by decide) (up_n (by decide) (up_n (by decide) (up_n (by decide) h15))))))) rfl rfl (nI_in' (k := 2) (by decide)) (rfl) ?_
        refine v_iconst (v := 0) dX0_takeFrom_76 (by first | rfl | decide) ?_
        refine v_aload_n 1 dX0_takeFrom_77 rfl rfl ?_
        refine v_get fl_X0_28 dX0_takeFrom_78 (up_n (by decide) (up_n (by decide) (up_n (by decide) (up_n (by decide) (up_n (by decide) (up_s _ _ _)))))) rfl ?_
        refine v_iload_n 0 dX0_takeFrom_81 rfl rfl ?_
        refine v_aald dX0_takeFrom_82 (up_n (by decide) (up_n (by decide) (up_n (by decide) (up_n (by decide) (up_n (by decide) (up_n (by decide) (up_n (by decide) h5))))))) rfl rfl (nI_in' (k := 2) (by decide)) (rfl) ?_
        refine v_iconst (v := 0) dX0_takeFrom_83 (by first | rfl | decide) ?_
        refine v_iconst (v := 4) dX0_takeFrom_84 (by first | rfl | decide) ?_
        refine v_copyi cs_X0_48 dX0_takeFrom_85 (up_n (by decide) (up_n (by decide) (up_n (by decide) (up_n (by decide) (up_n (by decide) (up_n (by decide) (up_n (by decide) h18))))))) (up_n (by decide) (up_n (by decide) (up_n (by decide) (up_n (by decide) (up_n (by decide) (up_n (by decide) (up_n (by decide) h8))))))) rfl rfl (by decide) (by decide) (by decide) (by decide) (by decide) (fun i _ => rfl) (Nat.le_of_ble_eq_true rfl) ?_
        skip
        refine v_iinc (v := 1) 0 dX0_takeFrom_88 rfl rfl (by decide) (fun z_ ez_ => ?_)
        obtain rfl : z_ = 3 := by rw [ez_]; decide
        refine v_ls (ls' := [(2, .int (3)), (0, .ref 1), (1, .ref 11)]) rfl ?_
        refine v_goto (tgt := 65) dX0_takeFrom_91 (by decide) ?_
        refine v_iload_n 0 dX0_takeFrom_65 rfl rfl ?_
        refine v_iconst (v := 3) dX0_takeFrom_66 (by first | rfl | decide) ?_
        refine v_icmp_ge (tgt := 94) dX0_takeFrom_67 (by decide) (fun c67 => ?_) (fun c67 => ?_)
        ·
          refine v_vret dX0_takeFrom_94 rfl ?_
          exact ⟨rfl, rfl⟩
        · exact absurd (by decide) c67

