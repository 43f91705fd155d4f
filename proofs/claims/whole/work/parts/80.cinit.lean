theorem c_X1_init {G : Cx} (d : Nat) {a : Nat} {μ : Hp} : Ct G (d + 1) 0 0 M_X1_init [.ref a] μ (Rt none μ) := by
  refine Ct.ofV (by decide +kernel) (Nat.le_of_ble_eq_true rfl) ?_
  refine v_ls (ls' := [(0, .ref a)]) rfl ?_
  refine v_aload_n 0 dX1_init_0 rfl rfl ?_
  refine v_obj cs_X1_3 dX1_init_1 (Nat.le_of_ble_eq_true rfl) ?_
  refine v_vret dX1_init_4 rfl ?_
  exact ⟨rfl, rfl⟩

set_option maxRecDepth 20000 in
set_option maxHeartbeats 4000000 in
theorem c_X5_init {G : Cx} (d : Nat) {μ : Hp} (h29 : μ 29 = some nu_X5) (f30 : μ 30 = none) (f31 : μ 31 = none) : Ct G (d + 1) 2 8 M_X5_init [.ref 29] μ (fun r μ' => r = none ∧ μ' 29 = some (troC 0) ∧ μ' 30 = some (arI 4 (fun _ => 0)) ∧ μ' 31 = some (arI 4 (fun _ => 0)) ∧ ∀ i, i < 29 ∨ 31 < i → μ' i = μ i) := by
  refine Ct.ofV (by decide +kernel) (Nat.le_of_ble_eq_true rfl) ?_
  refine v_ls (ls' := [(0, .ref 29)]) rfl ?_
  refine v_aload_n 0 dX5_init_0 rfl rfl ?_
  refine v_obj cs_X5_3 dX5_init_1 (Nat.le_of_ble_eq_true rfl) ?_
  refine v_aload_n 0 dX5_init_4 rfl rfl ?_
  refine v_iconst (v := 4) dX5_init_5 (by first | rfl | decide) ?_
  refine v_newI (mc := 1) (ms := 4) 30 4 (by decide) dX5_init_6 (by repeat (first | assumption | exact hfree _ (by decide) (by decide) | refine up_n (by decide) ?_)) (by decide) ?_
  refine v_putF fp_X5_9 rfl dX5_init_8 (up_n (by decide) h29) (Nat.le_of_ble_eq_true rfl) (by first | rfl | decide) (by first | rfl | decide) ?_
  refine v_aload_n 0 dX5_init_11 rfl rfl ?_
  refine v_iconst (v := 4) dX5_init_12 (by first | rfl | decide) ?_
  refine v_newI (mc := 0) (ms := 0) 31 4 (by decide) dX5_init_13 (by repeat (first | assumption | exact hfree _ (by decide) (by decide) | refine up_n (by decide) ?_)) (by decide) ?_
  refine v_putF fp_X5_15 rfl dX5_init_15 (up_n (by decide) (up_s _ _ _)) (Nat.le_of_ble_eq_true rfl) (by first | rfl | decide) (by first | rfl | decide) ?_
  refine v_vret dX5_init_18 rfl ?_
  exact ⟨rfl, (up_s _ _ _), (up_n (by decide) (up_n (by decide) (up_n (by decide) (up_s _ _ _)))), (up_n (by decide) (up_s _ _ _)), fun i hi => by repeat (first | rfl | refine up_n (by omega) ?_)⟩

set_option maxRecDepth 20000 in
set_option maxHeartbeats 4000000 in
theorem c_X4_init {G : Cx} (d : Nat) {μ : Hp} (h25 : μ 25 = some nu_X4) (f26 : μ 26 = none) (f27 : μ 27 = none) (f28 : μ 28 = none) : Ct G (d + 1) 3 71 M_X4_init [.ref 25] μ (fun r μ' => r = none ∧ μ' 25 = some (redC 0 0 0 0) ∧ μ' 26 = some (arI 60 (fun _ => 0)) ∧ μ' 27 = some (arI 3 (fun _ => 0)) ∧ μ' 28 = some (arI 8 (fun _ => 0)) ∧ ∀ i, i < 25 ∨ 28 < i → μ' i = μ i) := by
  refine Ct.ofV (by decide +kernel) (Nat.le_of_ble_eq_true rfl) ?_
  refine v_ls (ls' := [(0, .ref 25)]) rfl ?_
  refine v_aload_n 0 dX4_init_0 rfl rfl ?_
  refine v_obj cs_X4_3 dX4_init_1 (Nat.le_of_ble_eq_true rfl) ?_
  refine v_aload_n 0 dX4_init_4 rfl rfl ?_
  refine v_bipush (v := 60) dX4_init_5 (by first | rfl | decide) ?_
  refine v_newI (mc := 2) (ms := 11) 26 60 (by decide) dX4_init_7 (by repeat (first | assumption | exact hfree _ (by decide) (by decide) | refine up_n (by decide) ?_)) (by decide) ?_
  refine v_putF fp_X4_9 rfl dX4_init_9 (up_n (by decide) h25) (Nat.le_of_ble_eq_true rfl) (by first | rfl | decide) (by first | rfl | decide) ?_
  refine v_aload_n 0 dX4_init_12 rfl rfl ?_
  refine v_iconst (v := 3) dX4_init_13 (by first | rfl | decide) ?_
  refine v_newI (mc := 1) (ms := 8) 27 3 (by decide) dX4_init_14 (by repeat (first | assumption | exact hfree _ (by decide) (by decide) | refine up_n (by decide) ?_)) (by decide) ?_
  refine v_putF fp_X4_15 rfl dX4_init_16 (up_n (by decide) (up_s _ _ _)) (Nat.le_of_ble_eq_true rfl) (by first | rfl | decide) (by first | rfl | decide) ?_
  refine v_aload_n 0 dX4_init_19 rfl rfl ?_
  refine v_bipush (v := 8) dX4_init_20 (by first | rfl | decide) ?_
  refine v_newI (mc := 0) (ms := 0) 28 8 (by decide) dX4_init_22 (by repeat (first | assumption | exact hfree _ (by decide) (by decide) | refine up_n (by decide) ?_)) (by decide) ?_
  refine v_putF fp_X4_18 rfl dX4_init_24 (up_n (by decide) (up_s _ _ _)) (Nat.le_of_ble_eq_true rfl) (by first | rfl | decide) (by first | rfl | decide) ?_
  refine v_vret dX4_init_27 rfl ?_
  exact ⟨rfl, (up_s _ _ _), (up_n (by decide) (up_n (by decide) (up_n (by decide) (up_n (by decide) (up_n (by decide) (up_s _ _ _)))))), (up_n (by decide) (up_n (by decide) (up_n (by decide) (up_s _ _ _)))), (up_n (by decide) (up_s _ _ _)), fun i hi => by repeat (first | rfl | refine up_n (by omega) ?_)⟩

set_option maxRecDepth 20000 in
set_option maxHeartbeats 4000000 in
theorem c_X3_init {G : Cx} (d : Nat) {μ : Hp} (h32 : μ 32 = some nu_X3) (f33 : μ 33 = none) (f34 : μ 34 = none) (f35 : μ 35 = none) (f36 : μ 36 = none) : Ct G (d + 2) 4 730 M_X3_init [.ref 32] μ (fun r μ' => r = none ∧ μ' 32 = some (outC 0 0 0) ∧ μ' 33 = some (ligL (0, 0, 0, 0, 0)) ∧ μ' 34 = some (ligL (0, 0, 0, 0, 0)) ∧ μ' 35 = some (arJ 600 (fun _ => 0)) ∧ μ' 36 = some (arI 120 (fun _ => 0)) ∧ ∀ i, i < 32 ∨ 36 < i → μ' i = μ i) := by
  refine Ct.ofV (by decide +kernel) (Nat.le_of_ble_eq_true rfl) ?_
  refine v_ls (ls' := [(0, .ref 32)]) rfl ?_
  refine v_aload_n 0 dX3_init_0 rfl rfl ?_
  refine v_obj cs_X3_3 dX3_init_1 (Nat.le_of_ble_eq_true rfl) ?_
  refine v_aload_n 0 dX3_init_4 rfl rfl ?_
  refine v_new_X1 (mc := 3) (ms := 725) 33 ck_X3_9 dX3_init_5 (by repeat (first | assumption | exact hfree _ (by decide) (by decide) | refine up_n (by decide) ?_)) (by decide) ?_
  refine v_dup dX3_init_8 rfl ?_
  refine v_callIN (c_X1_init d) cs_X3_11 dX3_init_9 rfl rfl (Nat.le_of_ble_eq_true rfl) ?_
  refine rt_k ?_
  refine v_putF fp_X3_12 rfl dX3_init_12 (up_n (by decide) h32) (Nat.le_of_ble_eq_true rfl) (by first | rfl | decide) (by first | rfl | decide) ?_
  refine v_aload_n 0 dX3_init_15 rfl rfl ?_
  refine v_new_X1 (mc := 2) (ms := 720) 34 ck_X3_9 dX3_init_16 (by repeat (first | assumption | exact hfree _ (by decide) (by decide) | refine up_n (by decide) ?_)) (by decide) ?_
  refine v_dup dX3_init_19 rfl ?_
  refine v_callIN (c_X1_init d) cs_X3_11 dX3_init_20 rfl rfl (Nat.le_of_ble_eq_true rfl) ?_
  refine rt_k ?_
  refine v_putF fp_X3_18 rfl dX3_init_23 (up_n (by decide) (up_s _ _ _)) (Nat.le_of_ble_eq_true rfl) (by first | rfl | decide) (by first | rfl | decide) ?_
  refine v_aload_n 0 dX3_init_26 rfl rfl ?_
  refine v_sipush (v := 600) dX3_init_27 (by first | rfl | decide) ?_
  refine v_newJ (mc := 1) (ms := 120) 35 600 (by decide) dX3_init_30 (by repeat (first | assumption | exact hfree _ (by decide) (by decide) | refine up_n (by decide) ?_)) (by decide) ?_
  refine v_putF fp_X3_21 rfl dX3_init_32 (up_n (by decide) (up_s _ _ _)) (Nat.le_of_ble_eq_true rfl) (by first | rfl | decide) (by first | rfl | decide) ?_
  refine v_aload_n 0 dX3_init_35 rfl rfl ?_
  refine v_bipush (v := 120) dX3_init_36 (by first | rfl | decide) ?_
  refine v_newI (mc := 0) (ms := 0) 36 120 (by decide) dX3_init_38 (by repeat (first | assumption | exact hfree _ (by decide) (by decide) | refine up_n (by decide) ?_)) (by decide) ?_
  refine v_putF fp_X3_25 rfl dX3_init_40 (up_n (by decide) (up_s _ _ _)) (Nat.le_of_ble_eq_true rfl) (by first | rfl | decide) (by first | rfl | decide) ?_
  refine v_vret dX3_init_43 rfl ?_
  exact ⟨rfl, (up_s _ _ _), (up_n (by decide) (up_n (by decide) (up_n (by decide) (up_n (by decide) (up_n (by decide) (up_n (by decide) (up_n (by decide) (up_s _ _ _)))))))), (up_n (by decide) (up_n (by decide) (up_n (by decide) (up_n (by decide) (up_n (by decide) (up_s _ _ _)))))), (up_n (by decide) (up_n (by decide) (up_n (by decide) (up_s _ _ _)))), (up_n (by decide) (up_s _ _ _)), fun i hi => by repeat (first | rfl | refine up_n (by omega) ?_)⟩

