set_option maxRecDepth 20000 in
set_option maxHeartbeats 4000000 in
theorem c_J5_init_d00df {G : Cx} (d : Nat) {μ : Hp} (h45 : μ 45 = some nu_J4) (f46 : μ 46 = none) : Ct G (d + 1) 1 16 M_J5_init_d00df [.ref 45, .int 16] μ (fun r μ' => r = none ∧ μ' 45 = some (.inr (0, [.ref 46, .int 0, .int 0, .int 0])) ∧ μ' 46 = some (arB 16 (fun _ => 0)) ∧ ∀ i, i < 45 ∨ 46 < i → μ' i = μ i) := by
  refine Ct.ofV (by decide +kernel) (Nat.le_of_ble_eq_true rfl) ?_
  refine v_ls (ls' := [(0, .ref 45), (1, .int (16))]) rfl ?_
  refine v_aload_n 0 dJ5_init_d00df_0 rfl rfl ?_
  refine v_obj cs_J5_3 dJ5_init_d00df_1 (Nat.le_of_ble_eq_true rfl) ?_
  refine v_gets (ro_compact G) flo_J5_18 dJ5_init_d00df_4 (okv_i) ?_
  refine v_if_eq (tgt := 25) dJ5_init_d00df_7 (by decide) (fun hc7 => ?_) (fun hc7 => ?_)
  · exact absurd hc7 (by decide)
  ·
    refine v_aload_n 0 dJ5_init_d00df_10 rfl rfl ?_
    refine v_iload_n 1 dJ5_init_d00df_11 rfl rfl ?_
    refine v_newB (mc := 0) (ms := 0) 46 16 (by decide) dJ5_init_d00df_12 (by repeat (first | assumption | refine up_n (by decide) ?_)) (by decide) ?_
    refine v_put fp_J5_15 dJ5_init_d00df_14 (up_n (by decide) h45) (Nat.le_of_ble_eq_true rfl) (by first | rfl | decide) (by first | rfl | decide) ?_
    refine v_aload_n 0 dJ5_init_d00df_17 rfl rfl ?_
    refine v_iconst (v := 0) dJ5_init_d00df_18 (by first | rfl | decide) ?_
    refine v_put fp_J5_22 dJ5_init_d00df_19 (up_s _ _ _) (Nat.le_of_ble_eq_true rfl) (by first | rfl | decide) (by first | rfl | decide) ?_
    refine v_hp (up_up _ _ _ _) ?_
    refine v_goto (tgt := 38) dJ5_init_d00df_22 (by decide) ?_
    refine v_vret dJ5_init_d00df_38 rfl ?_
    exact ⟨rfl, (up_s _ _ _), (up_n (by decide) (up_s _ _ _)), fun i hi => by repeat (first | rfl | refine up_n (by omega) ?_)⟩

set_option maxRecDepth 20000 in
set_option maxHeartbeats 4000000 in
theorem c_J4_init_da8c8 {G : Cx} (d : Nat) {μ : Hp} (h45 : μ 45 = some nu_J4) (f46 : μ 46 = none) : Ct G (d + 2) 1 16 M_J4_init_da8c8 [.ref 45] μ (fun r μ' => r = none ∧ μ' 45 = some (.inr (0, [.ref 46, .int 0, .int 0, .int 0])) ∧ μ' 46 = some (arB 16 (fun _ => 0)) ∧ ∀ i, i < 45 ∨ 46 < i → μ' i = μ i) := by
  refine Ct.ofV (by decide +kernel) (Nat.le_of_ble_eq_true rfl) ?_
  refine v_ls (ls' := [(0, .ref 45)]) rfl ?_
  refine v_aload_n 0 dJ4_init_da8c8_0 rfl rfl ?_
  refine v_bipush (v := 16) dJ4_init_da8c8_1 (by first | rfl | decide) ?_
  refine v_callI (c_J5_init_d00df d h45 f46) cs_J4_1 dJ4_init_da8c8_3 rfl rfl (Nat.le_of_ble_eq_true rfl) ?_
  rintro _ m2 ⟨rfl, q1, q2, q3⟩
  refine v_vret dJ4_init_da8c8_6 rfl ?_
  exact ⟨rfl, q1, q2, q3⟩

