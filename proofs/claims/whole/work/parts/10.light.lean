abbrev ligC (i q u v : Int64) (e : Int32) : va_E := .inr (2, [.long i, .long q, .long u, .long v, .int e])
abbrev benC (lr pr : Nat) (n : Int32) (cr rr tr : Nat) : va_E := .inr (1, [.ref lr, .ref pr, .int n, .ref cr, .ref rr, .ref tr])
set_option maxRecDepth 20000 in
set_option maxHeartbeats 4000000 in
theorem c_X6_codeOf {G : Cx} (d : Nat) {μ : Hp} {k a f : Int32}  : Ct G (d) 0 0 M_X6_codeOf [.int k, .int a, .int f] μ (Rt (some (.int (1000 * k + 100 * a + f))) μ) := by
  refine Ct.ofV (by decide +kernel) (Nat.le_of_ble_eq_true rfl) ?_
  refine v_ls (ls' := [(0, .int k), (1, .int a), (2, .int f)]) rfl ?_
  refine v_sipush (v := 1000) dX6_codeOf_0 (by first | rfl | decide) ?_
  refine v_iload_n 0 dX6_codeOf_3 rfl rfl ?_
  refine v_imul dX6_codeOf_4 ?_
  refine v_bipush (v := 100) dX6_codeOf_5 (by first | rfl | decide) ?_
  refine v_iload_n 1 dX6_codeOf_7 rfl rfl ?_
  refine v_imul dX6_codeOf_8 ?_
  refine v_iadd dX6_codeOf_9 ?_
  refine v_iload_n 2 dX6_codeOf_10 rfl rfl ?_
  refine v_iadd dX6_codeOf_11 ?_
  refine v_iret dX6_codeOf_12 rfl (by first | rfl | decide | exact nar_b (by first | assumption | rfl)) ?_
  exact ⟨rfl, rfl⟩

set_option maxRecDepth 20000 in
set_option maxHeartbeats 4000000 in
theorem c_X6_kindOf {G : Cx} (d : Nat) {μ : Hp} {c : Int32}  : Ct G (d) 0 0 M_X6_kindOf [.int c] μ (Rt (some (.int (c / 1000))) μ) := by
  refine Ct.ofV (by decide +kernel) (Nat.le_of_ble_eq_true rfl) ?_
  refine v_ls (ls' := [(0, .int c)]) rfl ?_
  refine v_iload_n 0 dX6_kindOf_0 rfl rfl ?_
  refine v_sipush (v := 1000) dX6_kindOf_1 (by first | rfl | decide) ?_
  refine v_idiv dX6_kindOf_4 (by decide) ?_
  refine v_iret dX6_kindOf_5 rfl (by first | rfl | decide | exact nar_b (by first | assumption | rfl)) ?_
  exact ⟨rfl, rfl⟩

set_option maxRecDepth 20000 in
set_option maxHeartbeats 4000000 in
theorem c_X6_angleOf {G : Cx} (d : Nat) {μ : Hp} {c : Int32}  : Ct G (d) 0 0 M_X6_angleOf [.int c] μ (Rt (some (.int (c / 100 - c / 100 / 10 * 10))) μ) := by
  refine Ct.ofV (by decide +kernel) (Nat.le_of_ble_eq_true rfl) ?_
  refine v_ls (ls' := [(0, .int c)]) rfl ?_
  refine v_iload_n 0 dX6_angleOf_0 rfl rfl ?_
  refine v_bipush (v := 100) dX6_angleOf_1 (by first | rfl | decide) ?_
  refine v_idiv dX6_angleOf_3 (by decide) ?_
  refine v_bipush (v := 10) dX6_angleOf_4 (by first | rfl | decide) ?_
  refine v_irem dX6_angleOf_6 (by decide) ?_
  refine v_iret dX6_angleOf_7 rfl (by first | rfl | decide | exact nar_b (by first | assumption | rfl)) ?_
  exact ⟨rfl, rfl⟩

set_option maxRecDepth 20000 in
set_option maxHeartbeats 4000000 in
theorem c_X6_figureOf {G : Cx} (d : Nat) {μ : Hp} {c : Int32}  : Ct G (d) 0 0 M_X6_figureOf [.int c] μ (Rt (some (.int (c - c / 100 * 100))) μ) := by
  refine Ct.ofV (by decide +kernel) (Nat.le_of_ble_eq_true rfl) ?_
  refine v_ls (ls' := [(0, .int c)]) rfl ?_
  refine v_iload_n 0 dX6_figureOf_0 rfl rfl ?_
  refine v_bipush (v := 100) dX6_figureOf_1 (by first | rfl | decide) ?_
  refine v_irem dX6_figureOf_3 (by decide) ?_
  refine v_iret dX6_figureOf_4 rfl (by first | rfl | decide | exact nar_b (by first | assumption | rfl)) ?_
  exact ⟨rfl, rfl⟩

set_option maxRecDepth 20000 in
set_option maxHeartbeats 4000000 in
theorem c_X0_has {G : Cx} (d : Nat) {μ : Hp} {a lr pr cr rr tr : Nat} {n i : Int32} (h0 : μ a = some (benC lr pr n cr rr tr)) : Ct G (d) 0 0 M_X0_has [.ref a, .int i] μ (Rt (some (.int (if i < 0 then 0 else if n ≤ i then 0 else 1))) μ) := by
  refine Ct.ofV (by decide +kernel) (Nat.le_of_ble_eq_true rfl) ?_
  refine v_ls (ls' := [(0, .ref a), (1, .int i)]) rfl ?_
  refine v_iload_n 1 dX0_has_0 rfl rfl ?_
  refine v_if_lt (tgt := 16) dX0_has_1 (by decide) (fun c1 => ?_) (fun c1 => ?_)
  ·
    refine v_iconst (v := 0) dX0_has_16 (by first | rfl | decide) ?_
    refine v_iret dX0_has_17 rfl (by first | rfl | decide | exact nar_b (by first | assumption | rfl)) ?_
    exact ⟨by simp [*], rfl⟩
  ·
    refine v_iload_n 1 dX0_has_4 rfl rfl ?_
    refine v_aload_n 0 dX0_has_5 rfl rfl ?_
    refine v_get fl_X0_44 dX0_has_6 h0 rfl ?_
    refine v_icmp_ge (tgt := 16) dX0_has_9 (by decide) (fun c9 => ?_) (fun c9 => ?_)
    ·
      refine v_iconst (v := 0) dX0_has_16 (by first | rfl | decide) ?_
      refine v_iret dX0_has_17 rfl (by first | rfl | decide | exact nar_b (by first | assumption | rfl)) ?_
      exact ⟨by simp [*], rfl⟩
    ·
      refine v_iconst (v := 1) dX0_has_12 (by first | rfl | decide) ?_
      refine v_goto (tgt := 17) dX0_has_13 (by decide) ?_
      refine v_iret dX0_has_17 rfl (by first | rfl | decide | exact nar_b (by first | assumption | rfl)) ?_
      exact ⟨by simp [*], rfl⟩

set_option maxRecDepth 20000 in
set_option maxHeartbeats 4000000 in
theorem c_X1_become {G : Cx} (d : Nat) {μ : Hp} {a : Nat} {i q u v i2 q2 u2 v2 : Int64} {e e2 : Int32} (h0 : μ a = some (ligC i q u v e)) : Ct G (d) 0 0 M_X1_become [.ref a, .long i2, .long q2, .long u2, .long v2, .int e2] μ (Rt none (up μ a (ligC i2 q2 u2 v2 e2))) := by
  refine Ct.ofV (by decide +kernel) (Nat.le_of_ble_eq_true rfl) ?_
  refine v_ls (ls' := [(0, .ref a), (1, .long i2), (3, .long q2), (5, .long u2), (7, .long v2), (9, .int e2)]) rfl ?_
  refine v_aload_n 0 dX1_become_0 rfl rfl ?_
  refine v_lload_n 1 dX1_become_1 rfl rfl ?_
  refine v_put fp_X1_9 dX1_become_2 h0 (Nat.le_of_ble_eq_true rfl) (by first | rfl | decide) (by first | rfl | decide) ?_
  refine v_aload_n 0 dX1_become_5 rfl rfl ?_
  refine v_lload_n 2 dX1_become_6 rfl rfl ?_
  refine v_put fp_X1_15 dX1_become_7 (up_s _ _ _) (Nat.le_of_ble_eq_true rfl) (by first | rfl | decide) (by first | rfl | decide) ?_
  refine v_hp (up_up _ _ _ _) ?_
  refine v_aload_n 0 dX1_become_10 rfl rfl ?_
  refine v_lload 3 dX1_become_11 rfl ?_
  refine v_put fp_X1_18 dX1_become_13 (up_s _ _ _) (Nat.le_of_ble_eq_true rfl) (by first | rfl | decide) (by first | rfl | decide) ?_
  refine v_hp (up_up _ _ _ _) ?_
  refine v_aload_n 0 dX1_become_16 rfl rfl ?_
  refine v_lload 4 dX1_become_17 rfl ?_
  refine v_put fp_X1_21 dX1_become_19 (up_s _ _ _) (Nat.le_of_ble_eq_true rfl) (by first | rfl | decide) (by first | rfl | decide) ?_
  refine v_hp (up_up _ _ _ _) ?_
  refine v_aload_n 0 dX1_become_22 rfl rfl ?_
  refine v_iload 5 dX1_become_23 rfl ?_
  refine v_put fp_X1_24 dX1_become_25 (up_s _ _ _) (Nat.le_of_ble_eq_true rfl) (by first | rfl | decide) (by first | rfl | decide) ?_
  refine v_hp (up_up _ _ _ _) ?_
  refine v_vret dX1_become_28 rfl ?_
  exact ⟨rfl, rfl⟩

set_option maxRecDepth 20000 in
set_option maxHeartbeats 4000000 in
theorem c_X1_passGrey {G : Cx} (d : Nat) {μ : Hp} {a : Nat} {i q u v : Int64} {e x y : Int32} (h0 : μ a = some (ligC i q u v e)) : Ct G (d + 1) 0 0 M_X1_passGrey [.ref a, .int x, .int y] μ (Rt none (up μ a (ligC (x.toInt64 * i) (y.toInt64 * q) (y.toInt64 * u) (y.toInt64 * v) (e + 4)))) := by
  refine Ct.ofV (by decide +kernel) (Nat.le_of_ble_eq_true rfl) ?_
  refine v_ls (ls' := [(0, .ref a), (1, .int x), (2, .int y)]) rfl ?_
  refine v_aload_n 0 dX1_passGrey_0 rfl rfl ?_
  refine v_iload_n 1 dX1_passGrey_1 rfl rfl ?_
  refine v_i2l dX1_passGrey_2 ?_
  refine v_aload_n 0 dX1_passGrey_3 rfl rfl ?_
  refine v_get fl_X1_9 dX1_passGrey_4 h0 rfl ?_
  refine v_lmul dX1_passGrey_7 ?_
  refine v_iload_n 2 dX1_passGrey_8 rfl rfl ?_
  refine v_i2l dX1_passGrey_9 ?_
  refine v_aload_n 0 dX1_passGrey_10 rfl rfl ?_
  refine v_get fl_X1_15 dX1_passGrey_11 h0 rfl ?_
  refine v_lmul dX1_passGrey_14 ?_
  refine v_iload_n 2 dX1_passGrey_15 rfl rfl ?_
  refine v_i2l dX1_passGrey_16 ?_
  refine v_aload_n 0 dX1_passGrey_17 rfl rfl ?_
  refine v_get fl_X1_18 dX1_passGrey_18 h0 rfl ?_
  refine v_lmul dX1_passGrey_21 ?_
  refine v_iload_n 2 dX1_passGrey_22 rfl rfl ?_
  refine v_i2l dX1_passGrey_23 ?_
  refine v_aload_n 0 dX1_passGrey_24 rfl rfl ?_
  refine v_get fl_X1_21 dX1_passGrey_25 h0 rfl ?_
  refine v_lmul dX1_passGrey_28 ?_
  refine v_aload_n 0 dX1_passGrey_29 rfl rfl ?_
  refine v_get fl_X1_24 dX1_passGrey_30 h0 rfl ?_
  refine v_iconst (v := 4) dX1_passGrey_33 (by first | rfl | decide) ?_
  refine v_iadd dX1_passGrey_34 ?_
  refine v_callV (c_X1_become d h0) cs_X1_28 dX1_passGrey_35 h0 rfl rfl (Nat.le_of_ble_eq_true rfl) ?_
  rintro _ _ ⟨rfl, rfl⟩
  refine v_vret dX1_passGrey_38 rfl ?_
  exact ⟨rfl, rfl⟩
