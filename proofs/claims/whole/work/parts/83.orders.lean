theorem row6 : va_up (va_up (va_up (va_up (va_up (va_up (fun _ => none) (0 : Int32).toNatClampNeg (some 39)) (1 : Int32).toNatClampNeg (some 40)) (2 : Int32).toNatClampNeg (some 41)) (3 : Int32).toNatClampNeg (some 42)) (4 : Int32).toNatClampNeg (some 43)) (5 : Int32).toNatClampNeg (some 44) = rowF 39 6 := by
  have e0 : (0 : Int32).toNatClampNeg = 0 := by decide
  have e1 : (1 : Int32).toNatClampNeg = 1 := by decide
  have e2 : (2 : Int32).toNatClampNeg = 2 := by decide
  have e3 : (3 : Int32).toNatClampNeg = 3 := by decide
  have e4 : (4 : Int32).toNatClampNeg = 4 := by decide
  have e5 : (5 : Int32).toNatClampNeg = 5 := by decide
  rw [e0, e1, e2, e3, e4, e5]
  funext x
  by_cases hx : x < 6
  · rcases (by omega : x = 0 ∨ x = 1 ∨ x = 2 ∨ x = 3 ∨ x = 4 ∨ x = 5) with rfl | rfl | rfl | rfl | rfl | rfl <;> rfl
  · show (if x = 5 then some 44 else if x = 4 then some 43 else if x = 3 then some 42 else if x = 2 then some 41 else if x = 1 then some 40 else if x = 0 then some 39 else none) = (if x < 6 then some (39 + x) else none)
    rw [if_neg hx, if_neg (by omega), if_neg (by omega), if_neg (by omega), if_neg (by omega), if_neg (by omega), if_neg (by omega)]
set_option maxRecDepth 20000 in
set_option maxHeartbeats 4000000 in
theorem c_X2_init {G : Cx} (d : Nat) {μ : Hp} (h37 : μ 37 = some nu_X2) (hfree : ∀ k, 37 < k → k < 45 → μ k = none) : Ct G (d + 2) 7 36 M_X2_init [.ref 37] μ (fun r μ' => r = none ∧ μ' 37 = some (.inr (3, [.ref 38])) ∧ μ' 38 = some (arR 6 6 (rowF 39 6)) ∧ (∀ x, x ≤ 5 → ∃ K, μ' (39 + x) = some (ligL K)) ∧ ∀ i, i < 37 ∨ 44 < i → μ' i = μ i) := by
  refine Ct.ofV (by decide +kernel) (Nat.le_of_ble_eq_true rfl) ?_
  refine v_ls (ls' := [(0, .ref 37)]) rfl ?_
  refine v_aload_n 0 dX2_init_0 rfl rfl ?_
  refine v_obj cs_X2_3 dX2_init_1 (Nat.le_of_ble_eq_true rfl) ?_
  refine v_aload_n 0 dX2_init_4 rfl rfl ?_
  refine v_bipush (v := 6) dX2_init_5 (by first | rfl | decide) ?_
  refine v_newL (mc := 6) (ms := 30) 38 6 (by decide) ck_X2_9 dX2_init_7 (by repeat (first | assumption | exact hfree _ (by decide) (by decide) | refine up_n (by decide) ?_)) (by decide) ?_
  refine v_putF fp_X2_11 rfl dX2_init_10 (up_n (by decide) h37) (Nat.le_of_ble_eq_true rfl) (by first | rfl | decide) (by first | rfl | decide) ?_
  refine v_iconst (v := 0) dX2_init_13 (by first | rfl | decide) ?_
  refine v_istore_n dX2_init_14 rfl (by decide) (fun x1_1 e_x1_1 => ?_)
  refine v_ls (ls' := [(1, .int x1_1), (0, .ref 37)]) rfl ?_
  subst e_x1_1
  refine v_iload_n 0 dX2_init_15 rfl rfl ?_
  refine v_iconst (v := 5) dX2_init_16 (by first | rfl | decide) ?_
  refine v_icmp_gt (tgt := 39) dX2_init_17 (by decide) (fun hc17 => ?_) (fun hc17 => ?_)
  · exact absurd hc17 (by decide)
  ·
    refine v_aload_n 1 dX2_init_20 rfl rfl ?_
    refine v_get fl_X2_11 dX2_init_21 (up_s _ _ _) rfl ?_
    refine v_iload_n 0 dX2_init_24 rfl rfl ?_
    refine v_new_X1 (mc := 5) (ms := 25) 39 ck_X2_9 dX2_init_25 (by repeat (first | assumption | exact hfree _ (by decide) (by decide) | refine up_n (by decide) ?_)) (by decide) ?_
    refine v_dup dX2_init_28 rfl ?_
    refine v_callIN (c_X1_init d) cs_X2_17 dX2_init_29 rfl rfl (Nat.le_of_ble_eq_true rfl) ?_
    refine rt_k ?_
    refine v_aast dX2_init_32 (up_n (by decide) (up_n (by decide) (up_s _ _ _))) (up_s _ _ _) (nI_in' (k := 0) (by decide)) ?_
    refine v_iinc (v := 1) 0 dX2_init_33 rfl rfl (by decide) (fun z_ ez_ => ?_)
    obtain rfl : z_ = 1 := by rw [ez_]; decide
    refine v_ls (ls' := [(1, .int (1)), (0, .ref 37)]) rfl ?_
    refine v_goto (tgt := 15) dX2_init_36 (by decide) ?_
    refine v_iload_n 0 dX2_init_15 rfl rfl ?_
    refine v_iconst (v := 5) dX2_init_16 (by first | rfl | decide) ?_
    refine v_icmp_gt (tgt := 39) dX2_init_17 (by decide) (fun hc17 => ?_) (fun hc17 => ?_)
    · exact absurd hc17 (by decide)
    ·
      refine v_aload_n 1 dX2_init_20 rfl rfl ?_
      refine v_get fl_X2_11 dX2_init_21 (up_n (by decide) (up_n (by decide) (up_s _ _ _))) rfl ?_
      refine v_iload_n 0 dX2_init_24 rfl rfl ?_
      refine v_new_X1 (mc := 4) (ms := 20) 40 ck_X2_9 dX2_init_25 (by repeat (first | assumption | exact hfree _ (by decide) (by decide) | refine up_n (by decide) ?_)) (by decide) ?_
      refine v_dup dX2_init_28 rfl ?_
      refine v_callIN (c_X1_init d) cs_X2_17 dX2_init_29 rfl rfl (Nat.le_of_ble_eq_true rfl) ?_
      refine rt_k ?_
      refine v_aast dX2_init_32 (up_n (by decide) (up_s _ _ _)) (up_s _ _ _) (nI_in' (k := 1) (by decide)) ?_
      refine v_iinc (v := 1) 0 dX2_init_33 rfl rfl (by decide) (fun z_ ez_ => ?_)
      obtain rfl : z_ = 2 := by rw [ez_]; decide
      refine v_ls (ls' := [(1, .int (2)), (0, .ref 37)]) rfl ?_
      refine v_goto (tgt := 15) dX2_init_36 (by decide) ?_
      refine v_iload_n 0 dX2_init_15 rfl rfl ?_
      refine v_iconst (v := 5) dX2_init_16 (by first | rfl | decide) ?_
      refine v_icmp_gt (tgt := 39) dX2_init_17 (by decide) (fun hc17 => ?_) (fun hc17 => ?_)
      · exact absurd hc17 (by decide)
      ·
        refine v_aload_n 1 dX2_init_20 rfl rfl ?_
        refine v_get fl_X2_11 dX2_init_21 (up_n (by decide) (up_n (by decide) (up_n (by decide) (up_n (by decide) (up_s _ _ _))))) rfl ?_
        refine v_iload_n 0 dX2_init_24 rfl rfl ?_
        refine v_new_X1 (mc := 3) (ms := 15) 41 ck_X2_9 dX2_init_25 (by repeat (first | assumption | exact hfree _ (by decide) (by decide) | refine up_n (by decide) ?_)) (by decide) ?_
        refine v_dup dX2_init_28 rfl ?_
        refine v_callIN (c_X1_init d) cs_X2_17 dX2_init_29 rfl rfl (Nat.le_of_ble_eq_true rfl) ?_
        refine rt_k ?_
        refine v_aast dX2_init_32 (up_n (by decide) (up_s _ _ _)) (up_s _ _ _) (nI_in' (k := 2) (by decide)) ?_
        refine v_iinc (v := 1) 0 dX2_init_33 rfl rfl (by decide) (fun z_ ez_ => ?_)
        obtain rfl : z_ = 3 := by rw [ez_]; decide
        refine v_ls (ls' := [(1, .int (3)), (0, .ref 37)]) rfl ?_
        refine v_goto (tgt := 15) dX2_init_36 (by decide) ?_
        refine v_iload_n 0 dX2_init_15 rfl rfl ?_
        refine v_iconst (v := 5) dX2_init_16 (by first | rfl | decide) ?_
        refine v_icmp_gt (tgt := 39) dX2_init_17 (by decide) (fun hc17 => ?_) (fun hc17 => ?_)
        · exact absurd hc17 (by decide)
        ·
          refine v_aload_n 1 dX2_init_20 rfl rfl ?_
          refine v_get fl_X2_11 dX2_init_21 (up_n (by decide) (up_n (by decide) (up_n (by decide) (up_n (by decide) (up_n (by decide) (up_n (by decide) (up_s _ _ _))))))) rfl ?_
          refine v_iload_n 0 dX2_init_24 rfl rfl ?_
          refine v_new_X1 (mc := 2) (ms := 10) 42 ck_X2_9 dX2_init_25 (by repeat (first | assumption | exact hfree _ (by decide) (by decide) | refine up_n (by decide) ?_)) (by decide) ?_
          refine v_dup dX2_init_28 rfl ?_
          refine v_callIN (c_X1_init d) cs_X2_17 dX2_init_29 rfl rfl (Nat.le_of_ble_eq_true rfl) ?_
          refine rt_k ?_
          refine v_aast dX2_init_32 (up_n (by decide) (up_s _ _ _)) (up_s _ _ _) (nI_in' (k := 3) (by decide)) ?_
          refine v_iinc (v := 1) 0 dX2_init_33 rfl rfl (by decide) (fun z_ ez_ => ?_)
          obtain rfl : z_ = 4 := by rw [ez_]; decide
          refine v_ls (ls' := [(1, .int (4)), (0, .ref 37)]) rfl ?_
          refine v_goto (tgt := 15) dX2_init_36 (by decide) ?_
          refine v_iload_n 0 dX2_init_15 rfl rfl ?_
          refine v_iconst (v := 5) dX2_init_16 (by first | rfl | decide) ?_
          refine v_icmp_gt (tgt := 39) dX2_init_17 (by decide) (fun hc17 => ?_) (fun hc17 => ?_)
          · exact absurd hc17 (by decide)
          ·
            refine v_aload_n 1 dX2_init_20 rfl rfl ?_
            refine v_get fl_X2_11 dX2_init_21 (up_n (by decide) (up_n (by decide) (up_n (by decide) (up_n (by decide) (up_n (by decide) (up_n (by decide) (up_n (by decide) (up_n (by decide) (up_s _ _ _))))))))) rfl ?_
            refine v_iload_n 0 dX2_init_24 rfl rfl ?_
            refine v_new_X1 (mc := 1) (ms := 5) 43 ck_X2_9 dX2_init_25 (by repeat (first | assumption | exact hfree _ (by decide) (by decide) | refine up_n (by decide) ?_)) (by decide) ?_
            refine v_dup dX2_init_28 rfl ?_
            refine v_callIN (c_X1_init d) cs_X2_17 dX2_init_29 rfl rfl (Nat.le_of_ble_eq_true rfl) ?_
            refine rt_k ?_
            refine v_aast dX2_init_32 (up_n (by decide) (up_s _ _ _)) (up_s _ _ _) (nI_in' (k := 4) (by decide)) ?_
            refine v_iinc (v := 1) 0 dX2_init_33 rfl rfl (by decide) (fun z_ ez_ => ?_)
            obtain rfl : z_ = 5 := by rw [ez_]; decide
            refine v_ls (ls' := [(1, .int (5)), (0, .ref 37)]) rfl ?_
            refine v_goto (tgt := 15) dX2_init_36 (by decide) ?_
            refine v_iload_n 0 dX2_init_15 rfl rfl ?_
            refine v_iconst (v := 5) dX2_init_16 (by first | rfl | decide) ?_
            refine v_icmp_gt (tgt := 39) dX2_init_17 (by decide) (fun hc17 => ?_) (fun hc17 => ?_)
            · exact absurd hc17 (by decide)
            ·
              refine v_aload_n 1 dX2_init_20 rfl rfl ?_
              refine v_get fl_X2_11 dX2_init_21 (up_n (by decide) (up_n (by decide) (up_n (by decide) (up_n (by decide) (up_n (by decide) (up_n (by decide) (up_n (by decide) (up_n (by decide) (up_n (by decide) (up_n (by decide) (up_s _ _ _))))))))))) rfl ?_
              refine v_iload_n 0 dX2_init_24 rfl rfl ?_
              refine v_new_X1 (mc := 0) (ms := 0) 44 ck_X2_9 dX2_init_25 (by repeat (first | assumption | exact hfree _ (by decide) (by decide) | refine up_n (by decide) ?_)) (by decide) ?_
              refine v_dup dX2_init_28 rfl ?_
              refine v_callIN (c_X1_init d) cs_X2_17 dX2_init_29 rfl rfl (Nat.le_of_ble_eq_true rfl) ?_
              refine rt_k ?_
              refine v_aast dX2_init_32 (up_n (by decide) (up_s _ _ _)) (up_s _ _ _) (nI_in' (k := 5) (by decide)) ?_
              refine v_iinc (v := 1) 0 dX2_init_33 rfl rfl (by decide) (fun z_ ez_ => ?_)
              obtain rfl : z_ = 6 := by rw [ez_]; decide
              refine v_ls (ls' := [(1, .int (6)), (0, .ref 37)]) rfl ?_
              refine v_goto (tgt := 15) dX2_init_36 (by decide) ?_
              refine v_iload_n 0 dX2_init_15 rfl rfl ?_
              refine v_iconst (v := 5) dX2_init_16 (by first | rfl | decide) ?_
              refine v_icmp_gt (tgt := 39) dX2_init_17 (by decide) (fun hc17 => ?_) (fun hc17 => ?_)
              ·
                refine v_vret dX2_init_39 rfl ?_
                exact ⟨rfl, (up_n (by decide) (up_n (by decide) (up_n (by decide) (up_n (by decide) (up_n (by decide) (up_n (by decide) (up_n (by decide) (up_n (by decide) (up_n (by decide) (up_n (by decide) (up_n (by decide) (up_n (by decide) (up_s _ _ _))))))))))))), ((up_s _ _ _)).trans (congrArg (fun f => some (arR 6 6 f)) row6), (fun x hx => by
                  rcases (by omega : x = 0 ∨ x = 1 ∨ x = 2 ∨ x = 3 ∨ x = 4 ∨ x = 5) with rfl | rfl | rfl | rfl | rfl | rfl
                  · exact ⟨(0, 0, 0, 0, 0), (up_n (by decide) (up_n (by decide) (up_n (by decide) (up_n (by decide) (up_n (by decide) (up_n (by decide) (up_n (by decide) (up_n (by decide) (up_n (by decide) (up_n (by decide) (up_n (by decide) (up_s _ _ _))))))))))))⟩
                  · exact ⟨(0, 0, 0, 0, 0), (up_n (by decide) (up_n (by decide) (up_n (by decide) (up_n (by decide) (up_n (by decide) (up_n (by decide) (up_n (by decide) (up_n (by decide) (up_n (by decide) (up_s _ _ _))))))))))⟩
                  · exact ⟨(0, 0, 0, 0, 0), (up_n (by decide) (up_n (by decide) (up_n (by decide) (up_n (by decide) (up_n (by decide) (up_n (by decide) (up_n (by decide) (up_s _ _ _))))))))⟩
                  · exact ⟨(0, 0, 0, 0, 0), (up_n (by decide) (up_n (by decide) (up_n (by decide) (up_n (by decide) (up_n (by decide) (up_s _ _ _))))))⟩
                  · exact ⟨(0, 0, 0, 0, 0), (up_n (by decide) (up_n (by decide) (up_n (by decide) (up_s _ _ _))))⟩
                  · exact ⟨(0, 0, 0, 0, 0), (up_n (by decide) (up_s _ _ _))⟩), fun i hi => by repeat (first | rfl | refine up_n (by omega) ?_)⟩
              · exact absurd (by decide) hc17

