set_option maxRecDepth 20000 in
set_option maxHeartbeats 4000000 in
theorem c_X0_init_1 {G : Cx} (d : Nat) {μ : Hp} (h1 : μ 1 = some nu_X0) (hfree : ∀ k, 1 < k → k < 10 → μ k = none) : Ct G (d + 2) 8 39 M_X0_init [.ref 1] μ (fun r μ' => r = none ∧ Bn1 (16, 0, 0, 0, 0) [] (fun _ => 0) (fun _ _ => -1) (fun r => nI r) μ' ∧ ∀ i, i < 1 ∨ 9 < i → μ' i = μ i) := by
  refine Ct.ofV (by decide +kernel) (Nat.le_of_ble_eq_true rfl) ?_
  refine v_ls (ls' := [(0, .ref 1)]) rfl ?_
  refine v_aload_n 0 dX0_init_0 rfl rfl ?_
  refine v_obj cs_X0_3 dX0_init_1 (Nat.le_of_ble_eq_true rfl) ?_
  refine v_aload_n 0 dX0_init_4 rfl rfl ?_
  refine v_new_X1 (mc := 7) (ms := 34) 2 ck_X0_9 dX0_init_5 (by repeat (first | assumption | exact hfree _ (by decide) (by decide) | refine up_n (by decide) ?_)) (by decide) ?_
  refine v_dup dX0_init_8 rfl ?_
  refine v_callIN (c_X1_init d) cs_X0_11 dX0_init_9 rfl rfl (Nat.le_of_ble_eq_true rfl) ?_
  refine rt_k ?_
  refine v_putF fp_X0_12 rfl dX0_init_12 (up_n (by decide) h1) (Nat.le_of_ble_eq_true rfl) (by first | rfl | decide) (by first | rfl | decide) ?_
  refine v_aload_n 0 dX0_init_15 rfl rfl ?_
  refine v_bipush (v := 8) dX0_init_16 (by first | rfl | decide) ?_
  refine v_newI (mc := 6) (ms := 26) 3 8 (by decide) dX0_init_18 (by repeat (first | assumption | exact hfree _ (by decide) (by decide) | refine up_n (by decide) ?_)) (by decide) ?_
  refine v_putF fp_X0_18 rfl dX0_init_20 (up_n (by decide) (up_s _ _ _)) (Nat.le_of_ble_eq_true rfl) (by first | rfl | decide) (by first | rfl | decide) ?_
  refine v_aload_n 0 dX0_init_23 rfl rfl ?_
  refine v_bipush (v := 8) dX0_init_24 (by first | rfl | decide) ?_
  refine v_newF (mc := 5) (ms := 18) 4 8 (by decide) dX0_init_26 (by repeat (first | assumption | exact hfree _ (by decide) (by decide) | refine up_n (by decide) ?_)) (by decide) ?_
  refine v_putF fp_X0_22 rfl dX0_init_28 (up_n (by decide) (up_s _ _ _)) (Nat.le_of_ble_eq_true rfl) (by first | rfl | decide) (by first | rfl | decide) ?_
  refine v_aload_n 0 dX0_init_31 rfl rfl ?_
  refine v_iconst (v := 3) dX0_init_32 (by first | rfl | decide) ?_
  refine v_iconst (v := 4) dX0_init_33 (by first | rfl | decide) ?_
  refine v_mnI (mc := 1) (ms := 3) 5 4 (by decide) ck_I2 dX0_init_34 (by repeat (first | assumption | exact hfree _ (by decide) (by decide) | refine up_n (by decide) ?_)) (by repeat (first | assumption | exact hfree _ (by decide) (by decide) | refine up_n (by decide) ?_)) (by repeat (first | assumption | exact hfree _ (by decide) (by decide) | refine up_n (by decide) ?_)) (by repeat (first | assumption | exact hfree _ (by decide) (by decide) | refine up_n (by decide) ?_)) (by decide) ?_
  refine v_hp (show _ = up (up (up (up _ 6 _) 7 _) 8 _) 5 _ from rfl) ?_
  refine v_putF fp_X0_28 rfl dX0_init_38 (up_n (by decide) (up_n (by decide) (up_n (by decide) (up_n (by decide) (up_s _ _ _))))) (Nat.le_of_ble_eq_true rfl) (by first | rfl | decide) (by first | rfl | decide) ?_
  refine v_aload_n 0 dX0_init_41 rfl rfl ?_
  refine v_iconst (v := 3) dX0_init_42 (by first | rfl | decide) ?_
  refine v_newI (mc := 0) (ms := 0) 9 3 (by decide) dX0_init_43 (by repeat (first | assumption | exact hfree _ (by decide) (by decide) | refine up_n (by decide) ?_)) (by decide) ?_
  refine v_dup dX0_init_45 rfl ?_
  refine v_iconst (v := 0) dX0_init_46 (by first | rfl | decide) ?_
  refine v_iconst (v := 0) dX0_init_47 (by first | rfl | decide) ?_
  refine v_iast dX0_init_48 (up_s _ _ _) (nI_in' (k := 0) (by decide)) ?_
  refine v_hp (up_up _ _ _ _) ?_
  refine v_dup dX0_init_49 rfl ?_
  refine v_iconst (v := 1) dX0_init_50 (by first | rfl | decide) ?_
  refine v_iconst (v := 1) dX0_init_51 (by first | rfl | decide) ?_
  refine v_iast dX0_init_52 (up_s _ _ _) (nI_in' (k := 1) (by decide)) ?_
  refine v_hp (up_up _ _ _ _) ?_
  refine v_dup dX0_init_53 rfl ?_
  refine v_iconst (v := 2) dX0_init_54 (by first | rfl | decide) ?_
  refine v_iconst (v := 2) dX0_init_55 (by first | rfl | decide) ?_
  refine v_iast dX0_init_56 (up_s _ _ _) (nI_in' (k := 2) (by decide)) ?_
  refine v_hp (up_up _ _ _ _) ?_
  refine v_putF fp_X0_31 rfl dX0_init_57 (up_n (by decide) (up_s _ _ _)) (Nat.le_of_ble_eq_true rfl) (by first | rfl | decide) (by first | rfl | decide) ?_
  refine v_aload_n 0 dX0_init_60 rfl rfl ?_
  refine v_get fl_X0_12 dX0_init_61 (up_s _ _ _) rfl ?_
  refine v_ldc2 kc_X0_34 dX0_init_64 ?_
  refine v_put fp_X0_36 dX0_init_67 (up_n (by decide) (up_n (by decide) (up_n (by decide) (up_n (by decide) (up_n (by decide) (up_n (by decide) (up_n (by decide) (up_n (by decide) (up_n (by decide) (up_n (by decide) (up_n (by decide) (up_n (by decide) (up_s _ _ _))))))))))))) (Nat.le_of_ble_eq_true rfl) (by first | rfl | decide) (by first | rfl | decide) ?_
  refine v_iconst (v := 0) dX0_init_70 (by first | rfl | decide) ?_
  refine v_istore_n dX0_init_71 rfl (by decide) (fun x1_1 e_x1_1 => ?_)
  refine v_ls (ls' := [(1, .int x1_1), (0, .ref 1)]) rfl ?_
  subst e_x1_1
  refine v_iload_n 0 dX0_init_72 rfl rfl ?_
  refine v_iconst (v := 3) dX0_init_73 (by first | rfl | decide) ?_
  refine v_icmp_ge (tgt := 105) dX0_init_74 (by decide) (fun hc74 => ?_) (fun hc74 => ?_)
  · exact absurd hc74 (by decide)
  ·
    refine v_iconst (v := 0) dX0_init_77 (by first | rfl | decide) ?_
    refine v_istore_n dX0_init_78 rfl (by decide) (fun x2_1 e_x2_1 => ?_)
    refine v_ls (ls' := [(2, .int x2_1), (1, .int (0)), (0, .ref 1)]) rfl ?_
    subst e_x2_1
    refine v_iload_n 0 dX0_init_79 rfl rfl ?_
    refine v_iconst (v := 4) dX0_init_80 (by first | rfl | decide) ?_
    refine v_icmp_ge (tgt := 99) dX0_init_81 (by decide) (fun hc81 => ?_) (fun hc81 => ?_)
    · exact absurd hc81 (by decide)
    ·
      refine v_aload_n 2 dX0_init_84 rfl rfl ?_
      refine v_get fl_X0_28 dX0_init_85 (up_n (by decide) (up_s _ _ _)) rfl ?_
      refine v_iload_n 1 dX0_init_88 rfl rfl ?_
      refine v_aald dX0_init_89 (up_n (by decide) (up_n (by decide) (up_n (by decide) (up_n (by decide) (up_s _ _ _))))) rfl rfl (nI_in' (k := 0) (by decide)) ((by decide : rowF 6 3 (Int32.toNatClampNeg 0) = some 6)) ?_
      refine v_iload_n 0 dX0_init_90 rfl rfl ?_
      refine v_iconst (v := -1) dX0_init_91 (by first | rfl | decide) ?_
      refine v_iast dX0_init_92 (up_n (by decide) (up_n (by decide) (up_n (by decide) (up_n (by decide) (up_n (by decide) (up_n (by decide) (up_n (by decide) (up_s _ _ _)))))))) (nI_in' (k := 0) (by decide)) ?_
      refine v_iinc (v := 1) 0 dX0_init_93 rfl rfl (by decide) (fun z_ ez_ => ?_)
      obtain rfl : z_ = 1 := by rw [ez_]; decide
      refine v_ls (ls' := [(2, .int (1)), (1, .int (0)), (0, .ref 1)]) rfl ?_
      refine v_goto (tgt := 79) dX0_init_96 (by decide) ?_
      refine v_iload_n 0 dX0_init_79 rfl rfl ?_
      refine v_iconst (v := 4) dX0_init_80 (by first | rfl | decide) ?_
      refine v_icmp_ge (tgt := 99) dX0_init_81 (by decide) (fun hc81 => ?_) (fun hc81 => ?_)
      · exact absurd hc81 (by decide)
      ·
        refine v_aload_n 2 dX0_init_84 rfl rfl ?_
        refine v_get fl_X0_28 dX0_init_85 (up_n (by decide) (up_n (by decide) (up_s _ _ _))) rfl ?_
        refine v_iload_n 1 dX0_init_88 rfl rfl ?_
        refine v_aald dX0_init_89 (up_n (by decide) (up_n (by decide) (up_n (by decide) (up_n (by decide) (up_n (by decide) (up_s _ _ _)))))) rfl rfl (nI_in' (k := 0) (by decide)) ((by decide : rowF 6 3 (Int32.toNatClampNeg 0) = some 6)) ?_
        refine v_iload_n 0 dX0_init_90 rfl rfl ?_
        refine v_iconst (v := -1) dX0_init_91 (by first | rfl | decide) ?_
        refine v_iast dX0_init_92 (up_s _ _ _) (nI_in' (k := 1) (by decide)) ?_
        refine v_hp (up_up _ _ _ _) ?_
        refine v_iinc (v := 1) 0 dX0_init_93 rfl rfl (by decide) (fun z_ ez_ => ?_)
        obtain rfl : z_ = 2 := by rw [ez_]; decide
        refine v_ls (ls' := [(2, .int (2)), (1, .int (0)), (0, .ref 1)]) rfl ?_
        refine v_goto (tgt := 79) dX0_init_96 (by decide) ?_
        refine v_iload_n 0 dX0_init_79 rfl rfl ?_
        refine v_iconst (v := 4) dX0_init_80 (by first | rfl | decide) ?_
        refine v_icmp_ge (tgt := 99) dX0_init_81 (by decide) (fun hc81 => ?_) (fun hc81 => ?_)
        · exact absurd hc81 (by decide)
        ·
          refine v_aload_n 2 dX0_init_84 rfl rfl ?_
          refine v_get fl_X0_28 dX0_init_85 (up_n (by decide) (up_n (by decide) (up_s _ _ _))) rfl ?_
          refine v_iload_n 1 dX0_init_88 rfl rfl ?_
          refine v_aald dX0_init_89 (up_n (by decide) (up_n (by decide) (up_n (by decide) (up_n (by decide) (up_n (by decide) (up_s _ _ _)))))) rfl rfl (nI_in' (k := 0) (by decide)) ((by decide : rowF 6 3 (Int32.toNatClampNeg 0) = some 6)) ?_
          refine v_iload_n 0 dX0_init_90 rfl rfl ?_
          refine v_iconst (v := -1) dX0_init_91 (by first | rfl | decide) ?_
          refine v_iast dX0_init_92 (up_s _ _ _) (nI_in' (k := 2) (by decide)) ?_
          refine v_hp (up_up _ _ _ _) ?_
          refine v_iinc (v := 1) 0 dX0_init_93 rfl rfl (by decide) (fun z_ ez_ => ?_)
          obtain rfl : z_ = 3 := by rw [ez_]; decide
          refine v_ls (ls' := [(2, .int (3)), (1, .int (0)), (0, .ref 1)]) rfl ?_
          refine v_goto (tgt := 79) dX0_init_96 (by decide) ?_
          refine v_iload_n 0 dX0_init_79 rfl rfl ?_
          refine v_iconst (v := 4) dX0_init_80 (by first | rfl | decide) ?_
          refine v_icmp_ge (tgt := 99) dX0_init_81 (by decide) (fun hc81 => ?_) (fun hc81 => ?_)
          · exact absurd hc81 (by decide)
          ·
            refine v_aload_n 2 dX0_init_84 rfl rfl ?_
            refine v_get fl_X0_28 dX0_init_85 (up_n (by decide) (up_n (by decide) (up_s _ _ _))) rfl ?_
            refine v_iload_n 1 dX0_init_88 rfl rfl ?_
            refine v_aald dX0_init_89 (up_n (by decide) (up_n (by decide) (up_n (by decide) (up_n (by decide) (up_n (by decide) (up_s _ _ _)))))) rfl rfl (nI_in' (k := 0) (by decide)) ((by decide : rowF 6 3 (Int32.toNatClampNeg 0) = some 6)) ?_
            refine v_iload_n 0 dX0_init_90 rfl rfl ?_
            refine v_iconst (v := -1) dX0_init_91 (by first | rfl | decide) ?_
            refine v_iast dX0_init_92 (up_s _ _ _) (nI_in' (k := 3) (by decide)) ?_
            refine v_hp (up_up _ _ _ _) ?_
            refine v_iinc (v := 1) 0 dX0_init_93 rfl rfl (by decide) (fun z_ ez_ => ?_)
            obtain rfl : z_ = 4 := by rw [ez_]; decide
            refine v_ls (ls' := [(2, .int (4)), (1, .int (0)), (0, .ref 1)]) rfl ?_
            refine v_goto (tgt := 79) dX0_init_96 (by decide) ?_
            refine v_iload_n 0 dX0_init_79 rfl rfl ?_
            refine v_iconst (v := 4) dX0_init_80 (by first | rfl | decide) ?_
            refine v_icmp_ge (tgt := 99) dX0_init_81 (by decide) (fun hc81 => ?_) (fun hc81 => ?_)
            ·
              refine v_iinc (v := 1) 1 dX0_init_99 rfl rfl (by decide) (fun z_ ez_ => ?_)
              obtain rfl : z_ = 1 := by rw [ez_]; decide
              refine v_ls (ls' := [(1, .int (1)), (2, .int (4)), (0, .ref 1)]) rfl ?_
              refine v_goto (tgt := 72) dX0_init_102 (by decide) ?_
              refine v_iload_n 0 dX0_init_72 rfl rfl ?_
              refine v_iconst (v := 3) dX0_init_73 (by first | rfl | decide) ?_
              refine v_icmp_ge (tgt := 105) dX0_init_74 (by decide) (fun hc74 => ?_) (fun hc74 => ?_)
              · exact absurd hc74 (by decide)
              ·
                refine v_iconst (v := 0) dX0_init_77 (by first | rfl | decide) ?_
                refine v_istore_n dX0_init_78 rfl (by decide) (fun x2_6 e_x2_6 => ?_)
                refine v_ls (ls' := [(2, .int x2_6), (1, .int (1)), (0, .ref 1)]) rfl ?_
                subst e_x2_6
                refine v_iload_n 0 dX0_init_79 rfl rfl ?_
                refine v_iconst (v := 4) dX0_init_80 (by first | rfl | decide) ?_
                refine v_icmp_ge (tgt := 99) dX0_init_81 (by decide) (fun hc81 => ?_) (fun hc81 => ?_)
                · exact absurd hc81 (by decide)
                ·
                  refine v_aload_n 2 dX0_init_84 rfl rfl ?_
                  refine v_get fl_X0_28 dX0_init_85 (up_n (by decide) (up_n (by decide) (up_s _ _ _))) rfl ?_
                  refine v_iload_n 1 dX0_init_88 rfl rfl ?_
                  refine v_aald dX0_init_89 (up_n (by decide) (up_n (by decide) (up_n (by decide) (up_n (by decide) (up_n (by decide) (up_s _ _ _)))))) rfl rfl (nI_in' (k := 1) (by decide)) ((by decide : rowF 6 3 (Int32.toNatClampNeg 1) = some 7)) ?_
                  refine v_iload_n 0 dX0_init_90 rfl rfl ?_
                  refine v_iconst (v := -1) dX0_init_91 (by first | rfl | decide) ?_
                  refine v_iast dX0_init_92 (up_n (by decide) (up_n (by decide) (up_n (by decide) (up_n (by decide) (up_n (by decide) (up_n (by decide) (up_n (by decide) (up_s _ _ _)))))))) (nI_in' (k := 0) (by decide)) ?_
                  refine v_iinc (v := 1) 0 dX0_init_93 rfl rfl (by decide) (fun z_ ez_ => ?_)
                  obtain rfl : z_ = 1 := by rw [ez_]; decide
                  refine v_ls (ls' := [(2, .int (1)), (1, .int (1)), (0, .ref 1)]) rfl ?_
                  refine v_goto (tgt := 79) dX0_init_96 (by decide) ?_
                  refine v_iload_n 0 dX0_init_79 rfl rfl ?_
                  refine v_iconst (v := 4) dX0_init_80 (by first | rfl | decide) ?_
                  refine v_icmp_ge (tgt := 99) dX0_init_81 (by decide) (fun hc81 => ?_) (fun hc81 => ?_)
                  · exact absurd hc81 (by decide)
                  ·
                    refine v_aload_n 2 dX0_init_84 rfl rfl ?_
                    refine v_get fl_X0_28 dX0_init_85 (up_n (by decide) (up_n (by decide) (up_n (by decide) (up_s _ _ _)))) rfl ?_
                    refine v_iload_n 1 dX0_init_88 rfl rfl ?_
                    refine v_aald dX0_init_89 (up_n (by decide) (up_n (by decide) (up_n (by decide) (up_n (by decide) (up_n (by decide) (up_n (by decide) (up_s _ _ _))))))) rfl rfl (nI_in' (k := 1) (by decide)) ((by decide : rowF 6 3 (Int32.toNatClampNeg 1) = some 7)) ?_
                    refine v_iload_n 0 dX0_init_90 rfl rfl ?_
                    refine v_iconst (v := -1) dX0_init_91 (by first | rfl | decide) ?_
                    refine v_iast dX0_init_92 (up_s _ _ _) (nI_in' (k := 1) (by decide)) ?_
                    refine v_hp (up_up _ _ _ _) ?_
                    refine v_iinc (v := 1) 0 dX0_init_93 rfl rfl (by decide) (fun z_ ez_ => ?_)
                    obtain rfl : z_ = 2 := by rw [ez_]; decide
                    refine v_ls (ls' := [(2, .int (2)), (1, .int (1)), (0, .ref 1)]) rfl ?_
                    refine v_goto (tgt := 79) dX0_init_96 (by decide) ?_
                    refine v_iload_n 0 dX0_init_79 rfl rfl ?_
                    refine v_iconst (v := 4) dX0_init_80 (by first | rfl | decide) ?_
                    refine v_icmp_ge (tgt := 99) dX0_init_81 (by decide) (fun hc81 => ?_) (fun hc81 => ?_)
                    · exact absurd hc81 (by decide)
                    ·
                      refine v_aload_n 2 dX0_init_84 rfl rfl ?_
                      refine v_get fl_X0_28 dX0_init_85 (up_n (by decide) (up_n (by decide) (up_n (by decide) (up_s _ _ _)))) rfl ?_
                      refine v_iload_n 1 dX0_init_88 rfl rfl ?_
                      refine v_aald dX0_init_89 (up_n (by decide) (up_n (by decide) (up_n (by decide) (up_n (by decide) (up_n (by decide) (up_n (by decide) (up_s _ _ _))))))) rfl rfl (nI_in' (k := 1) (by decide)) ((by decide : rowF 6 3 (Int32.toNatClampNeg 1) = some 7)) ?_
                      refine v_iload_n 0 dX0_init_90 rfl rfl ?_
                      refine v_iconst (v := -1) dX0_init_91 (by first | rfl | decide) ?_
                      refine v_iast dX0_init_92 (up_s _ _ _) (nI_in' (k := 2) (by decide)) ?_
                      refine v_hp (up_up _ _ _ _) ?_
                      refine v_iinc (v := 1) 0 dX0_init_93 rfl rfl (by decide) (fun z_ ez_ => ?_)
                      obtain rfl : z_ = 3 := by rw [ez_]; decide
                      refine v_ls (ls' := [(2, .int (3)), (1, .int (1)), (0, .ref 1)]) rfl ?_
                      refine v_goto (tgt := 79) dX0_init_96 (by decide) ?_
                      refine v_iload_n 0 dX0_init_79 rfl rfl ?_
                      refine v_iconst (v := 4) dX0_init_80 (by first | rfl | decide) ?_
                      refine v_icmp_ge (tgt := 99) dX0_init_81 (by decide) (fun hc81 => ?_) (fun hc81 => ?_)
                      · exact absurd hc81 (by decide)
                      ·
                        refine v_aload_n 2 dX0_init_84 rfl rfl ?_
                        refine v_get fl_X0_28 dX0_init_85 (up_n (by decide) (up_n (by decide) (up_n (by decide) (up_s _ _ _)))) rfl ?_
                        refine v_iload_n 1 dX0_init_88 rfl rfl ?_
                        refine v_aald dX0_init_89 (up_n (by decide) (up_n (by decide) (up_n (by decide) (up_n (by decide) (up_n (by decide) (up_n (by decide) (up_s _ _ _))))))) rfl rfl (nI_in' (k := 1) (by decide)) ((by decide : rowF 6 3 (Int32.toNatClampNeg 1) = some 7)) ?_
                        refine v_iload_n 0 dX0_init_90 rfl rfl ?_
                        refine v_iconst (v := -1) dX0_init_91 (by first | rfl | decide) ?_
                        refine v_iast dX0_init_92 (up_s _ _ _) (nI_in' (k := 3) (by decide)) ?_
                        refine v_hp (up_up _ _ _ _) ?_
                        refine v_iinc (v := 1) 0 dX0_init_93 rfl rfl (by decide) (fun z_ ez_ => ?_)
                        obtain rfl : z_ = 4 := by rw [ez_]; decide
                        refine v_ls (ls' := [(2, .int (4)), (1, .int (1)), (0, .ref 1)]) rfl ?_
                        refine v_goto (tgt := 79) dX0_init_96 (by decide) ?_
                        refine v_iload_n 0 dX0_init_79 rfl rfl ?_
                        refine v_iconst (v := 4) dX0_init_80 (by first | rfl | decide) ?_
                        refine v_icmp_ge (tgt := 99) dX0_init_81 (by decide) (fun hc81 => ?_) (fun hc81 => ?_)
                        ·
                          refine v_iinc (v := 1) 1 dX0_init_99 rfl rfl (by decide) (fun z_ ez_ => ?_)
                          obtain rfl : z_ = 2 := by rw [ez_]; decide
                          refine v_ls (ls' := [(1, .int (2)), (2, .int (4)), (0, .ref 1)]) rfl ?_
                          refine v_goto (tgt := 72) dX0_init_102 (by decide) ?_
                          refine v_iload_n 0 dX0_init_72 rfl rfl ?_
                          refine v_iconst (v := 3) dX0_init_73 (by first | rfl | decide) ?_
                          refine v_icmp_ge (tgt := 105) dX0_init_74 (by decide) (fun hc74 => ?_) (fun hc74 => ?_)
                          · exact absurd hc74 (by decide)
                          ·
                            refine v_iconst (v := 0) dX0_init_77 (by first | rfl | decide) ?_
                            refine v_istore_n dX0_init_78 rfl (by decide) (fun x2_11 e_x2_11 => ?_)
                            refine v_ls (ls' := [(2, .int x2_11), (1, .int (2)), (0, .ref 1)]) rfl ?_
                            subst e_x2_11
                            refine v_iload_n 0 dX0_init_79 rfl rfl ?_
                            refine v_iconst (v := 4) dX0_init_80 (by first | rfl | decide) ?_
                            refine v_icmp_ge (tgt := 99) dX0_init_81 (by decide) (fun hc81 => ?_) (fun hc81 => ?_)
                            · exact absurd hc81 (by decide)
                            ·
                              refine v_aload_n 2 dX0_init_84 rfl rfl ?_
                              refine v_get fl_X0_28 dX0_init_85 (up_n (by decide) (up_n (by decide) (up_n (by decide) (up_s _ _ _)))) rfl ?_
                              refine v_iload_n 1 dX0_init_88 rfl rfl ?_
                              refine v_aald dX0_init_89 (up_n (by decide) (up_n (by decide) (up_n (by decide) (up_n (by decide) (up_n (by decide) (up_n (by decide) (up_s _ _ _))))))) rfl rfl (nI_in' (k := 2) (by decide)) ((by decide : rowF 6 3 (Int32.toNatClampNeg 2) = some 8)) ?_
                              refine v_iload_n 0 dX0_init_90 rfl rfl ?_
                              refine v_iconst (v := -1) dX0_init_91 (by first | rfl | decide) ?_
                              refine v_iast dX0_init_92 (up_n (by decide) (up_n (by decide) (up_n (by decide) (up_n (by decide) (up_n (by decide) (up_n (by decide) (up_n (by decide) (up_s _ _ _)))))))) (nI_in' (k := 0) (by decide)) ?_
                              refine v_iinc (v := 1) 0 dX0_init_93 rfl rfl (by decide) (fun z_ ez_ => ?_)
                              obtain rfl : z_ = 1 := by rw [ez_]; decide
                              refine v_ls (ls' := [(2, .int (1)), (1, .int (2)), (0, .ref 1)]) rfl ?_
                              refine v_goto (tgt := 79) dX0_init_96 (by decide) ?_
                              refine v_iload_n 0 dX0_init_79 rfl rfl ?_
                              refine v_iconst (v := 4) dX0_init_80 (by first | rfl | decide) ?_
                              refine v_icmp_ge (tgt := 99) dX0_init_81 (by decide) (fun hc81 => ?_) (fun hc81 => ?_)
                              · exact absurd hc81 (by decide)
                              ·
                                refine v_aload_n 2 dX0_init_84 rfl rfl ?_
                                refine v_get fl_X0_28 dX0_init_85 (up_n (by decide) (up_n (by decide) (up_n (by decide) (up_n (by decide) (up_s _ _ _))))) rfl ?_
                                refine v_iload_n 1 dX0_init_88 rfl rfl ?_
                                refine v_aald dX0_init_89 (up_n (by decide) (up_n (by decide) (up_n (by decide) (up_n (by decide) (up_n (by decide) (up_n (by decide) (up_n (by decide) (up_s _ _ _)))))))) rfl rfl (nI_in' (k := 2) (by decide)) ((by decide : rowF 6 3 (Int32.toNatClampNeg 2) = some 8)) ?_
                                refine v_iload_n 0 dX0_init_90 rfl rfl ?_
                                refine v_iconst (v := -1) dX0_init_91 (by first | rfl | decide) ?_
                                refine v_iast dX0_init_92 (up_s _ _ _) (nI_in' (k := 1) (by decide)) ?_
                                refine v_hp (up_up _ _ _ _) ?_
                                refine v_iinc (v := 1) 0 dX0_init_93 rfl rfl (by decide) (fun z_ ez_ => ?_)
                                obtain rfl : z_ = 2 := by rw [ez_]; decide
                                refine v_ls (ls' := [(2, .int (2)), (1, .int (2)), (0, .ref 1)]) rfl ?_
                                refine v_goto (tgt := 79) dX0_init_96 (by decide) ?_
                                refine v_iload_n 0 dX0_init_79 rfl rfl ?_
                                refine v_iconst (v := 4) dX0_init_80 (by first | rfl | decide) ?_
                                refine v_icmp_ge (tgt := 99) dX0_init_81 (by decide) (fun hc81 => ?_) (fun hc81 => ?_)
                                · exact absurd hc81 (by decide)
                                ·
                                  refine v_aload_n 2 dX0_init_84 rfl rfl ?_
                                  refine v_get fl_X0_28 dX0_init_85 (up_n (by decide) (up_n (by decide) (up_n (by decide) (up_n (by decide) (up_s _ _ _))))) rfl ?_
                                  refine v_iload_n 1 dX0_init_88 rfl rfl ?_
                                  refine v_aald dX0_init_89 (up_n (by decide) (up_n (by decide) (up_n (by decide) (up_n (by decide) (up_n (by decide) (up_n (by decide) (up_n (by decide) (up_s _ _ _)))))))) rfl rfl (nI_in' (k := 2) (by decide)) ((by decide : rowF 6 3 (Int32.toNatClampNeg 2) = some 8)) ?_
                                  refine v_iload_n 0 dX0_init_90 rfl rfl ?_
                                  refine v_iconst (v := -1) dX0_init_91 (by first | rfl | decide) ?_
                                  refine v_iast dX0_init_92 (up_s _ _ _) (nI_in' (k := 2) (by decide)) ?_
                                  refine v_hp (up_up _ _ _ _) ?_
                                  refine v_iinc (v := 1) 0 dX0_init_93 rfl rfl (by decide) (fun z_ ez_ => ?_)
                                  obtain rfl : z_ = 3 := by rw [ez_]; decide
                                  refine v_ls (ls' := [(2, .int (3)), (1, .int (2)), (0, .ref 1)]) rfl ?_
                                  refine v_goto (tgt := 79) dX0_init_96 (by decide) ?_
                                  refine v_iload_n 0 dX0_init_79 rfl rfl ?_
                                  refine v_iconst (v := 4) dX0_init_80 (by first | rfl | decide) ?_
                                  refine v_icmp_ge (tgt := 99) dX0_init_81 (by decide) (fun hc81 => ?_) (fun hc81 => ?_)
                                  · exact absurd hc81 (by decide)
                                  ·
                                    refine v_aload_n 2 dX0_init_84 rfl rfl ?_
                                    refine v_get fl_X0_28 dX0_init_85 (up_n (by decide) (up_n (by decide) (up_n (by decide) (up_n (by decide) (up_s _ _ _))))) rfl ?_
                                    refine v_iload_n 1 dX0_init_88 rfl rfl ?_
                                    refine v_aald dX0_init_89 (up_n (by decide) (up_n (by decide) (up_n (by decide) (up_n (by decide) (up_n (by decide) (up_n (by decide) (up_n (by decide) (up_s _ _ _)))))))) rfl rfl (nI_in' (k := 2) (by decide)) ((by decide : rowF 6 3 (Int32.toNatClampNeg 2) = some 8)) ?_
                                    refine v_iload_n 0 dX0_init_90 rfl rfl ?_
                                    refine v_iconst (v := -1) dX0_init_91 (by first | rfl | decide) ?_
                                    refine v_iast dX0_init_92 (up_s _ _ _) (nI_in' (k := 3) (by decide)) ?_
                                    refine v_hp (up_up _ _ _ _) ?_
                                    refine v_iinc (v := 1) 0 dX0_init_93 rfl rfl (by decide) (fun z_ ez_ => ?_)
                                    obtain rfl : z_ = 4 := by rw [ez_]; decide
                                    refine v_ls (ls' := [(2, .int (4)), (1, .int (2)), (0, .ref 1)]) rfl ?_
                                    refine v_goto (tgt := 79) dX0_init_96 (by decide) ?_
                                    refine v_iload_n 0 dX0_init_79 rfl rfl ?_
                                    refine v_iconst (v := 4) dX0_init_80 (by first | rfl | decide) ?_
                                    refine v_icmp_ge (tgt := 99) dX0_init_81 (by decide) (fun hc81 => ?_) (fun hc81 => ?_)
                                    ·
                                      refine v_iinc (v := 1) 1 dX0_init_99 rfl rfl (by decide) (fun z_ ez_ => ?_)
                                      obtain rfl : z_ = 3 := by rw [ez_]; decide
                                      refine v_ls (ls' := [(1, .int (3)), (2, .int (4)), (0, .ref 1)]) rfl ?_
                                      refine v_goto (tgt := 72) dX0_init_102 (by decide) ?_
                                      refine v_iload_n 0 dX0_init_72 rfl rfl ?_
                                      refine v_iconst (v := 3) dX0_init_73 (by first | rfl | decide) ?_
                                      refine v_icmp_ge (tgt := 105) dX0_init_74 (by decide) (fun hc74 => ?_) (fun hc74 => ?_)
                                      ·
                                        refine v_nI (g := fun _ => -1) (up_n (by decide) (up_n (by decide) (up_s _ _ _))) (by decide) ?_
                                        refine v_nI (g := fun _ => -1) (up_n (by decide) (up_n (by decide) (up_s _ _ _))) (by decide) ?_
                                        refine v_nI (g := fun _ => -1) (up_n (by decide) (up_n (by decide) (up_s _ _ _))) (by decide) ?_
                                        refine v_nI (g := fun r => nI r) (up_n (by decide) (up_n (by decide) (up_n (by decide) (up_n (by decide) (up_n (by decide) (up_n (by decide) (up_n (by decide) (up_n (by decide) (up_s _ _ _))))))))) (by decide) ?_
                                        refine v_vret dX0_init_105 rfl ?_
                                        exact ⟨rfl, ⟨_, (up_n (by decide) (up_n (by decide) (up_n (by decide) (up_n (by decide) (up_n (by decide) (up_n (by decide) (up_n (by decide) (up_n (by decide) (up_s _ _ _))))))))), (up_n (by decide) (up_n (by decide) (up_n (by decide) (up_n (by decide) (up_n (by decide) (up_n (by decide) (up_n (by decide) (up_s _ _ _)))))))), (up_n (by decide) (up_n (by decide) (up_n (by decide) (up_n (by decide) (up_n (by decide) (up_n (by decide) (up_n (by decide) (up_n (by decide) (up_n (by decide) (up_n (by decide) (up_n (by decide) (up_n (by decide) (up_n (by decide) (up_n (by decide) (up_n (by decide) (up_n (by decide) (up_n (by decide) (up_n (by decide) (up_s _ _ _))))))))))))))))))), (up_n (by decide) (up_n (by decide) (up_n (by decide) (up_n (by decide) (up_n (by decide) (up_n (by decide) (up_n (by decide) (up_n (by decide) (up_n (by decide) (up_n (by decide) (up_n (by decide) (up_n (by decide) (up_n (by decide) (up_n (by decide) (up_n (by decide) (up_n (by decide) (up_s _ _ _))))))))))))))))), (up_n (by decide) (up_n (by decide) (up_n (by decide) (up_n (by decide) (up_n (by decide) (up_n (by decide) (up_n (by decide) (up_n (by decide) (up_n (by decide) (up_n (by decide) (up_n (by decide) (up_s _ _ _)))))))))))), (up_n (by decide) (up_n (by decide) (up_n (by decide) (up_s _ _ _)))), (up_n (by decide) (up_n (by decide) (up_s _ _ _))), (up_n (by decide) (up_s _ _ _)), (up_s _ _ _), fun j hj => absurd hj (Nat.not_lt_zero j)⟩, fun i hi => by repeat (first | rfl | refine up_n (by omega) ?_)⟩
                                      · exact absurd (by decide) hc74
                                    · exact absurd (by decide) hc81
                        · exact absurd (by decide) hc81
            · exact absurd (by decide) hc81

set_option maxRecDepth 20000 in
set_option maxHeartbeats 4000000 in
theorem c_X0_init_11 {G : Cx} (d : Nat) {μ : Hp} (h11 : μ 11 = some nu_X0) (hfree : ∀ k, 11 < k → k < 20 → μ k = none) : Ct G (d + 2) 8 39 M_X0_init [.ref 11] μ (fun r μ' => r = none ∧ Bn2 stB μ' ∧ ∀ i, i < 11 ∨ 19 < i → μ' i = μ i) := by
  refine Ct.ofV (by decide +kernel) (Nat.le_of_ble_eq_true rfl) ?_
  refine v_ls (ls' := [(0, .ref 11)]) rfl ?_
  refine v_aload_n 0 dX0_init_0 rfl rfl ?_
  refine v_obj cs_X0_3 dX0_init_1 (Nat.le_of_ble_eq_true rfl) ?_
  refine v_aload_n 0 dX0_init_4 rfl rfl ?_
  refine v_new_X1 (mc := 7) (ms := 34) 12 ck_X0_9 dX0_init_5 (by repeat (first | assumption | exact hfree _ (by decide) (by decide) | refine up_n (by decide) ?_)) (by decide) ?_
  refine v_dup dX0_init_8 rfl ?_
  refine v_callIN (c_X1_init d) cs_X0_11 dX0_init_9 rfl rfl (Nat.le_of_ble_eq_true rfl) ?_
  refine rt_k ?_
  refine v_putF fp_X0_12 rfl dX0_init_12 (up_n (by decide) h11) (Nat.le_of_ble_eq_true rfl) (by first | rfl | decide) (by first | rfl | decide) ?_
  refine v_aload_n 0 dX0_init_15 rfl rfl ?_
  refine v_bipush (v := 8) dX0_init_16 (by first | rfl | decide) ?_
  refine v_newI (mc := 6) (ms := 26) 13 8 (by decide) dX0_init_18 (by repeat (first | assumption | exact hfree _ (by decide) (by decide) | refine up_n (by decide) ?_)) (by decide) ?_
  refine v_putF fp_X0_18 rfl dX0_init_20 (up_n (by decide) (up_s _ _ _)) (Nat.le_of_ble_eq_true rfl) (by first | rfl | decide) (by first | rfl | decide) ?_
  refine v_aload_n 0 dX0_init_23 rfl rfl ?_
  refine v_bipush (v := 8) dX0_init_24 (by first | rfl | decide) ?_
  refine v_newF (mc := 5) (ms := 18) 14 8 (by decide) dX0_init_26 (by repeat (first | assumption | exact hfree _ (by decide) (by decide) | refine up_n (by decide) ?_)) (by decide) ?_
  refine v_putF fp_X0_22 rfl dX0_init_28 (up_n (by decide) (up_s _ _ _)) (Nat.le_of_ble_eq_true rfl) (by first | rfl | decide) (by first | rfl | decide) ?_
  refine v_aload_n 0 dX0_init_31 rfl rfl ?_
  refine v_iconst (v := 3) dX0_init_32 (by first | rfl | decide) ?_
  refine v_iconst (v := 4) dX0_init_33 (by first | rfl | decide) ?_
  refine v_mnI (mc := 1) (ms := 3) 15 4 (by decide) ck_I2 dX0_init_34 (by repeat (first | assumption | exact hfree _ (by decide) (by decide) | refine up_n (by decide) ?_)) (by repeat (first | assumption | exact hfree _ (by decide) (by decide) | refine up_n (by decide) ?_)) (by repeat (first | assumption | exact hfree _ (by decide) (by decide) | refine up_n (by decide) ?_)) (by repeat (first | assumption | exact hfree _ (by decide) (by decide) | refine up_n (by decide) ?_)) (by decide) ?_
  refine v_hp (show _ = up (up (up (up _ 16 _) 17 _) 18 _) 15 _ from rfl) ?_
  refine v_putF fp_X0_28 rfl dX0_init_38 (up_n (by decide) (up_n (by decide) (up_n (by decide) (up_n (by decide) (up_s _ _ _))))) (Nat.le_of_ble_eq_true rfl) (by first | rfl | decide) (by first | rfl | decide) ?_
  refine v_aload_n 0 dX0_init_41 rfl rfl ?_
  refine v_iconst (v := 3) dX0_init_42 (by first | rfl | decide) ?_
  refine v_newI (mc := 0) (ms := 0) 19 3 (by decide) dX0_init_43 (by repeat (first | assumption | exact hfree _ (by decide) (by decide) | refine up_n (by decide) ?_)) (by decide) ?_
  refine v_dup dX0_init_45 rfl ?_
  refine v_iconst (v := 0) dX0_init_46 (by first | rfl | decide) ?_
  refine v_iconst (v := 0) dX0_init_47 (by first | rfl | decide) ?_
  refine v_iast dX0_init_48 (up_s _ _ _) (nI_in' (k := 0) (by decide)) ?_
  refine v_hp (up_up _ _ _ _) ?_
  refine v_dup dX0_init_49 rfl ?_
  refine v_iconst (v := 1) dX0_init_50 (by first | rfl | decide) ?_
  refine v_iconst (v := 1) dX0_init_51 (by first | rfl | decide) ?_
  refine v_iast dX0_init_52 (up_s _ _ _) (nI_in' (k := 1) (by decide)) ?_
  refine v_hp (up_up _ _ _ _) ?_
  refine v_dup dX0_init_53 rfl ?_
  refine v_iconst (v := 2) dX0_init_54 (by first | rfl | decide) ?_
  refine v_iconst (v := 2) dX0_init_55 (by first | rfl | decide) ?_
  refine v_iast dX0_init_56 (up_s _ _ _) (nI_in' (k := 2) (by decide)) ?_
  refine v_hp (up_up _ _ _ _) ?_
  refine v_putF fp_X0_31 rfl dX0_init_57 (up_n (by decide) (up_s _ _ _)) (Nat.le_of_ble_eq_true rfl) (by first | rfl | decide) (by first | rfl | decide) ?_
  refine v_aload_n 0 dX0_init_60 rfl rfl ?_
  refine v_get fl_X0_12 dX0_init_61 (up_s _ _ _) rfl ?_
  refine v_ldc2 kc_X0_34 dX0_init_64 ?_
  refine v_put fp_X0_36 dX0_init_67 (up_n (by decide) (up_n (by decide) (up_n (by decide) (up_n (by decide) (up_n (by decide) (up_n (by decide) (up_n (by decide) (up_n (by decide) (up_n (by decide) (up_n (by decide) (up_n (by decide) (up_n (by decide) (up_s _ _ _))))))))))))) (Nat.le_of_ble_eq_true rfl) (by first | rfl | decide) (by first | rfl | decide) ?_
  refine v_iconst (v := 0) dX0_init_70 (by first | rfl | decide) ?_
  refine v_istore_n dX0_init_71 rfl (by decide) (fun x1_1 e_x1_1 => ?_)
  refine v_ls (ls' := [(1, .int x1_1), (0, .ref 11)]) rfl ?_
  subst e_x1_1
  refine v_iload_n 0 dX0_init_72 rfl rfl ?_
  refine v_iconst (v := 3) dX0_init_73 (by first | rfl | decide) ?_
  refine v_icmp_ge (tgt := 105) dX0_init_74 (by decide) (fun hc74 => ?_) (fun hc74 => ?_)
  · exact absurd hc74 (by decide)
  ·
    refine v_iconst (v := 0) dX0_init_77 (by first | rfl | decide) ?_
    refine v_istore_n dX0_init_78 rfl (by decide) (fun x2_1 e_x2_1 => ?_)
    refine v_ls (ls' := [(2, .int x2_1), (1, .int (0)), (0, .ref 11)]) rfl ?_
    subst e_x2_1
    refine v_iload_n 0 dX0_init_79 rfl rfl ?_
    refine v_iconst (v := 4) dX0_init_80 (by first | rfl | decide) ?_
    refine v_icmp_ge (tgt := 99) dX0_init_81 (by decide) (fun hc81 => ?_) (fun hc81 => ?_)
    · exact absurd hc81 (by decide)
    ·
      refine v_aload_n 2 dX0_init_84 rfl rfl ?_
      refine v_get fl_X0_28 dX0_init_85 (up_n (by decide) (up_s _ _ _)) rfl ?_
      refine v_iload_n 1 dX0_init_88 rfl rfl ?_
      refine v_aald dX0_init_89 (up_n (by decide) (up_n (by decide) (up_n (by decide) (up_n (by decide) (up_s _ _ _))))) rfl rfl (nI_in' (k := 0) (by decide)) ((by decide : rowF 16 3 (Int32.toNatClampNeg 0) = some 16)) ?_
      refine v_iload_n 0 dX0_init_90 rfl rfl ?_
      refine v_iconst (v := -1) dX0_init_91 (by first | rfl | decide) ?_
      refine v_iast dX0_init_92 (up_n (by decide) (up_n (by decide) (up_n (by decide) (up_n (by decide) (up_n (by decide) (up_n (by decide) (up_n (by decide) (up_s _ _ _)))))))) (nI_in' (k := 0) (by decide)) ?_
      refine v_iinc (v := 1) 0 dX0_init_93 rfl rfl (by decide) (fun z_ ez_ => ?_)
      obtain rfl : z_ = 1 := by rw [ez_]; decide
      refine v_ls (ls' := [(2, .int (1)), (1, .int (0)), (0, .ref 11)]) rfl ?_
      refine v_goto (tgt := 79) dX0_init_96 (by decide) ?_
      refine v_iload_n 0 dX0_init_79 rfl rfl ?_
      refine v_iconst (v := 4) dX0_init_80 (by first | rfl | decide) ?_
      refine v_icmp_ge (tgt := 99) dX0_init_81 (by decide) (fun hc81 => ?_) (fun hc81 => ?_)
      · exact absurd hc81 (by decide)
      ·
        refine v_aload_n 2 dX0_init_84 rfl rfl ?_
        refine v_get fl_X0_28 dX0_init_85 (up_n (by decide) (up_n (by decide) (up_s _ _ _))) rfl ?_
        refine v_iload_n 1 dX0_init_88 rfl rfl ?_
        refine v_aald dX0_init_89 (up_n (by decide) (up_n (by decide) (up_n (by decide) (up_n (by decide) (up_n (by decide) (up_s _ _ _)))))) rfl rfl (nI_in' (k := 0) (by decide)) ((by decide : rowF 16 3 (Int32.toNatClampNeg 0) = some 16)) ?_
        refine v_iload_n 0 dX0_init_90 rfl rfl ?_
        refine v_iconst (v := -1) dX0_init_91 (by first | rfl | decide) ?_
        refine v_iast dX0_init_92 (up_s _ _ _) (nI_in' (k := 1) (by decide)) ?_
        refine v_hp (up_up _ _ _ _) ?_
        refine v_iinc (v := 1) 0 dX0_init_93 rfl rfl (by decide) (fun z_ ez_ => ?_)
        obtain rfl : z_ = 2 := by rw [ez_]; decide
        refine v_ls (ls' := [(2, .int (2)), (1, .int (0)), (0, .ref 11)]) rfl ?_
        refine v_goto (tgt := 79) dX0_init_96 (by decide) ?_
        refine v_iload_n 0 dX0_init_79 rfl rfl ?_
        refine v_iconst (v := 4) dX0_init_80 (by first | rfl | decide) ?_
        refine v_icmp_ge (tgt := 99) dX0_init_81 (by decide) (fun hc81 => ?_) (fun hc81 => ?_)
        · exact absurd hc81 (by decide)
        ·
          refine v_aload_n 2 dX0_init_84 rfl rfl ?_
          refine v_get fl_X0_28 dX0_init_85 (up_n (by decide) (up_n (by decide) (up_s _ _ _))) rfl ?_
          refine v_iload_n 1 dX0_init_88 rfl rfl ?_
          refine v_aald dX0_init_89 (up_n (by decide) (up_n (by decide) (up_n (by decide) (up_n (by decide) (up_n (by decide) (up_s _ _ _)))))) rfl rfl (nI_in' (k := 0) (by decide)) ((by decide : rowF 16 3 (Int32.toNatClampNeg 0) = some 16)) ?_
          refine v_iload_n 0 dX0_init_90 rfl rfl ?_
          refine v_iconst (v := -1) dX0_init_91 (by first | rfl | decide) ?_
          refine v_iast dX0_init_92 (up_s _ _ _) (nI_in' (k := 2) (by decide)) ?_
          refine v_hp (up_up _ _ _ _) ?_
          refine v_iinc (v := 1) 0 dX0_init_93 rfl rfl (by decide) (fun z_ ez_ => ?_)
          obtain rfl : z_ = 3 := by rw [ez_]; decide
          refine v_ls (ls' := [(2, .int (3)), (1, .int (0)), (0, .ref 11)]) rfl ?_
          refine v_goto (tgt := 79) dX0_init_96 (by decide) ?_
          refine v_iload_n 0 dX0_init_79 rfl rfl ?_
          refine v_iconst (v := 4) dX0_init_80 (by first | rfl | decide) ?_
          refine v_icmp_ge (tgt := 99) dX0_init_81 (by decide) (fun hc81 => ?_) (fun hc81 => ?_)
          · exact absurd hc81 (by decide)
          ·
            refine v_aload_n 2 dX0_init_84 rfl rfl ?_
            refine v_get fl_X0_28 dX0_init_85 (up_n (by decide) (up_n (by decide) (up_s _ _ _))) rfl ?_
            refine v_iload_n 1 dX0_init_88 rfl rfl ?_
            refine v_aald dX0_init_89 (up_n (by decide) (up_n (by decide) (up_n (by decide) (up_n (by decide) (up_n (by decide) (up_s _ _ _)))))) rfl rfl (nI_in' (k := 0) (by decide)) ((by decide : rowF 16 3 (Int32.toNatClampNeg 0) = some 16)) ?_
            refine v_iload_n 0 dX0_init_90 rfl rfl ?_
            refine v_iconst (v := -1) dX0_init_91 (by first | rfl | decide) ?_
            refine v_iast dX0_init_92 (up_s _ _ _) (nI_in' (k := 3) (by decide)) ?_
            refine v_hp (up_up _ _ _ _) ?_
            refine v_iinc (v := 1) 0 dX0_init_93 rfl rfl (by decide) (fun z_ ez_ => ?_)
            obtain rfl : z_ = 4 := by rw [ez_]; decide
            refine v_ls (ls' := [(2, .int (4)), (1, .int (0)), (0, .ref 11)]) rfl ?_
            refine v_goto (tgt := 79) dX0_init_96 (by decide) ?_
            refine v_iload_n 0 dX0_init_79 rfl rfl ?_
            refine v_iconst (v := 4) dX0_init_80 (by first | rfl | decide) ?_
            refine v_icmp_ge (tgt := 99) dX0_init_81 (by decide) (fun hc81 => ?_) (fun hc81 => ?_)
            ·
              refine v_iinc (v := 1) 1 dX0_init_99 rfl rfl (by decide) (fun z_ ez_ => ?_)
              obtain rfl : z_ = 1 := by rw [ez_]; decide
              refine v_ls (ls' := [(1, .int (1)), (2, .int (4)), (0, .ref 11)]) rfl ?_
              refine v_goto (tgt := 72) dX0_init_102 (by decide) ?_
              refine v_iload_n 0 dX0_init_72 rfl rfl ?_
              refine v_iconst (v := 3) dX0_init_73 (by first | rfl | decide) ?_
              refine v_icmp_ge (tgt := 105) dX0_init_74 (by decide) (fun hc74 => ?_) (fun hc74 => ?_)
              · exact absurd hc74 (by decide)
              ·
                refine v_iconst (v := 0) dX0_init_77 (by first | rfl | decide) ?_
                refine v_istore_n dX0_init_78 rfl (by decide) (fun x2_6 e_x2_6 => ?_)
                refine v_ls (ls' := [(2, .int x2_6), (1, .int (1)), (0, .ref 11)]) rfl ?_
                subst e_x2_6
                refine v_iload_n 0 dX0_init_79 rfl rfl ?_
                refine v_iconst (v := 4) dX0_init_80 (by first | rfl | decide) ?_
                refine v_icmp_ge (tgt := 99) dX0_init_81 (by decide) (fun hc81 => ?_) (fun hc81 => ?_)
                · exact absurd hc81 (by decide)
                ·
                  refine v_aload_n 2 dX0_init_84 rfl rfl ?_
                  refine v_get fl_X0_28 dX0_init_85 (up_n (by decide) (up_n (by decide) (up_s _ _ _))) rfl ?_
                  refine v_iload_n 1 dX0_init_88 rfl rfl ?_
                  refine v_aald dX0_init_89 (up_n (by decide) (up_n (by decide) (up_n (by decide) (up_n (by decide) (up_n (by decide) (up_s _ _ _)))))) rfl rfl (nI_in' (k := 1) (by decide)) ((by decide : rowF 16 3 (Int32.toNatClampNeg 1) = some 17)) ?_
                  refine v_iload_n 0 dX0_init_90 rfl rfl ?_
                  refine v_iconst (v := -1) dX0_init_91 (by first | rfl | decide) ?_
                  refine v_iast dX0_init_92 (up_n (by decide) (up_n (by decide) (up_n (by decide) (up_n (by decide) (up_n (by decide) (up_n (by decide) (up_n (by decide) (up_s _ _ _)))))))) (nI_in' (k := 0) (by decide)) ?_
                  refine v_iinc (v := 1) 0 dX0_init_93 rfl rfl (by decide) (fun z_ ez_ => ?_)
                  obtain rfl : z_ = 1 := by rw [ez_]; decide
                  refine v_ls (ls' := [(2, .int (1)), (1, .int (1)), (0, .ref 11)]) rfl ?_
                  refine v_goto (tgt := 79) dX0_init_96 (by decide) ?_
                  refine v_iload_n 0 dX0_init_79 rfl rfl ?_
                  refine v_iconst (v := 4) dX0_init_80 (by first | rfl | decide) ?_
                  refine v_icmp_ge (tgt := 99) dX0_init_81 (by decide) (fun hc81 => ?_) (fun hc81 => ?_)
                  · exact absurd hc81 (by decide)
                  ·
                    refine v_aload_n 2 dX0_init_84 rfl rfl ?_
                    refine v_get fl_X0_28 dX0_init_85 (up_n (by decide) (up_n (by decide) (up_n (by decide) (up_s _ _ _)))) rfl ?_
                    refine v_iload_n 1 dX0_init_88 rfl rfl ?_
                    refine v_aald dX0_init_89 (up_n (by decide) (up_n (by decide) (up_n (by decide) (up_n (by decide) (up_n (by decide) (up_n (by decide) (up_s _ _ _))))))) rfl rfl (nI_in' (k := 1) (by decide)) ((by decide : rowF 16 3 (Int32.toNatClampNeg 1) = some 17)) ?_
                    refine v_iload_n 0 dX0_init_90 rfl rfl ?_
                    refine v_iconst (v := -1) dX0_init_91 (by first | rfl | decide) ?_
                    refine v_iast dX0_init_92 (up_s _ _ _) (nI_in' (k := 1) (by decide)) ?_
                    refine v_hp (up_up _ _ _ _) ?_
                    refine v_iinc (v := 1) 0 dX0_init_93 rfl rfl (by decide) (fun z_ ez_ => ?_)
                    obtain rfl : z_ = 2 := by rw [ez_]; decide
                    refine v_ls (ls' := [(2, .int (2)), (1, .int (1)), (0, .ref 11)]) rfl ?_
                    refine v_goto (tgt := 79) dX0_init_96 (by decide) ?_
                    refine v_iload_n 0 dX0_init_79 rfl rfl ?_
                    refine v_iconst (v := 4) dX0_init_80 (by first | rfl | decide) ?_
                    refine v_icmp_ge (tgt := 99) dX0_init_81 (by decide) (fun hc81 => ?_) (fun hc81 => ?_)
                    · exact absurd hc81 (by decide)
                    ·
                      refine v_aload_n 2 dX0_init_84 rfl rfl ?_
                      refine v_get fl_X0_28 dX0_init_85 (up_n (by decide) (up_n (by decide) (up_n (by decide) (up_s _ _ _)))) rfl ?_
                      refine v_iload_n 1 dX0_init_88 rfl rfl ?_
                      refine v_aald dX0_init_89 (up_n (by decide) (up_n (by decide) (up_n (by decide) (up_n (by decide) (up_n (by decide) (up_n (by decide) (up_s _ _ _))))))) rfl rfl (nI_in' (k := 1) (by decide)) ((by decide : rowF 16 3 (Int32.toNatClampNeg 1) = some 17)) ?_
                      refine v_iload_n 0 dX0_init_90 rfl rfl ?_
                      refine v_iconst (v := -1) dX0_init_91 (by first | rfl | decide) ?_
                      refine v_iast dX0_init_92 (up_s _ _ _) (nI_in' (k := 2) (by decide)) ?_
                      refine v_hp (up_up _ _ _ _) ?_
                      refine v_iinc (v := 1) 0 dX0_init_93 rfl rfl (by decide) (fun z_ ez_ => ?_)
                      obtain rfl : z_ = 3 := by rw [ez_]; decide
                      refine v_ls (ls' := [(2, .int (3)), (1, .int (1)), (0, .ref 11)]) rfl ?_
                      refine v_goto (tgt := 79) dX0_init_96 (by decide) ?_
                      refine v_iload_n 0 dX0_init_79 rfl rfl ?_
                      refine v_iconst (v := 4) dX0_init_80 (by first | rfl | decide) ?_
                      refine v_icmp_ge (tgt := 99) dX0_init_81 (by decide) (fun hc81 => ?_) (fun hc81 => ?_)
                      · exact absurd hc81 (by decide)
                      ·
                        refine v_aload_n 2 dX0_init_84 rfl rfl ?_
                        refine v_get fl_X0_28 dX0_init_85 (up_n (by decide) (up_n (by decide) (up_n (by decide) (up_s _ _ _)))) rfl ?_
                        refine v_iload_n 1 dX0_init_88 rfl rfl ?_
                        refine v_aald dX0_init_89 (up_n (by decide) (up_n (by decide) (up_n (by decide) (up_n (by decide) (up_n (by decide) (up_n (by decide) (up_s _ _ _))))))) rfl rfl (nI_in' (k := 1) (by decide)) ((by decide : rowF 16 3 (Int32.toNatClampNeg 1) = some 17)) ?_
                        refine v_iload_n 0 dX0_init_90 rfl rfl ?_
                        refine v_iconst (v := -1) dX0_init_91 (by first | rfl | decide) ?_
                        refine v_iast dX0_init_92 (up_s _ _ _) (nI_in' (k := 3) (by decide)) ?_
                        refine v_hp (up_up _ _ _ _) ?_
                        refine v_iinc (v := 1) 0 dX0_init_93 rfl rfl (by decide) (fun z_ ez_ => ?_)
                        obtain rfl : z_ = 4 := by rw [ez_]; decide
                        refine v_ls (ls' := [(2, .int (4)), (1, .int (1)), (0, .ref 11)]) rfl ?_
                        refine v_goto (tgt := 79) dX0_init_96 (by decide) ?_
                        refine v_iload_n 0 dX0_init_79 rfl rfl ?_
                        refine v_iconst (v := 4) dX0_init_80 (by first | rfl | decide) ?_
                        refine v_icmp_ge (tgt := 99) dX0_init_81 (by decide) (fun hc81 => ?_) (fun hc81 => ?_)
                        ·
                          refine v_iinc (v := 1) 1 dX0_init_99 rfl rfl (by decide) (fun z_ ez_ => ?_)
                          obtain rfl : z_ = 2 := by rw [ez_]; decide
                          refine v_ls (ls' := [(1, .int (2)), (2, .int (4)), (0, .ref 11)]) rfl ?_
                          refine v_goto (tgt := 72) dX0_init_102 (by decide) ?_
                          refine v_iload_n 0 dX0_init_72 rfl rfl ?_
                          refine v_iconst (v := 3) dX0_init_73 (by first | rfl | decide) ?_
                          refine v_icmp_ge (tgt := 105) dX0_init_74 (by decide) (fun hc74 => ?_) (fun hc74 => ?_)
                          · exact absurd hc74 (by decide)
                          ·
                            refine v_iconst (v := 0) dX0_init_77 (by first | rfl | decide) ?_
                            refine v_istore_n dX0_init_78 rfl (by decide) (fun x2_11 e_x2_11 => ?_)
                            refine v_ls (ls' := [(2, .int x2_11), (1, .int (2)), (0, .ref 11)]) rfl ?_
                            subst e_x2_11
                            refine v_iload_n 0 dX0_init_79 rfl rfl ?_
                            refine v_iconst (v := 4) dX0_init_80 (by first | rfl | decide) ?_
                            refine v_icmp_ge (tgt := 99) dX0_init_81 (by decide) (fun hc81 => ?_) (fun hc81 => ?_)
                            · exact absurd hc81 (by decide)
                            ·
                              refine v_aload_n 2 dX0_init_84 rfl rfl ?_
                              refine v_get fl_X0_28 dX0_init_85 (up_n (by decide) (up_n (by decide) (up_n (by decide) (up_s _ _ _)))) rfl ?_
                              refine v_iload_n 1 dX0_init_88 rfl rfl ?_
                              refine v_aald dX0_init_89 (up_n (by decide) (up_n (by decide) (up_n (by decide) (up_n (by decide) (up_n (by decide) (up_n (by decide) (up_s _ _ _))))))) rfl rfl (nI_in' (k := 2) (by decide)) ((by decide : rowF 16 3 (Int32.toNatClampNeg 2) = some 18)) ?_
                              refine v_iload_n 0 dX0_init_90 rfl rfl ?_
                              refine v_iconst (v := -1) dX0_init_91 (by first | rfl | decide) ?_
                              refine v_iast dX0_init_92 (up_n (by decide) (up_n (by decide) (up_n (by decide) (up_n (by decide) (up_n (by decide) (up_n (by decide) (up_n (by decide) (up_s _ _ _)))))))) (nI_in' (k := 0) (by decide)) ?_
                              refine v_iinc (v := 1) 0 dX0_init_93 rfl rfl (by decide) (fun z_ ez_ => ?_)
                              obtain rfl : z_ = 1 := by rw [ez_]; decide
                              refine v_ls (ls' := [(2, .int (1)), (1, .int (2)), (0, .ref 11)]) rfl ?_
                              refine v_goto (tgt := 79) dX0_init_96 (by decide) ?_
                              refine v_iload_n 0 dX0_init_79 rfl rfl ?_
                              refine v_iconst (v := 4) dX0_init_80 (by first | rfl | decide) ?_
                              refine v_icmp_ge (tgt := 99) dX0_init_81 (by decide) (fun hc81 => ?_) (fun hc81 => ?_)
                              · exact absurd hc81 (by decide)
                              ·
                                refine v_aload_n 2 dX0_init_84 rfl rfl ?_
                                refine v_get fl_X0_28 dX0_init_85 (up_n (by decide) (up_n (by decide) (up_n (by decide) (up_n (by decide) (up_s _ _ _))))) rfl ?_
                                refine v_iload_n 1 dX0_init_88 rfl rfl ?_
                                refine v_aald dX0_init_89 (up_n (by decide) (up_n (by decide) (up_n (by decide) (up_n (by decide) (up_n (by decide) (up_n (by decide) (up_n (by decide) (up_s _ _ _)))))))) rfl rfl (nI_in' (k := 2) (by decide)) ((by decide : rowF 16 3 (Int32.toNatClampNeg 2) = some 18)) ?_
                                refine v_iload_n 0 dX0_init_90 rfl rfl ?_
                                refine v_iconst (v := -1) dX0_init_91 (by first | rfl | decide) ?_
                                refine v_iast dX0_init_92 (up_s _ _ _) (nI_in' (k := 1) (by decide)) ?_
                                refine v_hp (up_up _ _ _ _) ?_
                                refine v_iinc (v := 1) 0 dX0_init_93 rfl rfl (by decide) (fun z_ ez_ => ?_)
                                obtain rfl : z_ = 2 := by rw [ez_]; decide
                                refine v_ls (ls' := [(2, .int (2)), (1, .int (2)), (0, .ref 11)]) rfl ?_
                                refine v_goto (tgt := 79) dX0_init_96 (by decide) ?_
                                refine v_iload_n 0 dX0_init_79 rfl rfl ?_
                                refine v_iconst (v := 4) dX0_init_80 (by first | rfl | decide) ?_
                                refine v_icmp_ge (tgt := 99) dX0_init_81 (by decide) (fun hc81 => ?_) (fun hc81 => ?_)
                                · exact absurd hc81 (by decide)
                                ·
                                  refine v_aload_n 2 dX0_init_84 rfl rfl ?_
                                  refine v_get fl_X0_28 dX0_init_85 (up_n (by decide) (up_n (by decide) (up_n (by decide) (up_n (by decide) (up_s _ _ _))))) rfl ?_
                                  refine v_iload_n 1 dX0_init_88 rfl rfl ?_
                                  refine v_aald dX0_init_89 (up_n (by decide) (up_n (by decide) (up_n (by decide) (up_n (by decide) (up_n (by decide) (up_n (by decide) (up_n (by decide) (up_s _ _ _)))))))) rfl rfl (nI_in' (k := 2) (by decide)) ((by decide : rowF 16 3 (Int32.toNatClampNeg 2) = some 18)) ?_
                                  refine v_iload_n 0 dX0_init_90 rfl rfl ?_
                                  refine v_iconst (v := -1) dX0_init_91 (by first | rfl | decide) ?_
                                  refine v_iast dX0_init_92 (up_s _ _ _) (nI_in' (k := 2) (by decide)) ?_
                                  refine v_hp (up_up _ _ _ _) ?_
                                  refine v_iinc (v := 1) 0 dX0_init_93 rfl rfl (by decide) (fun z_ ez_ => ?_)
                                  obtain rfl : z_ = 3 := by rw [ez_]; decide
                                  refine v_ls (ls' := [(2, .int (3)), (1, .int (2)), (0, .ref 11)]) rfl ?_
                                  refine v_goto (tgt := 79) dX0_init_96 (by decide) ?_
                                  refine v_iload_n 0 dX0_init_79 rfl rfl ?_
                                  refine v_iconst (v := 4) dX0_init_80 (by first | rfl | decide) ?_
                                  refine v_icmp_ge (tgt := 99) dX0_init_81 (by decide) (fun hc81 => ?_) (fun hc81 => ?_)
                                  · exact absurd hc81 (by decide)
                                  ·
                                    refine v_aload_n 2 dX0_init_84 rfl rfl ?_
                                    refine v_get fl_X0_28 dX0_init_85 (up_n (by decide) (up_n (by decide) (up_n (by decide) (up_n (by decide) (up_s _ _ _))))) rfl ?_
                                    refine v_iload_n 1 dX0_init_88 rfl rfl ?_
                                    refine v_aald dX0_init_89 (up_n (by decide) (up_n (by decide) (up_n (by decide) (up_n (by decide) (up_n (by decide) (up_n (by decide) (up_n (by decide) (up_s _ _ _)))))))) rfl rfl (nI_in' (k := 2) (by decide)) ((by decide : rowF 16 3 (Int32.toNatClampNeg 2) = some 18)) ?_
                                    refine v_iload_n 0 dX0_init_90 rfl rfl ?_
                                    refine v_iconst (v := -1) dX0_init_91 (by first | rfl | decide) ?_
                                    refine v_iast dX0_init_92 (up_s _ _ _) (nI_in' (k := 3) (by decide)) ?_
                                    refine v_hp (up_up _ _ _ _) ?_
                                    refine v_iinc (v := 1) 0 dX0_init_93 rfl rfl (by decide) (fun z_ ez_ => ?_)
                                    obtain rfl : z_ = 4 := by rw [ez_]; decide
                                    refine v_ls (ls' := [(2, .int (4)), (1, .int (2)), (0, .ref 11)]) rfl ?_
                                    refine v_goto (tgt := 79) dX0_init_96 (by decide) ?_
                                    refine v_iload_n 0 dX0_init_79 rfl rfl ?_
                                    refine v_iconst (v := 4) dX0_init_80 (by first | rfl | decide) ?_
                                    refine v_icmp_ge (tgt := 99) dX0_init_81 (by decide) (fun hc81 => ?_) (fun hc81 => ?_)
                                    ·
                                      refine v_iinc (v := 1) 1 dX0_init_99 rfl rfl (by decide) (fun z_ ez_ => ?_)
                                      obtain rfl : z_ = 3 := by rw [ez_]; decide
                                      refine v_ls (ls' := [(1, .int (3)), (2, .int (4)), (0, .ref 11)]) rfl ?_
                                      refine v_goto (tgt := 72) dX0_init_102 (by decide) ?_
                                      refine v_iload_n 0 dX0_init_72 rfl rfl ?_
                                      refine v_iconst (v := 3) dX0_init_73 (by first | rfl | decide) ?_
                                      refine v_icmp_ge (tgt := 105) dX0_init_74 (by decide) (fun hc74 => ?_) (fun hc74 => ?_)
                                      ·
                                        refine v_nI (g := fun _ => -1) (up_n (by decide) (up_n (by decide) (up_s _ _ _))) (by decide) ?_
                                        refine v_nI (g := fun _ => -1) (up_n (by decide) (up_n (by decide) (up_s _ _ _))) (by decide) ?_
                                        refine v_nI (g := fun _ => -1) (up_n (by decide) (up_n (by decide) (up_s _ _ _))) (by decide) ?_
                                        refine v_nI (g := fun r => nI r) (up_n (by decide) (up_n (by decide) (up_n (by decide) (up_n (by decide) (up_n (by decide) (up_n (by decide) (up_n (by decide) (up_n (by decide) (up_s _ _ _))))))))) (by decide) ?_
                                        refine v_vret dX0_init_105 rfl ?_
                                        exact ⟨rfl, ⟨_, (up_n (by decide) (up_n (by decide) (up_n (by decide) (up_n (by decide) (up_n (by decide) (up_n (by decide) (up_n (by decide) (up_n (by decide) (up_s _ _ _))))))))), (up_n (by decide) (up_n (by decide) (up_n (by decide) (up_n (by decide) (up_n (by decide) (up_n (by decide) (up_n (by decide) (up_s _ _ _)))))))), (up_n (by decide) (up_n (by decide) (up_n (by decide) (up_n (by decide) (up_n (by decide) (up_n (by decide) (up_n (by decide) (up_n (by decide) (up_n (by decide) (up_n (by decide) (up_n (by decide) (up_n (by decide) (up_n (by decide) (up_n (by decide) (up_n (by decide) (up_n (by decide) (up_n (by decide) (up_n (by decide) (up_s _ _ _))))))))))))))))))), (up_n (by decide) (up_n (by decide) (up_n (by decide) (up_n (by decide) (up_n (by decide) (up_n (by decide) (up_n (by decide) (up_n (by decide) (up_n (by decide) (up_n (by decide) (up_n (by decide) (up_n (by decide) (up_n (by decide) (up_n (by decide) (up_n (by decide) (up_n (by decide) (up_s _ _ _))))))))))))))))), (up_n (by decide) (up_n (by decide) (up_n (by decide) (up_n (by decide) (up_n (by decide) (up_n (by decide) (up_n (by decide) (up_n (by decide) (up_n (by decide) (up_n (by decide) (up_n (by decide) (up_s _ _ _)))))))))))), (up_n (by decide) (up_n (by decide) (up_n (by decide) (up_s _ _ _)))), (up_n (by decide) (up_n (by decide) (up_s _ _ _))), (up_n (by decide) (up_s _ _ _)), (up_s _ _ _), fun j hj => absurd hj (Nat.not_lt_zero j)⟩, fun i hi => by repeat (first | rfl | refine up_n (by omega) ?_)⟩
                                      · exact absurd (by decide) hc74
                                    · exact absurd (by decide) hc81
                        · exact absurd (by decide) hc81
            · exact absurd (by decide) hc81

