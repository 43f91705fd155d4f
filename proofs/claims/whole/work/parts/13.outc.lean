abbrev troC (n : Int32) : va_E := .inr (6, [.ref 30, .ref 31, .int n])
abbrev outC (lm mm n : Int32) : va_E := .inr (4, [.ref 33, .ref 34, .int lm, .int mm, .int n, .ref 35, .ref 36])
/-- row j of what was seen is L -/
def rowIs (s : Nat → Int64) (j : Nat) (L : LT) : Prop := s (5 * j) = L.1 ∧ s (5 * j + 1) = L.2.1 ∧ s (5 * j + 2) = L.2.2.1 ∧ s (5 * j + 3) = L.2.2.2.1 ∧ s (5 * j + 4) = L.2.2.2.2.toInt64
theorem ix5 {j k : Nat} (hj : j < 120) (hk : k < 5) : nI j * 5 + nI k = nI (5 * j + k) := by
  rw [show (5 : Int32) = nI 5 from rfl, pk_mul, nI_add, Nat.mul_comm]
theorem part0 (L : LT) : partO L 0 = L.1 := rfl
theorem part1 (L : LT) : partO L 1 = L.2.1 := rfl
theorem part2 (L : LT) : partO L 2 = L.2.2.1 := rfl
theorem part3 (L : LT) : partO L 3 = L.2.2.2.1 := rfl
theorem part4 (L : LT) : partO L 4 = L.2.2.2.2.toInt64 := rfl
theorem i64_inj {a b : Int32} (h : a.toInt64 = b.toInt64) : a = b := by
  have := congrArg Int64.toInt h
  rw [Int32.toInt_toInt64, Int32.toInt_toInt64] at this
  exact Int32.toInt_inj.mp this
theorem rowIs_inj {s : Nat → Int64} {j : Nat} {L K : LT} (h : rowIs s j L) (h2 : rowIs s j K) : L = K := by
  obtain ⟨a1, a2, a3, a4, a5⟩ := h
  obtain ⟨b1, b2, b3, b4, b5⟩ := h2
  obtain ⟨l1, l2, l3, l4, l5⟩ := L
  obtain ⟨k1, k2, k3, k4, k5⟩ := K
  simp only at a1 a2 a3 a4 a5 b1 b2 b3 b4 b5
  rw [← a1, ← a2, ← a3, ← a4, i64_inj (a5.symm.trans b5)]
  rw [b1, b2, b3, b4]
set_option maxRecDepth 20000 in
set_option maxHeartbeats 4000000 in
theorem c_X5_forget {G : Cx} (d : Nat) {μ : Hp} {n : Int32} (h29 : μ 29 = some (troC n)) : Ct G (d) 0 0 M_X5_forget [.ref 29] μ (Rt none (up μ 29 (troC 0))) := by
  refine Ct.ofV (by decide +kernel) (Nat.le_of_ble_eq_true rfl) ?_
  refine v_ls (ls' := [(0, .ref 29)]) rfl ?_
  refine v_aload_n 0 dX5_forget_0 rfl rfl ?_
  refine v_iconst (v := 0) dX5_forget_1 (by first | rfl | decide) ?_
  refine v_put fp_X5_18 dX5_forget_2 h29 (Nat.le_of_ble_eq_true rfl) (by first | rfl | decide) (by first | rfl | decide) ?_
  refine v_vret dX5_forget_5 rfl ?_
  exact ⟨rfl, rfl⟩

set_option maxRecDepth 20000 in
set_option maxHeartbeats 4000000 in
theorem c_X5_note {G : Cx} (d : Nat) {μ : Hp} {k : Nat} {f g : Nat → Int32} {x y : Int32} (h29 : μ 29 = some (troC (nI k))) (h30 : μ 30 = some (arI 4 f)) (h31 : μ 31 = some (arI 4 g)) (hk : k < 4) : Ct G (d) 0 0 M_X5_note [.ref 29, .int x, .int y] μ (Rt none (up (up (up μ 30 (arI 4 (upd f k x))) 31 (arI 4 (upd g k y))) 29 (troC (nI (k + 1))))) := by
  refine Ct.ofV (by decide +kernel) (Nat.le_of_ble_eq_true rfl) ?_
  refine v_ls (ls' := [(0, .ref 29), (1, .int x), (2, .int y)]) rfl ?_
  refine v_aload_n 0 dX5_note_0 rfl rfl ?_
  refine v_get fl_X5_18 dX5_note_1 h29 rfl ?_
  refine v_aload_n 0 dX5_note_4 rfl rfl ?_
  refine v_get fl_X5_9 dX5_note_5 h29 rfl ?_
  refine v_alen (v := 4) dX5_note_8 h30 rfl rfl ?_
  refine v_icmp_ge (tgt := 42) dX5_note_9 (by decide) (fun c9 => ?_) (fun c9 => ?_)
  · exact absurd ((nI_leI (a := 4) (by decide) (by omega)).mp c9) (by omega)
  ·
    refine v_aload_n 0 dX5_note_12 rfl rfl ?_
    refine v_get fl_X5_9 dX5_note_13 h29 rfl ?_
    refine v_aload_n 0 dX5_note_16 rfl rfl ?_
    refine v_get fl_X5_18 dX5_note_17 h29 rfl ?_
    refine v_iload_n 1 dX5_note_20 rfl rfl ?_
    refine v_iast dX5_note_21 h30 (nI_in' hk) ?_
    refine v_aload_n 0 dX5_note_22 rfl rfl ?_
    refine v_get fl_X5_15 dX5_note_23 (up_n (by decide) h29) rfl ?_
    refine v_aload_n 0 dX5_note_26 rfl rfl ?_
    refine v_get fl_X5_18 dX5_note_27 (up_n (by decide) h29) rfl ?_
    refine v_iload_n 2 dX5_note_30 rfl rfl ?_
    refine v_iast dX5_note_31 (up_n (by decide) h31) (nI_in' hk) ?_
    refine v_aload_n 0 dX5_note_32 rfl rfl ?_
    refine v_dup dX5_note_33 rfl ?_
    refine v_get fl_X5_18 dX5_note_34 (up_n (by decide) (up_n (by decide) h29)) rfl ?_
    refine v_iconst (v := 1) dX5_note_37 (by first | rfl | decide) ?_
    refine v_iadd dX5_note_38 ?_
    refine v_put fp_X5_18 dX5_note_39 (up_n (by decide) (up_n (by decide) h29)) (Nat.le_of_ble_eq_true rfl) (by first | rfl | decide) (by first | rfl | decide) ?_
    refine v_vret dX5_note_42 rfl ?_
    exact ⟨rfl, by rw [clamp (by omega), nI_1]; rfl⟩

set_option maxRecDepth 20000 in
set_option maxHeartbeats 4000000 in
theorem c_X3_forget {G : Cx} (d : Nat) {μ : Hp} {lm mm n : Int32} (h32 : μ 32 = some (outC lm mm n)) : Ct G (d) 0 0 M_X3_forget [.ref 32] μ (Rt none (up μ 32 (outC lm mm 0))) := by
  refine Ct.ofV (by decide +kernel) (Nat.le_of_ble_eq_true rfl) ?_
  refine v_ls (ls' := [(0, .ref 32)]) rfl ?_
  refine v_aload_n 0 dX3_forget_0 rfl rfl ?_
  refine v_iconst (v := 0) dX3_forget_1 (by first | rfl | decide) ?_
  refine v_put fp_X3_29 dX3_forget_2 h32 (Nat.le_of_ble_eq_true rfl) (by first | rfl | decide) (by first | rfl | decide) ?_
  refine v_vret dX3_forget_5 rfl ?_
  exact ⟨rfl, rfl⟩

set_option maxRecDepth 20000 in
set_option maxHeartbeats 4000000 in
theorem c_X3_isSeen {G : Cx} (d : Nat) {μ : Hp} {lm mm n : Int32} {s : Nat → Int64} {a j : Nat} {L : LT} (h32 : μ 32 = some (outC lm mm n)) (h35 : μ 35 = some (arJ 600 s)) (ha : μ a = some (ligL L)) (hj : j < 120) : Ct G (d + 1) 0 0 M_X3_isSeen [.ref 32, .int (nI j), .ref a] μ (fun r μ' => μ' = μ ∧ ((r = some (.int 1) ∧ rowIs s j L) ∨ (r = some (.int 0) ∧ ¬ rowIs s j L))) := by
  refine Ct.ofV (by decide +kernel) (Nat.le_of_ble_eq_true rfl) ?_
  refine v_ls (ls' := [(0, .ref 32), (1, .int (nI j)), (2, .ref a)]) rfl ?_
  refine v_iconst (v := 0) dX3_isSeen_0 (by first | rfl | decide) ?_
  refine v_istore_n dX3_isSeen_1 rfl (by decide) (fun x3 e_x3 => ?_)
  refine v_ls (ls' := [(3, .int x3), (0, .ref 32), (1, .int (nI j)), (2, .ref a)]) rfl ?_
  subst e_x3
  refine v_iload_n 0 dX3_isSeen_2 rfl rfl ?_
  refine v_iconst (v := 5) dX3_isSeen_3 (by first | rfl | decide) ?_
  refine v_icmp_ge (tgt := 34) dX3_isSeen_4 (by decide) (fun c4 => ?_) (fun c4 => ?_)
  · exact absurd c4 (by decide)
  ·
    refine v_aload_n 1 dX3_isSeen_7 rfl rfl ?_
    refine v_get fl_X3_21 dX3_isSeen_8 h32 rfl ?_
    refine v_iload_n 2 dX3_isSeen_11 rfl rfl ?_
    refine v_iconst (v := 5) dX3_isSeen_12 (by first | rfl | decide) ?_
    refine v_imul dX3_isSeen_13 ?_
    refine v_iload_n 0 dX3_isSeen_14 rfl rfl ?_
    refine v_iadd dX3_isSeen_15 ?_
    refine v_lald dX3_isSeen_16 h35 (by rw [show (0 : Int32) = nI 0 from rfl, ix5 hj (by decide)]; exact nI_in' (by omega)) ?_
    refine v_aload_n 3 dX3_isSeen_17 rfl rfl ?_
    refine v_iload_n 0 dX3_isSeen_18 rfl rfl ?_
    refine v_callV (c_X1_part d ha) cs_X3_54 dX3_isSeen_19 ha rfl rfl (Nat.le_of_ble_eq_true rfl) ?_
    refine rt_k ?_
    refine v_lc_eq (tgt := 28) dX3_isSeen_22 dX3_isSeen_23 (by decide) (fun q0 => ?_) (fun q0 => ?_)
    ·
      refine v_iinc (v := 1) 0 dX3_isSeen_28 rfl rfl (by decide) (fun z_ ez_ => ?_)
      obtain rfl : z_ = 1 := by rw [ez_]; decide
      refine v_ls (ls' := [(3, .int (1)), (0, .ref 32), (1, .int (nI j)), (2, .ref a)]) rfl ?_
      refine v_goto (tgt := 2) dX3_isSeen_31 (by decide) ?_
      refine v_iload_n 0 dX3_isSeen_2 rfl rfl ?_
      refine v_iconst (v := 5) dX3_isSeen_3 (by first | rfl | decide) ?_
      refine v_icmp_ge (tgt := 34) dX3_isSeen_4 (by decide) (fun c4 => ?_) (fun c4 => ?_)
      · exact absurd c4 (by decide)
      ·
        refine v_aload_n 1 dX3_isSeen_7 rfl rfl ?_
        refine v_get fl_X3_21 dX3_isSeen_8 h32 rfl ?_
        refine v_iload_n 2 dX3_isSeen_11 rfl rfl ?_
        refine v_iconst (v := 5) dX3_isSeen_12 (by first | rfl | decide) ?_
        refine v_imul dX3_isSeen_13 ?_
        refine v_iload_n 0 dX3_isSeen_14 rfl rfl ?_
        refine v_iadd dX3_isSeen_15 ?_
        refine v_lald dX3_isSeen_16 h35 (by rw [show (1 : Int32) = nI 1 from rfl, ix5 hj (by decide)]; exact nI_in' (by omega)) ?_
        refine v_aload_n 3 dX3_isSeen_17 rfl rfl ?_
        refine v_iload_n 0 dX3_isSeen_18 rfl rfl ?_
        refine v_callV (c_X1_part d ha) cs_X3_54 dX3_isSeen_19 ha rfl rfl (Nat.le_of_ble_eq_true rfl) ?_
        refine rt_k ?_
        refine v_lc_eq (tgt := 28) dX3_isSeen_22 dX3_isSeen_23 (by decide) (fun q1 => ?_) (fun q1 => ?_)
        ·
          refine v_iinc (v := 1) 0 dX3_isSeen_28 rfl rfl (by decide) (fun z_ ez_ => ?_)
          obtain rfl : z_ = 2 := by rw [ez_]; decide
          refine v_ls (ls' := [(3, .int (2)), (0, .ref 32), (1, .int (nI j)), (2, .ref a)]) rfl ?_
          refine v_goto (tgt := 2) dX3_isSeen_31 (by decide) ?_
          refine v_iload_n 0 dX3_isSeen_2 rfl rfl ?_
          refine v_iconst (v := 5) dX3_isSeen_3 (by first | rfl | decide) ?_
          refine v_icmp_ge (tgt := 34) dX3_isSeen_4 (by decide) (fun c4 => ?_) (fun c4 => ?_)
          · exact absurd c4 (by decide)
          ·
            refine v_aload_n 1 dX3_isSeen_7 rfl rfl ?_
            refine v_get fl_X3_21 dX3_isSeen_8 h32 rfl ?_
            refine v_iload_n 2 dX3_isSeen_11 rfl rfl ?_
            refine v_iconst (v := 5) dX3_isSeen_12 (by first | rfl | decide) ?_
            refine v_imul dX3_isSeen_13 ?_
            refine v_iload_n 0 dX3_isSeen_14 rfl rfl ?_
            refine v_iadd dX3_isSeen_15 ?_
            refine v_lald dX3_isSeen_16 h35 (by rw [show (2 : Int32) = nI 2 from rfl, ix5 hj (by decide)]; exact nI_in' (by omega)) ?_
            refine v_aload_n 3 dX3_isSeen_17 rfl rfl ?_
            refine v_iload_n 0 dX3_isSeen_18 rfl rfl ?_
            refine v_callV (c_X1_part d ha) cs_X3_54 dX3_isSeen_19 ha rfl rfl (Nat.le_of_ble_eq_true rfl) ?_
            refine rt_k ?_
            refine v_lc_eq (tgt := 28) dX3_isSeen_22 dX3_isSeen_23 (by decide) (fun q2 => ?_) (fun q2 => ?_)
            ·
              refine v_iinc (v := 1) 0 dX3_isSeen_28 rfl rfl (by decide) (fun z_ ez_ => ?_)
              obtain rfl : z_ = 3 := by rw [ez_]; decide
              refine v_ls (ls' := [(3, .int (3)), (0, .ref 32), (1, .int (nI j)), (2, .ref a)]) rfl ?_
              refine v_goto (tgt := 2) dX3_isSeen_31 (by decide) ?_
              refine v_iload_n 0 dX3_isSeen_2 rfl rfl ?_
              refine v_iconst (v := 5) dX3_isSeen_3 (by first | rfl | decide) ?_
              refine v_icmp_ge (tgt := 34) dX3_isSeen_4 (by decide) (fun c4 => ?_) (fun c4 => ?_)
              · exact absurd c4 (by decide)
              ·
                refine v_aload_n 1 dX3_isSeen_7 rfl rfl ?_
                refine v_get fl_X3_21 dX3_isSeen_8 h32 rfl ?_
                refine v_iload_n 2 dX3_isSeen_11 rfl rfl ?_
                refine v_iconst (v := 5) dX3_isSeen_12 (by first | rfl | decide) ?_
                refine v_imul dX3_isSeen_13 ?_
                refine v_iload_n 0 dX3_isSeen_14 rfl rfl ?_
                refine v_iadd dX3_isSeen_15 ?_
                refine v_lald dX3_isSeen_16 h35 (by rw [show (3 : Int32) = nI 3 from rfl, ix5 hj (by decide)]; exact nI_in' (by omega)) ?_
                refine v_aload_n 3 dX3_isSeen_17 rfl rfl ?_
                refine v_iload_n 0 dX3_isSeen_18 rfl rfl ?_
                refine v_callV (c_X1_part d ha) cs_X3_54 dX3_isSeen_19 ha rfl rfl (Nat.le_of_ble_eq_true rfl) ?_
                refine rt_k ?_
                refine v_lc_eq (tgt := 28) dX3_isSeen_22 dX3_isSeen_23 (by decide) (fun q3 => ?_) (fun q3 => ?_)
                ·
                  refine v_iinc (v := 1) 0 dX3_isSeen_28 rfl rfl (by decide) (fun z_ ez_ => ?_)
                  obtain rfl : z_ = 4 := by rw [ez_]; decide
                  refine v_ls (ls' := [(3, .int (4)), (0, .ref 32), (1, .int (nI j)), (2, .ref a)]) rfl ?_
                  refine v_goto (tgt := 2) dX3_isSeen_31 (by decide) ?_
                  refine v_iload_n 0 dX3_isSeen_2 rfl rfl ?_
                  refine v_iconst (v := 5) dX3_isSeen_3 (by first | rfl | decide) ?_
                  refine v_icmp_ge (tgt := 34) dX3_isSeen_4 (by decide) (fun c4 => ?_) (fun c4 => ?_)
                  · exact absurd c4 (by decide)
                  ·
                    refine v_aload_n 1 dX3_isSeen_7 rfl rfl ?_
                    refine v_get fl_X3_21 dX3_isSeen_8 h32 rfl ?_
                    refine v_iload_n 2 dX3_isSeen_11 rfl rfl ?_
                    refine v_iconst (v := 5) dX3_isSeen_12 (by first | rfl | decide) ?_
                    refine v_imul dX3_isSeen_13 ?_
                    refine v_iload_n 0 dX3_isSeen_14 rfl rfl ?_
                    refine v_iadd dX3_isSeen_15 ?_
                    refine v_lald dX3_isSeen_16 h35 (by rw [show (4 : Int32) = nI 4 from rfl, ix5 hj (by decide)]; exact nI_in' (by omega)) ?_
                    refine v_aload_n 3 dX3_isSeen_17 rfl rfl ?_
                    refine v_iload_n 0 dX3_isSeen_18 rfl rfl ?_
                    refine v_callV (c_X1_part d ha) cs_X3_54 dX3_isSeen_19 ha rfl rfl (Nat.le_of_ble_eq_true rfl) ?_
                    refine rt_k ?_
                    refine v_lc_eq (tgt := 28) dX3_isSeen_22 dX3_isSeen_23 (by decide) (fun q4 => ?_) (fun q4 => ?_)
                    ·
                      refine v_iinc (v := 1) 0 dX3_isSeen_28 rfl rfl (by decide) (fun z_ ez_ => ?_)
                      obtain rfl : z_ = 5 := by rw [ez_]; decide
                      refine v_ls (ls' := [(3, .int (5)), (0, .ref 32), (1, .int (nI j)), (2, .ref a)]) rfl ?_
                      refine v_goto (tgt := 2) dX3_isSeen_31 (by decide) ?_
                      refine v_iload_n 0 dX3_isSeen_2 rfl rfl ?_
                      refine v_iconst (v := 5) dX3_isSeen_3 (by first | rfl | decide) ?_
                      refine v_icmp_ge (tgt := 34) dX3_isSeen_4 (by decide) (fun c4 => ?_) (fun c4 => ?_)
                      ·
                        refine v_iconst (v := 1) dX3_isSeen_34 (by first | rfl | decide) ?_
                        refine v_iret dX3_isSeen_35 rfl (by first | rfl | decide | exact nar_b (by first | assumption | rfl)) ?_
                        refine ⟨rfl, Or.inl ⟨rfl, ?_⟩⟩
                        rw [show (0 : Int32) = nI 0 from rfl, ix5 hj (by decide), clamp (by omega)] at q0
                        rw [show (1 : Int32) = nI 1 from rfl, ix5 hj (by decide), clamp (by omega)] at q1
                        rw [show (2 : Int32) = nI 2 from rfl, ix5 hj (by decide), clamp (by omega)] at q2
                        rw [show (3 : Int32) = nI 3 from rfl, ix5 hj (by decide), clamp (by omega)] at q3
                        rw [show (4 : Int32) = nI 4 from rfl, ix5 hj (by decide), clamp (by omega)] at q4
                        exact ⟨q0, q1, q2, q3, q4⟩
                      · exact absurd (by decide) c4
                    ·
                      refine v_iconst (v := 0) dX3_isSeen_26 (by first | rfl | decide) ?_
                      refine v_iret dX3_isSeen_27 rfl (by first | rfl | decide | exact nar_b (by first | assumption | rfl)) ?_
                      refine ⟨rfl, Or.inr ⟨rfl, fun z => ?_⟩⟩
                      obtain ⟨z0, z1, z2, z3, z4⟩ := z
                      first
                        | exact q4 (by rw [show (4 : Int32) = nI 4 from rfl, ix5 hj (by decide), clamp (by omega)]; exact z4)
                        | exact q3 (by rw [show (3 : Int32) = nI 3 from rfl, ix5 hj (by decide), clamp (by omega)]; exact z3)
                        | exact q2 (by rw [show (2 : Int32) = nI 2 from rfl, ix5 hj (by decide), clamp (by omega)]; exact z2)
                        | exact q1 (by rw [show (1 : Int32) = nI 1 from rfl, ix5 hj (by decide), clamp (by omega)]; exact z1)
                        | exact q0 (by rw [show (0 : Int32) = nI 0 from rfl, ix5 hj (by decide), clamp (by omega)]; exact z0)
                ·
                  refine v_iconst (v := 0) dX3_isSeen_26 (by first | rfl | decide) ?_
                  refine v_iret dX3_isSeen_27 rfl (by first | rfl | decide | exact nar_b (by first | assumption | rfl)) ?_
                  refine ⟨rfl, Or.inr ⟨rfl, fun z => ?_⟩⟩
                  obtain ⟨z0, z1, z2, z3, z4⟩ := z
                  first
                    | exact q4 (by rw [show (4 : Int32) = nI 4 from rfl, ix5 hj (by decide), clamp (by omega)]; exact z4)
                    | exact q3 (by rw [show (3 : Int32) = nI 3 from rfl, ix5 hj (by decide), clamp (by omega)]; exact z3)
                    | exact q2 (by rw [show (2 : Int32) = nI 2 from rfl, ix5 hj (by decide), clamp (by omega)]; exact z2)
                    | exact q1 (by rw [show (1 : Int32) = nI 1 from rfl, ix5 hj (by decide), clamp (by omega)]; exact z1)
                    | exact q0 (by rw [show (0 : Int32) = nI 0 from rfl, ix5 hj (by decide), clamp (by omega)]; exact z0)
            ·
              refine v_iconst (v := 0) dX3_isSeen_26 (by first | rfl | decide) ?_
              refine v_iret dX3_isSeen_27 rfl (by first | rfl | decide | exact nar_b (by first | assumption | rfl)) ?_
              refine ⟨rfl, Or.inr ⟨rfl, fun z => ?_⟩⟩
              obtain ⟨z0, z1, z2, z3, z4⟩ := z
              first
                | exact q4 (by rw [show (4 : Int32) = nI 4 from rfl, ix5 hj (by decide), clamp (by omega)]; exact z4)
                | exact q3 (by rw [show (3 : Int32) = nI 3 from rfl, ix5 hj (by decide), clamp (by omega)]; exact z3)
                | exact q2 (by rw [show (2 : Int32) = nI 2 from rfl, ix5 hj (by decide), clamp (by omega)]; exact z2)
                | exact q1 (by rw [show (1 : Int32) = nI 1 from rfl, ix5 hj (by decide), clamp (by omega)]; exact z1)
                | exact q0 (by rw [show (0 : Int32) = nI 0 from rfl, ix5 hj (by decide), clamp (by omega)]; exact z0)
        ·
          refine v_iconst (v := 0) dX3_isSeen_26 (by first | rfl | decide) ?_
          refine v_iret dX3_isSeen_27 rfl (by first | rfl | decide | exact nar_b (by first | assumption | rfl)) ?_
          refine ⟨rfl, Or.inr ⟨rfl, fun z => ?_⟩⟩
          obtain ⟨z0, z1, z2, z3, z4⟩ := z
          first
            | exact q4 (by rw [show (4 : Int32) = nI 4 from rfl, ix5 hj (by decide), clamp (by omega)]; exact z4)
            | exact q3 (by rw [show (3 : Int32) = nI 3 from rfl, ix5 hj (by decide), clamp (by omega)]; exact z3)
            | exact q2 (by rw [show (2 : Int32) = nI 2 from rfl, ix5 hj (by decide), clamp (by omega)]; exact z2)
            | exact q1 (by rw [show (1 : Int32) = nI 1 from rfl, ix5 hj (by decide), clamp (by omega)]; exact z1)
            | exact q0 (by rw [show (0 : Int32) = nI 0 from rfl, ix5 hj (by decide), clamp (by omega)]; exact z0)
    ·
      refine v_iconst (v := 0) dX3_isSeen_26 (by first | rfl | decide) ?_
      refine v_iret dX3_isSeen_27 rfl (by first | rfl | decide | exact nar_b (by first | assumption | rfl)) ?_
      refine ⟨rfl, Or.inr ⟨rfl, fun z => ?_⟩⟩
      obtain ⟨z0, z1, z2, z3, z4⟩ := z
      first
        | exact q4 (by rw [show (4 : Int32) = nI 4 from rfl, ix5 hj (by decide), clamp (by omega)]; exact z4)
        | exact q3 (by rw [show (3 : Int32) = nI 3 from rfl, ix5 hj (by decide), clamp (by omega)]; exact z3)
        | exact q2 (by rw [show (2 : Int32) = nI 2 from rfl, ix5 hj (by decide), clamp (by omega)]; exact z2)
        | exact q1 (by rw [show (1 : Int32) = nI 1 from rfl, ix5 hj (by decide), clamp (by omega)]; exact z1)
        | exact q0 (by rw [show (0 : Int32) = nI 0 from rfl, ix5 hj (by decide), clamp (by omega)]; exact z0)

