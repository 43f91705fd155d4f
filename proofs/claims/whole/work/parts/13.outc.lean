abbrev troC (n : Int32) : va_E := .inr (6, [.ref 30, .ref 31, .int n])
abbrev outC (lm mm n : Int32) : va_E := .inr (4, [.ref 33, .ref 34, .int lm, .int mm, .int n, .ref 35, .ref 36])
/-- row j of what was seen is L -/
def rowIs (s : Nat → Int64) (j : Nat) (L : LT) : Prop := s (5 * j) = L.1 ∧ s (5 * j + 1) = L.2.1 ∧ s (5 * j + 2) = L.2.2.1 ∧ s (5 * j + 3) = L.2.2.2.1 ∧ s (5 * j + 4) = L.2.2.2.2.toInt64
theorem ix5 {j k : Nat} (hj : j < 120) (hk : k < 5) : nI j * 5 + nI k = nI (5 * j + k) := by
  rw [show (5 : Int32) = nI 5 from rfl, pk_mul, nI_add, Nat.mul_comm]
theorem part0 (L : LT) : partO L 0 = L.1 := rfl
theorem part1 (L : LT) : partO L 1 = L.2.1 := rfl
theorem part2 (L : LT) : partO L 2 = L.2.2.1 := rfl
theorem part3 (L : LT) : partO L 3 = L.2.2.2.1 := rfl
theorem part4 (L : LT) : partO L 4 = L.2.2.2.2.toInt64 := rfl
theorem i64_inj {a b : Int32} (h : a.toInt64 = b.toInt64) : a = b := by
  have := congrArg Int64.toInt h
  rw [Int32.toInt_toInt64, Int32.toInt_toInt64] at this
  exact Int32.toInt_inj.mp this
theorem rowIs_inj {s : Nat → Int64} {j : Nat} {L K : LT} (h : rowIs s j L) (h2 : rowIs s j K) : L = K := by
  obtain ⟨a1, a2, a3, a4, a5⟩ := h
  obtain ⟨b1, b2, b3, b4, b5⟩ := h2
  obtain ⟨l1, l2, l3, l4, l5⟩ := L
  obtain ⟨k1, k2, k3, k4, k5⟩ := K
  simp only at a1 a2 a3 a4 a5 b1 b2 b3 b4 b5
  rw [← a1, ← a2, ← a3, ← a4, i64_inj (a5.symm.trans b5)]
  rw [b1, b2, b3, b4]
set_option maxRecDepth 20000 in
set_option maxHeartbeats 4000000 in
theorem c_X5_forget {G : Cx} (d : Nat) {μ : Hp} {n : Int32} (h29 : μ 29 = some (troC n)) : Ct G (d) 0 0 M_X5_forget [.ref 29] μ (Rt none (up μ 29 (troC 0))) := by
  refine Ct.ofV (by decide +kernel) (Nat.le_of_ble_eq_true rfl) ?_
  refine v_ls (ls' := [(0, .ref 29)]) rfl ?_
  refine v_aload_n 0 dX5_forget_0 rfl rfl ?_
  refine v_iconst (v := 0) dX5_forget_1 (by first | rfl | decide) ?_
  refine v_put fp_X5_18 dX5_forget_2 h29 (Nat.le_of_ble_eq_true rfl) (by first | rfl | decide) (by first | rfl | decide) ?_
  refine v_vret dX5_forget_5 rfl ?_
  exact ⟨rfl, rfl⟩

set_option maxRecDepth 20000 in
set_option maxHeartbeats 4000000 in
theorem c_X5_note {G : Cx} (d : Nat) {μ : Hp} {k : Nat} {f g : Nat → Int32} {x y : Int32} (h29 : μ 29 = some (troC (nI k))) (h30 : μ 30 = some (arI 4 f)) (h31 : μ 31 = some (arI 4 g)) (hk : k < 4) : Ct G (d) 0 0 M_X5_note [.ref 29, .int x, .int y] μ (Rt none (up (up (up μ 30 (arI 4 (upd f k x))) 31 (arI 4 (upd g k y))) 29 (troC (nI (k + 1))))) := by
  refine Ct.ofV (by decide +kernel) (Nat.le_of_ble_eq_true rfl) ?_
  refine v_ls (ls' := [(0, .ref 29), (1, .int x), (2, .int y)]) rfl ?_
  refine v_aload_n 0 dX5_note_0 rfl rfl ?_
  refine v_get fl_X5_18 dX5_note_1 h29 rfl ?_
  refine v_aload_n 0 dX5_note_4 rfl rfl ?_
  refine v_get fl_X5_9 dX5_note_5 h29 rfl ?_
  refine v_alen (v := 4) dX5_note_8 h30 rfl rfl ?_
  refine v_icmp_ge (tgt := 42) dX5_note_9 (by decide) (fun c9 => ?_) (fun c9 => ?_)
  · exact absurd ((nI_leI (a := 4) (by decide) (by omega)).mp c9) (by omega)
  ·
    refine v_aload_n 0 dX5_note_12 rfl rfl ?_
    refine v_get fl_X5_9 dX5_note_13 h29 rfl ?_
    refine v_aload_n 0 dX5_note_16 rfl rfl ?_
    refine v_get fl_X5_18 dX5_note_17 h29 rfl ?_
    refine v_iload_n 1 dX5_note_20 rfl rfl ?_
    refine v_iast dX5_note_21 h30 (nI_in' hk) ?_
    refine v_aload_n 0 dX5_note_22 rfl rfl ?_
    refine v_get fl_X5_15 dX5_note_23 (up_n (by decide) h29) rfl ?_
    refine v_aload_n 0 dX5_note_26 rfl rfl ?_
    refine v_get fl_X5_18 dX5_note_27 (up_n (by decide) h29) rfl ?_
    refine v_iload_n 2 dX5_note_30 rfl rfl ?_
    refine v_iast dX5_note_31 (up_n (by decide) h31) (nI_in' hk) ?_
    refine v_aload_n 0 dX5_note_32 rfl rfl ?_
    refine v_dup dX5_note_33 rfl ?_
    refine v_get fl_X5_18 dX5_note_34 (up_n (by decide) (up_n (by decide) h29)) rfl ?_
    refine v_iconst (v := 1) dX5_note_37 (by first | rfl | decide) ?_
    refine v_iadd dX5_note_38 ?_
    refine v_put fp_X5_18 dX5_note_39 (up_n (by decide) (up_n (by decide) h29)) (Nat.le_of_ble_eq_true rfl) (by first | rfl | decide) (by first | rfl | decide) ?_
    refine v_vret dX5_note_42 rfl ?_
    exact ⟨rfl, by rw [clamp (by omega), nI_1]; rfl⟩

set_option maxRecDepth 20000 in
set_option maxHeartbeats 4000000 in
theorem c_X3_forget {G : Cx} (d : Nat) {μ : Hp} {lm mm n : Int32} (h32 : μ 32 = some (outC lm mm n)) : Ct G (d) 0 0 M_X3_forget [.ref 32] μ (Rt none (up μ 32 (outC lm mm 0))) := by
  refine Ct.ofV (by decide +kernel) (Nat.le_of_ble_eq_true rfl) ?_
  refine v_ls (ls' := [(0, .ref 32)]) rfl ?_
  refine v_aload_n 0 dX3_forget_0 rfl rfl ?_
  refine v_iconst (v := 0) dX3_forget_1 (by first | rfl | decide) ?_
  refine v_put fp_X3_29 dX3_forget_2 h32 (Nat.le_of_ble_eq_true rfl) (by first | rfl | decide) (by first | rfl | decide) ?_
  refine v_vret dX3_forget_5 rfl ?_
  exact ⟨rfl, rfl⟩

set_option maxRecDepth 20000 in
set_option maxHeartbeats 4000000 in
theorem c_X3_isSeen {G : Cx} (d : Nat) {μ : Hp} {lm mm n : Int32} {s : Nat → Int64} {a j : Nat} {L : LT} (h32 : μ 32 = some (outC lm mm n)) (h35 : μ 35 = some (arJ 600 s)) (ha : μ a = some (ligL L)) (hj : j < 120) : Ct G (d + 1) 0 0 M_X3_isSeen [.ref 32, .int (nI j), .ref a] μ (fun r μ' => μ' = μ ∧ ((r = some (.int 1) ∧ rowIs s j L) ∨ (r = some (.int 0) ∧ ¬ rowIs s j L))) := by
  refine Ct.ofV (by decide +kernel) (Nat.le_of_ble_eq_true rfl) ?_
  refine v_ls (ls' := [(0, .ref 32), (1, .int (nI j)), (2, .ref a)]) rfl ?_
  refine v_iconst (v := 0) dX3_isSeen_0 (by first | rfl | decide) ?_
  refine v_istore_n dX3_isSeen_1 rfl (by decide) (fun x3 e_x3 => ?_)
  refine v_ls (ls' := [(3, .int x3), (0, .ref 32), (1, .int (nI j)), (2, .ref a)]) rfl ?_
  subst e_x3
  refine v_iload_n 0 dX3_isSeen_2 rfl rfl ?_
  refine v_iconst (v := 5) dX3_isSeen_3 (by first | rfl | decide) ?_
  refine v_icmp_ge (tgt := 34) dX3_isSeen_4 (by decide) (fun c4 => ?_) (fun c4 => ?_)
  · exact absurd c4 (by decide)
  ·
    refine v_aload_n 1 dX3_isSeen_7 rfl rfl ?_
    refine v_get fl_X3_21 dX3_isSeen_8 h32 rfl ?_
    refine v_iload_n 2 dX3_isSeen_11 rfl rfl ?_
    refine v_iconst (v := 5) dX3_isSeen_12 (by first | rfl | decide) ?_
    refine v_imul dX3_isSeen_13 ?_
    refine v_iload_n 0 dX3_isSeen_14 rfl rfl ?_
    refine v_iadd dX3_isSeen_15 ?_
    refine v_lald dX3_isSeen_16 h35 (by rw [show (0 : Int32) = nI 0 from rfl, ix5 hj (by decide)]; exact nI_in' (by omega)) ?_
    refine v_aload_n 3 dX3_isSeen_17 rfl rfl ?_
    refine v_iload_n 0 dX3_isSeen_18 rfl rfl ?_
    refine v_callV (c_X1_part d ha) cs_X3_54 dX3_isSeen_19 ha rfl rfl (Nat.le_of_ble_eq_true rfl) ?_
    refine rt_k ?_
    refine v_lc_eq (tgt := 28) dX3_isSeen_22 dX3_isSeen_23 (by decide) (fun q0 => ?_) (fun q0 => ?_)
    ·
      refine v_iinc (v := 1) 0 dX3_isSeen_28 rfl rfl (by decide) (fun z_ ez_ => ?_)
      obtain rfl : z_ = 1 := by rw [ez_]; decide
      refine v_ls (ls' := [(3, .int (1)), (0, .ref 32), (1, .int (nI j)), (2, .ref a)]) rfl ?_
      refine v_goto (tgt := 2) dX3_isSeen_31 (by decide) ?_
      refine v_iload_n 0 dX3_isSeen_2 rfl rfl ?_
      refine v_iconst (v := 5) dX3_isSeen_3 (by first | rfl | decide) ?_
      refine v_icmp_ge (tgt := 34) dX3_isSeen_4 (by decide) (fun c4 => ?_) (fun c4 => ?_)
      · exact absurd c4 (by decide)
      ·
        refine v_aload_n 1 dX3_isSeen_7 rfl rfl ?_
        refine v_get fl_X3_21 dX3_isSeen_8 h32 rfl ?_
        refine v_iload_n 2 dX3_isSeen_11 rfl rfl ?_
        refine v_iconst (v := 5) dX3_isSeen_12 (by first | rfl | decide) ?_
        refine v_imul dX3_isSeen_13 ?_
        refine v_iload_n 0 dX3_isSeen_14 rfl rfl ?_
        refine v_iadd dX3_isSeen_15 ?_
        refine v_lald dX3_isSeen_16 h35 (by rw [show (1 : Int32) = nI 1 from rfl, ix5 hj (by decide)]; exact nI_in' (by omega)) ?_
        refine v_aload_n 3 dX3_isSeen_17 rfl rfl ?_
        refine v_iload_n 0 dX3_isSeen_18 rfl rfl ?_
        refine v_callV (c_X1_part d ha) cs_X3_54 dX3_isSeen_19 ha rfl rfl (Nat.le_of_ble_eq_true rfl) ?_
        refine rt_k ?_
        refine v_lc_eq (tgt := 28) dX3_isSeen_22 dX3_isSeen_23 (by decide) (fun q1 => ?_) (fun q1 => ?_)
        ·
          refine v_iinc (v := 1) 0 dX3_isSeen_28 rfl rfl (by decide) (fun z_ ez_ => ?_)
          obtain rfl : z_ = 2 := by rw [ez_]; decide
          refine v_ls (ls' := [(3, .int (2)), (0, .ref 32), (1, .int (nI j)), (2, .ref a)]) rfl ?_
          refine v_goto (tgt := 2) dX3_isSeen_31 (by decide) ?_
          refine v_iload_n 0 dX3_isSeen_2 rfl rfl ?_
          refine v_iconst (v := 5) dX3_isSeen_3 (by first | rfl | decide) ?_
          refine v_icmp_ge (tgt := 34) dX3_isSeen_4 (by decide) (fun c4 => ?_) (fun c4 => ?_)
          · exact absurd c4 (by decide)
          ·
            refine v_aload_n 1 dX3_isSeen_7 rfl rfl ?_
            refine v_get fl_X3_21 dX3_isSeen_8 h32 rfl ?_
            refine v_iload_n 2 dX3_isSeen_11 rfl rfl ?_
            refine v_iconst (v := 5) dX3_isSeen_12 (by first | rfl | decide) ?_
            refine v_imul dX3_isSeen_13 ?_
            refine v_iload_n 0 dX3_isSeen_14 rfl rfl ?_
            refine v_iadd dX3_isSeen_15 ?_
            refine v_lald dX3_isSeen_16 h35 (by rw [show (2 : Int32) = nI 2 from rfl, ix5 hj (by decide)]; exact nI_in' (by omega)) ?_
            refine v_aload_n 3 dX3_isSeen_17 rfl rfl ?_
            refine v_iload_n 0 dX3_isSeen_18 rfl rfl ?_
            refine v_callV (c_X1_part d ha) cs_X3_54 dX3_isSeen_19 ha rfl rfl (Nat.le_of_ble_eq_true rfl) ?_
            refine rt_k ?_
            refine v_lc_eq (tgt := 28) dX3_isSeen_22 dX3_isSeen_23 (by decide) (fun q2 => ?_) (fun q2 => ?_)
            ·
              refine v_iinc (v := 1) 0 dX3_isSeen_28 rfl rfl (by decide) (fun z_ ez_ => ?_)
              obtain rfl : z_ = 3 := by rw [ez_]; decide
              refine v_ls (ls' := [(3, .int (3)), (0, .ref 32), (1, .int (nI j)), (2, .ref a)]) rfl ?_
              refine v_goto (tgt := 2) dX3_isSeen_31 (by decide) ?_
              refine v_iload_n 0 dX3_isSeen_2 rfl rfl ?_
              refine v_iconst (v := 5) dX3_isSeen_3 (by first | rfl | decide) ?_
              refine v_icmp_ge (tgt := 34) dX3_isSeen_4 (by decide) (fun c4 => ?_) (fun c4 => ?_)
              · exact absurd c4 (by decide)
              ·
                refine v_aload_n 1 dX3_isSeen_7 rfl rfl ?_
                refine v_get fl_X3_21 dX3_isSeen_8 h32 rfl ?_
                refine v_iload_n 2 dX3_isSeen_11 rfl rfl ?_
                refine v_iconst (v := 5) dX3_isSeen_12 (by first | rfl | decide) ?_
                refine v_imul dX3_isSeen_13 ?_
                refine v_iload_n 0 dX3_isSeen_14 rfl rfl ?_
                refine v_iadd dX3_isSeen_15 ?_
                refine v_lald dX3_isSeen_16 h35 (by rw [show (3 : Int32) = nI 3 from rfl, ix5 hj (by decide)]; exact nI_in' (by omega)) ?_
                refine v_aload_n 3 dX3_isSeen_17 rfl rfl ?_
                refine v_iload_n 0 dX3_isSeen_18 rfl rfl ?_
                refine v_callV (c_X1_part d ha) cs_X3_54 dX3_isSeen_19 ha rfl rfl (Nat.le_of_ble_eq_true rfl) ?_
                refine rt_k ?_
                refine v_lc_eq (tgt := 28) dX3_isSeen_22 dX3_isSeen_23 (by decide) (fun q3 => ?_) (fun q3 => ?_)
                ·
                  refine v_iinc (v := 1) 0 dX3_isSeen_28 rfl rfl (by decide) (fun z_ ez_ => ?_)
                  obtain rfl : z_ = 4 := by rw [ez_]; decide
                  refine v_ls (ls' := [(3, .int (4)), (0, .ref 32), (1, .int (nI j)), (2, .ref a)]) rfl ?_
                  refine v_goto (tgt := 2) dX3_isSeen_31 (by decide) ?_
                  refine v_iload_n 0 dX3_isSeen_2 rfl rfl ?_
                  refine v_iconst (v := 5) dX3_isSeen_3 (by first | rfl | decide) ?_
                  refine v_icmp_ge (tgt := 34) dX3_isSeen_4 (by decide) (fun c4 => ?_) (fun c4 => ?_)
                  · exact absurd c4 (by decide)
                  ·
                    refine v_aload_n 1 dX3_isSeen_7 rfl rfl ?_
                    refine v_get fl_X3_21 dX3_isSeen_8 h32 rfl ?_
                    refine v_iload_n 2 dX3_isSeen_11 rfl rfl ?_
                    refine v_iconst (v := 5) dX3_isSeen_12 (by first | rfl | decide) ?_
                    refine v_imul dX3_isSeen_13 ?_
                    refine v_iload_n 0 dX3_isSeen_14 rfl rfl ?_
                    refine v_iadd dX3_isSeen_15 ?_
                    refine v_lald dX3_isSeen_16 h35 (by rw [show (4 : Int32) = nI 4 from rfl, ix5 hj (by decide)]; exact nI_in' (by omega)) ?_
                    refine v_aload_n 3 dX3_isSeen_17 rfl rfl ?_
                    refine v_iload_n 0 dX3_isSeen_18 rfl rfl ?_
                    refine v_callV (c_X1_part d ha) cs_X3_54 dX3_isSeen_19 ha rfl rfl (Nat.le_of_ble_eq_true rfl) ?_
                    refine rt_k ?_
                    refine v_lc_eq (tgt := 28) dX3_isSeen_22 dX3_isSeen_23 (by decide) (fun q4 => ?_) (fun q4 => ?_)
                    ·
                      refine v_iinc (v := 1) 0 dX3_isSeen_28 rfl rfl (by decide) (fun z_ ez_ => ?_)
                      obtain rfl : z_ = 5 := by rw [ez_]; decide
                      refine v_ls (ls' := [(3, .int (5)), (0, .ref 32), (1, .int (nI j)), (2, .ref a)]) rfl ?_
                      refine v_goto (tgt := 2) dX3_isSeen_31 (by decide) ?_
                      refine v_iload_n 0 dX3_isSeen_2 rfl rfl ?_
                      refine v_iconst (v := 5) dX3_isSeen_3 (by first | rfl | decide) ?_
                      refine v_icmp_ge (tgt := 34) dX3_isSeen_4 (by decide) (fun c4 => ?_) (fun c4 => ?_)
                      ·
                        refine v_iconst (v := 1) dX3_isSeen_34 (by first | rfl | decide) ?_
                        refine v_iret dX3_isSeen_35 rfl (by first | rfl | decide | exact nar_b (by first | assumption | rfl)) ?_
                        refine ⟨rfl, Or.inl ⟨rfl, ?_⟩⟩
                        rw [show (0 : Int32) = nI 0 from rfl, ix5 hj (by decide), clamp (by omega)] at q0
                        rw [show (1 : Int32) = nI 1 from rfl, ix5 hj (by decide), clamp (by omega)] at q1
                        rw [show (2 : Int32) = nI 2 from rfl, ix5 hj (by decide), clamp (by omega)] at q2
                        rw [show (3 : Int32) = nI 3 from rfl, ix5 hj (by decide), clamp (by omega)] at q3
                        rw [show (4 : Int32) = nI 4 from rfl, ix5 hj (by decide), clamp (by omega)] at q4
                        exact ⟨q0, q1, q2, q3, q4⟩
                      · exact absurd (by decide) c4
                    ·
                      refine v_iconst (v := 0) dX3_isSeen_26 (by first | rfl | decide) ?_
                      refine v_iret dX3_isSeen_27 rfl (by first | rfl | decide | exact nar_b (by first | assumption | rfl)) ?_
                      refine ⟨rfl, Or.inr ⟨rfl, fun z => ?_⟩⟩
                      obtain ⟨z0, z1, z2, z3, z4⟩ := z
                      first
                        | exact q4 (by rw [show (4 : Int32) = nI 4 from rfl, ix5 hj (by decide), clamp (by omega)]; exact z4)
                        | exact q3 (by rw [show (3 : Int32) = nI 3 from rfl, ix5 hj (by decide), clamp (by omega)]; exact z3)
                        | exact q2 (by rw [show (2 : Int32) = nI 2 from rfl, ix5 hj (by decide), clamp (by omega)]; exact z2)
                        | exact q1 (by rw [show (1 : Int32) = nI 1 from rfl, ix5 hj (by decide), clamp (by omega)]; exact z1)
                        | exact q0 (by rw [show (0 : Int32) = nI 0 from rfl, ix5 hj (by decide), clamp (by omega)]; exact z0)
                ·
                  refine v_iconst (v := 0) dX3_isSeen_26 (by first | rfl | decide) ?_
                  refine v_iret dX3_isSeen_27 rfl (by first | rfl | decide | exact nar_b (by first | assumption | rfl)) ?_
                  refine ⟨rfl, Or.inr ⟨rfl, fun z => ?_⟩⟩
                  obtain ⟨z0, z1, z2, z3, z4⟩ := z
                  first
                    | exact q4 (by rw [show (4 : Int32) = nI 4 from rfl, ix5 hj (by decide), clamp (by omega)]; exact z4)
                    | exact q3 (by rw [show (3 : Int32) = nI 3 from rfl, ix5 hj (by decide), clamp (by omega)]; exact z3)
                    | exact q2 (by rw [show (2 : Int32) = nI 2 from rfl, ix5 hj (by decide), clamp (by omega)]; exact z2)
                    | exact q1 (by rw [show (1 : Int32) = nI 1 from rfl, ix5 hj (by decide), clamp (by omega)]; exact z1)
                    | exact q0 (by rw [show (0 : Int32) = nI 0 from rfl, ix5 hj (by decide), clamp (by omega)]; exact z0)
            ·
              refine v_iconst (v := 0) dX3_isSeen_26 (by first | rfl | decide) ?_
              refine v_iret dX3_isSeen_27 rfl (by first | rfl | decide | exact nar_b (by first | assumption | rfl)) ?_
              refine ⟨rfl, Or.inr ⟨rfl, fun z => ?_⟩⟩
              obtain ⟨z0, z1, z2, z3, z4⟩ := z
              first
                | exact q4 (by rw [show (4 : Int32) = nI 4 from rfl, ix5 hj (by decide), clamp (by omega)]; exact z4)
                | exact q3 (by rw [show (3 : Int32) = nI 3 from rfl, ix5 hj (by decide), clamp (by omega)]; exact z3)
                | exact q2 (by rw [show (2 : Int32) = nI 2 from rfl, ix5 hj (by decide), clamp (by omega)]; exact z2)
                | exact q1 (by rw [show (1 : Int32) = nI 1 from rfl, ix5 hj (by decide), clamp (by omega)]; exact z1)
                | exact q0 (by rw [show (0 : Int32) = nI 0 from rfl, ix5 hj (by decide), clamp (by omega)]; exact z0)
        ·
          refine v_iconst (v := 0) dX3_isSeen_26 (by first | rfl | decide) ?_
          refine v_iret dX3_isSeen_27 rfl (by first | rfl | decide | exact nar_b (by first | assumption | rfl)) ?_
          refine ⟨rfl, Or.inr ⟨rfl, fun z => ?_⟩⟩
          obtain ⟨z0, z1, z2, z3, z4⟩ := z
          first
            | exact q4 (by rw [show (4 : Int32) = nI 4 from rfl, ix5 hj (by decide), clamp (by omega)]; exact z4)
            | exact q3 (by rw [show (3 : Int32) = nI 3 from rfl, ix5 hj (by decide), clamp (by omega)]; exact z3)
            | exact q2 (by rw [show (2 : Int32) = nI 2 from rfl, ix5 hj (by decide), clamp (by omega)]; exact z2)
            | exact q1 (by rw [show (1 : Int32) = nI 1 from rfl, ix5 hj (by decide), clamp (by omega)]; exact z1)
            | exact q0 (by rw [show (0 : Int32) = nI 0 from rfl, ix5 hj (by decide), clamp (by omega)]; exact z0)
    ·
      refine v_iconst (v := 0) dX3_isSeen_26 (by first | rfl | decide) ?_
      refine v_iret dX3_isSeen_27 rfl (by first | rfl | decide | exact nar_b (by first | assumption | rfl)) ?_
      refine ⟨rfl, Or.inr ⟨rfl, fun z => ?_⟩⟩
      obtain ⟨z0, z1, z2, z3, z4⟩ := z
      first
        | exact q4 (by rw [show (4 : Int32) = nI 4 from rfl, ix5 hj (by decide), clamp (by omega)]; exact z4)
        | exact q3 (by rw [show (3 : Int32) = nI 3 from rfl, ix5 hj (by decide), clamp (by omega)]; exact z3)
        | exact q2 (by rw [show (2 : Int32) = nI 2 from rfl, ix5 hj (by decide), clamp (by omega)]; exact z2)
        | exact q1 (by rw [show (1 : Int32) = nI 1 from rfl, ix5 hj (by decide), clamp (by omega)]; exact z1)
        | exact q0 (by rw [show (0 : Int32) = nI 0 from rfl, ix5 hj (by decide), clamp (by omega)]; exact z0)

def Sn (ls : List (LT × Nat)) (s : Nat → Int64) (t : Nat → Int32) : Prop := ∀ j L k, ls[j]? = some (L, k) → rowIs s j L ∧ t j = nI k
def remO (L : LT) : List (LT × Nat) → List (LT × Nat)
  | [] => [(L, 1)]
  | (K, n) :: r => if K = L then (K, n + 1) :: r else (K, n) :: remO L r
theorem remO_app {L : LT} : ∀ {ls : List (LT × Nat)}, (∀ (j : Nat) K k, ls[j]? = some (K, k) → K ≠ L) → remO L ls = ls ++ [(L, 1)]
  | [], _ => rfl
  | (K, n) :: r, h => by
    have h0 : K ≠ L := h 0 K n rfl
    show (if K = L then _ else _) = _
    rw [if_neg h0, remO_app (fun j K k hj => h (j + 1) K k hj)]
    rfl
theorem remO_set {L : LT} {n : Nat} : ∀ {ls : List (LT × Nat)} {j : Nat}, ls[j]? = some (L, n) → (∀ (i : Nat) K k, i < j → ls[i]? = some (K, k) → K ≠ L) → remO L ls = ls.set j (L, n + 1)
  | [], j, h, _ => by simp at h
  | (K, m) :: r, 0, h, _ => by
    simp only [List.getElem?_cons_zero, Option.some.injEq, Prod.mk.injEq] at h
    show (if K = L then _ else _) = _
    rw [if_pos h.1, h.1, h.2]
    rfl
  | (K, m) :: r, j + 1, h, hn => by
    have h0 : K ≠ L := hn 0 K m (by omega) rfl
    show (if K = L then _ else _) = _
    rw [if_neg h0, remO_set (ls := r) (j := j) h (fun i K k hi hk => hn (i + 1) K k (by omega) hk)]
    rfl
theorem remO_len (L : LT) : ∀ ls : List (LT × Nat), (remO L ls).length ≤ ls.length + 1
  | [] => Nat.le_refl 1
  | (K, n) :: r => by
    show (if K = L then _ else _ : List (LT × Nat)).length ≤ _
    split
    · simp
    · have := remO_len L r; simp; omega
theorem Sn.inc {ls : List (LT × Nat)} {s : Nat → Int64} {t : Nat → Int32} {j n : Nat} {L : LT} (h : Sn ls s t) (hj : ls[j]? = some (L, n)) : Sn (ls.set j (L, n + 1)) s (upd t j (t j + 1)) := by
  intro i K k hi
  by_cases e : i = j
  · subst e
    rw [List.getElem?_set_self (List.getElem?_eq_some_iff.mp hj).1] at hi
    cases hi
    refine ⟨(h i _ _ hj).1, ?_⟩
    show (if i = i then _ else _) = _
    rw [if_pos rfl, (h i _ _ hj).2, nI_1]
  · rw [List.getElem?_set_ne (Ne.symm e)] at hi
    refine ⟨(h i _ _ hi).1, ?_⟩
    show (if i = j then _ else _) = _
    rw [if_neg e]
    exact (h i _ _ hi).2
theorem Sn.add {ls : List (LT × Nat)} {s s' : Nat → Int64} {t : Nat → Int32} {L : LT} (h : Sn ls s t) (hs : ∀ x, x < 5 * ls.length → s' x = s x) (hr : rowIs s' ls.length L) : Sn (ls ++ [(L, 1)]) s' (upd t ls.length 1) := by
  intro i K k hi
  by_cases e : i < ls.length
  · rw [List.getElem?_append_left e] at hi
    obtain ⟨⟨a1, a2, a3, a4, a5⟩, a6⟩ := h i _ _ hi
    refine ⟨⟨?_, ?_, ?_, ?_, ?_⟩, ?_⟩
    · rw [hs _ (by omega)]; exact a1
    · rw [hs _ (by omega)]; exact a2
    · rw [hs _ (by omega)]; exact a3
    · rw [hs _ (by omega)]; exact a4
    · rw [hs _ (by omega)]; exact a5
    · show (if i = ls.length then _ else _) = _
      rw [if_neg (by omega)]; exact a6
  · rw [List.getElem?_append_right (by omega)] at hi
    have hz : i - ls.length < 1 := (List.getElem?_eq_some_iff.mp hi).1
    have hi0 : i = ls.length := by omega
    subst hi0
    rw [Nat.sub_self] at hi
    cases hi
    refine ⟨hr, ?_⟩
    show (if ls.length = ls.length then _ else _) = _
    rw [if_pos rfl]; rfl
set_option maxRecDepth 20000 in
set_option maxHeartbeats 4000000 in
theorem rem_loop {G : Cx} (d : Nat) {μ : Hp} {lm mm : Int32} {s : Nat → Int64} {t : Nat → Int32} {a : Nat} {L : LT} {ls : List (LT × Nat)} (h32 : μ 32 = some (outC lm mm (nI ls.length))) (h35 : μ 35 = some (arJ 600 s)) (h36 : μ 36 = some (arI 120 t)) (ha : μ a = some (ligL L)) (hs : Sn ls s t) (hlen : ls.length < 120) (n32 : a ≠ 32) (n35 : a ≠ 35) (n36 : a ≠ 36) : ∀ (m : Nat) (j : Nat), j + m = ls.length → (∀ i K k, i < j → ls[i]? = some (K, k) → K ≠ L) → V G M_X3_remember (d + 2) 0 0 (fun r μ' => r = none ∧ ∃ s' t', μ' = up (up (up μ 35 (arJ 600 s')) 36 (arI 120 t')) 32 (outC lm mm (nI (remO L ls).length)) ∧ Sn (remO L ls) s' t') 2 [(2, .int (nI j)), (0, .ref 32), (1, .ref a)] [] (μ) := by
  intro m
  induction m with
  | zero =>
    intro j hj hne
    refine v_iload_n 0 dX3_remember_2 rfl rfl ?_
    refine v_aload_n 1 dX3_remember_3 rfl rfl ?_
    refine v_get fl_X3_29 dX3_remember_4 h32 rfl ?_
    refine v_icmp_ge (tgt := 36) dX3_remember_7 (by decide) (fun c7 => ?_) (fun c7 => ?_)
    ·
      refine v_aload_n 1 dX3_remember_36 rfl rfl ?_
      refine v_get fl_X3_29 dX3_remember_37 h32 rfl ?_
      refine v_bipush (v := 120) dX3_remember_40 (by first | rfl | decide) ?_
      refine v_icmp_lt (tgt := 46) dX3_remember_42 (by decide) (fun c42 => ?_) (fun c42 => ?_)
      ·
        refine v_iconst (v := 0) dX3_remember_46 (by first | rfl | decide) ?_
        refine v_istore_n dX3_remember_47 rfl (by decide) (fun x2 e_x2 => ?_)
        refine v_ls (ls' := [(2, .int x2), (0, .ref 32), (1, .ref a)]) rfl ?_
        subst e_x2
        refine v_iload_n 0 dX3_remember_48 rfl rfl ?_
        refine v_iconst (v := 5) dX3_remember_49 (by first | rfl | decide) ?_
        refine v_icmp_ge (tgt := 77) dX3_remember_50 (by decide) (fun c50 => ?_) (fun c50 => ?_)
        · exact absurd c50 (by decide)
        ·
          refine v_aload_n 1 dX3_remember_53 rfl rfl ?_
          refine v_get fl_X3_21 dX3_remember_54 h32 rfl ?_
          refine v_aload_n 1 dX3_remember_57 rfl rfl ?_
          refine v_get fl_X3_29 dX3_remember_58 h32 rfl ?_
          refine v_iconst (v := 5) dX3_remember_61 (by first | rfl | decide) ?_
          refine v_imul dX3_remember_62 ?_
          refine v_iload_n 0 dX3_remember_63 rfl rfl ?_
          refine v_iadd dX3_remember_64 ?_
          refine v_aload_n 2 dX3_remember_65 rfl rfl ?_
          refine v_iload_n 0 dX3_remember_66 rfl rfl ?_
          refine v_callV (c_X1_part (d + 1) ha) cs_X3_54 dX3_remember_67 ha rfl rfl (Nat.le_of_ble_eq_true rfl) ?_
          refine rt_k ?_
          refine v_last dX3_remember_70 h35 (by rw [show (0 : Int32) = nI 0 from rfl, ix5 hlen (by decide)]; exact nI_in' (by omega)) ?_
          refine v_iinc (v := 1) 0 dX3_remember_71 rfl rfl (by decide) (fun z_ ez_ => ?_)
          obtain rfl : z_ = 1 := by rw [ez_]; decide
          refine v_ls (ls' := [(2, .int (1)), (0, .ref 32), (1, .ref a)]) rfl ?_
          refine v_goto (tgt := 48) dX3_remember_74 (by decide) ?_
          refine v_iload_n 0 dX3_remember_48 rfl rfl ?_
          refine v_iconst (v := 5) dX3_remember_49 (by first | rfl | decide) ?_
          refine v_icmp_ge (tgt := 77) dX3_remember_50 (by decide) (fun c50 => ?_) (fun c50 => ?_)
          · exact absurd c50 (by decide)
          ·
            refine v_aload_n 1 dX3_remember_53 rfl rfl ?_
            refine v_get fl_X3_21 dX3_remember_54 (up_n (by decide) h32) rfl ?_
            refine v_aload_n 1 dX3_remember_57 rfl rfl ?_
            refine v_get fl_X3_29 dX3_remember_58 (up_n (by decide) h32) rfl ?_
            refine v_iconst (v := 5) dX3_remember_61 (by first | rfl | decide) ?_
            refine v_imul dX3_remember_62 ?_
            refine v_iload_n 0 dX3_remember_63 rfl rfl ?_
            refine v_iadd dX3_remember_64 ?_
            refine v_aload_n 2 dX3_remember_65 rfl rfl ?_
            refine v_iload_n 0 dX3_remember_66 rfl rfl ?_
            refine v_callV (c_X1_part (d + 1) (up_n n35 ha)) cs_X3_54 dX3_remember_67 (up_n n35 ha) rfl rfl (Nat.le_of_ble_eq_true rfl) ?_
            refine rt_k ?_
            refine v_last dX3_remember_70 (up_s _ _ _) (by rw [show (1 : Int32) = nI 1 from rfl, ix5 hlen (by decide)]; exact nI_in' (by omega)) ?_
            refine v_hp (up_up _ _ _ _) ?_
            refine v_iinc (v := 1) 0 dX3_remember_71 rfl rfl (by decide) (fun z_ ez_ => ?_)
            obtain rfl : z_ = 2 := by rw [ez_]; decide
            refine v_ls (ls' := [(2, .int (2)), (0, .ref 32), (1, .ref a)]) rfl ?_
            refine v_goto (tgt := 48) dX3_remember_74 (by decide) ?_
            refine v_iload_n 0 dX3_remember_48 rfl rfl ?_
            refine v_iconst (v := 5) dX3_remember_49 (by first | rfl | decide) ?_
            refine v_icmp_ge (tgt := 77) dX3_remember_50 (by decide) (fun c50 => ?_) (fun c50 => ?_)
            · exact absurd c50 (by decide)
            ·
              refine v_aload_n 1 dX3_remember_53 rfl rfl ?_
              refine v_get fl_X3_21 dX3_remember_54 (up_n (by decide) h32) rfl ?_
              refine v_aload_n 1 dX3_remember_57 rfl rfl ?_
              refine v_get fl_X3_29 dX3_remember_58 (up_n (by decide) h32) rfl ?_
              refine v_iconst (v := 5) dX3_remember_61 (by first | rfl | decide) ?_
              refine v_imul dX3_remember_62 ?_
              refine v_iload_n 0 dX3_remember_63 rfl rfl ?_
              refine v_iadd dX3_remember_64 ?_
              refine v_aload_n 2 dX3_remember_65 rfl rfl ?_
              refine v_iload_n 0 dX3_remember_66 rfl rfl ?_
              refine v_callV (c_X1_part (d + 1) (up_n n35 ha)) cs_X3_54 dX3_remember_67 (up_n n35 ha) rfl rfl (Nat.le_of_ble_eq_true rfl) ?_
              refine rt_k ?_
              refine v_last dX3_remember_70 (up_s _ _ _) (by rw [show (2 : Int32) = nI 2 from rfl, ix5 hlen (by decide)]; exact nI_in' (by omega)) ?_
              refine v_hp (up_up _ _ _ _) ?_
              refine v_iinc (v := 1) 0 dX3_remember_71 rfl rfl (by decide) (fun z_ ez_ => ?_)
              obtain rfl : z_ = 3 := by rw [ez_]; decide
              refine v_ls (ls' := [(2, .int (3)), (0, .ref 32), (1, .ref a)]) rfl ?_
              refine v_goto (tgt := 48) dX3_remember_74 (by decide) ?_
              refine v_iload_n 0 dX3_remember_48 rfl rfl ?_
              refine v_iconst (v := 5) dX3_remember_49 (by first | rfl | decide) ?_
              refine v_icmp_ge (tgt := 77) dX3_remember_50 (by decide) (fun c50 => ?_) (fun c50 => ?_)
              · exact absurd c50 (by decide)
              ·
                refine v_aload_n 1 dX3_remember_53 rfl rfl ?_
                refine v_get fl_X3_21 dX3_remember_54 (up_n (by decide) h32) rfl ?_
                refine v_aload_n 1 dX3_remember_57 rfl rfl ?_
                refine v_get fl_X3_29 dX3_remember_58 (up_n (by decide) h32) rfl ?_
                refine v_iconst (v := 5) dX3_remember_61 (by first | rfl | decide) ?_
                refine v_imul dX3_remember_62 ?_
                refine v_iload_n 0 dX3_remember_63 rfl rfl ?_
                refine v_iadd dX3_remember_64 ?_
                refine v_aload_n 2 dX3_remember_65 rfl rfl ?_
                refine v_iload_n 0 dX3_remember_66 rfl rfl ?_
                refine v_callV (c_X1_part (d + 1) (up_n n35 ha)) cs_X3_54 dX3_remember_67 (up_n n35 ha) rfl rfl (Nat.le_of_ble_eq_true rfl) ?_
                refine rt_k ?_
                refine v_last dX3_remember_70 (up_s _ _ _) (by rw [show (3 : Int32) = nI 3 from rfl, ix5 hlen (by decide)]; exact nI_in' (by omega)) ?_
                refine v_hp (up_up _ _ _ _) ?_
                refine v_iinc (v := 1) 0 dX3_remember_71 rfl rfl (by decide) (fun z_ ez_ => ?_)
                obtain rfl : z_ = 4 := by rw [ez_]; decide
                refine v_ls (ls' := [(2, .int (4)), (0, .ref 32), (1, .ref a)]) rfl ?_
                refine v_goto (tgt := 48) dX3_remember_74 (by decide) ?_
                refine v_iload_n 0 dX3_remember_48 rfl rfl ?_
                refine v_iconst (v := 5) dX3_remember_49 (by first | rfl | decide) ?_
                refine v_icmp_ge (tgt := 77) dX3_remember_50 (by decide) (fun c50 => ?_) (fun c50 => ?_)
                · exact absurd c50 (by decide)
                ·
                  refine v_aload_n 1 dX3_remember_53 rfl rfl ?_
                  refine v_get fl_X3_21 dX3_remember_54 (up_n (by decide) h32) rfl ?_
                  refine v_aload_n 1 dX3_remember_57 rfl rfl ?_
                  refine v_get fl_X3_29 dX3_remember_58 (up_n (by decide) h32) rfl ?_
                  refine v_iconst (v := 5) dX3_remember_61 (by first | rfl | decide) ?_
                  refine v_imul dX3_remember_62 ?_
                  refine v_iload_n 0 dX3_remember_63 rfl rfl ?_
                  refine v_iadd dX3_remember_64 ?_
                  refine v_aload_n 2 dX3_remember_65 rfl rfl ?_
                  refine v_iload_n 0 dX3_remember_66 rfl rfl ?_
                  refine v_callV (c_X1_part (d + 1) (up_n n35 ha)) cs_X3_54 dX3_remember_67 (up_n n35 ha) rfl rfl (Nat.le_of_ble_eq_true rfl) ?_
                  refine rt_k ?_
                  refine v_last dX3_remember_70 (up_s _ _ _) (by rw [show (4 : Int32) = nI 4 from rfl, ix5 hlen (by decide)]; exact nI_in' (by omega)) ?_
                  refine v_hp (up_up _ _ _ _) ?_
                  refine v_iinc (v := 1) 0 dX3_remember_71 rfl rfl (by decide) (fun z_ ez_ => ?_)
                  obtain rfl : z_ = 5 := by rw [ez_]; decide
                  refine v_ls (ls' := [(2, .int (5)), (0, .ref 32), (1, .ref a)]) rfl ?_
                  refine v_goto (tgt := 48) dX3_remember_74 (by decide) ?_
                  refine v_iload_n 0 dX3_remember_48 rfl rfl ?_
                  refine v_iconst (v := 5) dX3_remember_49 (by first | rfl | decide) ?_
                  refine v_icmp_ge (tgt := 77) dX3_remember_50 (by decide) (fun c50 => ?_) (fun c50 => ?_)
                  ·
                    refine v_aload_n 1 dX3_remember_77 rfl rfl ?_
                    refine v_get fl_X3_25 dX3_remember_78 (up_n (by decide) h32) rfl ?_
                    refine v_aload_n 1 dX3_remember_81 rfl rfl ?_
                    refine v_get fl_X3_29 dX3_remember_82 (up_n (by decide) h32) rfl ?_
                    refine v_iconst (v := 1) dX3_remember_85 (by first | rfl | decide) ?_
                    refine v_iast dX3_remember_86 (up_n (by decide) h36) (nI_in' hlen) ?_
                    refine v_aload_n 1 dX3_remember_87 rfl rfl ?_
                    refine v_dup dX3_remember_88 rfl ?_
                    refine v_get fl_X3_29 dX3_remember_89 (up_n (by decide) (up_n (by decide) h32)) rfl ?_
                    refine v_iconst (v := 1) dX3_remember_92 (by first | rfl | decide) ?_
                    refine v_iadd dX3_remember_93 ?_
                    refine v_put fp_X3_29 dX3_remember_94 (up_n (by decide) (up_n (by decide) h32)) (Nat.le_of_ble_eq_true rfl) (by first | rfl | decide) (by first | rfl | decide) ?_
                    refine v_vret dX3_remember_97 rfl ?_
                    have hrem := remO_app (ls := ls) (L := L) (fun i K k hi => hne i K k (by have := (List.getElem?_eq_some_iff.mp hi).1; omega) hi)
                    refine ⟨rfl, ?_, ?_, ?_, ?_⟩
                    rotate_left 2
                    · rw [hrem, List.length_append, List.length_singleton, nI_1]
                      rfl
                    · rw [hrem, clamp (by omega)]
                      rw [show (0 : Int32) = nI 0 from rfl, show (1 : Int32) = nI 1 from rfl, show (2 : Int32) = nI 2 from rfl, show (3 : Int32) = nI 3 from rfl, show (4 : Int32) = nI 4 from rfl, ix5 hlen (by decide), ix5 hlen (by decide), ix5 hlen (by decide), ix5 hlen (by decide), ix5 hlen (by decide), clamp (by omega), clamp (by omega), clamp (by omega), clamp (by omega), clamp (by omega)]
                      refine hs.add (fun x hx => ?_) ?_
                      · simp only [vp_updL]
                        rw [if_neg (by omega), if_neg (by omega), if_neg (by omega), if_neg (by omega), if_neg (by omega)]
                      · refine ⟨?_, ?_, ?_, ?_, ?_⟩ <;> simp only [vp_updL] <;> simp <;> rfl
                  · exact absurd (by decide) c50
      · exact absurd ((nI_ltI (b := 120) (by omega) (by decide)).mpr hlen) c42
    · exact absurd ((nI_leI (by omega) (by omega)).mpr (by omega)) c7
  | succ m ih =>
    intro j hj hne
    refine v_iload_n 0 dX3_remember_2 rfl rfl ?_
    refine v_aload_n 1 dX3_remember_3 rfl rfl ?_
    refine v_get fl_X3_29 dX3_remember_4 h32 rfl ?_
    refine v_icmp_ge (tgt := 36) dX3_remember_7 (by decide) (fun c7 => ?_) (fun c7 => ?_)
    · have := (nI_leI (by omega) (by omega)).mp c7
      omega
    ·
      refine v_aload_n 1 dX3_remember_10 rfl rfl ?_
      refine v_iload_n 0 dX3_remember_11 rfl rfl ?_
      refine v_aload_n 2 dX3_remember_12 rfl rfl ?_
      refine v_callV (c_X3_isSeen d h32 h35 ha (by omega)) cs_X3_50 dX3_remember_13 h32 rfl rfl (Nat.le_of_ble_eq_true rfl) ?_
      rintro r_ m_ ⟨rfl, hc⟩
      have hjj : ls[j]? = some (ls[j].1, ls[j].2) := List.getElem?_eq_getElem (by omega)
      obtain ⟨w, rfl, hw⟩ : ∃ w : Int32, r_ = some (.int w) ∧ ((w = 1 ∧ rowIs s j L) ∨ (w = 0 ∧ ¬ rowIs s j L)) := by
        rcases hc with ⟨rfl, hrow⟩ | ⟨rfl, hrow⟩
        · exact ⟨1, rfl, Or.inl ⟨rfl, hrow⟩⟩
        · exact ⟨0, rfl, Or.inr ⟨rfl, hrow⟩⟩
      refine v_if_eq (tgt := 30) dX3_remember_16 (by decide) (fun c16 => ?_) (fun c16 => ?_)
      ·
        have hrow : ¬ rowIs s j L := by
          rcases hw with ⟨h, _⟩ | ⟨_, h⟩
          · exact absurd c16 (by rw [h]; decide)
          · exact h
        refine v_iinc (v := 1) 0 dX3_remember_30 rfl rfl (by decide) (fun z e_z => ?_)
        refine v_ls (ls' := [(2, .int z), (0, .ref 32), (1, .ref a)]) rfl ?_
        rw [nI_1] at e_z
        subst e_z
        refine v_goto (tgt := 2) dX3_remember_33 (by decide) ?_
        exact ih (j + 1) (by omega) (fun i K k hi hik => by
          by_cases e : i = j
          · subst e
            have := hjj.symm.trans hik
            simp only [Option.some.injEq, Prod.mk.injEq] at this
            intro hKL
            apply hrow
            rw [← hKL, ← this.1]
            exact (hs i _ _ hjj).1
          · exact hne i K k (by omega) hik)
        
      ·
        refine v_aload_n 1 dX3_remember_19 rfl rfl ?_
        refine v_get fl_X3_25 dX3_remember_20 h32 rfl ?_
        refine v_iload_n 0 dX3_remember_23 rfl rfl ?_
        refine v_dup2_11 dX3_remember_24 rfl rfl ?_
        refine v_iald dX3_remember_25 h36 (nI_in' (by omega)) ?_
        refine v_iconst (v := 1) dX3_remember_26 (by first | rfl | decide) ?_
        refine v_iadd dX3_remember_27 ?_
        refine v_iast dX3_remember_28 h36 (nI_in' (by omega)) ?_
        refine v_vret dX3_remember_29 rfl ?_
        have hrow : rowIs s j L := by
          rcases hw with ⟨_, h⟩ | ⟨h, _⟩
          · exact h
          · exact absurd h c16
        have hk := rowIs_inj (hs j _ _ hjj).1 hrow
        rw [hk] at hjj
        have hrem := remO_set hjj (fun i K k hi hik => hne i K k hi hik)
        refine ⟨rfl, s, upd t j (t j + 1), ?_, ?_⟩
        · rw [up_id h35, hrem, List.length_set, clamp (by omega), up_id (up_n (by decide) h32)]
        · rw [hrem]; exact hs.inc hjj

set_option maxRecDepth 20000 in
set_option maxHeartbeats 4000000 in
theorem c_X3_remember {G : Cx} (d : Nat) {μ : Hp} {lm mm : Int32} {s : Nat → Int64} {t : Nat → Int32} {a : Nat} {L : LT} {ls : List (LT × Nat)} (h32 : μ 32 = some (outC lm mm (nI ls.length))) (h35 : μ 35 = some (arJ 600 s)) (h36 : μ 36 = some (arI 120 t)) (ha : μ a = some (ligL L)) (hs : Sn ls s t) (hlen : ls.length < 120) (n32 : a ≠ 32) (n35 : a ≠ 35) (n36 : a ≠ 36) : Ct G (d + 2) 0 0 M_X3_remember [.ref 32, .ref a] μ (fun r μ' => r = none ∧ ∃ s' t', μ' = up (up (up μ 35 (arJ 600 s')) 36 (arI 120 t')) 32 (outC lm mm (nI (remO L ls).length)) ∧ Sn (remO L ls) s' t') := by
  refine Ct.ofV (by decide +kernel) (Nat.le_of_ble_eq_true rfl) ?_
  refine v_ls (ls' := [(0, .ref 32), (1, .ref a)]) rfl ?_
  refine v_iconst (v := 0) dX3_remember_0 (by first | rfl | decide) ?_
  refine v_istore_n dX3_remember_1 rfl (by decide) (fun x2 e_x2 => ?_)
  refine v_ls (ls' := [(2, .int x2), (0, .ref 32), (1, .ref a)]) rfl ?_
  subst e_x2
  exact rem_loop d h32 h35 h36 ha hs hlen n32 n35 n36 ls.length 0 (by omega) (fun i _ _ hi => by omega)
  

