theorem c7_dummy : True := trivial
set_option maxRecDepth 20000 in
set_option maxHeartbeats 4000000 in
theorem c_b1_0 {G : Cx} (d : Nat) {μ : Hp} {nw : Nat → Int64} {m un lr mr hr le at9 fa op tr sg hm hi : Int32} {co wh : Int64} (h60 : μ 60 = some (modC m co wh un lr mr hr le at9 fa op tr sg hm hi)) (h63 : μ 63 = some (arJ 5 nw)) : Ct G (d) 0 0 M_X7_begins1 [.ref 60, .int 0] μ (Rt none (up μ 63 (mlg (unitO 0)))) := by
  refine Ct.ofV (by decide +kernel) (Nat.le_of_ble_eq_true rfl) ?_
  refine v_ls (ls' := [(0, .ref 60), (1, .int (0))]) rfl ?_
  refine v_iconst (v := 0) dX7_begins1_0 (by first | rfl | decide) ?_
  refine v_istore_n dX7_begins1_1 rfl (by decide) (fun y2 e_y2 => ?_)
  refine v_ls (ls' := [(2, .int y2), (0, .ref 60), (1, .int (0))]) rfl ?_
  subst e_y2
  refine v_iload_n 0 dX7_begins1_2 rfl rfl ?_
  refine v_iconst (v := 5) dX7_begins1_3 (by first | rfl | decide) ?_
  refine v_icmp_ge (tgt := 29) dX7_begins1_4 (by decide) (fun hc4 => ?_) (fun hc4 => ?_)
  · exact absurd hc4 (by decide)
  ·
    refine v_aload_n 1 dX7_begins1_7 rfl rfl ?_
    refine v_get fl_X7_21 dX7_begins1_8 h60 rfl ?_
    refine v_iload_n 0 dX7_begins1_11 rfl rfl ?_
    refine v_iload_n 0 dX7_begins1_12 rfl rfl ?_
    refine v_iload_n 2 dX7_begins1_13 rfl rfl ?_
    refine v_icmp_ne (tgt := 21) dX7_begins1_14 (by decide) (fun hc14 => ?_) (fun hc14 => ?_)
    · exact absurd (by decide) hc14
    ·
      refine v_lconst (v := 1) dX7_begins1_17 (by first | rfl | decide) ?_
      refine v_goto (tgt := 22) dX7_begins1_18 (by decide) ?_
      refine v_last dX7_begins1_22 h63 (nI_in' (k := 0) (by decide)) ?_
      refine v_iinc (v := 1) 0 dX7_begins1_23 rfl rfl (by decide) (fun z_ ez_ => ?_)
      obtain rfl : z_ = 1 := by rw [ez_]; decide
      refine v_ls (ls' := [(2, .int (1)), (0, .ref 60), (1, .int (0))]) rfl ?_
      refine v_goto (tgt := 2) dX7_begins1_26 (by decide) ?_
      refine v_iload_n 0 dX7_begins1_2 rfl rfl ?_
      refine v_iconst (v := 5) dX7_begins1_3 (by first | rfl | decide) ?_
      refine v_icmp_ge (tgt := 29) dX7_begins1_4 (by decide) (fun hc4 => ?_) (fun hc4 => ?_)
      · exact absurd hc4 (by decide)
      ·
        refine v_aload_n 1 dX7_begins1_7 rfl rfl ?_
        refine v_get fl_X7_21 dX7_begins1_8 (up_n (by decide) h60) rfl ?_
        refine v_iload_n 0 dX7_begins1_11 rfl rfl ?_
        refine v_iload_n 0 dX7_begins1_12 rfl rfl ?_
        refine v_iload_n 2 dX7_begins1_13 rfl rfl ?_
        refine v_icmp_ne (tgt := 21) dX7_begins1_14 (by decide) (fun hc14 => ?_) (fun hc14 => ?_)
        ·
          refine v_lconst (v := 0) dX7_begins1_21 (by first | rfl | decide) ?_
          refine v_last dX7_begins1_22 (up_s _ _ _) (nI_in' (k := 1) (by decide)) ?_
          refine v_hp (up_up _ _ _ _) ?_
          refine v_iinc (v := 1) 0 dX7_begins1_23 rfl rfl (by decide) (fun z_ ez_ => ?_)
          obtain rfl : z_ = 2 := by rw [ez_]; decide
          refine v_ls (ls' := [(2, .int (2)), (0, .ref 60), (1, .int (0))]) rfl ?_
          refine v_goto (tgt := 2) dX7_begins1_26 (by decide) ?_
          refine v_iload_n 0 dX7_begins1_2 rfl rfl ?_
          refine v_iconst (v := 5) dX7_begins1_3 (by first | rfl | decide) ?_
          refine v_icmp_ge (tgt := 29) dX7_begins1_4 (by decide) (fun hc4 => ?_) (fun hc4 => ?_)
          · exact absurd hc4 (by decide)
          ·
            refine v_aload_n 1 dX7_begins1_7 rfl rfl ?_
            refine v_get fl_X7_21 dX7_begins1_8 (up_n (by decide) h60) rfl ?_
            refine v_iload_n 0 dX7_begins1_11 rfl rfl ?_
            refine v_iload_n 0 dX7_begins1_12 rfl rfl ?_
            refine v_iload_n 2 dX7_begins1_13 rfl rfl ?_
            refine v_icmp_ne (tgt := 21) dX7_begins1_14 (by decide) (fun hc14 => ?_) (fun hc14 => ?_)
            ·
              refine v_lconst (v := 0) dX7_begins1_21 (by first | rfl | decide) ?_
              refine v_last dX7_begins1_22 (up_s _ _ _) (nI_in' (k := 2) (by decide)) ?_
              refine v_hp (up_up _ _ _ _) ?_
              refine v_iinc (v := 1) 0 dX7_begins1_23 rfl rfl (by decide) (fun z_ ez_ => ?_)
              obtain rfl : z_ = 3 := by rw [ez_]; decide
              refine v_ls (ls' := [(2, .int (3)), (0, .ref 60), (1, .int (0))]) rfl ?_
              refine v_goto (tgt := 2) dX7_begins1_26 (by decide) ?_
              refine v_iload_n 0 dX7_begins1_2 rfl rfl ?_
              refine v_iconst (v := 5) dX7_begins1_3 (by first | rfl | decide) ?_
              refine v_icmp_ge (tgt := 29) dX7_begins1_4 (by decide) (fun hc4 => ?_) (fun hc4 => ?_)
              · exact absurd hc4 (by decide)
              ·
                refine v_aload_n 1 dX7_begins1_7 rfl rfl ?_
                refine v_get fl_X7_21 dX7_begins1_8 (up_n (by decide) h60) rfl ?_
                refine v_iload_n 0 dX7_begins1_11 rfl rfl ?_
                refine v_iload_n 0 dX7_begins1_12 rfl rfl ?_
                refine v_iload_n 2 dX7_begins1_13 rfl rfl ?_
                refine v_icmp_ne (tgt := 21) dX7_begins1_14 (by decide) (fun hc14 => ?_) (fun hc14 => ?_)
                ·
                  refine v_lconst (v := 0) dX7_begins1_21 (by first | rfl | decide) ?_
                  refine v_last dX7_begins1_22 (up_s _ _ _) (nI_in' (k := 3) (by decide)) ?_
                  refine v_hp (up_up _ _ _ _) ?_
                  refine v_iinc (v := 1) 0 dX7_begins1_23 rfl rfl (by decide) (fun z_ ez_ => ?_)
                  obtain rfl : z_ = 4 := by rw [ez_]; decide
                  refine v_ls (ls' := [(2, .int (4)), (0, .ref 60), (1, .int (0))]) rfl ?_
                  refine v_goto (tgt := 2) dX7_begins1_26 (by decide) ?_
                  refine v_iload_n 0 dX7_begins1_2 rfl rfl ?_
                  refine v_iconst (v := 5) dX7_begins1_3 (by first | rfl | decide) ?_
                  refine v_icmp_ge (tgt := 29) dX7_begins1_4 (by decide) (fun hc4 => ?_) (fun hc4 => ?_)
                  · exact absurd hc4 (by decide)
                  ·
                    refine v_aload_n 1 dX7_begins1_7 rfl rfl ?_
                    refine v_get fl_X7_21 dX7_begins1_8 (up_n (by decide) h60) rfl ?_
                    refine v_iload_n 0 dX7_begins1_11 rfl rfl ?_
                    refine v_iload_n 0 dX7_begins1_12 rfl rfl ?_
                    refine v_iload_n 2 dX7_begins1_13 rfl rfl ?_
                    refine v_icmp_ne (tgt := 21) dX7_begins1_14 (by decide) (fun hc14 => ?_) (fun hc14 => ?_)
                    ·
                      refine v_lconst (v := 0) dX7_begins1_21 (by first | rfl | decide) ?_
                      refine v_last dX7_begins1_22 (up_s _ _ _) (nI_in' (k := 4) (by decide)) ?_
                      refine v_hp (up_up _ _ _ _) ?_
                      refine v_iinc (v := 1) 0 dX7_begins1_23 rfl rfl (by decide) (fun z_ ez_ => ?_)
                      obtain rfl : z_ = 5 := by rw [ez_]; decide
                      refine v_ls (ls' := [(2, .int (5)), (0, .ref 60), (1, .int (0))]) rfl ?_
                      refine v_goto (tgt := 2) dX7_begins1_26 (by decide) ?_
                      refine v_iload_n 0 dX7_begins1_2 rfl rfl ?_
                      refine v_iconst (v := 5) dX7_begins1_3 (by first | rfl | decide) ?_
                      refine v_icmp_ge (tgt := 29) dX7_begins1_4 (by decide) (fun hc4 => ?_) (fun hc4 => ?_)
                      ·
                        refine v_njJ (g := lvO (unitO 0)) (all5 rfl rfl rfl rfl rfl) ?_
                        refine v_vret dX7_begins1_29 rfl ?_
                        exact ⟨rfl, rfl⟩
                      · exact absurd (by decide) hc4
                    · exact absurd hc14 (by decide)
                · exact absurd hc14 (by decide)
            · exact absurd hc14 (by decide)
        · exact absurd hc14 (by decide)

set_option maxRecDepth 20000 in
set_option maxHeartbeats 4000000 in
theorem c_b1_1 {G : Cx} (d : Nat) {μ : Hp} {nw : Nat → Int64} {m un lr mr hr le at9 fa op tr sg hm hi : Int32} {co wh : Int64} (h60 : μ 60 = some (modC m co wh un lr mr hr le at9 fa op tr sg hm hi)) (h63 : μ 63 = some (arJ 5 nw)) : Ct G (d) 0 0 M_X7_begins1 [.ref 60, .int 1] μ (Rt none (up μ 63 (mlg (unitO 1)))) := by
  refine Ct.ofV (by decide +kernel) (Nat.le_of_ble_eq_true rfl) ?_
  refine v_ls (ls' := [(0, .ref 60), (1, .int (1))]) rfl ?_
  refine v_iconst (v := 0) dX7_begins1_0 (by first | rfl | decide) ?_
  refine v_istore_n dX7_begins1_1 rfl (by decide) (fun y2 e_y2 => ?_)
  refine v_ls (ls' := [(2, .int y2), (0, .ref 60), (1, .int (1))]) rfl ?_
  subst e_y2
  refine v_iload_n 0 dX7_begins1_2 rfl rfl ?_
  refine v_iconst (v := 5) dX7_begins1_3 (by first | rfl | decide) ?_
  refine v_icmp_ge (tgt := 29) dX7_begins1_4 (by decide) (fun hc4 => ?_) (fun hc4 => ?_)
  · exact absurd hc4 (by decide)
  ·
    refine v_aload_n 1 dX7_begins1_7 rfl rfl ?_
    refine v_get fl_X7_21 dX7_begins1_8 h60 rfl ?_
    refine v_iload_n 0 dX7_begins1_11 rfl rfl ?_
    refine v_iload_n 0 dX7_begins1_12 rfl rfl ?_
    refine v_iload_n 2 dX7_begins1_13 rfl rfl ?_
    refine v_icmp_ne (tgt := 21) dX7_begins1_14 (by decide) (fun hc14 => ?_) (fun hc14 => ?_)
    ·
      refine v_lconst (v := 0) dX7_begins1_21 (by first | rfl | decide) ?_
      refine v_last dX7_begins1_22 h63 (nI_in' (k := 0) (by decide)) ?_
      refine v_iinc (v := 1) 0 dX7_begins1_23 rfl rfl (by decide) (fun z_ ez_ => ?_)
      obtain rfl : z_ = 1 := by rw [ez_]; decide
      refine v_ls (ls' := [(2, .int (1)), (0, .ref 60), (1, .int (1))]) rfl ?_
      refine v_goto (tgt := 2) dX7_begins1_26 (by decide) ?_
      refine v_iload_n 0 dX7_begins1_2 rfl rfl ?_
      refine v_iconst (v := 5) dX7_begins1_3 (by first | rfl | decide) ?_
      refine v_icmp_ge (tgt := 29) dX7_begins1_4 (by decide) (fun hc4 => ?_) (fun hc4 => ?_)
      · exact absurd hc4 (by decide)
      ·
        refine v_aload_n 1 dX7_begins1_7 rfl rfl ?_
        refine v_get fl_X7_21 dX7_begins1_8 (up_n (by decide) h60) rfl ?_
        refine v_iload_n 0 dX7_begins1_11 rfl rfl ?_
        refine v_iload_n 0 dX7_begins1_12 rfl rfl ?_
        refine v_iload_n 2 dX7_begins1_13 rfl rfl ?_
        refine v_icmp_ne (tgt := 21) dX7_begins1_14 (by decide) (fun hc14 => ?_) (fun hc14 => ?_)
        · exact absurd (by decide) hc14
        ·
          refine v_lconst (v := 1) dX7_begins1_17 (by first | rfl | decide) ?_
          refine v_goto (tgt := 22) dX7_begins1_18 (by decide) ?_
          refine v_last dX7_begins1_22 (up_s _ _ _) (nI_in' (k := 1) (by decide)) ?_
          refine v_hp (up_up _ _ _ _) ?_
          refine v_iinc (v := 1) 0 dX7_begins1_23 rfl rfl (by decide) (fun z_ ez_ => ?_)
          obtain rfl : z_ = 2 := by rw [ez_]; decide
          refine v_ls (ls' := [(2, .int (2)), (0, .ref 60), (1, .int (1))]) rfl ?_
          refine v_goto (tgt := 2) dX7_begins1_26 (by decide) ?_
          refine v_iload_n 0 dX7_begins1_2 rfl rfl ?_
          refine v_iconst (v := 5) dX7_begins1_3 (by first | rfl | decide) ?_
          refine v_icmp_ge (tgt := 29) dX7_begins1_4 (by decide) (fun hc4 => ?_) (fun hc4 => ?_)
          · exact absurd hc4 (by decide)
          ·
            refine v_aload_n 1 dX7_begins1_7 rfl rfl ?_
            refine v_get fl_X7_21 dX7_begins1_8 (up_n (by decide) h60) rfl ?_
            refine v_iload_n 0 dX7_begins1_11 rfl rfl ?_
            refine v_iload_n 0 dX7_begins1_12 rfl rfl ?_
            refine v_iload_n 2 dX7_begins1_13 rfl rfl ?_
            refine v_icmp_ne (tgt := 21) dX7_begins1_14 (by decide) (fun hc14 => ?_) (fun hc14 => ?_)
            ·
              refine v_lconst (v := 0) dX7_begins1_21 (by first | rfl | decide) ?_
              refine v_last dX7_begins1_22 (up_s _ _ _) (nI_in' (k := 2) (by decide)) ?_
              refine v_hp (up_up _ _ _ _) ?_
              refine v_iinc (v := 1) 0 dX7_begins1_23 rfl rfl (by decide) (fun z_ ez_ => ?_)
              obtain rfl : z_ = 3 := by rw [ez_]; decide
              refine v_ls (ls' := [(2, .int (3)), (0, .ref 60), (1, .int (1))]) rfl ?_
              refine v_goto (tgt := 2) dX7_begins1_26 (by decide) ?_
              refine v_iload_n 0 dX7_begins1_2 rfl rfl ?_
              refine v_iconst (v := 5) dX7_begins1_3 (by first | rfl | decide) ?_
              refine v_icmp_ge (tgt := 29) dX7_begins1_4 (by decide) (fun hc4 => ?_) (fun hc4 => ?_)
              · exact absurd hc4 (by decide)
              ·
                refine v_aload_n 1 dX7_begins1_7 rfl rfl ?_
                refine v_get fl_X7_21 dX7_begins1_8 (up_n (by decide) h60) rfl ?_
                refine v_iload_n 0 dX7_begins1_11 rfl rfl ?_
                refine v_iload_n 0 dX7_begins1_12 rfl rfl ?_
                refine v_iload_n 2 dX7_begins1_13 rfl rfl ?_
                refine v_icmp_ne (tgt := 21) dX7_begins1_14 (by decide) (fun hc14 => ?_) (fun hc14 => ?_)
                ·
                  refine v_lconst (v := 0) dX7_begins1_21 (by first | rfl | decide) ?_
                  refine v_last dX7_begins1_22 (up_s _ _ _) (nI_in' (k := 3) (by decide)) ?_
                  refine v_hp (up_up _ _ _ _) ?_
                  refine v_iinc (v := 1) 0 dX7_begins1_23 rfl rfl (by decide) (fun z_ ez_ => ?_)
                  obtain rfl : z_ = 4 := by rw [ez_]; decide
                  refine v_ls (ls' := [(2, .int (4)), (0, .ref 60), (1, .int (1))]) rfl ?_
                  refine v_goto (tgt := 2) dX7_begins1_26 (by decide) ?_
                  refine v_iload_n 0 dX7_begins1_2 rfl rfl ?_
                  refine v_iconst (v := 5) dX7_begins1_3 (by first | rfl | decide) ?_
                  refine v_icmp_ge (tgt := 29) dX7_begins1_4 (by decide) (fun hc4 => ?_) (fun hc4 => ?_)
                  · exact absurd hc4 (by decide)
                  ·
                    refine v_aload_n 1 dX7_begins1_7 rfl rfl ?_
                    refine v_get fl_X7_21 dX7_begins1_8 (up_n (by decide) h60) rfl ?_
                    refine v_iload_n 0 dX7_begins1_11 rfl rfl ?_
                    refine v_iload_n 0 dX7_begins1_12 rfl rfl ?_
                    refine v_iload_n 2 dX7_begins1_13 rfl rfl ?_
                    refine v_icmp_ne (tgt := 21) dX7_begins1_14 (by decide) (fun hc14 => ?_) (fun hc14 => ?_)
                    ·
                      refine v_lconst (v := 0) dX7_begins1_21 (by first | rfl | decide) ?_
                      refine v_last dX7_begins1_22 (up_s _ _ _) (nI_in' (k := 4) (by decide)) ?_
                      refine v_hp (up_up _ _ _ _) ?_
                      refine v_iinc (v := 1) 0 dX7_begins1_23 rfl rfl (by decide) (fun z_ ez_ => ?_)
                      obtain rfl : z_ = 5 := by rw [ez_]; decide
                      refine v_ls (ls' := [(2, .int (5)), (0, .ref 60), (1, .int (1))]) rfl ?_
                      refine v_goto (tgt := 2) dX7_begins1_26 (by decide) ?_
                      refine v_iload_n 0 dX7_begins1_2 rfl rfl ?_
                      refine v_iconst (v := 5) dX7_begins1_3 (by first | rfl | decide) ?_
                      refine v_icmp_ge (tgt := 29) dX7_begins1_4 (by decide) (fun hc4 => ?_) (fun hc4 => ?_)
                      ·
                        refine v_njJ (g := lvO (unitO 1)) (all5 rfl rfl rfl rfl rfl) ?_
                        refine v_vret dX7_begins1_29 rfl ?_
                        exact ⟨rfl, rfl⟩
                      · exact absurd (by decide) hc4
                    · exact absurd hc14 (by decide)
                · exact absurd hc14 (by decide)
            · exact absurd hc14 (by decide)
    · exact absurd hc14 (by decide)

set_option maxRecDepth 20000 in
set_option maxHeartbeats 4000000 in
theorem c_b1_2 {G : Cx} (d : Nat) {μ : Hp} {nw : Nat → Int64} {m un lr mr hr le at9 fa op tr sg hm hi : Int32} {co wh : Int64} (h60 : μ 60 = some (modC m co wh un lr mr hr le at9 fa op tr sg hm hi)) (h63 : μ 63 = some (arJ 5 nw)) : Ct G (d) 0 0 M_X7_begins1 [.ref 60, .int 2] μ (Rt none (up μ 63 (mlg (unitO 2)))) := by
  refine Ct.ofV (by decide +kernel) (Nat.le_of_ble_eq_true rfl) ?_
  refine v_ls (ls' := [(0, .ref 60), (1, .int (2))]) rfl ?_
  refine v_iconst (v := 0) dX7_begins1_0 (by first | rfl | decide) ?_
  refine v_istore_n dX7_begins1_1 rfl (by decide) (fun y2 e_y2 => ?_)
  refine v_ls (ls' := [(2, .int y2), (0, .ref 60), (1, .int (2))]) rfl ?_
  subst e_y2
  refine v_iload_n 0 dX7_begins1_2 rfl rfl ?_
  refine v_iconst (v := 5) dX7_begins1_3 (by first | rfl | decide) ?_
  refine v_icmp_ge (tgt := 29) dX7_begins1_4 (by decide) (fun hc4 => ?_) (fun hc4 => ?_)
  · exact absurd hc4 (by decide)
  ·
    refine v_aload_n 1 dX7_begins1_7 rfl rfl ?_
    refine v_get fl_X7_21 dX7_begins1_8 h60 rfl ?_
    refine v_iload_n 0 dX7_begins1_11 rfl rfl ?_
    refine v_iload_n 0 dX7_begins1_12 rfl rfl ?_
    refine v_iload_n 2 dX7_begins1_13 rfl rfl ?_
    refine v_icmp_ne (tgt := 21) dX7_begins1_14 (by decide) (fun hc14 => ?_) (fun hc14 => ?_)
    ·
      refine v_lconst (v := 0) dX7_begins1_21 (by first | rfl | decide) ?_
      refine v_last dX7_begins1_22 h63 (nI_in' (k := 0) (by decide)) ?_
      refine v_iinc (v := 1) 0 dX7_begins1_23 rfl rfl (by decide) (fun z_ ez_ => ?_)
      obtain rfl : z_ = 1 := by rw [ez_]; decide
      refine v_ls (ls' := [(2, .int (1)), (0, .ref 60), (1, .int (2))]) rfl ?_
      refine v_goto (tgt := 2) dX7_begins1_26 (by decide) ?_
      refine v_iload_n 0 dX7_begins1_2 rfl rfl ?_
      refine v_iconst (v := 5) dX7_begins1_3 (by first | rfl | decide) ?_
      refine v_icmp_ge (tgt := 29) dX7_begins1_4 (by decide) (fun hc4 => ?_) (fun hc4 => ?_)
      · exact absurd hc4 (by decide)
      ·
        refine v_aload_n 1 dX7_begins1_7 rfl rfl ?_
        refine v_get fl_X7_21 dX7_begins1_8 (up_n (by decide) h60) rfl ?_
        refine v_iload_n 0 dX7_begins1_11 rfl rfl ?_
        refine v_iload_n 0 dX7_begins1_12 rfl rfl ?_
        refine v_iload_n 2 dX7_begins1_13 rfl rfl ?_
        refine v_icmp_ne (tgt := 21) dX7_begins1_14 (by decide) (fun hc14 => ?_) (fun hc14 => ?_)
        ·
          refine v_lconst (v := 0) dX7_begins1_21 (by first | rfl | decide) ?_
          refine v_last dX7_begins1_22 (up_s _ _ _) (nI_in' (k := 1) (by decide)) ?_
          refine v_hp (up_up _ _ _ _) ?_
          refine v_iinc (v := 1) 0 dX7_begins1_23 rfl rfl (by decide) (fun z_ ez_ => ?_)
          obtain rfl : z_ = 2 := by rw [ez_]; decide
          refine v_ls (ls' := [(2, .int (2)), (0, .ref 60), (1, .int (2))]) rfl ?_
          refine v_goto (tgt := 2) dX7_begins1_26 (by decide) ?_
          refine v_iload_n 0 dX7_begins1_2 rfl rfl ?_
          refine v_iconst (v := 5) dX7_begins1_3 (by first | rfl | decide) ?_
          refine v_icmp_ge (tgt := 29) dX7_begins1_4 (by decide) (fun hc4 => ?_) (fun hc4 => ?_)
          · exact absurd hc4 (by decide)
          ·
            refine v_aload_n 1 dX7_begins1_7 rfl rfl ?_
            refine v_get fl_X7_21 dX7_begins1_8 (up_n (by decide) h60) rfl ?_
            refine v_iload_n 0 dX7_begins1_11 rfl rfl ?_
            refine v_iload_n 0 dX7_begins1_12 rfl rfl ?_
            refine v_iload_n 2 dX7_begins1_13 rfl rfl ?_
            refine v_icmp_ne (tgt := 21) dX7_begins1_14 (by decide) (fun hc14 => ?_) (fun hc14 => ?_)
            · exact absurd (by decide) hc14
            ·
              refine v_lconst (v := 1) dX7_begins1_17 (by first | rfl | decide) ?_
              refine v_goto (tgt := 22) dX7_begins1_18 (by decide) ?_
              refine v_last dX7_begins1_22 (up_s _ _ _) (nI_in' (k := 2) (by decide)) ?_
              refine v_hp (up_up _ _ _ _) ?_
              refine v_iinc (v := 1) 0 dX7_begins1_23 rfl rfl (by decide) (fun z_ ez_ => ?_)
              obtain rfl : z_ = 3 := by rw [ez_]; decide
              refine v_ls (ls' := [(2, .int (3)), (0, .ref 60), (1, .int (2))]) rfl ?_
              refine v_goto (tgt := 2) dX7_begins1_26 (by decide) ?_
              refine v_iload_n 0 dX7_begins1_2 rfl rfl ?_
              refine v_iconst (v := 5) dX7_begins1_3 (by first | rfl | decide) ?_
              refine v_icmp_ge (tgt := 29) dX7_begins1_4 (by decide) (fun hc4 => ?_) (fun hc4 => ?_)
              · exact absurd hc4 (by decide)
              ·
                refine v_aload_n 1 dX7_begins1_7 rfl rfl ?_
                refine v_get fl_X7_21 dX7_begins1_8 (up_n (by decide) h60) rfl ?_
                refine v_iload_n 0 dX7_begins1_11 rfl rfl ?_
                refine v_iload_n 0 dX7_begins1_12 rfl rfl ?_
                refine v_iload_n 2 dX7_begins1_13 rfl rfl ?_
                refine v_icmp_ne (tgt := 21) dX7_begins1_14 (by decide) (fun hc14 => ?_) (fun hc14 => ?_)
                ·
                  refine v_lconst (v := 0) dX7_begins1_21 (by first | rfl | decide) ?_
                  refine v_last dX7_begins1_22 (up_s _ _ _) (nI_in' (k := 3) (by decide)) ?_
                  refine v_hp (up_up _ _ _ _) ?_
                  refine v_iinc (v := 1) 0 dX7_begins1_23 rfl rfl (by decide) (fun z_ ez_ => ?_)
                  obtain rfl : z_ = 4 := by rw [ez_]; decide
                  refine v_ls (ls' := [(2, .int (4)), (0, .ref 60), (1, .int (2))]) rfl ?_
                  refine v_goto (tgt := 2) dX7_begins1_26 (by decide) ?_
                  refine v_iload_n 0 dX7_begins1_2 rfl rfl ?_
                  refine v_iconst (v := 5) dX7_begins1_3 (by first | rfl | decide) ?_
                  refine v_icmp_ge (tgt := 29) dX7_begins1_4 (by decide) (fun hc4 => ?_) (fun hc4 => ?_)
                  · exact absurd hc4 (by decide)
                  ·
                    refine v_aload_n 1 dX7_begins1_7 rfl rfl ?_
                    refine v_get fl_X7_21 dX7_begins1_8 (up_n (by decide) h60) rfl ?_
                    refine v_iload_n 0 dX7_begins1_11 rfl rfl ?_
                    refine v_iload_n 0 dX7_begins1_12 rfl rfl ?_
                    refine v_iload_n 2 dX7_begins1_13 rfl rfl ?_
                    refine v_icmp_ne (tgt := 21) dX7_begins1_14 (by decide) (fun hc14 => ?_) (fun hc14 => ?_)
                    ·
                      refine v_lconst (v := 0) dX7_begins1_21 (by first | rfl | decide) ?_
                      refine v_last dX7_begins1_22 (up_s _ _ _) (nI_in' (k := 4) (by decide)) ?_
                      refine v_hp (up_up _ _ _ _) ?_
                      refine v_iinc (v := 1) 0 dX7_begins1_23 rfl rfl (by decide) (fun z_ ez_ => ?_)
                      obtain rfl : z_ = 5 := by rw [ez_]; decide
                      refine v_ls (ls' := [(2, .int (5)), (0, .ref 60), (1, .int (2))]) rfl ?_
                      refine v_goto (tgt := 2) dX7_begins1_26 (by decide) ?_
                      refine v_iload_n 0 dX7_begins1_2 rfl rfl ?_
                      refine v_iconst (v := 5) dX7_begins1_3 (by first | rfl | decide) ?_
                      refine v_icmp_ge (tgt := 29) dX7_begins1_4 (by decide) (fun hc4 => ?_) (fun hc4 => ?_)
                      ·
                        refine v_njJ (g := lvO (unitO 2)) (all5 rfl rfl rfl rfl rfl) ?_
                        refine v_vret dX7_begins1_29 rfl ?_
                        exact ⟨rfl, rfl⟩
                      · exact absurd (by decide) hc4
                    · exact absurd hc14 (by decide)
                · exact absurd hc14 (by decide)
        · exact absurd hc14 (by decide)
    · exact absurd hc14 (by decide)

set_option maxRecDepth 20000 in
set_option maxHeartbeats 4000000 in
theorem c_b1_3 {G : Cx} (d : Nat) {μ : Hp} {nw : Nat → Int64} {m un lr mr hr le at9 fa op tr sg hm hi : Int32} {co wh : Int64} (h60 : μ 60 = some (modC m co wh un lr mr hr le at9 fa op tr sg hm hi)) (h63 : μ 63 = some (arJ 5 nw)) : Ct G (d) 0 0 M_X7_begins1 [.ref 60, .int 3] μ (Rt none (up μ 63 (mlg (unitO 3)))) := by
  refine Ct.ofV (by decide +kernel) (Nat.le_of_ble_eq_true rfl) ?_
  refine v_ls (ls' := [(0, .ref 60), (1, .int (3))]) rfl ?_
  refine v_iconst (v := 0) dX7_begins1_0 (by first | rfl | decide) ?_
  refine v_istore_n dX7_begins1_1 rfl (by decide) (fun y2 e_y2 => ?_)
  refine v_ls (ls' := [(2, .int y2), (0, .ref 60), (1, .int (3))]) rfl ?_
  subst e_y2
  refine v_iload_n 0 dX7_begins1_2 rfl rfl ?_
  refine v_iconst (v := 5) dX7_begins1_3 (by first | rfl | decide) ?_
  refine v_icmp_ge (tgt := 29) dX7_begins1_4 (by decide) (fun hc4 => ?_) (fun hc4 => ?_)
  · exact absurd hc4 (by decide)
  ·
    refine v_aload_n 1 dX7_begins1_7 rfl rfl ?_
    refine v_get fl_X7_21 dX7_begins1_8 h60 rfl ?_
    refine v_iload_n 0 dX7_begins1_11 rfl rfl ?_
    refine v_iload_n 0 dX7_begins1_12 rfl rfl ?_
    refine v_iload_n 2 dX7_begins1_13 rfl rfl ?_
    refine v_icmp_ne (tgt := 21) dX7_begins1_14 (by decide) (fun hc14 => ?_) (fun hc14 => ?_)
    ·
      refine v_lconst (v := 0) dX7_begins1_21 (by first | rfl | decide) ?_
      refine v_last dX7_begins1_22 h63 (nI_in' (k := 0) (by decide)) ?_
      refine v_iinc (v := 1) 0 dX7_begins1_23 rfl rfl (by decide) (fun z_ ez_ => ?_)
      obtain rfl : z_ = 1 := by rw [ez_]; decide
      refine v_ls (ls' := [(2, .int (1)), (0, .ref 60), (1, .int (3))]) rfl ?_
      refine v_goto (tgt := 2) dX7_begins1_26 (by decide) ?_
      refine v_iload_n 0 dX7_begins1_2 rfl rfl ?_
      refine v_iconst (v := 5) dX7_begins1_3 (by first | rfl | decide) ?_
      refine v_icmp_ge (tgt := 29) dX7_begins1_4 (by decide) (fun hc4 => ?_) (fun hc4 => ?_)
      · exact absurd hc4 (by decide)
      ·
        refine v_aload_n 1 dX7_begins1_7 rfl rfl ?_
        refine v_get fl_X7_21 dX7_begins1_8 (up_n (by decide) h60) rfl ?_
        refine v_iload_n 0 dX7_begins1_11 rfl rfl ?_
        refine v_iload_n 0 dX7_begins1_12 rfl rfl ?_
        refine v_iload_n 2 dX7_begins1_13 rfl rfl ?_
        refine v_icmp_ne (tgt := 21) dX7_begins1_14 (by decide) (fun hc14 => ?_) (fun hc14 => ?_)
        ·
          refine v_lconst (v := 0) dX7_begins1_21 (by first | rfl | decide) ?_
          refine v_last dX7_begins1_22 (up_s _ _ _) (nI_in' (k := 1) (by decide)) ?_
          refine v_hp (up_up _ _ _ _) ?_
          refine v_iinc (v := 1) 0 dX7_begins1_23 rfl rfl (by decide) (fun z_ ez_ => ?_)
          obtain rfl : z_ = 2 := by rw [ez_]; decide
          refine v_ls (ls' := [(2, .int (2)), (0, .ref 60), (1, .int (3))]) rfl ?_
          refine v_goto (tgt := 2) dX7_begins1_26 (by decide) ?_
          refine v_iload_n 0 dX7_begins1_2 rfl rfl ?_
          refine v_iconst (v := 5) dX7_begins1_3 (by first | rfl | decide) ?_
          refine v_icmp_ge (tgt := 29) dX7_begins1_4 (by decide) (fun hc4 => ?_) (fun hc4 => ?_)
          · exact absurd hc4 (by decide)
          ·
            refine v_aload_n 1 dX7_begins1_7 rfl rfl ?_
            refine v_get fl_X7_21 dX7_begins1_8 (up_n (by decide) h60) rfl ?_
            refine v_iload_n 0 dX7_begins1_11 rfl rfl ?_
            refine v_iload_n 0 dX7_begins1_12 rfl rfl ?_
            refine v_iload_n 2 dX7_begins1_13 rfl rfl ?_
            refine v_icmp_ne (tgt := 21) dX7_begins1_14 (by decide) (fun hc14 => ?_) (fun hc14 => ?_)
            ·
              refine v_lconst (v := 0) dX7_begins1_21 (by first | rfl | decide) ?_
              refine v_last dX7_begins1_22 (up_s _ _ _) (nI_in' (k := 2) (by decide)) ?_
              refine v_hp (up_up _ _ _ _) ?_
              refine v_iinc (v := 1) 0 dX7_begins1_23 rfl rfl (by decide) (fun z_ ez_ => ?_)
              obtain rfl : z_ = 3 := by rw [ez_]; decide
              refine v_ls (ls' := [(2, .int (3)), (0, .ref 60), (1, .int (3))]) rfl ?_
              refine v_goto (tgt := 2) dX7_begins1_26 (by decide) ?_
              refine v_iload_n 0 dX7_begins1_2 rfl rfl ?_
              refine v_iconst (v := 5) dX7_begins1_3 (by first | rfl | decide) ?_
              refine v_icmp_ge (tgt := 29) dX7_begins1_4 (by decide) (fun hc4 => ?_) (fun hc4 => ?_)
              · exact absurd hc4 (by decide)
              ·
                refine v_aload_n 1 dX7_begins1_7 rfl rfl ?_
                refine v_get fl_X7_21 dX7_begins1_8 (up_n (by decide) h60) rfl ?_
                refine v_iload_n 0 dX7_begins1_11 rfl rfl ?_
                refine v_iload_n 0 dX7_begins1_12 rfl rfl ?_
                refine v_iload_n 2 dX7_begins1_13 rfl rfl ?_
                refine v_icmp_ne (tgt := 21) dX7_begins1_14 (by decide) (fun hc14 => ?_) (fun hc14 => ?_)
                · exact absurd (by decide) hc14
                ·
                  refine v_lconst (v := 1) dX7_begins1_17 (by first | rfl | decide) ?_
                  refine v_goto (tgt := 22) dX7_begins1_18 (by decide) ?_
                  refine v_last dX7_begins1_22 (up_s _ _ _) (nI_in' (k := 3) (by decide)) ?_
                  refine v_hp (up_up _ _ _ _) ?_
                  refine v_iinc (v := 1) 0 dX7_begins1_23 rfl rfl (by decide) (fun z_ ez_ => ?_)
                  obtain rfl : z_ = 4 := by rw [ez_]; decide
                  refine v_ls (ls' := [(2, .int (4)), (0, .ref 60), (1, .int (3))]) rfl ?_
                  refine v_goto (tgt := 2) dX7_begins1_26 (by decide) ?_
                  refine v_iload_n 0 dX7_begins1_2 rfl rfl ?_
                  refine v_iconst (v := 5) dX7_begins1_3 (by first | rfl | decide) ?_
                  refine v_icmp_ge (tgt := 29) dX7_begins1_4 (by decide) (fun hc4 => ?_) (fun hc4 => ?_)
                  · exact absurd hc4 (by decide)
                  ·
                    refine v_aload_n 1 dX7_begins1_7 rfl rfl ?_
                    refine v_get fl_X7_21 dX7_begins1_8 (up_n (by decide) h60) rfl ?_
                    refine v_iload_n 0 dX7_begins1_11 rfl rfl ?_
                    refine v_iload_n 0 dX7_begins1_12 rfl rfl ?_
                    refine v_iload_n 2 dX7_begins1_13 rfl rfl ?_
                    refine v_icmp_ne (tgt := 21) dX7_begins1_14 (by decide) (fun hc14 => ?_) (fun hc14 => ?_)
                    ·
                      refine v_lconst (v := 0) dX7_begins1_21 (by first | rfl | decide) ?_
                      refine v_last dX7_begins1_22 (up_s _ _ _) (nI_in' (k := 4) (by decide)) ?_
                      refine v_hp (up_up _ _ _ _) ?_
                      refine v_iinc (v := 1) 0 dX7_begins1_23 rfl rfl (by decide) (fun z_ ez_ => ?_)
                      obtain rfl : z_ = 5 := by rw [ez_]; decide
                      refine v_ls (ls' := [(2, .int (5)), (0, .ref 60), (1, .int (3))]) rfl ?_
                      refine v_goto (tgt := 2) dX7_begins1_26 (by decide) ?_
                      refine v_iload_n 0 dX7_begins1_2 rfl rfl ?_
                      refine v_iconst (v := 5) dX7_begins1_3 (by first | rfl | decide) ?_
                      refine v_icmp_ge (tgt := 29) dX7_begins1_4 (by decide) (fun hc4 => ?_) (fun hc4 => ?_)
                      ·
                        refine v_njJ (g := lvO (unitO 3)) (all5 rfl rfl rfl rfl rfl) ?_
                        refine v_vret dX7_begins1_29 rfl ?_
                        exact ⟨rfl, rfl⟩
                      · exact absurd (by decide) hc4
                    · exact absurd hc14 (by decide)
            · exact absurd hc14 (by decide)
        · exact absurd hc14 (by decide)
    · exact absurd hc14 (by decide)

theorem c_X7_begins1 {G : Cx} (d : Nat) {μ : Hp} {nw : Nat → Int64} {m un lr mr hr le at9 fa op tr sg hm hi : Int32} {co wh : Int64} {c : Nat} (hc : c < 4) (h60 : μ 60 = some (modC m co wh un lr mr hr le at9 fa op tr sg hm hi)) (h63 : μ 63 = some (arJ 5 nw)) : Ct G d 0 0 M_X7_begins1 [.ref 60, .int (nI c)] μ (Rt none (up μ 63 (mlg (unitO (nI c))))) := by
  match c, hc with
  | 0, _ => exact c_b1_0 d h60 h63
  | 1, _ => exact c_b1_1 d h60 h63
  | 2, _ => exact c_b1_2 d h60 h63
  | 3, _ => exact c_b1_3 d h60 h63
theorem unit_e (c : Int32) (n : Nat) : Eb n (unitO c) := ⟨Int.le_refl _, Int.natCast_nonneg n⟩
theorem shl_0 (x : Int64) : shlO x 0 = x := by
  apply Int64.toBitVec_inj.mp
  show x.toBitVec <<< (((0 : Int32).toInt64 &&& 63).toBitVec.smod 64) = x.toBitVec
  rw [show ((0 : Int32).toInt64 &&& 63).toBitVec.smod 64 = 0#64 by decide +kernel]
  rw [BitVec.shiftLeft_eq']
  exact BitVec.shiftLeft_zero _
set_option maxRecDepth 20000 in
set_option maxHeartbeats 4000000 in
theorem c_X7_compared {G : Cx} (d : Nat) {μ : Hp} {L K : LT} (hL : Eb 1000 L) (hK : Eb 1000 K) : Ct G (d) 0 0 M_X7_compared [.long L.1, .long L.2.2.2.2.toInt64, .long K.1, .long K.2.2.2.2.toInt64] μ (Rt (some (.int (cmpI L K))) μ) := by
  refine Ct.ofV (by decide +kernel) (Nat.le_of_ble_eq_true rfl) ?_
  refine v_ls (ls' := [(0, .long L.1), (2, .long L.2.2.2.2.toInt64), (4, .long K.1), (6, .long K.2.2.2.2.toInt64)]) rfl ?_
  have e1 : (K.2.2.2.2.toInt64 - L.2.2.2.2.toInt64).toInt32 = K.2.2.2.2 - L.2.2.2.2 := by
    rw [← w_sub (by have := hL.1; have := hL.2; have := hK.1; have := hK.2; omega) (by have := hL.1; have := hL.2; have := hK.1; have := hK.2; omega), e_rt]
  have e2 : (L.2.2.2.2.toInt64 - K.2.2.2.2.toInt64).toInt32 = L.2.2.2.2 - K.2.2.2.2 := by
    rw [← w_sub (by have := hL.1; have := hL.2; have := hK.1; have := hK.2; omega) (by have := hL.1; have := hL.2; have := hK.1; have := hK.2; omega), e_rt]
  have z1 : ∀ x : Int32, x - x = 0 := fun x => Int32.sub_self x
  refine v_lload_n 1 dX7_compared_0 rfl rfl ?_
  refine v_lload 3 dX7_compared_1 rfl ?_
  refine v_lc_ge (tgt := 17) dX7_compared_3 dX7_compared_4 (by decide) (fun hc3 => ?_) (fun hc3 => ?_)
  ·
    refine v_lload_n 0 dX7_compared_17 rfl rfl ?_
    refine v_lstore dX7_compared_18 (by decide) (fun x8 e_x8 => ?_)
    refine v_ls (ls' := [(8, .long x8), (0, .long L.1), (2, .long L.2.2.2.2.toInt64), (4, .long K.1), (6, .long K.2.2.2.2.toInt64)]) rfl ?_
    refine v_lload 4 dX7_compared_20 rfl ?_
    refine v_lload_n 2 dX7_compared_22 rfl rfl ?_
    refine v_lc_ge (tgt := 38) dX7_compared_23 dX7_compared_24 (by decide) (fun hc23 => ?_) (fun hc23 => ?_)
    ·
      refine v_lload 3 dX7_compared_38 rfl ?_
      refine v_lstore dX7_compared_40 (by decide) (fun x10 e_x10 => ?_)
      refine v_ls (ls' := [(10, .long x10), (8, .long x8), (0, .long L.1), (2, .long L.2.2.2.2.toInt64), (4, .long K.1), (6, .long K.2.2.2.2.toInt64)]) rfl ?_
      have hx8 : x8 = shlO L.1 (maxO L.2.2.2.2 K.2.2.2.2 - L.2.2.2.2) := by
        rw [e_x8]
        unfold maxO
        first
          | (rw [if_pos (Int32.toInt64_lt.mp (Int64.not_le.mp hc3)), ← e1]; done)
          | (rw [if_neg (Int32.not_lt.mpr (Int32.toInt64_le.mp hc3)), z1, shl_0]; done)
      have hx10 : x10 = shlO K.1 (maxO L.2.2.2.2 K.2.2.2.2 - K.2.2.2.2) := by
        rw [e_x10]
        unfold maxO
        by_cases q : L.2.2.2.2 < K.2.2.2.2
        · first
            | (rw [if_pos q, z1, shl_0]; done)
            | exact (Int32.lt_irrefl (Int32.lt_trans (Int32.toInt64_lt.mp (Int64.not_le.mp hc23)) q)).elim
        · rw [if_neg q]
          first
            | (rw [← e2]; done)
            | (have he : K.2.2.2.2 = L.2.2.2.2 := Int32.le_antisymm (Int32.not_lt.mp q) (Int32.toInt64_le.mp hc23)
               rw [he, z1, shl_0])
      clear e_x8 e_x10
      subst hx8 hx10
      refine v_lload 1 dX7_compared_42 rfl ?_
      refine v_lload 0 dX7_compared_44 rfl ?_
      refine v_lc_ge (tgt := 54) dX7_compared_46 dX7_compared_47 (by decide) (fun hc46 => ?_) (fun hc46 => ?_)
      ·
        refine v_lload 1 dX7_compared_54 rfl ?_
        refine v_lload 0 dX7_compared_56 rfl ?_
        refine v_lc_le (tgt := 66) dX7_compared_58 dX7_compared_59 (by decide) (fun hc58 => ?_) (fun hc58 => ?_)
        ·
          refine v_iconst (v := 0) dX7_compared_66 (by first | rfl | decide) ?_
          refine v_iret dX7_compared_67 rfl (by first | rfl | decide | exact nar_b (by first | assumption | rfl)) ?_
          refine ⟨?_, rfl⟩
          unfold cmpI cmpO
          rw [if_pos hc46, if_pos (Int64.le_antisymm hc58 hc46)]
        ·
          refine v_iconst (v := 1) dX7_compared_62 (by first | rfl | decide) ?_
          refine v_goto (tgt := 67) dX7_compared_63 (by decide) ?_
          refine v_iret dX7_compared_67 rfl (by first | rfl | decide | exact nar_b (by first | assumption | rfl)) ?_
          refine ⟨?_, rfl⟩
          unfold cmpI cmpO
          rw [if_pos hc46, if_neg (fun z => by rw [z] at hc58; exact hc58 (Int64.le_refl _))]
      ·
        refine v_iconst (v := -1) dX7_compared_50 (by first | rfl | decide) ?_
        refine v_goto (tgt := 67) dX7_compared_51 (by decide) ?_
        refine v_iret dX7_compared_67 rfl (by first | rfl | decide | exact nar_b (by first | assumption | rfl)) ?_
        refine ⟨?_, rfl⟩
        unfold cmpI cmpO
        rw [if_neg hc46]
    ·
      refine v_lload 3 dX7_compared_27 rfl ?_
      refine v_lload_n 2 dX7_compared_29 rfl rfl ?_
      refine v_lload 4 dX7_compared_30 rfl ?_
      refine v_lsub dX7_compared_32 ?_
      refine v_l2i dX7_compared_33 ?_
      refine v_lshl dX7_compared_34 ?_
      refine v_goto (tgt := 40) dX7_compared_35 (by decide) ?_
      refine v_lstore dX7_compared_40 (by decide) (fun x10 e_x10 => ?_)
      refine v_ls (ls' := [(10, .long x10), (8, .long x8), (0, .long L.1), (2, .long L.2.2.2.2.toInt64), (4, .long K.1), (6, .long K.2.2.2.2.toInt64)]) rfl ?_
      have hx8 : x8 = shlO L.1 (maxO L.2.2.2.2 K.2.2.2.2 - L.2.2.2.2) := by
        rw [e_x8]
        unfold maxO
        first
          | (rw [if_pos (Int32.toInt64_lt.mp (Int64.not_le.mp hc3)), ← e1]; done)
          | (rw [if_neg (Int32.not_lt.mpr (Int32.toInt64_le.mp hc3)), z1, shl_0]; done)
      have hx10 : x10 = shlO K.1 (maxO L.2.2.2.2 K.2.2.2.2 - K.2.2.2.2) := by
        rw [e_x10]
        unfold maxO
        by_cases q : L.2.2.2.2 < K.2.2.2.2
        · first
            | (rw [if_pos q, z1, shl_0]; done)
            | exact (Int32.lt_irrefl (Int32.lt_trans (Int32.toInt64_lt.mp (Int64.not_le.mp hc23)) q)).elim
        · rw [if_neg q]
          first
            | (rw [← e2]; done)
            | (have he : K.2.2.2.2 = L.2.2.2.2 := Int32.le_antisymm (Int32.not_lt.mp q) (Int32.toInt64_le.mp hc23)
               rw [he, z1, shl_0])
      clear e_x8 e_x10
      subst hx8 hx10
      refine v_lload 1 dX7_compared_42 rfl ?_
      refine v_lload 0 dX7_compared_44 rfl ?_
      refine v_lc_ge (tgt := 54) dX7_compared_46 dX7_compared_47 (by decide) (fun hc46 => ?_) (fun hc46 => ?_)
      ·
        refine v_lload 1 dX7_compared_54 rfl ?_
        refine v_lload 0 dX7_compared_56 rfl ?_
        refine v_lc_le (tgt := 66) dX7_compared_58 dX7_compared_59 (by decide) (fun hc58 => ?_) (fun hc58 => ?_)
        ·
          refine v_iconst (v := 0) dX7_compared_66 (by first | rfl | decide) ?_
          refine v_iret dX7_compared_67 rfl (by first | rfl | decide | exact nar_b (by first | assumption | rfl)) ?_
          refine ⟨?_, rfl⟩
          unfold cmpI cmpO
          rw [if_pos hc46, if_pos (Int64.le_antisymm hc58 hc46)]
        ·
          refine v_iconst (v := 1) dX7_compared_62 (by first | rfl | decide) ?_
          refine v_goto (tgt := 67) dX7_compared_63 (by decide) ?_
          refine v_iret dX7_compared_67 rfl (by first | rfl | decide | exact nar_b (by first | assumption | rfl)) ?_
          refine ⟨?_, rfl⟩
          unfold cmpI cmpO
          rw [if_pos hc46, if_neg (fun z => by rw [z] at hc58; exact hc58 (Int64.le_refl _))]
      ·
        refine v_iconst (v := -1) dX7_compared_50 (by first | rfl | decide) ?_
        refine v_goto (tgt := 67) dX7_compared_51 (by decide) ?_
        refine v_iret dX7_compared_67 rfl (by first | rfl | decide | exact nar_b (by first | assumption | rfl)) ?_
        refine ⟨?_, rfl⟩
        unfold cmpI cmpO
        rw [if_neg hc46]
  ·
    refine v_lload_n 0 dX7_compared_7 rfl rfl ?_
    refine v_lload 3 dX7_compared_8 rfl ?_
    refine v_lload_n 1 dX7_compared_10 rfl rfl ?_
    refine v_lsub dX7_compared_11 ?_
    refine v_l2i dX7_compared_12 ?_
    refine v_lshl dX7_compared_13 ?_
    refine v_goto (tgt := 18) dX7_compared_14 (by decide) ?_
    refine v_lstore dX7_compared_18 (by decide) (fun x8 e_x8 => ?_)
    refine v_ls (ls' := [(8, .long x8), (0, .long L.1), (2, .long L.2.2.2.2.toInt64), (4, .long K.1), (6, .long K.2.2.2.2.toInt64)]) rfl ?_
    refine v_lload 4 dX7_compared_20 rfl ?_
    refine v_lload_n 2 dX7_compared_22 rfl rfl ?_
    refine v_lc_ge (tgt := 38) dX7_compared_23 dX7_compared_24 (by decide) (fun hc23 => ?_) (fun hc23 => ?_)
    ·
      refine v_lload 3 dX7_compared_38 rfl ?_
      refine v_lstore dX7_compared_40 (by decide) (fun x10 e_x10 => ?_)
      refine v_ls (ls' := [(10, .long x10), (8, .long x8), (0, .long L.1), (2, .long L.2.2.2.2.toInt64), (4, .long K.1), (6, .long K.2.2.2.2.toInt64)]) rfl ?_
      have hx8 : x8 = shlO L.1 (maxO L.2.2.2.2 K.2.2.2.2 - L.2.2.2.2) := by
        rw [e_x8]
        unfold maxO
        first
          | (rw [if_pos (Int32.toInt64_lt.mp (Int64.not_le.mp hc3)), ← e1]; done)
          | (rw [if_neg (Int32.not_lt.mpr (Int32.toInt64_le.mp hc3)), z1, shl_0]; done)
      have hx10 : x10 = shlO K.1 (maxO L.2.2.2.2 K.2.2.2.2 - K.2.2.2.2) := by
        rw [e_x10]
        unfold maxO
        by_cases q : L.2.2.2.2 < K.2.2.2.2
        · first
            | (rw [if_pos q, z1, shl_0]; done)
            | exact (Int32.lt_irrefl (Int32.lt_trans (Int32.toInt64_lt.mp (Int64.not_le.mp hc23)) q)).elim
        · rw [if_neg q]
          first
            | (rw [← e2]; done)
            | (have he : K.2.2.2.2 = L.2.2.2.2 := Int32.le_antisymm (Int32.not_lt.mp q) (Int32.toInt64_le.mp hc23)
               rw [he, z1, shl_0])
      clear e_x8 e_x10
      subst hx8 hx10
      refine v_lload 1 dX7_compared_42 rfl ?_
      refine v_lload 0 dX7_compared_44 rfl ?_
      refine v_lc_ge (tgt := 54) dX7_compared_46 dX7_compared_47 (by decide) (fun hc46 => ?_) (fun hc46 => ?_)
      ·
        refine v_lload 1 dX7_compared_54 rfl ?_
        refine v_lload 0 dX7_compared_56 rfl ?_
        refine v_lc_le (tgt := 66) dX7_compared_58 dX7_compared_59 (by decide) (fun hc58 => ?_) (fun hc58 => ?_)
        ·
          refine v_iconst (v := 0) dX7_compared_66 (by first | rfl | decide) ?_
          refine v_iret dX7_compared_67 rfl (by first | rfl | decide | exact nar_b (by first | assumption | rfl)) ?_
          refine ⟨?_, rfl⟩
          unfold cmpI cmpO
          rw [if_pos hc46, if_pos (Int64.le_antisymm hc58 hc46)]
        ·
          refine v_iconst (v := 1) dX7_compared_62 (by first | rfl | decide) ?_
          refine v_goto (tgt := 67) dX7_compared_63 (by decide) ?_
          refine v_iret dX7_compared_67 rfl (by first | rfl | decide | exact nar_b (by first | assumption | rfl)) ?_
          refine ⟨?_, rfl⟩
          unfold cmpI cmpO
          rw [if_pos hc46, if_neg (fun z => by rw [z] at hc58; exact hc58 (Int64.le_refl _))]
      ·
        refine v_iconst (v := -1) dX7_compared_50 (by first | rfl | decide) ?_
        refine v_goto (tgt := 67) dX7_compared_51 (by decide) ?_
        refine v_iret dX7_compared_67 rfl (by first | rfl | decide | exact nar_b (by first | assumption | rfl)) ?_
        refine ⟨?_, rfl⟩
        unfold cmpI cmpO
        rw [if_neg hc46]
    ·
      refine v_lload 3 dX7_compared_27 rfl ?_
      refine v_lload_n 2 dX7_compared_29 rfl rfl ?_
      refine v_lload 4 dX7_compared_30 rfl ?_
      refine v_lsub dX7_compared_32 ?_
      refine v_l2i dX7_compared_33 ?_
      refine v_lshl dX7_compared_34 ?_
      refine v_goto (tgt := 40) dX7_compared_35 (by decide) ?_
      refine v_lstore dX7_compared_40 (by decide) (fun x10 e_x10 => ?_)
      refine v_ls (ls' := [(10, .long x10), (8, .long x8), (0, .long L.1), (2, .long L.2.2.2.2.toInt64), (4, .long K.1), (6, .long K.2.2.2.2.toInt64)]) rfl ?_
      have hx8 : x8 = shlO L.1 (maxO L.2.2.2.2 K.2.2.2.2 - L.2.2.2.2) := by
        rw [e_x8]
        unfold maxO
        first
          | (rw [if_pos (Int32.toInt64_lt.mp (Int64.not_le.mp hc3)), ← e1]; done)
          | (rw [if_neg (Int32.not_lt.mpr (Int32.toInt64_le.mp hc3)), z1, shl_0]; done)
      have hx10 : x10 = shlO K.1 (maxO L.2.2.2.2 K.2.2.2.2 - K.2.2.2.2) := by
        rw [e_x10]
        unfold maxO
        by_cases q : L.2.2.2.2 < K.2.2.2.2
        · first
            | (rw [if_pos q, z1, shl_0]; done)
            | exact (Int32.lt_irrefl (Int32.lt_trans (Int32.toInt64_lt.mp (Int64.not_le.mp hc23)) q)).elim
        · rw [if_neg q]
          first
            | (rw [← e2]; done)
            | (have he : K.2.2.2.2 = L.2.2.2.2 := Int32.le_antisymm (Int32.not_lt.mp q) (Int32.toInt64_le.mp hc23)
               rw [he, z1, shl_0])
      clear e_x8 e_x10
      subst hx8 hx10
      refine v_lload 1 dX7_compared_42 rfl ?_
      refine v_lload 0 dX7_compared_44 rfl ?_
      refine v_lc_ge (tgt := 54) dX7_compared_46 dX7_compared_47 (by decide) (fun hc46 => ?_) (fun hc46 => ?_)
      ·
        refine v_lload 1 dX7_compared_54 rfl ?_
        refine v_lload 0 dX7_compared_56 rfl ?_
        refine v_lc_le (tgt := 66) dX7_compared_58 dX7_compared_59 (by decide) (fun hc58 => ?_) (fun hc58 => ?_)
        ·
          refine v_iconst (v := 0) dX7_compared_66 (by first | rfl | decide) ?_
          refine v_iret dX7_compared_67 rfl (by first | rfl | decide | exact nar_b (by first | assumption | rfl)) ?_
          refine ⟨?_, rfl⟩
          unfold cmpI cmpO
          rw [if_pos hc46, if_pos (Int64.le_antisymm hc58 hc46)]
        ·
          refine v_iconst (v := 1) dX7_compared_62 (by first | rfl | decide) ?_
          refine v_goto (tgt := 67) dX7_compared_63 (by decide) ?_
          refine v_iret dX7_compared_67 rfl (by first | rfl | decide | exact nar_b (by first | assumption | rfl)) ?_
          refine ⟨?_, rfl⟩
          unfold cmpI cmpO
          rw [if_pos hc46, if_neg (fun z => by rw [z] at hc58; exact hc58 (Int64.le_refl _))]
      ·
        refine v_iconst (v := -1) dX7_compared_50 (by first | rfl | decide) ?_
        refine v_goto (tgt := 67) dX7_compared_51 (by decide) ?_
        refine v_iret dX7_compared_67 rfl (by first | rfl | decide | exact nar_b (by first | assumption | rfl)) ?_
        refine ⟨?_, rfl⟩
        unfold cmpI cmpO
        rw [if_neg hc46]

def alkO (f : Nat → Int64) (i : Nat) (g : Nat → Int64) (j : Nat) : Int32 := if f i = g j ∧ f (i + 1) = g (j + 1) ∧ f (i + 2) = g (j + 2) ∧ f (i + 3) = g (j + 3) ∧ f (i + 4) = g (j + 4) then 1 else 0
set_option maxRecDepth 20000 in
set_option maxHeartbeats 4000000 in
theorem c_X7_areAlike {G : Cx} (d : Nat) {μ : Hp} {a b n1 n2 I J : Nat} {f g : Nat → Int64} (ha : μ a = some (arJ n1 f)) (hb : μ b = some (arJ n2 g)) (h1 : I + 5 ≤ n1) (h2 : J + 5 ≤ n2) (h3 : n1 < 2 ^ 20) (h4 : n2 < 2 ^ 20) : Ct G (d) 0 0 M_X7_areAlike [.ref a, .int (nI I), .ref b, .int (nI J)] μ (Rt (some (.int (alkO f I g J))) μ) := by
  refine Ct.ofV (by decide +kernel) (Nat.le_of_ble_eq_true rfl) ?_
  refine v_ls (ls' := [(0, .ref a), (1, .int (nI I)), (2, .ref b), (3, .int (nI J))]) rfl ?_
  refine v_iconst (v := 1) dX7_areAlike_0 (by first | rfl | decide) ?_
  refine v_istore dX7_areAlike_1 (by decide) (fun y4 e_y4 => ?_)
  refine v_ls (ls' := [(4, .int y4), (0, .ref a), (1, .int (nI I)), (2, .ref b), (3, .int (nI J))]) rfl ?_
  subst e_y4
  refine v_iconst (v := 0) dX7_areAlike_3 (by first | rfl | decide) ?_
  refine v_istore dX7_areAlike_4 (by decide) (fun y5 e_y5 => ?_)
  refine v_ls (ls' := [(5, .int y5), (4, .int (1)), (0, .ref a), (1, .int (nI I)), (2, .ref b), (3, .int (nI J))]) rfl ?_
  subst e_y5
  refine v_iload 0 dX7_areAlike_6 rfl ?_
  refine v_iconst (v := 5) dX7_areAlike_8 (by first | rfl | decide) ?_
  refine v_icmp_ge (tgt := 46) dX7_areAlike_9 (by decide) (fun hc9 => ?_) (fun hc9 => ?_)
  · exact absurd hc9 (by decide)
  ·
    refine v_iload 1 dX7_areAlike_12 rfl ?_
    refine v_if_eq (tgt := 37) dX7_areAlike_14 (by decide) (fun hc14 => ?_) (fun hc14 => ?_)
    · exact absurd hc14 (by decide)
    ·
      refine v_aload_n 2 dX7_areAlike_17 rfl rfl ?_
      refine v_iload_n 3 dX7_areAlike_18 rfl rfl ?_
      refine v_iload 0 dX7_areAlike_19 rfl ?_
      refine v_iadd dX7_areAlike_21 ?_
      rw [show nI I + 0 = nI (I + 0) from nI_add I 0]
      refine v_lald dX7_areAlike_22 ha (nI_in' (by omega) (by omega)) ?_
      refine v_aload_n 4 dX7_areAlike_23 rfl rfl ?_
      refine v_iload_n 5 dX7_areAlike_24 rfl rfl ?_
      refine v_iload 0 dX7_areAlike_25 rfl ?_
      refine v_iadd dX7_areAlike_27 ?_
      rw [show nI J + 0 = nI (J + 0) from nI_add J 0]
      refine v_lald dX7_areAlike_28 hb (nI_in' (by omega) (by omega)) ?_
      refine v_lc_ne (tgt := 37) dX7_areAlike_29 dX7_areAlike_30 (by decide) (fun hk0 => ?_) (fun hk0 => ?_)
      ·
        refine v_iconst (v := 0) dX7_areAlike_37 (by first | rfl | decide) ?_
        refine v_istore dX7_areAlike_38 (by decide) (fun y4_0 e_y4_0 => ?_)
        refine v_ls (ls' := [(4, .int y4_0), (5, .int (0)), (0, .ref a), (1, .int (nI I)), (2, .ref b), (3, .int (nI J))]) rfl ?_
        subst e_y4_0
        refine v_iinc (v := 1) 1 dX7_areAlike_40 rfl rfl (by decide) (fun z_ ez_ => ?_)
        obtain rfl : z_ = 1 := by rw [ez_]; decide
        refine v_ls (ls' := [(5, .int (1)), (4, .int (0)), (0, .ref a), (1, .int (nI I)), (2, .ref b), (3, .int (nI J))]) rfl ?_
        refine v_goto (tgt := 6) dX7_areAlike_43 (by decide) ?_
        refine v_iload 0 dX7_areAlike_6 rfl ?_
        refine v_iconst (v := 5) dX7_areAlike_8 (by first | rfl | decide) ?_
        refine v_icmp_ge (tgt := 46) dX7_areAlike_9 (by decide) (fun hc9 => ?_) (fun hc9 => ?_)
        · exact absurd hc9 (by decide)
        ·
          refine v_iload 1 dX7_areAlike_12 rfl ?_
          refine v_if_eq (tgt := 37) dX7_areAlike_14 (by decide) (fun hc14 => ?_) (fun hc14 => ?_)
          ·
            refine v_iconst (v := 0) dX7_areAlike_37 (by first | rfl | decide) ?_
            refine v_istore dX7_areAlike_38 (by decide) (fun y4_1 e_y4_1 => ?_)
            refine v_ls (ls' := [(4, .int y4_1), (5, .int (1)), (0, .ref a), (1, .int (nI I)), (2, .ref b), (3, .int (nI J))]) rfl ?_
            subst e_y4_1
            refine v_iinc (v := 1) 1 dX7_areAlike_40 rfl rfl (by decide) (fun z_ ez_ => ?_)
            obtain rfl : z_ = 2 := by rw [ez_]; decide
            refine v_ls (ls' := [(5, .int (2)), (4, .int (0)), (0, .ref a), (1, .int (nI I)), (2, .ref b), (3, .int (nI J))]) rfl ?_
            refine v_goto (tgt := 6) dX7_areAlike_43 (by decide) ?_
            refine v_iload 0 dX7_areAlike_6 rfl ?_
            refine v_iconst (v := 5) dX7_areAlike_8 (by first | rfl | decide) ?_
            refine v_icmp_ge (tgt := 46) dX7_areAlike_9 (by decide) (fun hc9 => ?_) (fun hc9 => ?_)
            · exact absurd hc9 (by decide)
            ·
              refine v_iload 1 dX7_areAlike_12 rfl ?_
              refine v_if_eq (tgt := 37) dX7_areAlike_14 (by decide) (fun hc14 => ?_) (fun hc14 => ?_)
              ·
                refine v_iconst (v := 0) dX7_areAlike_37 (by first | rfl | decide) ?_
                refine v_istore dX7_areAlike_38 (by decide) (fun y4_2 e_y4_2 => ?_)
                refine v_ls (ls' := [(4, .int y4_2), (5, .int (2)), (0, .ref a), (1, .int (nI I)), (2, .ref b), (3, .int (nI J))]) rfl ?_
                subst e_y4_2
                refine v_iinc (v := 1) 1 dX7_areAlike_40 rfl rfl (by decide) (fun z_ ez_ => ?_)
                obtain rfl : z_ = 3 := by rw [ez_]; decide
                refine v_ls (ls' := [(5, .int (3)), (4, .int (0)), (0, .ref a), (1, .int (nI I)), (2, .ref b), (3, .int (nI J))]) rfl ?_
                refine v_goto (tgt := 6) dX7_areAlike_43 (by decide) ?_
                refine v_iload 0 dX7_areAlike_6 rfl ?_
                refine v_iconst (v := 5) dX7_areAlike_8 (by first | rfl | decide) ?_
                refine v_icmp_ge (tgt := 46) dX7_areAlike_9 (by decide) (fun hc9 => ?_) (fun hc9 => ?_)
                · exact absurd hc9 (by decide)
                ·
                  refine v_iload 1 dX7_areAlike_12 rfl ?_
                  refine v_if_eq (tgt := 37) dX7_areAlike_14 (by decide) (fun hc14 => ?_) (fun hc14 => ?_)
                  ·
                    refine v_iconst (v := 0) dX7_areAlike_37 (by first | rfl | decide) ?_
                    refine v_istore dX7_areAlike_38 (by decide) (fun y4_3 e_y4_3 => ?_)
                    refine v_ls (ls' := [(4, .int y4_3), (5, .int (3)), (0, .ref a), (1, .int (nI I)), (2, .ref b), (3, .int (nI J))]) rfl ?_
                    subst e_y4_3
                    refine v_iinc (v := 1) 1 dX7_areAlike_40 rfl rfl (by decide) (fun z_ ez_ => ?_)
                    obtain rfl : z_ = 4 := by rw [ez_]; decide
                    refine v_ls (ls' := [(5, .int (4)), (4, .int (0)), (0, .ref a), (1, .int (nI I)), (2, .ref b), (3, .int (nI J))]) rfl ?_
                    refine v_goto (tgt := 6) dX7_areAlike_43 (by decide) ?_
                    refine v_iload 0 dX7_areAlike_6 rfl ?_
                    refine v_iconst (v := 5) dX7_areAlike_8 (by first | rfl | decide) ?_
                    refine v_icmp_ge (tgt := 46) dX7_areAlike_9 (by decide) (fun hc9 => ?_) (fun hc9 => ?_)
                    · exact absurd hc9 (by decide)
                    ·
                      refine v_iload 1 dX7_areAlike_12 rfl ?_
                      refine v_if_eq (tgt := 37) dX7_areAlike_14 (by decide) (fun hc14 => ?_) (fun hc14 => ?_)
                      ·
                        refine v_iconst (v := 0) dX7_areAlike_37 (by first | rfl | decide) ?_
                        refine v_istore dX7_areAlike_38 (by decide) (fun y4_4 e_y4_4 => ?_)
                        refine v_ls (ls' := [(4, .int y4_4), (5, .int (4)), (0, .ref a), (1, .int (nI I)), (2, .ref b), (3, .int (nI J))]) rfl ?_
                        subst e_y4_4
                        refine v_iinc (v := 1) 1 dX7_areAlike_40 rfl rfl (by decide) (fun z_ ez_ => ?_)
                        obtain rfl : z_ = 5 := by rw [ez_]; decide
                        refine v_ls (ls' := [(5, .int (5)), (4, .int (0)), (0, .ref a), (1, .int (nI I)), (2, .ref b), (3, .int (nI J))]) rfl ?_
                        refine v_goto (tgt := 6) dX7_areAlike_43 (by decide) ?_
                        refine v_iload 0 dX7_areAlike_6 rfl ?_
                        refine v_iconst (v := 5) dX7_areAlike_8 (by first | rfl | decide) ?_
                        refine v_icmp_ge (tgt := 46) dX7_areAlike_9 (by decide) (fun hc9 => ?_) (fun hc9 => ?_)
                        ·
                          refine v_iload 1 dX7_areAlike_46 rfl ?_
                          refine v_iret dX7_areAlike_48 rfl (by decide) ?_
                          rw [clamp (by omega), clamp (by omega)] at hk0
                          exact ⟨by unfold alkO; rw [if_neg (fun z => by obtain ⟨z0, z1, z2, z3, z4⟩ := z; exact hk0 z0)], rfl⟩
                        · exact absurd (by decide) hc9
                      · exact absurd hc14 (by decide)
                  · exact absurd hc14 (by decide)
              · exact absurd hc14 (by decide)
          · exact absurd hc14 (by decide)
      ·
        refine v_iconst (v := 1) dX7_areAlike_33 (by first | rfl | decide) ?_
        refine v_goto (tgt := 38) dX7_areAlike_34 (by decide) ?_
        refine v_istore dX7_areAlike_38 (by decide) (fun y4_0 e_y4_0 => ?_)
        refine v_ls (ls' := [(4, .int y4_0), (5, .int (0)), (0, .ref a), (1, .int (nI I)), (2, .ref b), (3, .int (nI J))]) rfl ?_
        subst e_y4_0
        refine v_iinc (v := 1) 1 dX7_areAlike_40 rfl rfl (by decide) (fun z_ ez_ => ?_)
        obtain rfl : z_ = 1 := by rw [ez_]; decide
        refine v_ls (ls' := [(5, .int (1)), (4, .int (1)), (0, .ref a), (1, .int (nI I)), (2, .ref b), (3, .int (nI J))]) rfl ?_
        refine v_goto (tgt := 6) dX7_areAlike_43 (by decide) ?_
        refine v_iload 0 dX7_areAlike_6 rfl ?_
        refine v_iconst (v := 5) dX7_areAlike_8 (by first | rfl | decide) ?_
        refine v_icmp_ge (tgt := 46) dX7_areAlike_9 (by decide) (fun hc9 => ?_) (fun hc9 => ?_)
        · exact absurd hc9 (by decide)
        ·
          refine v_iload 1 dX7_areAlike_12 rfl ?_
          refine v_if_eq (tgt := 37) dX7_areAlike_14 (by decide) (fun hc14 => ?_) (fun hc14 => ?_)
          · exact absurd hc14 (by decide)
          ·
            refine v_aload_n 2 dX7_areAlike_17 rfl rfl ?_
            refine v_iload_n 3 dX7_areAlike_18 rfl rfl ?_
            refine v_iload 0 dX7_areAlike_19 rfl ?_
            refine v_iadd dX7_areAlike_21 ?_
            rw [show nI I + 1 = nI (I + 1) from nI_add I 1]
            refine v_lald dX7_areAlike_22 ha (nI_in' (by omega) (by omega)) ?_
            refine v_aload_n 4 dX7_areAlike_23 rfl rfl ?_
            refine v_iload_n 5 dX7_areAlike_24 rfl rfl ?_
            refine v_iload 0 dX7_areAlike_25 rfl ?_
            refine v_iadd dX7_areAlike_27 ?_
            rw [show nI J + 1 = nI (J + 1) from nI_add J 1]
            refine v_lald dX7_areAlike_28 hb (nI_in' (by omega) (by omega)) ?_
            refine v_lc_ne (tgt := 37) dX7_areAlike_29 dX7_areAlike_30 (by decide) (fun hk1 => ?_) (fun hk1 => ?_)
            ·
              refine v_iconst (v := 0) dX7_areAlike_37 (by first | rfl | decide) ?_
              refine v_istore dX7_areAlike_38 (by decide) (fun y4_1 e_y4_1 => ?_)
              refine v_ls (ls' := [(4, .int y4_1), (5, .int (1)), (0, .ref a), (1, .int (nI I)), (2, .ref b), (3, .int (nI J))]) rfl ?_
              subst e_y4_1
              refine v_iinc (v := 1) 1 dX7_areAlike_40 rfl rfl (by decide) (fun z_ ez_ => ?_)
              obtain rfl : z_ = 2 := by rw [ez_]; decide
              refine v_ls (ls' := [(5, .int (2)), (4, .int (0)), (0, .ref a), (1, .int (nI I)), (2, .ref b), (3, .int (nI J))]) rfl ?_
              refine v_goto (tgt := 6) dX7_areAlike_43 (by decide) ?_
              refine v_iload 0 dX7_areAlike_6 rfl ?_
              refine v_iconst (v := 5) dX7_areAlike_8 (by first | rfl | decide) ?_
              refine v_icmp_ge (tgt := 46) dX7_areAlike_9 (by decide) (fun hc9 => ?_) (fun hc9 => ?_)
              · exact absurd hc9 (by decide)
              ·
                refine v_iload 1 dX7_areAlike_12 rfl ?_
                refine v_if_eq (tgt := 37) dX7_areAlike_14 (by decide) (fun hc14 => ?_) (fun hc14 => ?_)
                ·
                  refine v_iconst (v := 0) dX7_areAlike_37 (by first | rfl | decide) ?_
                  refine v_istore dX7_areAlike_38 (by decide) (fun y4_2 e_y4_2 => ?_)
                  refine v_ls (ls' := [(4, .int y4_2), (5, .int (2)), (0, .ref a), (1, .int (nI I)), (2, .ref b), (3, .int (nI J))]) rfl ?_
                  subst e_y4_2
                  refine v_iinc (v := 1) 1 dX7_areAlike_40 rfl rfl (by decide) (fun z_ ez_ => ?_)
                  obtain rfl : z_ = 3 := by rw [ez_]; decide
                  refine v_ls (ls' := [(5, .int (3)), (4, .int (0)), (0, .ref a), (1, .int (nI I)), (2, .ref b), (3, .int (nI J))]) rfl ?_
                  refine v_goto (tgt := 6) dX7_areAlike_43 (by decide) ?_
                  refine v_iload 0 dX7_areAlike_6 rfl ?_
                  refine v_iconst (v := 5) dX7_areAlike_8 (by first | rfl | decide) ?_
                  refine v_icmp_ge (tgt := 46) dX7_areAlike_9 (by decide) (fun hc9 => ?_) (fun hc9 => ?_)
                  · exact absurd hc9 (by decide)
                  ·
                    refine v_iload 1 dX7_areAlike_12 rfl ?_
                    refine v_if_eq (tgt := 37) dX7_areAlike_14 (by decide) (fun hc14 => ?_) (fun hc14 => ?_)
                    ·
                      refine v_iconst (v := 0) dX7_areAlike_37 (by first | rfl | decide) ?_
                      refine v_istore dX7_areAlike_38 (by decide) (fun y4_3 e_y4_3 => ?_)
                      refine v_ls (ls' := [(4, .int y4_3), (5, .int (3)), (0, .ref a), (1, .int (nI I)), (2, .ref b), (3, .int (nI J))]) rfl ?_
                      subst e_y4_3
                      refine v_iinc (v := 1) 1 dX7_areAlike_40 rfl rfl (by decide) (fun z_ ez_ => ?_)
                      obtain rfl : z_ = 4 := by rw [ez_]; decide
                      refine v_ls (ls' := [(5, .int (4)), (4, .int (0)), (0, .ref a), (1, .int (nI I)), (2, .ref b), (3, .int (nI J))]) rfl ?_
                      refine v_goto (tgt := 6) dX7_areAlike_43 (by decide) ?_
                      refine v_iload 0 dX7_areAlike_6 rfl ?_
                      refine v_iconst (v := 5) dX7_areAlike_8 (by first | rfl | decide) ?_
                      refine v_icmp_ge (tgt := 46) dX7_areAlike_9 (by decide) (fun hc9 => ?_) (fun hc9 => ?_)
                      · exact absurd hc9 (by decide)
                      ·
                        refine v_iload 1 dX7_areAlike_12 rfl ?_
                        refine v_if_eq (tgt := 37) dX7_areAlike_14 (by decide) (fun hc14 => ?_) (fun hc14 => ?_)
                        ·
                          refine v_iconst (v := 0) dX7_areAlike_37 (by first | rfl | decide) ?_
                          refine v_istore dX7_areAlike_38 (by decide) (fun y4_4 e_y4_4 => ?_)
                          refine v_ls (ls' := [(4, .int y4_4), (5, .int (4)), (0, .ref a), (1, .int (nI I)), (2, .ref b), (3, .int (nI J))]) rfl ?_
                          subst e_y4_4
                          refine v_iinc (v := 1) 1 dX7_areAlike_40 rfl rfl (by decide) (fun z_ ez_ => ?_)
                          obtain rfl : z_ = 5 := by rw [ez_]; decide
                          refine v_ls (ls' := [(5, .int (5)), (4, .int (0)), (0, .ref a), (1, .int (nI I)), (2, .ref b), (3, .int (nI J))]) rfl ?_
                          refine v_goto (tgt := 6) dX7_areAlike_43 (by decide) ?_
                          refine v_iload 0 dX7_areAlike_6 rfl ?_
                          refine v_iconst (v := 5) dX7_areAlike_8 (by first | rfl | decide) ?_
                          refine v_icmp_ge (tgt := 46) dX7_areAlike_9 (by decide) (fun hc9 => ?_) (fun hc9 => ?_)
                          ·
                            refine v_iload 1 dX7_areAlike_46 rfl ?_
                            refine v_iret dX7_areAlike_48 rfl (by decide) ?_
                            rw [clamp (by omega), clamp (by omega)] at hk0
                            rw [clamp (by omega), clamp (by omega)] at hk1
                            exact ⟨by unfold alkO; rw [if_neg (fun z => by obtain ⟨z0, z1, z2, z3, z4⟩ := z; exact hk1 z1)], rfl⟩
                          · exact absurd (by decide) hc9
                        · exact absurd hc14 (by decide)
                    · exact absurd hc14 (by decide)
                · exact absurd hc14 (by decide)
            ·
              refine v_iconst (v := 1) dX7_areAlike_33 (by first | rfl | decide) ?_
              refine v_goto (tgt := 38) dX7_areAlike_34 (by decide) ?_
              refine v_istore dX7_areAlike_38 (by decide) (fun y4_1 e_y4_1 => ?_)
              refine v_ls (ls' := [(4, .int y4_1), (5, .int (1)), (0, .ref a), (1, .int (nI I)), (2, .ref b), (3, .int (nI J))]) rfl ?_
              subst e_y4_1
              refine v_iinc (v := 1) 1 dX7_areAlike_40 rfl rfl (by decide) (fun z_ ez_ => ?_)
              obtain rfl : z_ = 2 := by rw [ez_]; decide
              refine v_ls (ls' := [(5, .int (2)), (4, .int (1)), (0, .ref a), (1, .int (nI I)), (2, .ref b), (3, .int (nI J))]) rfl ?_
              refine v_goto (tgt := 6) dX7_areAlike_43 (by decide) ?_
              refine v_iload 0 dX7_areAlike_6 rfl ?_
              refine v_iconst (v := 5) dX7_areAlike_8 (by first | rfl | decide) ?_
              refine v_icmp_ge (tgt := 46) dX7_areAlike_9 (by decide) (fun hc9 => ?_) (fun hc9 => ?_)
              · exact absurd hc9 (by decide)
              ·
                refine v_iload 1 dX7_areAlike_12 rfl ?_
                refine v_if_eq (tgt := 37) dX7_areAlike_14 (by decide) (fun hc14 => ?_) (fun hc14 => ?_)
                · exact absurd hc14 (by decide)
                ·
                  refine v_aload_n 2 dX7_areAlike_17 rfl rfl ?_
                  refine v_iload_n 3 dX7_areAlike_18 rfl rfl ?_
                  refine v_iload 0 dX7_areAlike_19 rfl ?_
                  refine v_iadd dX7_areAlike_21 ?_
                  rw [show nI I + 2 = nI (I + 2) from nI_add I 2]
                  refine v_lald dX7_areAlike_22 ha (nI_in' (by omega) (by omega)) ?_
                  refine v_aload_n 4 dX7_areAlike_23 rfl rfl ?_
                  refine v_iload_n 5 dX7_areAlike_24 rfl rfl ?_
                  refine v_iload 0 dX7_areAlike_25 rfl ?_
                  refine v_iadd dX7_areAlike_27 ?_
                  rw [show nI J + 2 = nI (J + 2) from nI_add J 2]
                  refine v_lald dX7_areAlike_28 hb (nI_in' (by omega) (by omega)) ?_
                  refine v_lc_ne (tgt := 37) dX7_areAlike_29 dX7_areAlike_30 (by decide) (fun hk2 => ?_) (fun hk2 => ?_)
                  ·
                    refine v_iconst (v := 0) dX7_areAlike_37 (by first | rfl | decide) ?_
                    refine v_istore dX7_areAlike_38 (by decide) (fun y4_2 e_y4_2 => ?_)
                    refine v_ls (ls' := [(4, .int y4_2), (5, .int (2)), (0, .ref a), (1, .int (nI I)), (2, .ref b), (3, .int (nI J))]) rfl ?_
                    subst e_y4_2
                    refine v_iinc (v := 1) 1 dX7_areAlike_40 rfl rfl (by decide) (fun z_ ez_ => ?_)
                    obtain rfl : z_ = 3 := by rw [ez_]; decide
                    refine v_ls (ls' := [(5, .int (3)), (4, .int (0)), (0, .ref a), (1, .int (nI I)), (2, .ref b), (3, .int (nI J))]) rfl ?_
                    refine v_goto (tgt := 6) dX7_areAlike_43 (by decide) ?_
                    refine v_iload 0 dX7_areAlike_6 rfl ?_
                    refine v_iconst (v := 5) dX7_areAlike_8 (by first | rfl | decide) ?_
                    refine v_icmp_ge (tgt := 46) dX7_areAlike_9 (by decide) (fun hc9 => ?_) (fun hc9 => ?_)
                    · exact absurd hc9 (by decide)
                    ·
                      refine v_iload 1 dX7_areAlike_12 rfl ?_
                      refine v_if_eq (tgt := 37) dX7_areAlike_14 (by decide) (fun hc14 => ?_) (fun hc14 => ?_)
                      ·
                        refine v_iconst (v := 0) dX7_areAlike_37 (by first | rfl | decide) ?_
                        refine v_istore dX7_areAlike_38 (by decide) (fun y4_3 e_y4_3 => ?_)
                        refine v_ls (ls' := [(4, .int y4_3), (5, .int (3)), (0, .ref a), (1, .int (nI I)), (2, .ref b), (3, .int (nI J))]) rfl ?_
                        subst e_y4_3
                        refine v_iinc (v := 1) 1 dX7_areAlike_40 rfl rfl (by decide) (fun z_ ez_ => ?_)
                        obtain rfl : z_ = 4 := by rw [ez_]; decide
                        refine v_ls (ls' := [(5, .int (4)), (4, .int (0)), (0, .ref a), (1, .int (nI I)), (2, .ref b), (3, .int (nI J))]) rfl ?_
                        refine v_goto (tgt := 6) dX7_areAlike_43 (by decide) ?_
                        refine v_iload 0 dX7_areAlike_6 rfl ?_
                        refine v_iconst (v := 5) dX7_areAlike_8 (by first | rfl | decide) ?_
                        refine v_icmp_ge (tgt := 46) dX7_areAlike_9 (by decide) (fun hc9 => ?_) (fun hc9 => ?_)
                        · exact absurd hc9 (by decide)
                        ·
                          refine v_iload 1 dX7_areAlike_12 rfl ?_
                          refine v_if_eq (tgt := 37) dX7_areAlike_14 (by decide) (fun hc14 => ?_) (fun hc14 => ?_)
                          ·
                            refine v_iconst (v := 0) dX7_areAlike_37 (by first | rfl | decide) ?_
                            refine v_istore dX7_areAlike_38 (by decide) (fun y4_4 e_y4_4 => ?_)
                            refine v_ls (ls' := [(4, .int y4_4), (5, .int (4)), (0, .ref a), (1, .int (nI I)), (2, .ref b), (3, .int (nI J))]) rfl ?_
                            subst e_y4_4
                            refine v_iinc (v := 1) 1 dX7_areAlike_40 rfl rfl (by decide) (fun z_ ez_ => ?_)
                            obtain rfl : z_ = 5 := by rw [ez_]; decide
                            refine v_ls (ls' := [(5, .int (5)), (4, .int (0)), (0, .ref a), (1, .int (nI I)), (2, .ref b), (3, .int (nI J))]) rfl ?_
                            refine v_goto (tgt := 6) dX7_areAlike_43 (by decide) ?_
                            refine v_iload 0 dX7_areAlike_6 rfl ?_
                            refine v_iconst (v := 5) dX7_areAlike_8 (by first | rfl | decide) ?_
                            refine v_icmp_ge (tgt := 46) dX7_areAlike_9 (by decide) (fun hc9 => ?_) (fun hc9 => ?_)
                            ·
                              refine v_iload 1 dX7_areAlike_46 rfl ?_
                              refine v_iret dX7_areAlike_48 rfl (by decide) ?_
                              rw [clamp (by omega), clamp (by omega)] at hk0
                              rw [clamp (by omega), clamp (by omega)] at hk1
                              rw [clamp (by omega), clamp (by omega)] at hk2
                              exact ⟨by unfold alkO; rw [if_neg (fun z => by obtain ⟨z0, z1, z2, z3, z4⟩ := z; exact hk2 z2)], rfl⟩
                            · exact absurd (by decide) hc9
                          · exact absurd hc14 (by decide)
                      · exact absurd hc14 (by decide)
                  ·
                    refine v_iconst (v := 1) dX7_areAlike_33 (by first | rfl | decide) ?_
                    refine v_goto (tgt := 38) dX7_areAlike_34 (by decide) ?_
                    refine v_istore dX7_areAlike_38 (by decide) (fun y4_2 e_y4_2 => ?_)
                    refine v_ls (ls' := [(4, .int y4_2), (5, .int (2)), (0, .ref a), (1, .int (nI I)), (2, .ref b), (3, .int (nI J))]) rfl ?_
                    subst e_y4_2
                    refine v_iinc (v := 1) 1 dX7_areAlike_40 rfl rfl (by decide) (fun z_ ez_ => ?_)
                    obtain rfl : z_ = 3 := by rw [ez_]; decide
                    refine v_ls (ls' := [(5, .int (3)), (4, .int (1)), (0, .ref a), (1, .int (nI I)), (2, .ref b), (3, .int (nI J))]) rfl ?_
                    refine v_goto (tgt := 6) dX7_areAlike_43 (by decide) ?_
                    refine v_iload 0 dX7_areAlike_6 rfl ?_
                    refine v_iconst (v := 5) dX7_areAlike_8 (by first | rfl | decide) ?_
                    refine v_icmp_ge (tgt := 46) dX7_areAlike_9 (by decide) (fun hc9 => ?_) (fun hc9 => ?_)
                    · exact absurd hc9 (by decide)
                    ·
                      refine v_iload 1 dX7_areAlike_12 rfl ?_
                      refine v_if_eq (tgt := 37) dX7_areAlike_14 (by decide) (fun hc14 => ?_) (fun hc14 => ?_)
                      · exact absurd hc14 (by decide)
                      ·
                        refine v_aload_n 2 dX7_areAlike_17 rfl rfl ?_
                        refine v_iload_n 3 dX7_areAlike_18 rfl rfl ?_
                        refine v_iload 0 dX7_areAlike_19 rfl ?_
                        refine v_iadd dX7_areAlike_21 ?_
                        rw [show nI I + 3 = nI (I + 3) from nI_add I 3]
                        refine v_lald dX7_areAlike_22 ha (nI_in' (by omega) (by omega)) ?_
                        refine v_aload_n 4 dX7_areAlike_23 rfl rfl ?_
                        refine v_iload_n 5 dX7_areAlike_24 rfl rfl ?_
                        refine v_iload 0 dX7_areAlike_25 rfl ?_
                        refine v_iadd dX7_areAlike_27 ?_
                        rw [show nI J + 3 = nI (J + 3) from nI_add J 3]
                        refine v_lald dX7_areAlike_28 hb (nI_in' (by omega) (by omega)) ?_
                        refine v_lc_ne (tgt := 37) dX7_areAlike_29 dX7_areAlike_30 (by decide) (fun hk3 => ?_) (fun hk3 => ?_)
                        ·
                          refine v_iconst (v := 0) dX7_areAlike_37 (by first | rfl | decide) ?_
                          refine v_istore dX7_areAlike_38 (by decide) (fun y4_3 e_y4_3 => ?_)
                          refine v_ls (ls' := [(4, .int y4_3), (5, .int (3)), (0, .ref a), (1, .int (nI I)), (2, .ref b), (3, .int (nI J))]) rfl ?_
                          subst e_y4_3
                          refine v_iinc (v := 1) 1 dX7_areAlike_40 rfl rfl (by decide) (fun z_ ez_ => ?_)
                          obtain rfl : z_ = 4 := by rw [ez_]; decide
                          refine v_ls (ls' := [(5, .int (4)), (4, .int (0)), (0, .ref a), (1, .int (nI I)), (2, .ref b), (3, .int (nI J))]) rfl ?_
                          refine v_goto (tgt := 6) dX7_areAlike_43 (by decide) ?_
                          refine v_iload 0 dX7_areAlike_6 rfl ?_
                          refine v_iconst (v := 5) dX7_areAlike_8 (by first | rfl | decide) ?_
                          refine v_icmp_ge (tgt := 46) dX7_areAlike_9 (by decide) (fun hc9 => ?_) (fun hc9 => ?_)
                          · exact absurd hc9 (by decide)
                          ·
                            refine v_iload 1 dX7_areAlike_12 rfl ?_
                            refine v_if_eq (tgt := 37) dX7_areAlike_14 (by decide) (fun hc14 => ?_) (fun hc14 => ?_)
                            ·
                              refine v_iconst (v := 0) dX7_areAlike_37 (by first | rfl | decide) ?_
                              refine v_istore dX7_areAlike_38 (by decide) (fun y4_4 e_y4_4 => ?_)
                              refine v_ls (ls' := [(4, .int y4_4), (5, .int (4)), (0, .ref a), (1, .int (nI I)), (2, .ref b), (3, .int (nI J))]) rfl ?_
                              subst e_y4_4
                              refine v_iinc (v := 1) 1 dX7_areAlike_40 rfl rfl (by decide) (fun z_ ez_ => ?_)
                              obtain rfl : z_ = 5 := by rw [ez_]; decide
                              refine v_ls (ls' := [(5, .int (5)), (4, .int (0)), (0, .ref a), (1, .int (nI I)), (2, .ref b), (3, .int (nI J))]) rfl ?_
                              refine v_goto (tgt := 6) dX7_areAlike_43 (by decide) ?_
                              refine v_iload 0 dX7_areAlike_6 rfl ?_
                              refine v_iconst (v := 5) dX7_areAlike_8 (by first | rfl | decide) ?_
                              refine v_icmp_ge (tgt := 46) dX7_areAlike_9 (by decide) (fun hc9 => ?_) (fun hc9 => ?_)
                              ·
                                refine v_iload 1 dX7_areAlike_46 rfl ?_
                                refine v_iret dX7_areAlike_48 rfl (by decide) ?_
                                rw [clamp (by omega), clamp (by omega)] at hk0
                                rw [clamp (by omega), clamp (by omega)] at hk1
                                rw [clamp (by omega), clamp (by omega)] at hk2
                                rw [clamp (by omega), clamp (by omega)] at hk3
                                exact ⟨by unfold alkO; rw [if_neg (fun z => by obtain ⟨z0, z1, z2, z3, z4⟩ := z; exact hk3 z3)], rfl⟩
                              · exact absurd (by decide) hc9
                            · exact absurd hc14 (by decide)
                        ·
                          refine v_iconst (v := 1) dX7_areAlike_33 (by first | rfl | decide) ?_
                          refine v_goto (tgt := 38) dX7_areAlike_34 (by decide) ?_
                          refine v_istore dX7_areAlike_38 (by decide) (fun y4_3 e_y4_3 => ?_)
                          refine v_ls (ls' := [(4, .int y4_3), (5, .int (3)), (0, .ref a), (1, .int (nI I)), (2, .ref b), (3, .int (nI J))]) rfl ?_
                          subst e_y4_3
                          refine v_iinc (v := 1) 1 dX7_areAlike_40 rfl rfl (by decide) (fun z_ ez_ => ?_)
                          obtain rfl : z_ = 4 := by rw [ez_]; decide
                          refine v_ls (ls' := [(5, .int (4)), (4, .int (1)), (0, .ref a), (1, .int (nI I)), (2, .ref b), (3, .int (nI J))]) rfl ?_
                          refine v_goto (tgt := 6) dX7_areAlike_43 (by decide) ?_
                          refine v_iload 0 dX7_areAlike_6 rfl ?_
                          refine v_iconst (v := 5) dX7_areAlike_8 (by first | rfl | decide) ?_
                          refine v_icmp_ge (tgt := 46) dX7_areAlike_9 (by decide) (fun hc9 => ?_) (fun hc9 => ?_)
                          · exact absurd hc9 (by decide)
                          ·
                            refine v_iload 1 dX7_areAlike_12 rfl ?_
                            refine v_if_eq (tgt := 37) dX7_areAlike_14 (by decide) (fun hc14 => ?_) (fun hc14 => ?_)
                            · exact absurd hc14 (by decide)
                            ·
                              refine v_aload_n 2 dX7_areAlike_17 rfl rfl ?_
                              refine v_iload_n 3 dX7_areAlike_18 rfl rfl ?_
                              refine v_iload 0 dX7_areAlike_19 rfl ?_
                              refine v_iadd dX7_areAlike_21 ?_
                              rw [show nI I + 4 = nI (I + 4) from nI_add I 4]
                              refine v_lald dX7_areAlike_22 ha (nI_in' (by omega) (by omega)) ?_
                              refine v_aload_n 4 dX7_areAlike_23 rfl rfl ?_
                              refine v_iload_n 5 dX7_areAlike_24 rfl rfl ?_
                              refine v_iload 0 dX7_areAlike_25 rfl ?_
                              refine v_iadd dX7_areAlike_27 ?_
                              rw [show nI J + 4 = nI (J + 4) from nI_add J 4]
                              refine v_lald dX7_areAlike_28 hb (nI_in' (by omega) (by omega)) ?_
                              refine v_lc_ne (tgt := 37) dX7_areAlike_29 dX7_areAlike_30 (by decide) (fun hk4 => ?_) (fun hk4 => ?_)
                              ·
                                refine v_iconst (v := 0) dX7_areAlike_37 (by first | rfl | decide) ?_
                                refine v_istore dX7_areAlike_38 (by decide) (fun y4_4 e_y4_4 => ?_)
                                refine v_ls (ls' := [(4, .int y4_4), (5, .int (4)), (0, .ref a), (1, .int (nI I)), (2, .ref b), (3, .int (nI J))]) rfl ?_
                                subst e_y4_4
                                refine v_iinc (v := 1) 1 dX7_areAlike_40 rfl rfl (by decide) (fun z_ ez_ => ?_)
                                obtain rfl : z_ = 5 := by rw [ez_]; decide
                                refine v_ls (ls' := [(5, .int (5)), (4, .int (0)), (0, .ref a), (1, .int (nI I)), (2, .ref b), (3, .int (nI J))]) rfl ?_
                                refine v_goto (tgt := 6) dX7_areAlike_43 (by decide) ?_
                                refine v_iload 0 dX7_areAlike_6 rfl ?_
                                refine v_iconst (v := 5) dX7_areAlike_8 (by first | rfl | decide) ?_
                                refine v_icmp_ge (tgt := 46) dX7_areAlike_9 (by decide) (fun hc9 => ?_) (fun hc9 => ?_)
                                ·
                                  refine v_iload 1 dX7_areAlike_46 rfl ?_
                                  refine v_iret dX7_areAlike_48 rfl (by decide) ?_
                                  rw [clamp (by omega), clamp (by omega)] at hk0
                                  rw [clamp (by omega), clamp (by omega)] at hk1
                                  rw [clamp (by omega), clamp (by omega)] at hk2
                                  rw [clamp (by omega), clamp (by omega)] at hk3
                                  rw [clamp (by omega), clamp (by omega)] at hk4
                                  exact ⟨by unfold alkO; rw [if_neg (fun z => by obtain ⟨z0, z1, z2, z3, z4⟩ := z; exact hk4 z4)], rfl⟩
                                · exact absurd (by decide) hc9
                              ·
                                refine v_iconst (v := 1) dX7_areAlike_33 (by first | rfl | decide) ?_
                                refine v_goto (tgt := 38) dX7_areAlike_34 (by decide) ?_
                                refine v_istore dX7_areAlike_38 (by decide) (fun y4_4 e_y4_4 => ?_)
                                refine v_ls (ls' := [(4, .int y4_4), (5, .int (4)), (0, .ref a), (1, .int (nI I)), (2, .ref b), (3, .int (nI J))]) rfl ?_
                                subst e_y4_4
                                refine v_iinc (v := 1) 1 dX7_areAlike_40 rfl rfl (by decide) (fun z_ ez_ => ?_)
                                obtain rfl : z_ = 5 := by rw [ez_]; decide
                                refine v_ls (ls' := [(5, .int (5)), (4, .int (1)), (0, .ref a), (1, .int (nI I)), (2, .ref b), (3, .int (nI J))]) rfl ?_
                                refine v_goto (tgt := 6) dX7_areAlike_43 (by decide) ?_
                                refine v_iload 0 dX7_areAlike_6 rfl ?_
                                refine v_iconst (v := 5) dX7_areAlike_8 (by first | rfl | decide) ?_
                                refine v_icmp_ge (tgt := 46) dX7_areAlike_9 (by decide) (fun hc9 => ?_) (fun hc9 => ?_)
                                ·
                                  refine v_iload 1 dX7_areAlike_46 rfl ?_
                                  refine v_iret dX7_areAlike_48 rfl (by decide) ?_
                                  rw [clamp (by omega), clamp (by omega)] at hk0
                                  rw [clamp (by omega), clamp (by omega)] at hk1
                                  rw [clamp (by omega), clamp (by omega)] at hk2
                                  rw [clamp (by omega), clamp (by omega)] at hk3
                                  rw [clamp (by omega), clamp (by omega)] at hk4
                                  exact ⟨by unfold alkO; rw [if_pos ⟨hk0, hk1, hk2, hk3, hk4⟩], rfl⟩
                                · exact absurd (by decide) hc9

