theorem flo_X6_165 : Cond.fieldLink RX6 165 "FilterPile" "KIND_ABOVE" "[I" ∈ gw := (gwAt 458 (by decide +kernel) rfl)
theorem flo_J5_18 : Cond.fieldLink RJ5 18 "java/lang/String" "COMPACT_STRINGS" "Z" ∈ gw := (gwAt 277 (by decide +kernel) rfl)
theorem flo_J6_83 : Cond.fieldLink RJ6 83 "java/lang/Integer" "DigitOnes" "[B" ∈ gw := (gwAt 1115 (by decide +kernel) rfl)
theorem flo_J6_87 : Cond.fieldLink RJ6 87 "java/lang/Integer" "DigitTens" "[B" ∈ gw := (gwAt 1117 (by decide +kernel) rfl)
theorem flo_J0_9 : Cond.fieldLink RJ0 9 "java/lang/String" "value" "[B" ∈ gw := (gwAt 1747 (by decide +kernel) rfl)
theorem flo_J0_15 : Cond.fieldLink RJ0 15 "java/lang/String" "coder" "B" ∈ gw := (gwAt 1746 (by decide +kernel) rfl)
theorem flo_J0_38 : Cond.fieldLink RJ0 38 "java/lang/String" "COMPACT_STRINGS" "Z" ∈ gw := (gwAt 865 (by decide +kernel) rfl)
theorem flo_J2_403 : Cond.fieldLink RJ2 403 "java/lang/Integer" "DigitOnes" "[B" ∈ gw := (gwAt 1125 (by decide +kernel) rfl)
theorem flo_J2_407 : Cond.fieldLink RJ2 407 "java/lang/Integer" "DigitTens" "[B" ∈ gw := (gwAt 1126 (by decide +kernel) rfl)
theorem cb_J0_charAt_5068e : CB M_J0_charAt_5068e 1 := ⟨(gwAt 74 (by decide +kernel) rfl), (gwAt 1093 (by decide +kernel) rfl), ⟨by decide +kernel, by decide +kernel, by decide +kernel⟩, by decide⟩
theorem cs_X6_446 : CR RX6 446 M_J0_charAt_5068e 1 := ⟨cb_J0_charAt_5068e, (gwAt 1090 (by decide +kernel) rfl), (gwAt 1091 (by decide +kernel) rfl), (gwAt 1092 (by decide +kernel) rfl)⟩
theorem cb_J0_indexOf_0f7a4 : CB M_J0_indexOf_0f7a4 1 := ⟨(gwAt 74 (by decide +kernel) rfl), (gwAt 856 (by decide +kernel) rfl), ⟨by decide +kernel, by decide +kernel, by decide +kernel⟩, by decide⟩
theorem cs_X4_51 : CR RX4 51 M_J0_indexOf_0f7a4 1 := ⟨cb_J0_indexOf_0f7a4, (gwAt 853 (by decide +kernel) rfl), (gwAt 854 (by decide +kernel) rfl), (gwAt 855 (by decide +kernel) rfl)⟩
theorem cb_J0_coder_7d493 : CB M_J0_coder_7d493 0 := ⟨(gwAt 74 (by decide +kernel) rfl), (gwAt 873 (by decide +kernel) rfl), ⟨by decide +kernel, by decide +kernel, by decide +kernel⟩, by decide⟩
theorem cs_J0_335 : CR RJ0 335 M_J0_coder_7d493 0 := ⟨cb_J0_coder_7d493, (gwAt 870 (by decide +kernel) rfl), (gwAt 871 (by decide +kernel) rfl), (gwAt 872 (by decide +kernel) rfl)⟩
theorem cb_J0_isLatin1_aae02 : CB M_J0_isLatin1_aae02 0 := ⟨(gwAt 74 (by decide +kernel) rfl), (gwAt 864 (by decide +kernel) rfl), ⟨by decide +kernel, by decide +kernel, by decide +kernel⟩, by decide⟩
theorem cs_J0_492 : CR RJ0 492 M_J0_isLatin1_aae02 0 := ⟨cb_J0_isLatin1_aae02, (gwAt 861 (by decide +kernel) rfl), (gwAt 862 (by decide +kernel) rfl), (gwAt 863 (by decide +kernel) rfl)⟩
theorem cb_J0_length_8abf5 : CB M_J0_length_8abf5 0 := ⟨(gwAt 74 (by decide +kernel) rfl), (gwAt 869 (by decide +kernel) rfl), ⟨by decide +kernel, by decide +kernel, by decide +kernel⟩, by decide⟩
theorem cs_J0_505 : CR RJ0 505 M_J0_length_8abf5 0 := ⟨cb_J0_length_8abf5, (gwAt 866 (by decide +kernel) rfl), (gwAt 867 (by decide +kernel) rfl), (gwAt 868 (by decide +kernel) rfl)⟩
theorem cb_J0_indexOf_7cf53 : CB M_J0_indexOf_7cf53 2 := ⟨(gwAt 74 (by decide +kernel) rfl), (gwAt 860 (by decide +kernel) rfl), ⟨by decide +kernel, by decide +kernel, by decide +kernel⟩, by decide⟩
theorem cs_J0_633 : CR RJ0 633 M_J0_indexOf_7cf53 2 := ⟨cb_J0_indexOf_7cf53, (gwAt 857 (by decide +kernel) rfl), (gwAt 858 (by decide +kernel) rfl), (gwAt 859 (by decide +kernel) rfl)⟩
set_option maxRecDepth 20000 in
set_option maxHeartbeats 4000000 in
theorem c_J9_min_7cf53 {G : Cx} (d : Nat) {μ : Hp} {a b : Int32}  : Ct G (d) 0 0 M_J9_min_7cf53 [.int a, .int b] μ (Rt (some (.int (if b < a then b else a))) μ) := by
  refine Ct.ofV (by decide +kernel) (Nat.le_of_ble_eq_true rfl) ?_
  refine v_ls (ls' := [(0, .int a), (1, .int b)]) rfl ?_
  refine v_iload_n 0 dJ9_min_7cf53_0 rfl rfl ?_
  refine v_iload_n 1 dJ9_min_7cf53_1 rfl rfl ?_
  refine v_icmp_gt (tgt := 9) dJ9_min_7cf53_2 (by decide) (fun hc2 => ?_) (fun hc2 => ?_)
  ·
    refine v_iload_n 1 dJ9_min_7cf53_9 rfl rfl ?_
    refine v_iret dJ9_min_7cf53_10 rfl (by first | rfl | decide | exact nar_b (by first | assumption | rfl)) ?_
    exact ⟨by simp only [if_pos hc2, if_neg (Int32.not_le.mpr hc2)], rfl⟩
  ·
    refine v_iload_n 0 dJ9_min_7cf53_5 rfl rfl ?_
    refine v_goto (tgt := 10) dJ9_min_7cf53_6 (by decide) ?_
    refine v_iret dJ9_min_7cf53_10 rfl (by first | rfl | decide | exact nar_b (by first | assumption | rfl)) ?_
    exact ⟨by simp only [if_neg hc2, if_pos (Int32.not_lt.mp hc2)], rfl⟩

set_option maxRecDepth 20000 in
set_option maxHeartbeats 4000000 in
theorem c_J0_isLatin1_aae02 {G : Cx} (d : Nat) {μ : Hp}  : Ct G (d) 0 0 M_J0_isLatin1_aae02 [.ref 1002] μ (Rt (some (.int 1)) μ) := by
  refine Ct.ofV (by decide +kernel) (Nat.le_of_ble_eq_true rfl) ?_
  refine v_ls (ls' := [(0, .ref 1002)]) rfl ?_
  refine v_gets (ro_compact G) flo_J0_38 dJ0_isLatin1_aae02_0 (okv_i) ?_
  refine v_if_eq (tgt := 17) dJ0_isLatin1_aae02_3 (by decide) (fun hc3 => ?_) (fun hc3 => ?_)
  · exact absurd hc3 (by decide)
  ·
    refine v_aload_n 0 dJ0_isLatin1_aae02_6 rfl rfl ?_
    refine v_rof (ro_coder G) flo_J0_15 dJ0_isLatin1_aae02_7 (okv_i) ?_
    refine v_if_ne (tgt := 17) dJ0_isLatin1_aae02_10 (by decide) (fun hc10 => ?_) (fun hc10 => ?_)
    · exact absurd rfl hc10
    ·
      refine v_iconst (v := 1) dJ0_isLatin1_aae02_13 (by first | rfl | decide) ?_
      refine v_goto (tgt := 18) dJ0_isLatin1_aae02_14 (by decide) ?_
      refine v_iret dJ0_isLatin1_aae02_18 rfl (by first | rfl | decide | exact nar_b (by first | assumption | rfl)) ?_
      exact ⟨rfl, rfl⟩

set_option maxRecDepth 20000 in
set_option maxHeartbeats 4000000 in
theorem c_J0_coder_7d493 {G : Cx} (d : Nat) {μ : Hp}  : Ct G (d) 0 0 M_J0_coder_7d493 [.ref 1002] μ (Rt (some (.int 0)) μ) := by
  refine Ct.ofV (by decide +kernel) (Nat.le_of_ble_eq_true rfl) ?_
  refine v_ls (ls' := [(0, .ref 1002)]) rfl ?_
  refine v_gets (ro_compact G) flo_J0_38 dJ0_coder_7d493_0 (okv_i) ?_
  refine v_if_eq (tgt := 13) dJ0_coder_7d493_3 (by decide) (fun hc3 => ?_) (fun hc3 => ?_)
  · exact absurd hc3 (by decide)
  ·
    refine v_aload_n 0 dJ0_coder_7d493_6 rfl rfl ?_
    refine v_rof (ro_coder G) flo_J0_15 dJ0_coder_7d493_7 (okv_i) ?_
    refine v_goto (tgt := 14) dJ0_coder_7d493_10 (by decide) ?_
    refine v_iret dJ0_coder_7d493_14 rfl (by first | rfl | decide | exact nar_b (by first | assumption | rfl)) ?_
    exact ⟨rfl, rfl⟩

set_option maxRecDepth 20000 in
set_option maxHeartbeats 4000000 in
theorem c_J0_length_8abf5 {G : Cx} (d : Nat) {μ : Hp}  : Ct G (d + 1) 0 0 M_J0_length_8abf5 [.ref 1002] μ (Rt (some (.int 7)) μ) := by
  refine Ct.ofV (by decide +kernel) (Nat.le_of_ble_eq_true rfl) ?_
  refine v_ls (ls' := [(0, .ref 1002)]) rfl ?_
  refine v_aload_n 0 dJ0_length_8abf5_0 rfl rfl ?_
  refine v_rof (ro_value G) flo_J0_9 dJ0_length_8abf5_1 (okv_ro (by decide)) ?_
  refine v_rolen (ro_bytes G) dJ0_length_8abf5_4 ?_
  refine v_aload_n 0 dJ0_length_8abf5_5 rfl rfl ?_
  refine v_callR (c_J0_coder_7d493 d) cs_J0_335 dJ0_length_8abf5_6 rfl rfl (Nat.le_of_ble_eq_true rfl) ?_
  refine rt_k ?_
  refine v_ishr dJ0_length_8abf5_9 ?_
  refine v_iret dJ0_length_8abf5_10 rfl (by first | rfl | decide | exact nar_b (by first | assumption | rfl)) ?_
  exact ⟨by decide, rfl⟩

set_option maxRecDepth 20000 in
set_option maxHeartbeats 4000000 in
theorem c_J1_canEncode_9a6ad {G : Cx} (d : Nat) {μ : Hp} {c : Int32}  : Ct G (d) 0 0 M_J1_canEncode_9a6ad [.int c] μ (Rt (some (.int (if c < 0 then 0 else if 255 < c then 0 else 1))) μ) := by
  refine Ct.ofV (by decide +kernel) (Nat.le_of_ble_eq_true rfl) ?_
  refine v_ls (ls' := [(0, .int c)]) rfl ?_
  refine v_iload_n 0 dJ1_canEncode_9a6ad_0 rfl rfl ?_
  refine v_if_lt (tgt := 15) dJ1_canEncode_9a6ad_1 (by decide) (fun hc1 => ?_) (fun hc1 => ?_)
  ·
    refine v_iconst (v := 0) dJ1_canEncode_9a6ad_15 (by first | rfl | decide) ?_
    refine v_iret dJ1_canEncode_9a6ad_16 rfl (by first | rfl | decide | exact nar_b (by first | assumption | rfl)) ?_
    exact ⟨by simp only [if_pos hc1, if_neg (Int32.not_le.mpr hc1)], rfl⟩
  ·
    refine v_iload_n 0 dJ1_canEncode_9a6ad_4 rfl rfl ?_
    refine v_sipush (v := 255) dJ1_canEncode_9a6ad_5 (by first | rfl | decide) ?_
    refine v_icmp_gt (tgt := 15) dJ1_canEncode_9a6ad_8 (by decide) (fun hc8 => ?_) (fun hc8 => ?_)
    ·
      refine v_iconst (v := 0) dJ1_canEncode_9a6ad_15 (by first | rfl | decide) ?_
      refine v_iret dJ1_canEncode_9a6ad_16 rfl (by first | rfl | decide | exact nar_b (by first | assumption | rfl)) ?_
      exact ⟨by simp only [if_neg hc1, if_pos (Int32.not_lt.mp hc1), if_pos hc8, if_neg (Int32.not_le.mpr hc8)], rfl⟩
    ·
      refine v_iconst (v := 1) dJ1_canEncode_9a6ad_11 (by first | rfl | decide) ?_
      refine v_goto (tgt := 16) dJ1_canEncode_9a6ad_12 (by decide) ?_
      refine v_iret dJ1_canEncode_9a6ad_16 rfl (by first | rfl | decide | exact nar_b (by first | assumption | rfl)) ?_
      exact ⟨by simp only [if_neg hc1, if_pos (Int32.not_lt.mp hc1), if_neg hc8, if_pos (Int32.not_lt.mp hc8)], rfl⟩

set_option maxRecDepth 20000 in
set_option maxHeartbeats 4000000 in
theorem c_J1_indexOfChar_4cfef {G : Cx} (d : Nat) {μ : Hp} {c : Int32} (hb : c.toInt8.toInt32 = c) : Ct G (d) 0 0 M_J1_indexOfChar_4cfef [.ref 1003, .int c, .int 0, .int 7] μ (Rt (some (.int (ixP c))) μ) := by
  refine Ct.ofV (by decide +kernel) (Nat.le_of_ble_eq_true rfl) ?_
  refine v_ls (ls' := [(0, .ref 1003), (1, .int c), (2, .int (0)), (3, .int (7))]) rfl ?_
  refine v_iload_n 1 dJ1_indexOfChar_4cfef_0 rfl rfl ?_
  refine v_i2b dJ1_indexOfChar_4cfef_1 ?_
  refine v_istore dJ1_indexOfChar_4cfef_2 (by decide) (fun x4 e_x4 => ?_)
  refine v_ls (ls' := [(4, .int x4), (0, .ref 1003), (1, .int c), (2, .int (0)), (3, .int (7))]) rfl ?_
  rw [hb] at e_x4
  have e_y4 := e_x4.symm
  subst e_y4
  refine v_iload_n 3 dJ1_indexOfChar_4cfef_4 rfl rfl ?_
  refine v_istore dJ1_indexOfChar_4cfef_5 (by decide) (fun x5 e_x5 => ?_)
  refine v_ls (ls' := [(5, .int x5), (4, .int c), (0, .ref 1003), (1, .int c), (2, .int (0)), (3, .int (7))]) rfl ?_
  subst e_x5
  refine v_iload 0 dJ1_indexOfChar_4cfef_7 rfl ?_
  refine v_iload_n 5 dJ1_indexOfChar_4cfef_9 rfl rfl ?_
  refine v_icmp_ge (tgt := 31) dJ1_indexOfChar_4cfef_10 (by decide) (fun hc10 => ?_) (fun hc10 => ?_)
  · exact absurd hc10 (by decide)
  ·
    refine v_aload_n 2 dJ1_indexOfChar_4cfef_13 rfl rfl ?_
    refine v_iload 0 dJ1_indexOfChar_4cfef_14 rfl ?_
    refine v_rob (ro_bytes G) dJ1_indexOfChar_4cfef_16 (nI_in' (k := 0) (by decide)) (by decide) ?_
    refine v_iload 1 dJ1_indexOfChar_4cfef_17 rfl ?_
    refine v_icmp_ne (tgt := 25) dJ1_indexOfChar_4cfef_19 (by decide) (fun qn0 => ?_) (fun qn0 => ?_)
    ·
      refine v_iinc (v := 1) 0 dJ1_indexOfChar_4cfef_25 rfl rfl (by decide) (fun z_ ez_ => ?_)
      obtain rfl : z_ = 1 := by rw [ez_]; decide
      refine v_ls (ls' := [(5, .int (1)), (4, .int c), (0, .ref 1003), (1, .int c), (2, .int (0)), (3, .int (7))]) rfl ?_
      refine v_goto (tgt := 7) dJ1_indexOfChar_4cfef_28 (by decide) ?_
      refine v_iload 0 dJ1_indexOfChar_4cfef_7 rfl ?_
      refine v_iload_n 5 dJ1_indexOfChar_4cfef_9 rfl rfl ?_
      refine v_icmp_ge (tgt := 31) dJ1_indexOfChar_4cfef_10 (by decide) (fun hc10 => ?_) (fun hc10 => ?_)
      · exact absurd hc10 (by decide)
      ·
        refine v_aload_n 2 dJ1_indexOfChar_4cfef_13 rfl rfl ?_
        refine v_iload 0 dJ1_indexOfChar_4cfef_14 rfl ?_
        refine v_rob (ro_bytes G) dJ1_indexOfChar_4cfef_16 (nI_in' (k := 1) (by decide)) (by decide) ?_
        refine v_iload 1 dJ1_indexOfChar_4cfef_17 rfl ?_
        refine v_icmp_ne (tgt := 25) dJ1_indexOfChar_4cfef_19 (by decide) (fun qn1 => ?_) (fun qn1 => ?_)
        ·
          refine v_iinc (v := 1) 0 dJ1_indexOfChar_4cfef_25 rfl rfl (by decide) (fun z_ ez_ => ?_)
          obtain rfl : z_ = 2 := by rw [ez_]; decide
          refine v_ls (ls' := [(5, .int (2)), (4, .int c), (0, .ref 1003), (1, .int c), (2, .int (0)), (3, .int (7))]) rfl ?_
          refine v_goto (tgt := 7) dJ1_indexOfChar_4cfef_28 (by decide) ?_
          refine v_iload 0 dJ1_indexOfChar_4cfef_7 rfl ?_
          refine v_iload_n 5 dJ1_indexOfChar_4cfef_9 rfl rfl ?_
          refine v_icmp_ge (tgt := 31) dJ1_indexOfChar_4cfef_10 (by decide) (fun hc10 => ?_) (fun hc10 => ?_)
          · exact absurd hc10 (by decide)
          ·
            refine v_aload_n 2 dJ1_indexOfChar_4cfef_13 rfl rfl ?_
            refine v_iload 0 dJ1_indexOfChar_4cfef_14 rfl ?_
            refine v_rob (ro_bytes G) dJ1_indexOfChar_4cfef_16 (nI_in' (k := 2) (by decide)) (by decide) ?_
            refine v_iload 1 dJ1_indexOfChar_4cfef_17 rfl ?_
            refine v_icmp_ne (tgt := 25) dJ1_indexOfChar_4cfef_19 (by decide) (fun qn2 => ?_) (fun qn2 => ?_)
            ·
              refine v_iinc (v := 1) 0 dJ1_indexOfChar_4cfef_25 rfl rfl (by decide) (fun z_ ez_ => ?_)
              obtain rfl : z_ = 3 := by rw [ez_]; decide
              refine v_ls (ls' := [(5, .int (3)), (4, .int c), (0, .ref 1003), (1, .int c), (2, .int (0)), (3, .int (7))]) rfl ?_
              refine v_goto (tgt := 7) dJ1_indexOfChar_4cfef_28 (by decide) ?_
              refine v_iload 0 dJ1_indexOfChar_4cfef_7 rfl ?_
              refine v_iload_n 5 dJ1_indexOfChar_4cfef_9 rfl rfl ?_
              refine v_icmp_ge (tgt := 31) dJ1_indexOfChar_4cfef_10 (by decide) (fun hc10 => ?_) (fun hc10 => ?_)
              · exact absurd hc10 (by decide)
              ·
                refine v_aload_n 2 dJ1_indexOfChar_4cfef_13 rfl rfl ?_
                refine v_iload 0 dJ1_indexOfChar_4cfef_14 rfl ?_
                refine v_rob (ro_bytes G) dJ1_indexOfChar_4cfef_16 (nI_in' (k := 3) (by decide)) (by decide) ?_
                refine v_iload 1 dJ1_indexOfChar_4cfef_17 rfl ?_
                refine v_icmp_ne (tgt := 25) dJ1_indexOfChar_4cfef_19 (by decide) (fun qn3 => ?_) (fun qn3 => ?_)
                ·
                  refine v_iinc (v := 1) 0 dJ1_indexOfChar_4cfef_25 rfl rfl (by decide) (fun z_ ez_ => ?_)
                  obtain rfl : z_ = 4 := by rw [ez_]; decide
                  refine v_ls (ls' := [(5, .int (4)), (4, .int c), (0, .ref 1003), (1, .int c), (2, .int (0)), (3, .int (7))]) rfl ?_
                  refine v_goto (tgt := 7) dJ1_indexOfChar_4cfef_28 (by decide) ?_
                  refine v_iload 0 dJ1_indexOfChar_4cfef_7 rfl ?_
                  refine v_iload_n 5 dJ1_indexOfChar_4cfef_9 rfl rfl ?_
                  refine v_icmp_ge (tgt := 31) dJ1_indexOfChar_4cfef_10 (by decide) (fun hc10 => ?_) (fun hc10 => ?_)
                  · exact absurd hc10 (by decide)
                  ·
                    refine v_aload_n 2 dJ1_indexOfChar_4cfef_13 rfl rfl ?_
                    refine v_iload 0 dJ1_indexOfChar_4cfef_14 rfl ?_
                    refine v_rob (ro_bytes G) dJ1_indexOfChar_4cfef_16 (nI_in' (k := 4) (by decide)) (by decide) ?_
                    refine v_iload 1 dJ1_indexOfChar_4cfef_17 rfl ?_
                    refine v_icmp_ne (tgt := 25) dJ1_indexOfChar_4cfef_19 (by decide) (fun qn4 => ?_) (fun qn4 => ?_)
                    ·
                      refine v_iinc (v := 1) 0 dJ1_indexOfChar_4cfef_25 rfl rfl (by decide) (fun z_ ez_ => ?_)
                      obtain rfl : z_ = 5 := by rw [ez_]; decide
                      refine v_ls (ls' := [(5, .int (5)), (4, .int c), (0, .ref 1003), (1, .int c), (2, .int (0)), (3, .int (7))]) rfl ?_
                      refine v_goto (tgt := 7) dJ1_indexOfChar_4cfef_28 (by decide) ?_
                      refine v_iload 0 dJ1_indexOfChar_4cfef_7 rfl ?_
                      refine v_iload_n 5 dJ1_indexOfChar_4cfef_9 rfl rfl ?_
                      refine v_icmp_ge (tgt := 31) dJ1_indexOfChar_4cfef_10 (by decide) (fun hc10 => ?_) (fun hc10 => ?_)
                      · exact absurd hc10 (by decide)
                      ·
                        refine v_aload_n 2 dJ1_indexOfChar_4cfef_13 rfl rfl ?_
                        refine v_iload 0 dJ1_indexOfChar_4cfef_14 rfl ?_
                        refine v_rob (ro_bytes G) dJ1_indexOfChar_4cfef_16 (nI_in' (k := 5) (by decide)) (by decide) ?_
                        refine v_iload 1 dJ1_indexOfChar_4cfef_17 rfl ?_
                        refine v_icmp_ne (tgt := 25) dJ1_indexOfChar_4cfef_19 (by decide) (fun qn5 => ?_) (fun qn5 => ?_)
                        ·
                          refine v_iinc (v := 1) 0 dJ1_indexOfChar_4cfef_25 rfl rfl (by decide) (fun z_ ez_ => ?_)
                          obtain rfl : z_ = 6 := by rw [ez_]; decide
                          refine v_ls (ls' := [(5, .int (6)), (4, .int c), (0, .ref 1003), (1, .int c), (2, .int (0)), (3, .int (7))]) rfl ?_
                          refine v_goto (tgt := 7) dJ1_indexOfChar_4cfef_28 (by decide) ?_
                          refine v_iload 0 dJ1_indexOfChar_4cfef_7 rfl ?_
                          refine v_iload_n 5 dJ1_indexOfChar_4cfef_9 rfl rfl ?_
                          refine v_icmp_ge (tgt := 31) dJ1_indexOfChar_4cfef_10 (by decide) (fun hc10 => ?_) (fun hc10 => ?_)
                          · exact absurd hc10 (by decide)
                          ·
                            refine v_aload_n 2 dJ1_indexOfChar_4cfef_13 rfl rfl ?_
                            refine v_iload 0 dJ1_indexOfChar_4cfef_14 rfl ?_
                            refine v_rob (ro_bytes G) dJ1_indexOfChar_4cfef_16 (nI_in' (k := 6) (by decide)) (by decide) ?_
                            refine v_iload 1 dJ1_indexOfChar_4cfef_17 rfl ?_
                            refine v_icmp_ne (tgt := 25) dJ1_indexOfChar_4cfef_19 (by decide) (fun qn6 => ?_) (fun qn6 => ?_)
                            ·
                              refine v_iinc (v := 1) 0 dJ1_indexOfChar_4cfef_25 rfl rfl (by decide) (fun z_ ez_ => ?_)
                              obtain rfl : z_ = 7 := by rw [ez_]; decide
                              refine v_ls (ls' := [(5, .int (7)), (4, .int c), (0, .ref 1003), (1, .int c), (2, .int (0)), (3, .int (7))]) rfl ?_
                              refine v_goto (tgt := 7) dJ1_indexOfChar_4cfef_28 (by decide) ?_
                              refine v_iload 0 dJ1_indexOfChar_4cfef_7 rfl ?_
                              refine v_iload_n 5 dJ1_indexOfChar_4cfef_9 rfl rfl ?_
                              refine v_icmp_ge (tgt := 31) dJ1_indexOfChar_4cfef_10 (by decide) (fun hc10 => ?_) (fun hc10 => ?_)
                              ·
                                refine v_iconst (v := -1) dJ1_indexOfChar_4cfef_31 (by first | rfl | decide) ?_
                                refine v_iret dJ1_indexOfChar_4cfef_32 rfl (by first | rfl | decide | exact nar_b (by first | assumption | rfl)) ?_
                                have pn0 : ¬ c = 103 := fun z => qn0 z.symm
                                have pn1 : ¬ c = 121 := fun z => qn1 z.symm
                                have pn2 : ¬ c = 115 := fun z => qn2 z.symm
                                have pn3 : ¬ c = 112 := fun z => qn3 z.symm
                                have pn4 : ¬ c = 119 := fun z => qn4 z.symm
                                have pn5 : ¬ c = 114 := fun z => qn5 z.symm
                                have pn6 : ¬ c = 102 := fun z => qn6 z.symm
                                exact ⟨by simp only [ixP, if_neg pn0, if_neg pn1, if_neg pn2, if_neg pn3, if_neg pn4, if_neg pn5, if_neg pn6], rfl⟩
                              · exact absurd (by decide) hc10
                            ·
                              refine v_iload 0 dJ1_indexOfChar_4cfef_22 rfl ?_
                              refine v_iret dJ1_indexOfChar_4cfef_24 rfl (by first | rfl | decide | exact nar_b (by first | assumption | rfl)) ?_
                              have pz : c = 102 := qn6.symm
                              exact ⟨by rw [pz]; decide, rfl⟩
                        ·
                          refine v_iload 0 dJ1_indexOfChar_4cfef_22 rfl ?_
                          refine v_iret dJ1_indexOfChar_4cfef_24 rfl (by first | rfl | decide | exact nar_b (by first | assumption | rfl)) ?_
                          have pz : c = 114 := qn5.symm
                          exact ⟨by rw [pz]; decide, rfl⟩
                    ·
                      refine v_iload 0 dJ1_indexOfChar_4cfef_22 rfl ?_
                      refine v_iret dJ1_indexOfChar_4cfef_24 rfl (by first | rfl | decide | exact nar_b (by first | assumption | rfl)) ?_
                      have pz : c = 119 := qn4.symm
                      exact ⟨by rw [pz]; decide, rfl⟩
                ·
                  refine v_iload 0 dJ1_indexOfChar_4cfef_22 rfl ?_
                  refine v_iret dJ1_indexOfChar_4cfef_24 rfl (by first | rfl | decide | exact nar_b (by first | assumption | rfl)) ?_
                  have pz : c = 112 := qn3.symm
                  exact ⟨by rw [pz]; decide, rfl⟩
            ·
              refine v_iload 0 dJ1_indexOfChar_4cfef_22 rfl ?_
              refine v_iret dJ1_indexOfChar_4cfef_24 rfl (by first | rfl | decide | exact nar_b (by first | assumption | rfl)) ?_
              have pz : c = 115 := qn2.symm
              exact ⟨by rw [pz]; decide, rfl⟩
        ·
          refine v_iload 0 dJ1_indexOfChar_4cfef_22 rfl ?_
          refine v_iret dJ1_indexOfChar_4cfef_24 rfl (by first | rfl | decide | exact nar_b (by first | assumption | rfl)) ?_
          have pz : c = 121 := qn1.symm
          exact ⟨by rw [pz]; decide, rfl⟩
    ·
      refine v_iload 0 dJ1_indexOfChar_4cfef_22 rfl ?_
      refine v_iret dJ1_indexOfChar_4cfef_24 rfl (by first | rfl | decide | exact nar_b (by first | assumption | rfl)) ?_
      have pz : c = 103 := qn0.symm
      exact ⟨by rw [pz]; decide, rfl⟩

set_option maxRecDepth 20000 in
set_option maxHeartbeats 4000000 in
theorem c_J1_indexOf_4cfef {G : Cx} (d : Nat) {μ : Hp} {c : Int32} (hb : c.toInt8.toInt32 = c) (h0 : ¬ c < 0) (h1 : ¬ 255 < c) : Ct G (d + 1) 0 0 M_J1_indexOf_4cfef [.ref 1003, .int c, .int 0, .int 7] μ (Rt (some (.int (ixP c))) μ) := by
  refine Ct.ofV (by decide +kernel) (Nat.le_of_ble_eq_true rfl) ?_
  refine v_ls (ls' := [(0, .ref 1003), (1, .int c), (2, .int (0)), (3, .int (7))]) rfl ?_
  refine v_iload_n 1 dJ1_indexOf_4cfef_0 rfl rfl ?_
  refine v_callS (c_J1_canEncode_9a6ad d) cs_J1_88 dJ1_indexOf_4cfef_1 rfl rfl (Nat.le_of_ble_eq_true rfl) ?_
  refine rt_k ?_
  refine v_if_ne (tgt := 9) dJ1_indexOf_4cfef_4 (by decide) (fun hc4 => ?_) (fun hc4 => ?_)
  ·
    refine v_iload_n 2 dJ1_indexOf_4cfef_9 rfl rfl ?_
    refine v_iconst (v := 0) dJ1_indexOf_4cfef_10 (by first | rfl | decide) ?_
    refine v_callS (c_J9_max_7cf53 d ) cs_J1_92 dJ1_indexOf_4cfef_11 rfl rfl (Nat.le_of_ble_eq_true rfl) ?_
    refine rt_k ?_
    refine v_istore_n dJ1_indexOf_4cfef_14 rfl (by decide) (fun x2 e_x2 => ?_)
    refine v_ls (ls' := [(2, .int x2), (0, .ref 1003), (1, .int c), (3, .int (7))]) rfl ?_
    obtain rfl : x2 = 0 := by rw [e_x2]; decide
    refine v_iload_n 3 dJ1_indexOf_4cfef_15 rfl rfl ?_
    refine v_aload_n 1 dJ1_indexOf_4cfef_16 rfl rfl ?_
    refine v_rolen (ro_bytes G) dJ1_indexOf_4cfef_17 ?_
    refine v_callS (c_J9_min_7cf53 d) cs_J1_38 dJ1_indexOf_4cfef_18 rfl rfl (Nat.le_of_ble_eq_true rfl) ?_
    refine rt_k ?_
    refine v_istore_n dJ1_indexOf_4cfef_21 rfl (by decide) (fun x3 e_x3 => ?_)
    refine v_ls (ls' := [(3, .int x3), (2, .int (0)), (0, .ref 1003), (1, .int c)]) rfl ?_
    obtain rfl : x3 = 7 := by rw [e_x3]; decide
    refine v_iload_n 1 dJ1_indexOf_4cfef_22 rfl rfl ?_
    refine v_iload_n 0 dJ1_indexOf_4cfef_23 rfl rfl ?_
    refine v_icmp_lt (tgt := 29) dJ1_indexOf_4cfef_24 (by decide) (fun hc24 => ?_) (fun hc24 => ?_)
    ·
      refine v_aload_n 2 dJ1_indexOf_4cfef_29 rfl rfl ?_
      refine v_iload_n 3 dJ1_indexOf_4cfef_30 rfl rfl ?_
      refine v_iload_n 1 dJ1_indexOf_4cfef_31 rfl rfl ?_
      refine v_iload_n 0 dJ1_indexOf_4cfef_32 rfl rfl ?_
      refine v_callS (c_J1_indexOfChar_4cfef d hb) cs_J1_95 dJ1_indexOf_4cfef_33 rfl rfl (Nat.le_of_ble_eq_true rfl) ?_
      refine rt_k ?_
      refine v_iret dJ1_indexOf_4cfef_36 rfl (rfl) ?_
      exact ⟨rfl, rfl⟩
    · exact absurd (by decide) hc24
  · exact absurd hc4 (by rw [if_neg h0, if_neg h1]; decide)

set_option maxRecDepth 20000 in
set_option maxHeartbeats 4000000 in
theorem c_J0_indexOf_7cf53 {G : Cx} (d : Nat) {μ : Hp} {c : Int32} (hb : c.toInt8.toInt32 = c) (h0 : ¬ c < 0) (h1 : ¬ 255 < c) : Ct G (d + 2) 0 0 M_J0_indexOf_7cf53 [.ref 1002, .int c, .int 0] μ (Rt (some (.int (ixP c))) μ) := by
  refine Ct.ofV (by decide +kernel) (Nat.le_of_ble_eq_true rfl) ?_
  refine v_ls (ls' := [(0, .ref 1002), (1, .int c), (2, .int (0))]) rfl ?_
  refine v_aload_n 0 dJ0_indexOf_7cf53_0 rfl rfl ?_
  refine v_callR (c_J0_isLatin1_aae02 (d + 1)) cs_J0_492 dJ0_indexOf_7cf53_1 rfl rfl (Nat.le_of_ble_eq_true rfl) ?_
  refine rt_k ?_
  refine v_if_eq (tgt := 23) dJ0_indexOf_7cf53_4 (by decide) (fun hc4 => ?_) (fun hc4 => ?_)
  · exact absurd hc4 (by decide)
  ·
    refine v_aload_n 0 dJ0_indexOf_7cf53_7 rfl rfl ?_
    refine v_rof (ro_value G) flo_J0_9 dJ0_indexOf_7cf53_8 (okv_ro (by decide)) ?_
    refine v_iload_n 1 dJ0_indexOf_7cf53_11 rfl rfl ?_
    refine v_iload_n 2 dJ0_indexOf_7cf53_12 rfl rfl ?_
    refine v_aload_n 0 dJ0_indexOf_7cf53_13 rfl rfl ?_
    refine v_callR (c_J0_length_8abf5 d) cs_J0_505 dJ0_indexOf_7cf53_14 rfl rfl (Nat.le_of_ble_eq_true rfl) ?_
    refine rt_k ?_
    refine v_callS (c_J1_indexOf_4cfef d hb h0 h1) cs_J0_637 dJ0_indexOf_7cf53_17 rfl rfl (Nat.le_of_ble_eq_true rfl) ?_
    refine rt_k ?_
    refine v_goto (tgt := 36) dJ0_indexOf_7cf53_20 (by decide) ?_
    refine v_iret dJ0_indexOf_7cf53_36 rfl (by first | rfl | decide | exact nar_b (by first | assumption | rfl)) ?_
    exact ⟨rfl, rfl⟩

set_option maxRecDepth 20000 in
set_option maxHeartbeats 4000000 in
theorem c_J0_indexOf_0f7a4 {G : Cx} (d : Nat) {μ : Hp} {c : Int32} (hb : c.toInt8.toInt32 = c) (h0 : ¬ c < 0) (h1 : ¬ 255 < c) : Ct G (d + 3) 0 0 M_J0_indexOf_0f7a4 [.ref 1002, .int c] μ (Rt (some (.int (ixP c))) μ) := by
  refine Ct.ofV (by decide +kernel) (Nat.le_of_ble_eq_true rfl) ?_
  refine v_ls (ls' := [(0, .ref 1002), (1, .int c)]) rfl ?_
  refine v_aload_n 0 dJ0_indexOf_0f7a4_0 rfl rfl ?_
  refine v_iload_n 1 dJ0_indexOf_0f7a4_1 rfl rfl ?_
  refine v_iconst (v := 0) dJ0_indexOf_0f7a4_2 (by first | rfl | decide) ?_
  refine v_callR (c_J0_indexOf_7cf53 d hb h0 h1) cs_J0_633 dJ0_indexOf_0f7a4_3 rfl rfl (Nat.le_of_ble_eq_true rfl) ?_
  refine rt_k ?_
  refine v_iret dJ0_indexOf_0f7a4_6 rfl (by first | rfl | decide | exact nar_b (by first | assumption | rfl)) ?_
  exact ⟨rfl, rfl⟩

