set_option maxRecDepth 20000 in
set_option maxHeartbeats 4000000 in
theorem c_J5_setLength_d00df {G : Cx} (d : Nat) {μ : Hp} {b N n : Nat} {f : Nat → Int32} {ml : Int32} (h45 : μ 45 = some (sbC b ml n)) (hb : μ b = some (arB N f)) (hN : N < 1000) (hn : n ≤ 70) : Ct G (d + 4) 1 70 M_J5_setLength_d00df [.ref 45, .int 0] μ (fun r μ' => r = none ∧ ∃ ml', μ' = up μ 45 (sbC b ml' 0)) := by
  refine Ct.ofV (by decide +kernel) (Nat.le_of_ble_eq_true rfl) ?_
  refine v_ls (ls' := [(0, .ref 45), (1, .int (0))]) rfl ?_
  refine v_iload_n 1 dJ5_setLength_d00df_0 rfl rfl ?_
  refine v_if_ge (tgt := 13) dJ5_setLength_d00df_1 (by decide) (fun hc1 => ?_) (fun hc1 => ?_)
  ·
    refine v_aload_n 0 dJ5_setLength_d00df_13 rfl rfl ?_
    refine v_iload_n 1 dJ5_setLength_d00df_14 rfl rfl ?_
    refine v_callVC (c_enough (q := 0) d h45 hb hN (Nat.zero_le _)) cs_J5_100 dJ5_setLength_d00df_15 h45 rfl rfl (Nat.le_of_ble_eq_true rfl) ?_
    refine rt_k ?_
    refine v_aload_n 0 dJ5_setLength_d00df_18 rfl rfl ?_
    refine v_get fl_J5_79 dJ5_setLength_d00df_19 h45 rfl ?_
    refine v_iload_n 1 dJ5_setLength_d00df_22 rfl rfl ?_
    refine v_icmp_ge (tgt := 63) dJ5_setLength_d00df_23 (by decide) (fun hc23 => ?_) (fun hc23 => ?_)
    ·
      refine v_aload_n 0 dJ5_setLength_d00df_63 rfl rfl ?_
      refine v_get fl_J5_79 dJ5_setLength_d00df_64 h45 rfl ?_
      refine v_iload_n 1 dJ5_setLength_d00df_67 rfl rfl ?_
      refine v_icmp_le (tgt := 76) dJ5_setLength_d00df_68 (by decide) (fun hc68 => ?_) (fun hc68 => ?_)
      ·
        refine v_aload_n 0 dJ5_setLength_d00df_76 rfl rfl ?_
        refine v_iload_n 1 dJ5_setLength_d00df_77 rfl rfl ?_
        refine v_put fp_J5_79 dJ5_setLength_d00df_78 h45 (Nat.le_of_ble_eq_true rfl) (by first | rfl | decide) (by first | rfl | decide) ?_
        refine v_vret dJ5_setLength_d00df_81 rfl ?_
        exact ⟨rfl, _, rfl⟩
      ·
        refine v_aload_n 0 dJ5_setLength_d00df_71 rfl rfl ?_
        refine v_iconst (v := 1) dJ5_setLength_d00df_72 (by first | rfl | decide) ?_
        refine v_put fp_J5_73 dJ5_setLength_d00df_73 h45 (Nat.le_of_ble_eq_true rfl) (by first | rfl | decide) (by first | rfl | decide) ?_
        refine v_aload_n 0 dJ5_setLength_d00df_76 rfl rfl ?_
        refine v_iload_n 1 dJ5_setLength_d00df_77 rfl rfl ?_
        refine v_put fp_J5_79 dJ5_setLength_d00df_78 (up_s _ _ _) (Nat.le_of_ble_eq_true rfl) (by first | rfl | decide) (by first | rfl | decide) ?_
        refine v_hp (up_up _ _ _ _) ?_
        refine v_vret dJ5_setLength_d00df_81 rfl ?_
        exact ⟨rfl, _, rfl⟩
    · exact absurd (Int32.not_lt.mp (nI_pos (by omega))) hc23
  · exact absurd (by decide) hc1

set_option maxRecDepth 20000 in
set_option maxHeartbeats 4000000 in
theorem c_J4_setLength_d00df {G : Cx} (d : Nat) {μ : Hp} {b N n : Nat} {f : Nat → Int32} {ml : Int32} (h45 : μ 45 = some (sbC b ml n)) (hb : μ b = some (arB N f)) (hN : N < 1000) (hn : n ≤ 70) : Ct G (d + 5) 1 70 M_J4_setLength_d00df [.ref 45, .int 0] μ (fun r μ' => r = none ∧ ∃ ml', μ' = up μ 45 (sbC b ml' 0)) := by
  refine Ct.ofV (by decide +kernel) (Nat.le_of_ble_eq_true rfl) ?_
  refine v_ls (ls' := [(0, .ref 45), (1, .int (0))]) rfl ?_
  refine v_aload_n 0 dJ4_setLength_d00df_0 rfl rfl ?_
  refine v_iload_n 1 dJ4_setLength_d00df_1 rfl rfl ?_
  refine v_callSU (c_J5_setLength_d00df d h45 hb hN hn) cs_J4_333 dJ4_setLength_d00df_2 h45 rfl rfl (Nat.le_of_ble_eq_true rfl) ?_
  rintro _ m1 ⟨rfl, ml1, rfl⟩
  refine v_vret dJ4_setLength_d00df_5 rfl ?_
  exact ⟨rfl, ml1, rfl⟩

theorem c_setL {G : Cx} (d : Nat) {μ : Hp} (h : Sx μ) : Ct G (d + 5) 1 70 M_J4_setLength_d00df [.ref 45, .int 0] μ (fun r μ' => r = none ∧ Sc 0 [] μ' ∧ Fw μ' μ) := by
  obtain ⟨w, f, ml, n, ⟨a1, a2, a3⟩, h45, hB, hN⟩ := h
  refine (c_J4_setLength_d00df d h45 hB (by have := cap_le w; omega) a2).post (fun r μ' z => ?_)
  obtain ⟨rfl, ml1, rfl⟩ := z
  exact ⟨rfl, ⟨w, f, ml1, ⟨a1, Nat.zero_le _, a3, fun c hc => by cases hc⟩, up_s _ _ _, up_n (by omega) hB, fun j hj => absurd hj (Nat.not_lt_zero j), fun j u v => up_n (by omega) (hN j u v)⟩, fun i hi => up_n (by omega) rfl⟩
set_option maxRecDepth 20000 in
set_option maxHeartbeats 4000000 in
theorem c_J5_append_3fe6f {G : Cx} (d : Nat) {μ : Hp} {t : List Int32} {k : Nat} (h : Sc t.length t μ) (hl : t.length < 70) (hk : k < 128) : Ct G (d + 4) 1 70 M_J5_append_3fe6f [.ref 45, .int (nI k)] μ (fun r μ' => r = some (.ref 45) ∧ Sc ((t ++ [nI k]).length) (t ++ [nI k]) μ' ∧ Fw μ' μ) := by
  refine Ct.ofV (by decide +kernel) (Nat.le_of_ble_eq_true rfl) ?_
  refine v_ls (ls' := [(0, .ref 45), (1, .int (nI k))]) rfl ?_
  obtain ⟨w, f, ml, ⟨a1, a2, a3, a4⟩, h45, hB, hP, hN⟩ := id h
  refine v_aload_n 0 dJ5_append_3fe6f_0 rfl rfl ?_
  refine v_aload_n 0 dJ5_append_3fe6f_1 rfl rfl ?_
  refine v_get fl_J5_79 dJ5_append_3fe6f_2 h45 rfl ?_
  refine v_iconst (v := 1) dJ5_append_3fe6f_5 (by first | rfl | decide) ?_
  refine v_iadd dJ5_append_3fe6f_6 ?_
  refine v_topi (fun y6 e_y6 => ?_)
  obtain rfl : y6 = nI (t.length + 1) := by rw [e_y6]; exact nI_1 _
  refine v_callVC (c_ens d h (Or.inl rfl) (by omega)) cs_J5_100 dJ5_append_3fe6f_7 h45 rfl rfl (Nat.le_of_ble_eq_true rfl) ?_
  rintro _ m1 ⟨rfl, ⟨w1, f1, ml1, ⟨b1, b2, b3, b4⟩, g45, gB, gP, gN⟩, fr1⟩
  have hc70 := cap_le w1
  refine v_aload_n 0 dJ5_append_3fe6f_10 rfl rfl ?_
  refine v_callVC (c_J5_isLatin1_aae02 (d + 3) g45) cs_J5_83 dJ5_append_3fe6f_11 g45 rfl rfl (Nat.le_of_ble_eq_true rfl) ?_
  refine rt_k ?_
  refine v_if_eq (tgt := 45) dJ5_append_3fe6f_14 (by decide) (fun hc14 => ?_) (fun hc14 => ?_)
  · exact absurd hc14 (by decide)
  ·
    refine v_iload_n 1 dJ5_append_3fe6f_17 rfl rfl ?_
    refine v_callS (c_J1_canEncode_fc78d (d + 3)) cs_J5_191 dJ5_append_3fe6f_18 rfl rfl (Nat.le_of_ble_eq_true rfl) ?_
    refine rt_k ?_
    refine v_topi (fun y18 e_y18 => ?_)
    obtain rfl : y18 = 1 := by rw [e_y18]; exact if_neg (nI_nlt (a := 255) (b := k) (by omega) (by decide))
    refine v_if_eq (tgt := 45) dJ5_append_3fe6f_21 (by decide) (fun hc21 => ?_) (fun hc21 => ?_)
    · exact absurd hc21 (by decide)
    ·
      refine v_aload_n 0 dJ5_append_3fe6f_24 rfl rfl ?_
      refine v_get fl_J5_15 dJ5_append_3fe6f_25 g45 rfl ?_
      refine v_aload_n 0 dJ5_append_3fe6f_28 rfl rfl ?_
      refine v_dup dJ5_append_3fe6f_29 rfl ?_
      refine v_get fl_J5_79 dJ5_append_3fe6f_30 g45 rfl ?_
      refine v_dup_x1 dJ5_append_3fe6f_33 rfl rfl ?_
      refine v_iconst (v := 1) dJ5_append_3fe6f_34 (by first | rfl | decide) ?_
      refine v_iadd dJ5_append_3fe6f_35 ?_
      refine v_put fp_J5_79 dJ5_append_3fe6f_36 g45 (Nat.le_of_ble_eq_true rfl) (by first | rfl | decide) (by first | rfl | decide) ?_
      refine v_iload_n 1 dJ5_append_3fe6f_39 rfl rfl ?_
      refine v_i2b dJ5_append_3fe6f_40 ?_
      refine v_bast dJ5_append_3fe6f_41 (up_n (by omega) gB) (nI_in' (k := t.length) (by omega) (by omega)) ?_
      refine v_goto (tgt := 75) dJ5_append_3fe6f_42 (by decide) ?_
      refine v_aload_n 0 dJ5_append_3fe6f_75 rfl rfl ?_
      refine v_aret dJ5_append_3fe6f_76 rfl (by first | exact Or.inl ⟨_, rfl⟩ | exact Or.inr ⟨_, rfl⟩) ?_
      refine ⟨rfl, ⟨w1, _, ml1, ⟨b1, ?_, ?_, ?_⟩, ?_, up_s _ _ _, ?_, (fun j u v => up_n (by omega) (up_n (by omega) (gN j u v)))⟩, fun i hi => (up_n (by omega) (up_n (by omega) rfl)).trans (fr1 i hi)⟩
      · rw [List.length_append, List.length_singleton]
        exact b2
      · rw [pk_vb]
        exact sb_fitU b3 (pk_fb _)
      · exact ac_app a4 (fun c hc => by rw [List.mem_singleton.mp hc]; exact ⟨k, hk, rfl⟩)
      · rw [List.length_append, List.length_singleton]
        refine up_n (by omega) ((up_s _ _ _).trans ?_)
        show some (Sum.inr (0, [Value.ref (46 + w1), Value.int 0, Value.int ml1, Value.int (nI t.length + 1)])) = some (sbC (46 + w1) ml1 (t.length + 1))
        rw [nI_1]
      · rw [pk_vb, clamp (show t.length < 2 ^ 31 by omega), byte_id k hk]
        exact gP.app (nI k)

set_option maxRecDepth 20000 in
set_option maxHeartbeats 4000000 in
theorem c_J4_append_cf468 {G : Cx} (d : Nat) {μ : Hp} {t : List Int32} {k : Nat} (h : Sc t.length t μ) (hl : t.length < 70) (hk : k < 128) : Ct G (d + 5) 1 70 M_J4_append_cf468 [.ref 45, .int (nI k)] μ (fun r μ' => r = some (.ref 45) ∧ Sc ((t ++ [nI k]).length) (t ++ [nI k]) μ' ∧ Fw μ' μ) := by
  refine Ct.ofV (by decide +kernel) (Nat.le_of_ble_eq_true rfl) ?_
  refine v_ls (ls' := [(0, .ref 45), (1, .int (nI k))]) rfl ?_
  obtain ⟨w, f, ml, ⟨a1, a2, a3, a4⟩, h45, hB, hP, hN⟩ := id h
  refine v_aload_n 0 dJ4_append_cf468_0 rfl rfl ?_
  refine v_iload_n 1 dJ4_append_cf468_1 rfl rfl ?_
  refine v_callSU (c_J5_append_3fe6f d h hl hk) cs_J4_50 dJ4_append_cf468_2 h45 rfl rfl (Nat.le_of_ble_eq_true rfl) ?_
  rintro _ m1 ⟨rfl, g1, fr1⟩
  refine v_pop dJ4_append_cf468_5 rfl ?_
  refine v_aload_n 0 dJ4_append_cf468_6 rfl rfl ?_
  refine v_aret dJ4_append_cf468_7 rfl (by first | exact Or.inl ⟨_, rfl⟩ | exact Or.inr ⟨_, rfl⟩) ?_
  exact ⟨rfl, g1, fr1⟩

theorem c_appC {G : Cx} (d : Nat) {μ : Hp} {t : List Int32} {c : Int32} (h : Sc t.length t μ) (hl : t.length < 70) (hc : Ac c) : Ct G (d + 5) 1 70 M_J4_append_cf468 [.ref 45, .int c] μ (fun r μ' => r = some (.ref 45) ∧ Sc (t ++ [c]).length (t ++ [c]) μ' ∧ Fw μ' μ) := by
  obtain ⟨k, hk, rfl⟩ := hc
  exact c_J4_append_cf468 d h hl hk
set_option maxRecDepth 20000 in
set_option maxHeartbeats 4000000 in
theorem c_J6_stringSize_0f7a4 {G : Cx} (d : Nat) {μ : Hp} {v : Nat} (hv : v < 100) : Ct G (d) 0 0 M_J6_stringSize_0f7a4 [.int (nI v)] μ (Rt (some (.int (nI (numS v).length))) μ) := by
  refine Ct.ofV (by decide +kernel) (Nat.le_of_ble_eq_true rfl) ?_
  refine v_ls (ls' := [(0, .int (nI v))]) rfl ?_
  refine v_iconst (v := 1) dJ6_stringSize_0f7a4_0 (by first | rfl | decide) ?_
  refine v_istore_n dJ6_stringSize_0f7a4_1 rfl (by decide) (fun x1_1 e_x1_1 => ?_)
  refine v_ls (ls' := [(1, .int x1_1), (0, .int (nI v))]) rfl ?_
  subst e_x1_1
  refine v_iload_n 1 dJ6_stringSize_0f7a4_2 rfl rfl ?_
  refine v_if_lt (tgt := 11) dJ6_stringSize_0f7a4_3 (by decide) (fun hc3 => ?_) (fun hc3 => ?_)
  · exact absurd hc3 (nI_pos (by omega))
  ·
    refine v_iconst (v := 0) dJ6_stringSize_0f7a4_6 (by first | rfl | decide) ?_
    refine v_istore_n dJ6_stringSize_0f7a4_7 rfl (by decide) (fun x1_2 e_x1_2 => ?_)
    refine v_ls (ls' := [(1, .int x1_2), (0, .int (nI v))]) rfl ?_
    subst e_x1_2
    refine v_iload_n 1 dJ6_stringSize_0f7a4_8 rfl rfl ?_
    refine v_ineg dJ6_stringSize_0f7a4_9 ?_
    refine v_istore_n dJ6_stringSize_0f7a4_10 rfl (by decide) (fun x0 e_x0 => ?_)
    refine v_ls (ls' := [(0, .int x0), (1, .int (0))]) rfl ?_
    subst e_x0
    refine v_bipush (v := -10) dJ6_stringSize_0f7a4_11 (by first | rfl | decide) ?_
    refine v_istore_n dJ6_stringSize_0f7a4_13 rfl (by decide) (fun x2_1 e_x2_1 => ?_)
    refine v_ls (ls' := [(2, .int x2_1), (0, .int (-nI v)), (1, .int (0))]) rfl ?_
    subst e_x2_1
    refine v_iconst (v := 1) dJ6_stringSize_0f7a4_14 (by first | rfl | decide) ?_
    refine v_istore_n dJ6_stringSize_0f7a4_15 rfl (by decide) (fun x3_1 e_x3_1 => ?_)
    refine v_ls (ls' := [(3, .int x3_1), (2, .int (-10)), (0, .int (-nI v)), (1, .int (0))]) rfl ?_
    subst e_x3_1
    refine v_iload_n 0 dJ6_stringSize_0f7a4_16 rfl rfl ?_
    refine v_bipush (v := 10) dJ6_stringSize_0f7a4_17 (by first | rfl | decide) ?_
    refine v_icmp_ge (tgt := 42) dJ6_stringSize_0f7a4_19 (by decide) (fun hc19 => ?_) (fun hc19 => ?_)
    · exact absurd hc19 (by decide)
    ·
      refine v_iload_n 2 dJ6_stringSize_0f7a4_22 rfl rfl ?_
      refine v_iload_n 1 dJ6_stringSize_0f7a4_23 rfl rfl ?_
      refine v_icmp_le (tgt := 31) dJ6_stringSize_0f7a4_24 (by decide) (fun hd10 => ?_) (fun hd10 => ?_)
      ·
        refine v_bipush (v := 10) dJ6_stringSize_0f7a4_31 (by first | rfl | decide) ?_
        refine v_iload_n 1 dJ6_stringSize_0f7a4_33 rfl rfl ?_
        refine v_imul dJ6_stringSize_0f7a4_34 ?_
        refine v_istore_n dJ6_stringSize_0f7a4_35 rfl (by decide) (fun p2 e_p2 => ?_)
        refine v_ls (ls' := [(2, .int p2), (3, .int (1)), (0, .int (-nI v)), (1, .int (0))]) rfl ?_
        obtain rfl : p2 = -100 := by rw [e_p2]; decide
        refine v_iinc (v := 1) 1 dJ6_stringSize_0f7a4_36 rfl rfl (by decide) (fun z_ ez_ => ?_)
        obtain rfl : z_ = 2 := by rw [ez_]; decide
        refine v_ls (ls' := [(3, .int (2)), (2, .int (-100)), (0, .int (-nI v)), (1, .int (0))]) rfl ?_
        refine v_goto (tgt := 16) dJ6_stringSize_0f7a4_39 (by decide) ?_
        refine v_iload_n 0 dJ6_stringSize_0f7a4_16 rfl rfl ?_
        refine v_bipush (v := 10) dJ6_stringSize_0f7a4_17 (by first | rfl | decide) ?_
        refine v_icmp_ge (tgt := 42) dJ6_stringSize_0f7a4_19 (by decide) (fun hc19 => ?_) (fun hc19 => ?_)
        · exact absurd hc19 (by decide)
        ·
          refine v_iload_n 2 dJ6_stringSize_0f7a4_22 rfl rfl ?_
          refine v_iload_n 1 dJ6_stringSize_0f7a4_23 rfl rfl ?_
          refine v_icmp_le (tgt := 31) dJ6_stringSize_0f7a4_24 (by decide) (fun hd100 => ?_) (fun hd100 => ?_)
          · exact absurd hd100 (neg100 v hv)
          ·
            refine v_iload_n 0 dJ6_stringSize_0f7a4_27 rfl rfl ?_
            refine v_iload_n 3 dJ6_stringSize_0f7a4_28 rfl rfl ?_
            refine v_iadd dJ6_stringSize_0f7a4_29 ?_
            refine v_iret dJ6_stringSize_0f7a4_30 rfl (by first | rfl | decide | exact nar_b (by first | assumption | rfl)) ?_
            have h9 : ¬ v < 10 := Nat.not_lt.mpr ((neg10 v hv).mp hd10)
            exact ⟨by rw [num_2 h9]; rfl, rfl⟩
      ·
        refine v_iload_n 0 dJ6_stringSize_0f7a4_27 rfl rfl ?_
        refine v_iload_n 3 dJ6_stringSize_0f7a4_28 rfl rfl ?_
        refine v_iadd dJ6_stringSize_0f7a4_29 ?_
        refine v_iret dJ6_stringSize_0f7a4_30 rfl (by first | rfl | decide | exact nar_b (by first | assumption | rfl)) ?_
        have h9 : v < 10 := Nat.not_le.mp (fun z => hd10 ((neg10 v hv).mpr z))
        exact ⟨by rw [num_1 h9]; rfl, rfl⟩

set_option maxRecDepth 20000 in
set_option maxHeartbeats 4000000 in
theorem c_getC_1 {G : Cx} (d : Nat) {μ : Hp} {b N n v : Nat} {f : Nat → Int32} (hb : μ b = some (arB N f)) (h9 : v < 10) (hn : n + 1 ≤ N) (hN : N ≤ 70) : Ct G (d) 0 0 M_J6_getChars_ba4f3 [.int (nI v), .int (nI (n + 1)), .ref b] μ (Rt (some (.int (nI n))) (up μ b (arB N (upd f n (nI (48 + v)))))) := by
  refine Ct.ofV (by decide +kernel) (Nat.le_of_ble_eq_true rfl) ?_
  refine v_ls (ls' := [(0, .int (nI v)), (1, .int (nI (n + 1))), (2, .ref b)]) rfl ?_
  refine v_iload_n 1 dJ6_getChars_ba4f3_0 rfl rfl ?_
  refine v_istore dJ6_getChars_ba4f3_1 (by decide) (fun c5 e_c5 => ?_)
  refine v_ls (ls' := [(5, .int c5), (0, .int (nI v)), (1, .int (nI (n + 1))), (2, .ref b)]) rfl ?_
  subst e_c5
  refine v_iload_n 1 dJ6_getChars_ba4f3_3 rfl rfl ?_
  refine v_if_ge (tgt := 11) dJ6_getChars_ba4f3_4 (by decide) (fun hc4 => ?_) (fun hc4 => ?_)
  ·
    refine v_iconst (v := 0) dJ6_getChars_ba4f3_11 (by first | rfl | decide) ?_
    refine v_istore dJ6_getChars_ba4f3_12 (by decide) (fun x6_1 e_x6_1 => ?_)
    refine v_ls (ls' := [(6, .int x6_1), (5, .int (nI (n + 1))), (0, .int (nI v)), (1, .int (nI (n + 1))), (2, .ref b)]) rfl ?_
    subst e_x6_1
    refine v_iload 0 dJ6_getChars_ba4f3_14 rfl ?_
    refine v_if_ne (tgt := 22) dJ6_getChars_ba4f3_16 (by decide) (fun hc16 => ?_) (fun hc16 => ?_)
    · exact absurd hc16 (by decide)
    ·
      refine v_iload_n 2 dJ6_getChars_ba4f3_19 rfl rfl ?_
      refine v_ineg dJ6_getChars_ba4f3_20 ?_
      refine v_istore_n dJ6_getChars_ba4f3_21 rfl (by decide) (fun x0 e_x0 => ?_)
      refine v_ls (ls' := [(0, .int x0), (6, .int (0)), (5, .int (nI (n + 1))), (1, .int (nI (n + 1))), (2, .ref b)]) rfl ?_
      subst e_x0
      refine v_iload_n 0 dJ6_getChars_ba4f3_22 rfl rfl ?_
      refine v_bipush (v := -100) dJ6_getChars_ba4f3_23 (by first | rfl | decide) ?_
      refine v_icmp_gt (tgt := 72) dJ6_getChars_ba4f3_25 (by decide) (fun hc25 => ?_) (fun hc25 => ?_)
      ·
        refine v_aload_n 4 dJ6_getChars_ba4f3_72 rfl rfl ?_
        refine v_iinc (v := -1) 2 dJ6_getChars_ba4f3_73 rfl rfl (by decide) (fun c6 e_c6 => ?_)
        refine v_ls (ls' := [(5, .int c6), (0, .int (-nI v)), (6, .int (0)), (1, .int (nI (n + 1))), (2, .ref b)]) rfl ?_
        obtain rfl : c6 = nI n := by rw [e_c6]; exact pk_m1 n
        refine v_iload 0 dJ6_getChars_ba4f3_76 rfl ?_
        refine v_gets (ro_onesZ G) flo_J6_83 dJ6_getChars_ba4f3_78 (okv_ro (by decide)) ?_
        refine v_iload_n 1 dJ6_getChars_ba4f3_81 rfl rfl ?_
        refine v_ineg dJ6_getChars_ba4f3_82 ?_
        refine v_topi (fun y82 e_y82 => ?_)
        obtain rfl : y82 = nI v := by rw [e_y82]; exact Int32.neg_neg
        refine v_rob (ro_ones G) dJ6_getChars_ba4f3_83 (nI_in' (k := v) (by omega) (by decide)) (by decide) ?_
        refine v_topi (fun y83 e_y83 => ?_)
        obtain rfl : y83 = nI (48 + v % 10) := by rw [e_y83, clamp (show v < 2 ^ 31 by omega)]
        refine v_bast dJ6_getChars_ba4f3_84 hb (nI_in' (k := n) (by omega) (by omega)) ?_
        rw [clamp (show n < 2 ^ 31 by omega), nar_by _ (by omega)]
        refine v_iload_n 1 dJ6_getChars_ba4f3_85 rfl rfl ?_
        refine v_bipush (v := -9) dJ6_getChars_ba4f3_86 (by first | rfl | decide) ?_
        refine v_icmp_ge (tgt := 104) dJ6_getChars_ba4f3_88 (by decide) (fun hc88 => ?_) (fun hc88 => ?_)
        ·
          refine v_iload 2 dJ6_getChars_ba4f3_104 rfl ?_
          refine v_if_eq (tgt := 118) dJ6_getChars_ba4f3_106 (by decide) (fun hc106 => ?_) (fun hc106 => ?_)
          ·
            refine v_iload 0 dJ6_getChars_ba4f3_118 rfl ?_
            refine v_iret dJ6_getChars_ba4f3_120 rfl (by first | rfl | decide | exact nar_b (by first | assumption | rfl)) ?_
            exact ⟨rfl, by rw [Nat.mod_eq_of_lt h9]⟩
          · exact absurd hc106 (by decide)
        · exact absurd ((neg9 v (by omega)).mpr h9) hc88
      · exact absurd (neg100' v (by omega)) hc25
  · exact absurd (Int32.not_lt.mp (nI_pos (by omega))) hc4

set_option maxRecDepth 20000 in
set_option maxHeartbeats 4000000 in
theorem c_getC_2 {G : Cx} (d : Nat) {μ : Hp} {b N n v : Nat} {f : Nat → Int32} (hb : μ b = some (arB N f)) (h9 : ¬ v < 10) (hv : v < 100) (hn : n + 2 ≤ N) (hN : N ≤ 70) : Ct G (d) 0 0 M_J6_getChars_ba4f3 [.int (nI v), .int (nI (n + 2)), .ref b] μ (Rt (some (.int (nI n))) (up μ b (arB N (upd (upd f (n + 1) (nI (48 + v % 10))) n (nI (48 + v / 10)))))) := by
  refine Ct.ofV (by decide +kernel) (Nat.le_of_ble_eq_true rfl) ?_
  refine v_ls (ls' := [(0, .int (nI v)), (1, .int (nI (n + 2))), (2, .ref b)]) rfl ?_
  refine v_iload_n 1 dJ6_getChars_ba4f3_0 rfl rfl ?_
  refine v_istore dJ6_getChars_ba4f3_1 (by decide) (fun c5 e_c5 => ?_)
  refine v_ls (ls' := [(5, .int c5), (0, .int (nI v)), (1, .int (nI (n + 2))), (2, .ref b)]) rfl ?_
  subst e_c5
  refine v_iload_n 1 dJ6_getChars_ba4f3_3 rfl rfl ?_
  refine v_if_ge (tgt := 11) dJ6_getChars_ba4f3_4 (by decide) (fun hc4 => ?_) (fun hc4 => ?_)
  ·
    refine v_iconst (v := 0) dJ6_getChars_ba4f3_11 (by first | rfl | decide) ?_
    refine v_istore dJ6_getChars_ba4f3_12 (by decide) (fun x6_1 e_x6_1 => ?_)
    refine v_ls (ls' := [(6, .int x6_1), (5, .int (nI (n + 2))), (0, .int (nI v)), (1, .int (nI (n + 2))), (2, .ref b)]) rfl ?_
    subst e_x6_1
    refine v_iload 0 dJ6_getChars_ba4f3_14 rfl ?_
    refine v_if_ne (tgt := 22) dJ6_getChars_ba4f3_16 (by decide) (fun hc16 => ?_) (fun hc16 => ?_)
    · exact absurd hc16 (by decide)
    ·
      refine v_iload_n 2 dJ6_getChars_ba4f3_19 rfl rfl ?_
      refine v_ineg dJ6_getChars_ba4f3_20 ?_
      refine v_istore_n dJ6_getChars_ba4f3_21 rfl (by decide) (fun x0 e_x0 => ?_)
      refine v_ls (ls' := [(0, .int x0), (6, .int (0)), (5, .int (nI (n + 2))), (1, .int (nI (n + 2))), (2, .ref b)]) rfl ?_
      subst e_x0
      refine v_iload_n 0 dJ6_getChars_ba4f3_22 rfl rfl ?_
      refine v_bipush (v := -100) dJ6_getChars_ba4f3_23 (by first | rfl | decide) ?_
      refine v_icmp_gt (tgt := 72) dJ6_getChars_ba4f3_25 (by decide) (fun hc25 => ?_) (fun hc25 => ?_)
      ·
        refine v_aload_n 4 dJ6_getChars_ba4f3_72 rfl rfl ?_
        refine v_iinc (v := -1) 2 dJ6_getChars_ba4f3_73 rfl rfl (by decide) (fun c6 e_c6 => ?_)
        refine v_ls (ls' := [(5, .int c6), (0, .int (-nI v)), (6, .int (0)), (1, .int (nI (n + 2))), (2, .ref b)]) rfl ?_
        obtain rfl : c6 = nI (n + 1) := by rw [e_c6]; exact pk_m1 (n + 1)
        refine v_iload 0 dJ6_getChars_ba4f3_76 rfl ?_
        refine v_gets (ro_onesZ G) flo_J6_83 dJ6_getChars_ba4f3_78 (okv_ro (by decide)) ?_
        refine v_iload_n 1 dJ6_getChars_ba4f3_81 rfl rfl ?_
        refine v_ineg dJ6_getChars_ba4f3_82 ?_
        refine v_topi (fun y82 e_y82 => ?_)
        obtain rfl : y82 = nI v := by rw [e_y82]; exact Int32.neg_neg
        refine v_rob (ro_ones G) dJ6_getChars_ba4f3_83 (nI_in' (k := v) (by omega) (by decide)) (by decide) ?_
        refine v_topi (fun y83 e_y83 => ?_)
        obtain rfl : y83 = nI (48 + v % 10) := by rw [e_y83, clamp (show v < 2 ^ 31 by omega)]
        refine v_bast dJ6_getChars_ba4f3_84 hb (nI_in' (k := n + 1) (by omega) (by omega)) ?_
        rw [clamp (show n + 1 < 2 ^ 31 by omega), nar_by _ (by omega)]
        refine v_iload_n 1 dJ6_getChars_ba4f3_85 rfl rfl ?_
        refine v_bipush (v := -9) dJ6_getChars_ba4f3_86 (by first | rfl | decide) ?_
        refine v_icmp_ge (tgt := 104) dJ6_getChars_ba4f3_88 (by decide) (fun hc88 => ?_) (fun hc88 => ?_)
        · exact absurd ((neg9 v hv).mp hc88) h9
        ·
          refine v_aload_n 4 dJ6_getChars_ba4f3_91 rfl rfl ?_
          refine v_iinc (v := -1) 0 dJ6_getChars_ba4f3_92 rfl rfl (by decide) (fun c7 e_c7 => ?_)
          refine v_ls (ls' := [(5, .int c7), (0, .int (-nI v)), (6, .int (0)), (1, .int (nI (n + 2))), (2, .ref b)]) rfl ?_
          obtain rfl : c7 = nI n := by rw [e_c7]; exact pk_m1 n
          refine v_iload 0 dJ6_getChars_ba4f3_95 rfl ?_
          refine v_gets (ro_tensZ G) flo_J6_87 dJ6_getChars_ba4f3_97 (okv_ro (by decide)) ?_
          refine v_iload_n 1 dJ6_getChars_ba4f3_100 rfl rfl ?_
          refine v_ineg dJ6_getChars_ba4f3_101 ?_
          refine v_topi (fun y101 e_y101 => ?_)
          obtain rfl : y101 = nI v := by rw [e_y101]; exact Int32.neg_neg
          refine v_rob (ro_tens G) dJ6_getChars_ba4f3_102 (nI_in' (k := v) (by omega) (by decide)) (by decide) ?_
          refine v_topi (fun y102 e_y102 => ?_)
          obtain rfl : y102 = nI (48 + v / 10) := by rw [e_y102, clamp (show v < 2 ^ 31 by omega)]
          refine v_bast dJ6_getChars_ba4f3_103 (up_s _ _ _) (nI_in' (k := n) (by omega) (by omega)) ?_
          refine v_hp (up_up _ _ _ _) ?_
          rw [clamp (show n < 2 ^ 31 by omega), nar_by _ (by omega)]
          refine v_iload 2 dJ6_getChars_ba4f3_104 rfl ?_
          refine v_if_eq (tgt := 118) dJ6_getChars_ba4f3_106 (by decide) (fun hc106 => ?_) (fun hc106 => ?_)
          ·
            refine v_iload 0 dJ6_getChars_ba4f3_118 rfl ?_
            refine v_iret dJ6_getChars_ba4f3_120 rfl (by first | rfl | decide | exact nar_b (by first | assumption | rfl)) ?_
            exact ⟨rfl, rfl⟩
          · exact absurd hc106 (by decide)
      · exact absurd (neg100' v (by omega)) hc25
  · exact absurd (Int32.not_lt.mp (nI_pos (by omega))) hc4

theorem c_getC {G : Cx} (d : Nat) {μ : Hp} {b N v : Nat} {f : Nat → Int32} {t : List Int32} (hb : μ b = some (arB N f)) (hv : v < 100) (hn : t.length + (numS v).length ≤ N) (hN : N ≤ 70) (hP : Pl t f) (hf : sb_Fit f) : Ct G d 0 0 M_J6_getChars_ba4f3 [.int (nI v), .int (nI (t.length + (numS v).length)), .ref b] μ (fun r μ' => ∃ g x, r = some (.int x) ∧ μ' = up μ b (arB N g) ∧ sb_Fit g ∧ Pl (t ++ numS v) g) := by
  by_cases h9 : v < 10
  · rw [num_1 h9] at hn ⊢
    refine (c_getC_1 (n := t.length) d hb h9 hn hN).post (fun r μ' z => ?_)
    obtain ⟨rfl, rfl⟩ := z
    exact ⟨_, _, rfl, rfl, sb_fitU hf (fit_b (by omega)), hP.app _⟩
  · rw [num_2 h9] at hn ⊢
    refine (c_getC_2 (n := t.length) d hb h9 hv hn hN).post (fun r μ' z => ?_)
    obtain ⟨rfl, rfl⟩ := z
    refine ⟨_, _, rfl, rfl, sb_fitU (sb_fitU hf (fit_b (by omega))) (fit_b (by omega)), ?_⟩
    have h1 := hP.app (nI (48 + v / 10))
    have h2 := h1.app (nI (48 + v % 10))
    rw [List.append_assoc, List.length_append, List.length_singleton] at h2
    intro j hj
    rw [show t ++ [nI (48 + v / 10), nI (48 + v % 10)] = t ++ ([nI (48 + v / 10)] ++ [nI (48 + v % 10)]) from rfl] at hj ⊢
    rw [h2 j hj]
    congr 1
    by_cases e1 : j = t.length + 1
    · subst e1
      rw [pk_us, pk_un (by omega), pk_us]
    · by_cases e2 : j = t.length
      · subst e2
        rw [pk_un (by omega), pk_us, pk_us]
      · rw [pk_un e1, pk_un e2, pk_un e2, pk_un e1]
set_option maxRecDepth 20000 in
set_option maxHeartbeats 4000000 in
theorem c_J5_append_c97b9 {G : Cx} (d : Nat) {μ : Hp} {t : List Int32} {v : Nat} (h : Sc t.length t μ) (hl : t.length + 2 ≤ 70) (hv : v < 100) : Ct G (d + 4) 1 70 M_J5_append_c97b9 [.ref 45, .int (nI v)] μ (fun r μ' => r = some (.ref 45) ∧ Sc ((t ++ numS v).length) (t ++ numS v) μ' ∧ Fw μ' μ) := by
  refine Ct.ofV (by decide +kernel) (Nat.le_of_ble_eq_true rfl) ?_
  refine v_ls (ls' := [(0, .ref 45), (1, .int (nI v))]) rfl ?_
  obtain ⟨w, f, ml, ⟨a1, a2, a3, a4⟩, h45, hB, hP, hN⟩ := id h
  have hL := num_len v
  have hL2 : (numS v).length = 1 ∨ (numS v).length = 2 := by
    by_cases h9 : v < 10
    · exact Or.inl (by rw [num_1 h9]; rfl)
    · exact Or.inr (by rw [num_2 h9]; rfl)
  refine v_aload_n 0 dJ5_append_c97b9_0 rfl rfl ?_
  refine v_get fl_J5_79 dJ5_append_c97b9_1 h45 rfl ?_
  refine v_istore_n dJ5_append_c97b9_4 rfl (by decide) (fun c2 e_c2 => ?_)
  refine v_ls (ls' := [(2, .int c2), (0, .ref 45), (1, .int (nI v))]) rfl ?_
  subst e_c2
  refine v_iload_n 0 dJ5_append_c97b9_5 rfl rfl ?_
  refine v_iload_n 2 dJ5_append_c97b9_6 rfl rfl ?_
  refine v_callS (c_J6_stringSize_0f7a4 (d + 3) hv) cs_J5_245 dJ5_append_c97b9_7 rfl rfl (Nat.le_of_ble_eq_true rfl) ?_
  refine rt_k ?_
  refine v_iadd dJ5_append_c97b9_10 ?_
  refine v_istore_n dJ5_append_c97b9_11 rfl (by decide) (fun c3 e_c3 => ?_)
  refine v_ls (ls' := [(3, .int c3), (2, .int (nI t.length)), (0, .ref 45), (1, .int (nI v))]) rfl ?_
  obtain rfl : c3 = nI (t.length + (numS v).length) := by rw [e_c3]; exact nI_add _ _
  refine v_aload_n 2 dJ5_append_c97b9_12 rfl rfl ?_
  refine v_iload_n 0 dJ5_append_c97b9_13 rfl rfl ?_
  refine v_callVC (c_ens d h (by omega) (by omega)) cs_J5_100 dJ5_append_c97b9_14 h45 rfl rfl (Nat.le_of_ble_eq_true rfl) ?_
  rintro _ m1 ⟨rfl, ⟨w1, f1, ml1, ⟨b1, b2, b3, b4⟩, g45, gB, gP, gN⟩, fr1⟩
  have hc70 := cap_le w1
  refine v_aload_n 2 dJ5_append_c97b9_17 rfl rfl ?_
  refine v_callVC (c_J5_isLatin1_aae02 (d + 3) g45) cs_J5_83 dJ5_append_c97b9_18 g45 rfl rfl (Nat.le_of_ble_eq_true rfl) ?_
  refine rt_k ?_
  refine v_if_eq (tgt := 37) dJ5_append_c97b9_21 (by decide) (fun hc21 => ?_) (fun hc21 => ?_)
  · exact absurd hc21 (by decide)
  ·
    refine v_iload_n 3 dJ5_append_c97b9_24 rfl rfl ?_
    refine v_iload_n 0 dJ5_append_c97b9_25 rfl rfl ?_
    refine v_aload_n 2 dJ5_append_c97b9_26 rfl rfl ?_
    refine v_get fl_J5_15 dJ5_append_c97b9_27 g45 rfl ?_
    refine v_callS (c_getC (d + 3) gB hv b2 hc70 gP b3) cs_J5_248 dJ5_append_c97b9_30 rfl rfl (Nat.le_of_ble_eq_true rfl) ?_
    rintro _ _ ⟨g9, x9, rfl, rfl, gf9, gp9⟩
    refine v_pop dJ5_append_c97b9_33 rfl ?_
    refine v_goto (tgt := 48) dJ5_append_c97b9_34 (by decide) ?_
    refine v_aload_n 2 dJ5_append_c97b9_48 rfl rfl ?_
    refine v_iload_n 0 dJ5_append_c97b9_49 rfl rfl ?_
    refine v_put fp_J5_79 dJ5_append_c97b9_50 (up_n (by omega) g45) (Nat.le_of_ble_eq_true rfl) (by first | rfl | decide) (by first | rfl | decide) ?_
    refine v_aload_n 2 dJ5_append_c97b9_53 rfl rfl ?_
    refine v_aret dJ5_append_c97b9_54 rfl (by first | exact Or.inl ⟨_, rfl⟩ | exact Or.inr ⟨_, rfl⟩) ?_
    refine ⟨rfl, ⟨w1, g9, ml1, ⟨b1, ?_, gf9, ac_app a4 (num_ac hv)⟩, ?_, up_n (by omega) (up_s _ _ _), gp9, (fun j u v => up_n (by omega) (up_n (by omega) (gN j u v)))⟩, fun i hi => (up_n (by omega) (up_n (by omega) rfl)).trans (fr1 i hi)⟩
    · rw [List.length_append]
      exact b2
    · rw [List.length_append]
      exact up_s _ _ _

set_option maxRecDepth 20000 in
set_option maxHeartbeats 4000000 in
theorem c_J4_append_bf812 {G : Cx} (d : Nat) {μ : Hp} {t : List Int32} {v : Nat} (h : Sc t.length t μ) (hl : t.length + 2 ≤ 70) (hv : v < 100) : Ct G (d + 5) 1 70 M_J4_append_bf812 [.ref 45, .int (nI v)] μ (fun r μ' => r = some (.ref 45) ∧ Sc ((t ++ numS v).length) (t ++ numS v) μ' ∧ Fw μ' μ) := by
  refine Ct.ofV (by decide +kernel) (Nat.le_of_ble_eq_true rfl) ?_
  refine v_ls (ls' := [(0, .ref 45), (1, .int (nI v))]) rfl ?_
  obtain ⟨w, f, ml, ⟨a1, a2, a3, a4⟩, h45, hB, hP, hN⟩ := id h
  refine v_aload_n 0 dJ4_append_bf812_0 rfl rfl ?_
  refine v_iload_n 1 dJ4_append_bf812_1 rfl rfl ?_
  refine v_callSU (c_J5_append_c97b9 d h hl hv) cs_J4_53 dJ4_append_bf812_2 h45 rfl rfl (Nat.le_of_ble_eq_true rfl) ?_
  rintro _ m1 ⟨rfl, g1, fr1⟩
  refine v_pop dJ4_append_bf812_5 rfl ?_
  refine v_aload_n 0 dJ4_append_bf812_6 rfl rfl ?_
  refine v_aret dJ4_append_bf812_7 rfl (by first | exact Or.inl ⟨_, rfl⟩ | exact Or.inr ⟨_, rfl⟩) ?_
  exact ⟨rfl, g1, fr1⟩

