theorem nar_ch : ∀ k, k < 128 → narrow .char (.int (nI k)) = .int (nI k) := fun k hk => congrArg Value.int ((by decide +kernel : ∀ k, k < 128 → ((nI k).toUInt32 % 65536).toInt32 = nI k) k hk)
theorem let_ch : ∀ j, j < 7 → ((ltB.getD j 0 &&& 255).toUInt32 % 65536).toInt32 = letS (nI j) := by decide +kernel
theorem let_ac : ∀ j, j < 7 → Ac (letS (nI j)) := fun j hj => by
  match j, hj with
  | 0, _ => exact ⟨103, by decide, by decide⟩
  | 1, _ => exact ⟨121, by decide, by decide⟩
  | 2, _ => exact ⟨115, by decide, by decide⟩
  | 3, _ => exact ⟨112, by decide, by decide⟩
  | 4, _ => exact ⟨119, by decide, by decide⟩
  | 5, _ => exact ⟨114, by decide, by decide⟩
  | 6, _ => exact ⟨102, by decide, by decide⟩
set_option maxRecDepth 20000 in
set_option maxHeartbeats 4000000 in
theorem c_J3_checkIndex_8e157 {G : Cx} (d : Nat) {μ : Hp} {i n : Int32} {v9 : Value} (hv9 : v9 = .null ∨ v9 = .ref 1006) (h0 : ¬ i < 0) (h1 : i < n) : Ct G (d) 0 0 M_J3_checkIndex_8e157 [.int i, .int n, v9] μ (Rt (some (.int i)) μ) := by
  refine Ct.ofV (by decide +kernel) (by rcases hv9 with rfl | rfl <;> exact Nat.le_of_ble_eq_true rfl) ?_
  refine v_ls (ls' := [(0, .int i), (1, .int n), (2, v9)]) rfl ?_
  refine v_iload_n 0 dJ3_checkIndex_8e157_0 rfl rfl ?_
  refine v_if_lt (tgt := 9) dJ3_checkIndex_8e157_1 (by decide) (fun hc1 => ?_) (fun hc1 => ?_)
  · exact absurd hc1 h0
  ·
    refine v_iload_n 0 dJ3_checkIndex_8e157_4 rfl rfl ?_
    refine v_iload_n 1 dJ3_checkIndex_8e157_5 rfl rfl ?_
    refine v_icmp_lt (tgt := 16) dJ3_checkIndex_8e157_6 (by decide) (fun hc6 => ?_) (fun hc6 => ?_)
    ·
      refine v_iload_n 0 dJ3_checkIndex_8e157_16 rfl rfl ?_
      refine v_iret dJ3_checkIndex_8e157_17 rfl (by first | rfl | decide | exact nar_b (by first | assumption | rfl)) ?_
      exact ⟨rfl, rfl⟩
    · exact absurd h1 hc6

set_option maxRecDepth 20000 in
set_option maxHeartbeats 4000000 in
theorem c_J0_checkIndex_df160 {G : Cx} (d : Nat) {μ : Hp} {i n : Int32} (h0 : ¬ i < 0) (h1 : i < n) : Ct G (d + 1) 0 0 M_J0_checkIndex_df160 [.int i, .int n] μ (Rt none μ) := by
  refine Ct.ofV (by decide +kernel) (Nat.le_of_ble_eq_true rfl) ?_
  refine v_ls (ls' := [(0, .int i), (1, .int n)]) rfl ?_
  refine v_iload_n 0 dJ0_checkIndex_df160_0 rfl rfl ?_
  refine v_iload_n 1 dJ0_checkIndex_df160_1 rfl rfl ?_
  refine v_getsE fle_J0_1053 dJ0_checkIndex_df160_2 (fun v9 hv9 => ?_)
  refine v_callS (c_J3_checkIndex_8e157 d hv9 h0 h1) cs_J0_1059 dJ0_checkIndex_df160_5 rfl rfl (Nat.le_of_ble_eq_true rfl) ?_
  refine rt_k ?_
  refine v_pop dJ0_checkIndex_df160_8 rfl ?_
  refine v_vret dJ0_checkIndex_df160_9 rfl ?_
  exact ⟨rfl, rfl⟩

set_option maxRecDepth 20000 in
set_option maxHeartbeats 4000000 in
theorem c_J1_charAt_3b067 {G : Cx} (d : Nat) {μ : Hp} {j : Nat} (hj : j < 7) : Ct G (d + 2) 0 0 M_J1_charAt_3b067 [.ref 1003, .int (nI j)] μ (Rt (some (.int (letS (nI j)))) μ) := by
  refine Ct.ofV (by decide +kernel) (Nat.le_of_ble_eq_true rfl) ?_
  refine v_ls (ls' := [(0, .ref 1003), (1, .int (nI j))]) rfl ?_
  refine v_iload_n 1 dJ1_charAt_3b067_0 rfl rfl ?_
  refine v_aload_n 0 dJ1_charAt_3b067_1 rfl rfl ?_
  refine v_rolen (ro_bytes G) dJ1_charAt_3b067_2 ?_
  refine v_callS (c_J0_checkIndex_df160 d (nI_pos (by omega)) (nI_lt (b := 7) hj (by decide))) cs_J1_9 dJ1_charAt_3b067_3 rfl rfl (Nat.le_of_ble_eq_true rfl) ?_
  refine rt_k ?_
  refine v_aload_n 0 dJ1_charAt_3b067_6 rfl rfl ?_
  refine v_iload_n 1 dJ1_charAt_3b067_7 rfl rfl ?_
  refine v_rob (ro_bytes G) dJ1_charAt_3b067_8 (nI_in' (k := j) hj (by decide)) (by decide) ?_
  refine v_sipush (v := 255) dJ1_charAt_3b067_9 (by first | rfl | decide) ?_
  refine v_iand dJ1_charAt_3b067_12 ?_
  refine v_i2c dJ1_charAt_3b067_13 ?_
  refine v_topi (fun y13 e_y13 => ?_)
  obtain rfl : y13 = letS (nI j) := by rw [e_y13, clamp (show j < 2 ^ 31 by omega)]; exact let_ch j hj
  refine v_iret dJ1_charAt_3b067_14 rfl ((by obtain ⟨k9, hk9, e9⟩ := let_ac j hj; rw [e9]; exact nar_ch k9 hk9)) ?_
  exact ⟨rfl, rfl⟩

set_option maxRecDepth 20000 in
set_option maxHeartbeats 4000000 in
theorem c_J0_charAt_5068e {G : Cx} (d : Nat) {μ : Hp} {j : Nat} (hj : j < 7) : Ct G (d + 3) 0 0 M_J0_charAt_5068e [.ref 1002, .int (nI j)] μ (Rt (some (.int (letS (nI j)))) μ) := by
  refine Ct.ofV (by decide +kernel) (Nat.le_of_ble_eq_true rfl) ?_
  refine v_ls (ls' := [(0, .ref 1002), (1, .int (nI j))]) rfl ?_
  refine v_aload_n 0 dJ0_charAt_5068e_0 rfl rfl ?_
  refine v_callR (c_J0_isLatin1_aae02 (d + 2)) cs_J0_492 dJ0_charAt_5068e_1 rfl rfl (Nat.le_of_ble_eq_true rfl) ?_
  refine rt_k ?_
  refine v_if_eq (tgt := 16) dJ0_charAt_5068e_4 (by decide) (fun hc4 => ?_) (fun hc4 => ?_)
  · exact absurd hc4 (by decide)
  ·
    refine v_aload_n 0 dJ0_charAt_5068e_7 rfl rfl ?_
    refine v_rof (ro_value G) flo_J0_9 dJ0_charAt_5068e_8 (okv_ro (by decide)) ?_
    refine v_iload_n 1 dJ0_charAt_5068e_11 rfl rfl ?_
    refine v_callS (c_J1_charAt_3b067 d hj) cs_J0_495 dJ0_charAt_5068e_12 rfl rfl (Nat.le_of_ble_eq_true rfl) ?_
    refine rt_k ?_
    refine v_iret dJ0_charAt_5068e_15 rfl ((by obtain ⟨k9, hk9, e9⟩ := let_ac j hj; rw [e9]; exact nar_ch k9 hk9)) ?_
    exact ⟨rfl, rfl⟩

set_option maxRecDepth 20000 in
set_option maxHeartbeats 4000000 in
theorem c_J5_length_8abf5 {G : Cx} (d : Nat) {μ : Hp} {b n : Nat} {ml : Int32} (h45 : μ 45 = some (sbC b ml n)) : Ct G (d) 0 0 M_J5_length_8abf5 [.ref 45] μ (Rt (some (.int (nI n))) μ) := by
  refine Ct.ofV (by decide +kernel) (Nat.le_of_ble_eq_true rfl) ?_
  refine v_ls (ls' := [(0, .ref 45)]) rfl ?_
  refine v_aload_n 0 dJ5_length_8abf5_0 rfl rfl ?_
  refine v_get fl_J5_79 dJ5_length_8abf5_1 h45 rfl ?_
  refine v_iret dJ5_length_8abf5_4 rfl (by first | rfl | decide | exact nar_b (by first | assumption | rfl)) ?_
  exact ⟨rfl, rfl⟩

set_option maxRecDepth 20000 in
set_option maxHeartbeats 4000000 in
theorem c_J4_length_8abf5 {G : Cx} (d : Nat) {μ : Hp} {b n : Nat} {ml : Int32} (h45 : μ 45 = some (sbC b ml n)) : Ct G (d + 1) 0 0 M_J4_length_8abf5 [.ref 45] μ (Rt (some (.int (nI n))) μ) := by
  refine Ct.ofV (by decide +kernel) (Nat.le_of_ble_eq_true rfl) ?_
  refine v_ls (ls' := [(0, .ref 45)]) rfl ?_
  refine v_aload_n 0 dJ4_length_8abf5_0 rfl rfl ?_
  refine v_callSU (c_J5_length_8abf5 d h45) cs_J4_343 dJ4_length_8abf5_1 h45 rfl rfl (Nat.le_of_ble_eq_true rfl) ?_
  refine rt_k ?_
  refine v_iret dJ4_length_8abf5_4 rfl (by first | rfl | decide | exact nar_b (by first | assumption | rfl)) ?_
  exact ⟨rfl, rfl⟩

set_option maxRecDepth 20000 in
set_option maxHeartbeats 4000000 in
theorem c_J5_charAt_5068e {G : Cx} (d : Nat) {μ : Hp} {t : List Int32} {j : Nat} (h : Sc t.length t μ) (hj : j < t.length) : Ct G (d + 2) 0 0 M_J5_charAt_5068e [.ref 45, .int (nI j)] μ (Rt (some (.int (t.getD j 0))) μ) := by
  refine Ct.ofV (by decide +kernel) (Nat.le_of_ble_eq_true rfl) ?_
  refine v_ls (ls' := [(0, .ref 45), (1, .int (nI j))]) rfl ?_
  obtain ⟨w, f, ml, ⟨a1, a2, a3, a4⟩, h45, hB, hP, hN⟩ := id h
  have hc70 := cap_le w
  have hac : Ac (t.getD j 0) := a4 _ (by rw [List.getD_eq_getElem?_getD, List.getElem?_eq_getElem hj]; exact List.getElem_mem _)
  have hfj : f j = t.getD j 0 := by rw [List.getD_eq_getElem?_getD, hP j hj]; rfl
  refine v_aload_n 0 dJ5_charAt_5068e_0 rfl rfl ?_
  refine v_get fl_J5_22 dJ5_charAt_5068e_1 h45 rfl ?_
  refine v_istore_n dJ5_charAt_5068e_4 rfl (by decide) (fun c2 e_c2 => ?_)
  refine v_ls (ls' := [(2, .int c2), (0, .ref 45), (1, .int (nI j))]) rfl ?_
  subst e_c2
  refine v_aload_n 1 dJ5_charAt_5068e_5 rfl rfl ?_
  refine v_get fl_J5_15 dJ5_charAt_5068e_6 h45 rfl ?_
  refine v_astore_n dJ5_charAt_5068e_9 rfl (by decide) (fun z_ ez_ => ?_)
  have ez9_ := ez_.symm
  subst ez9_
  refine v_ls (ls' := [(3, .ref (46 + w)), (2, .int (0)), (0, .ref 45), (1, .int (nI j))]) rfl ?_
  refine v_aload_n 2 dJ5_charAt_5068e_10 rfl rfl ?_
  refine v_get fl_J5_79 dJ5_charAt_5068e_11 h45 rfl ?_
  refine v_aload_n 0 dJ5_charAt_5068e_14 rfl rfl ?_
  refine v_alen (v := (nI (capO w))) dJ5_charAt_5068e_15 hB rfl rfl ?_
  refine v_iload_n 1 dJ5_charAt_5068e_16 rfl rfl ?_
  refine v_ishr dJ5_charAt_5068e_17 ?_
  refine v_callS (c_J9_min_7cf53 (d + 1)) cs_J5_138 dJ5_charAt_5068e_18 rfl rfl (Nat.le_of_ble_eq_true rfl) ?_
  refine rt_k ?_
  refine v_istore dJ5_charAt_5068e_21 (by decide) (fun c4 e_c4 => ?_)
  refine v_ls (ls' := [(4, .int c4), (3, .ref (46 + w)), (2, .int (0)), (0, .ref 45), (1, .int (nI j))]) rfl ?_
  obtain rfl : c4 = nI t.length := by rw [e_c4, sb_shr0]; exact if_neg (nI_nlt (by omega) (by omega))
  refine v_iload_n 4 dJ5_charAt_5068e_23 rfl rfl ?_
  refine v_iload 0 dJ5_charAt_5068e_24 rfl ?_
  refine v_callS (c_J0_checkIndex_df160 d (nI_pos (by omega)) (nI_lt hj (by omega))) cs_J5_144 dJ5_charAt_5068e_26 rfl rfl (Nat.le_of_ble_eq_true rfl) ?_
  refine rt_k ?_
  refine v_iload_n 2 dJ5_charAt_5068e_29 rfl rfl ?_
  refine v_if_ne (tgt := 42) dJ5_charAt_5068e_30 (by decide) (fun hc30 => ?_) (fun hc30 => ?_)
  · exact absurd hc30 (by decide)
  ·
    refine v_aload_n 1 dJ5_charAt_5068e_33 rfl rfl ?_
    refine v_iload_n 4 dJ5_charAt_5068e_34 rfl rfl ?_
    refine v_bald dJ5_charAt_5068e_35 hB (nI_in' (k := j) (by omega) (by omega)) ?_
    refine v_sipush (v := 255) dJ5_charAt_5068e_36 (by first | rfl | decide) ?_
    refine v_iand dJ5_charAt_5068e_39 ?_
    refine v_i2c dJ5_charAt_5068e_40 ?_
    refine v_topi (fun y40 e_y40 => ?_)
    obtain rfl : y40 = t.getD j 0 := by
      rw [e_y40, clamp (show j < 2 ^ 31 by omega), hfj]
      obtain ⟨k9, hk9, e9⟩ := hac
      rw [e9]
      exact chr_id k9 hk9
    refine v_iret dJ5_charAt_5068e_41 rfl ((by obtain ⟨k9, hk9, e9⟩ := hac; rw [e9]; exact nar_ch k9 hk9)) ?_
    exact ⟨rfl, rfl⟩

set_option maxRecDepth 20000 in
set_option maxHeartbeats 4000000 in
theorem c_J4_charAt_5068e {G : Cx} (d : Nat) {μ : Hp} {t : List Int32} {j : Nat} (h : Sc t.length t μ) (hj : j < t.length) : Ct G (d + 3) 0 0 M_J4_charAt_5068e [.ref 45, .int (nI j)] μ (Rt (some (.int (t.getD j 0))) μ) := by
  refine Ct.ofV (by decide +kernel) (Nat.le_of_ble_eq_true rfl) ?_
  refine v_ls (ls' := [(0, .ref 45), (1, .int (nI j))]) rfl ?_
  obtain ⟨w, f, ml, ⟨a1, a2, a3, a4⟩, h45, hB, hP, hN⟩ := id h
  have hc70 := cap_le w
  have hac : Ac (t.getD j 0) := a4 _ (by rw [List.getD_eq_getElem?_getD, List.getElem?_eq_getElem hj]; exact List.getElem_mem _)
  refine v_aload_n 0 dJ4_charAt_5068e_0 rfl rfl ?_
  refine v_iload_n 1 dJ4_charAt_5068e_1 rfl rfl ?_
  refine v_callSU (c_J5_charAt_5068e d h hj) cs_J4_329 dJ4_charAt_5068e_2 h45 rfl rfl (Nat.le_of_ble_eq_true rfl) ?_
  refine rt_k ?_
  refine v_iret dJ4_charAt_5068e_5 rfl ((by obtain ⟨k9, hk9, e9⟩ := hac; rw [e9]; exact nar_ch k9 hk9)) ?_
  exact ⟨rfl, rfl⟩

theorem in_7 : ∀ k, k < 7 → inO (nI k) 7 = 1 := by decide +kernel
theorem Sc.at45 {q : Nat} {t : List Int32} {μ : Hp} (h : Sc q t μ) : ∃ b ml, μ 45 = some (sbC b ml t.length) := by
  obtain ⟨w, f, ml, -, h45, -⟩ := h
  exact ⟨_, _, h45⟩
theorem Sc.kept {q : Nat} {t : List Int32} {μ μ2 : Hp} (h : Sc q t μ) (hf : ∀ i, 45 ≤ i → i ≤ 48 → μ2 i = μ i) : Sc q t μ2 := by
  obtain ⟨w, f, ml, ⟨a1, a2⟩, h45, hB, hP, hN⟩ := h
  exact ⟨w, f, ml, ⟨a1, a2⟩, (hf _ (by omega) (by omega)).trans h45, (hf _ (by omega) (by omega)).trans hB, hP, fun j u v => (hf _ (by omega) (by omega)).trans (hN j u v)⟩
theorem Sc.sx {q : Nat} {t : List Int32} {μ : Hp} (h : Sc q t μ) (ht : t.length ≤ 70) : Sx μ := by
  obtain ⟨w, f, ml, ⟨a1, a2, a3, a4⟩, h45, hB, hP, hN⟩ := h
  exact ⟨w, f, ml, t.length, ⟨a1, ht, a3⟩, h45, hB, hN⟩
set_option maxRecDepth 20000 in
set_option maxHeartbeats 4000000 in
theorem c_X6_spellFilter {G : Cx} (d : Nat) {μ : Hp} {t : List Int32} {c hi : Int32} (h0 : μ 0 = some (filC hi)) (h : Sc t.length t μ) (hl : t.length + 5 ≤ 70) (hc : Vc c) : Ct G (d + 6) 4 280 M_X6_spellFilter [.ref 0, .int c] μ (fun r μ' => r = none ∧ Sc (t ++ filS c).length (t ++ filS c) μ' ∧ Fw μ' μ) := by
  refine Ct.ofV (by decide +kernel) (Nat.le_of_ble_eq_true rfl) ?_
  refine v_ls (ls' := [(0, .ref 0), (1, .int c)]) rfl ?_
  obtain ⟨kn, hk7, hkn⟩ := hc.kd
  obtain ⟨a9, ha4, han⟩ := hc.an
  obtain ⟨f9, hf17, hfn⟩ := hc.fg
  have hcla : (nI a9).toNatClampNeg = a9 := clamp (by omega)
  have hclf : (nI f9).toNatClampNeg = f9 := clamp (by omega)
  have hna : (numS a9).length = 1 := num_len1 (by omega)
  have hnf := num_len f9
  obtain ⟨b0, ml0, h45⟩ := h.at45
  refine v_iload_n 1 dX6_spellFilter_0 rfl rfl ?_
  refine v_callS (c_X6_kindOf (d + 5) ) cs_X6_144 dX6_spellFilter_1 rfl rfl (Nat.le_of_ble_eq_true rfl) ?_
  refine rt_k ?_
  refine v_istore_n dX6_spellFilter_4 rfl (by decide) (fun kd e_kd => ?_)
  refine v_ls (ls' := [(2, .int kd), (0, .ref 0), (1, .int c)]) rfl ?_
  rw [hkn] at e_kd
  subst e_kd
  refine v_iload_n 0 dX6_spellFilter_5 rfl rfl ?_
  refine v_callS (c_X6_isKind (d + 5) ) cs_X6_93 dX6_spellFilter_6 rfl rfl (Nat.le_of_ble_eq_true rfl) ?_
  refine rt_k ?_
  refine v_if_ne (tgt := 13) dX6_spellFilter_9 (by decide) (fun hc9 => ?_) (fun hc9 => ?_)
  ·
    refine v_aload_n 1 dX6_spellFilter_13 rfl rfl ?_
    refine v_get fl_X6_61 dX6_spellFilter_14 h0 rfl ?_
    refine v_ldcwS (ro_letF G) dX6_spellFilter_17 ?_
    refine v_iload_n 0 dX6_spellFilter_20 rfl rfl ?_
    refine v_callR (c_J0_charAt_5068e (d + 2) hk7) cs_X6_446 dX6_spellFilter_21 rfl rfl (Nat.le_of_ble_eq_true rfl) ?_
    refine rt_k ?_
    refine v_callV (c_appC d h (by omega) (let_ac kn hk7)) cs_X6_438 dX6_spellFilter_24 h45 rfl rfl (Nat.le_of_ble_eq_true rfl) ?_
    rintro _ n1 ⟨rfl, g1, f1⟩
    obtain ⟨b1, ml1, g45_1⟩ := g1.at45
    refine v_pop dX6_spellFilter_27 rfl ?_
    refine v_iload_n 0 dX6_spellFilter_28 rfl rfl ?_
    refine v_callS (c_X6_tellsAngle (d + 5) ) cs_X6_449 dX6_spellFilter_29 rfl rfl (Nat.le_of_ble_eq_true rfl) ?_
    refine rt_k ?_
    refine v_if_eq (tgt := 47) dX6_spellFilter_32 (by decide) (fun hta => ?_) (fun hta => ?_)
    ·
      refine v_iload_n 0 dX6_spellFilter_47 rfl rfl ?_
      refine v_callS (c_X6_tellsAngle (d + 5) ) cs_X6_449 dX6_spellFilter_48 rfl rfl (Nat.le_of_ble_eq_true rfl) ?_
      refine rt_k ?_
      refine v_if_eq (tgt := 71) dX6_spellFilter_51 (by decide) (fun htb => ?_) (fun htb => ?_)
      ·
        refine v_iload_n 0 dX6_spellFilter_71 rfl rfl ?_
        refine v_callS (c_X6_tellsFigure (d + 5) ) cs_X6_455 dX6_spellFilter_72 rfl rfl (Nat.le_of_ble_eq_true rfl) ?_
        refine rt_k ?_
        refine v_if_eq (tgt := 90) dX6_spellFilter_75 (by decide) (fun htg => ?_) (fun htg => ?_)
        ·
          refine v_vret dX6_spellFilter_90 rfl ?_
          have hE : t ++ filS c = (t ++ [letS (nI kn)]) := by
            simp only [filS, han, hfn, hcla, hclf, hkn, if_neg hc9, if_pos hta, if_pos htb, if_pos htg, List.append_assoc, List.append_nil, List.nil_append]
          rw [hE]
          exact ⟨rfl, g1, f1⟩
        ·
          refine v_aload_n 1 dX6_spellFilter_78 rfl rfl ?_
          refine v_get fl_X6_61 dX6_spellFilter_79 ((f1 0 (by decide)).trans h0) rfl ?_
          refine v_iload_n 2 dX6_spellFilter_82 rfl rfl ?_
          refine v_callS (c_X6_figureOf (d + 5)) cs_X6_150 dX6_spellFilter_83 rfl rfl (Nat.le_of_ble_eq_true rfl) ?_
          refine rt_k ?_
          rw [hfn]
          refine v_callV (c_J4_append_bf812 d g1 (by simp only [List.length_append, List.length_singleton]; omega) (by omega)) cs_X6_452 dX6_spellFilter_86 g45_1 rfl rfl (Nat.le_of_ble_eq_true rfl) ?_
          rintro _ n2 ⟨rfl, g2, f2⟩
          obtain ⟨b2, ml2, g45_2⟩ := g2.at45
          refine v_pop dX6_spellFilter_89 rfl ?_
          refine v_vret dX6_spellFilter_90 rfl ?_
          have hE : t ++ filS c = ((t ++ [letS (nI kn)]) ++ numS f9) := by
            simp only [filS, han, hfn, hcla, hclf, hkn, if_neg hc9, if_pos hta, if_pos htb, if_neg htg, List.append_assoc, List.append_nil, List.nil_append]
          rw [hE]
          exact ⟨rfl, g2, (f2.tr f1)⟩
      · exact absurd hta htb
    ·
      refine v_aload_n 1 dX6_spellFilter_35 rfl rfl ?_
      refine v_get fl_X6_61 dX6_spellFilter_36 ((f1 0 (by decide)).trans h0) rfl ?_
      refine v_iload_n 2 dX6_spellFilter_39 rfl rfl ?_
      refine v_callS (c_X6_angleOf (d + 5)) cs_X6_121 dX6_spellFilter_40 rfl rfl (Nat.le_of_ble_eq_true rfl) ?_
      refine rt_k ?_
      rw [han]
      refine v_callV (c_J4_append_bf812 d g1 (by simp only [List.length_append, List.length_singleton]; omega) (by omega)) cs_X6_452 dX6_spellFilter_43 g45_1 rfl rfl (Nat.le_of_ble_eq_true rfl) ?_
      rintro _ n2 ⟨rfl, g2, f2⟩
      obtain ⟨b2, ml2, g45_2⟩ := g2.at45
      refine v_pop dX6_spellFilter_46 rfl ?_
      refine v_iload_n 0 dX6_spellFilter_47 rfl rfl ?_
      refine v_callS (c_X6_tellsAngle (d + 5) ) cs_X6_449 dX6_spellFilter_48 rfl rfl (Nat.le_of_ble_eq_true rfl) ?_
      refine rt_k ?_
      refine v_if_eq (tgt := 71) dX6_spellFilter_51 (by decide) (fun htb => ?_) (fun htb => ?_)
      · exact absurd htb hta
      ·
        refine v_iload_n 0 dX6_spellFilter_54 rfl rfl ?_
        refine v_callS (c_X6_tellsFigure (d + 5) ) cs_X6_455 dX6_spellFilter_55 rfl rfl (Nat.le_of_ble_eq_true rfl) ?_
        refine rt_k ?_
        refine v_if_eq (tgt := 71) dX6_spellFilter_58 (by decide) (fun htf => ?_) (fun htf => ?_)
        ·
          refine v_iload_n 0 dX6_spellFilter_71 rfl rfl ?_
          refine v_callS (c_X6_tellsFigure (d + 5) ) cs_X6_455 dX6_spellFilter_72 rfl rfl (Nat.le_of_ble_eq_true rfl) ?_
          refine rt_k ?_
          refine v_if_eq (tgt := 90) dX6_spellFilter_75 (by decide) (fun htg => ?_) (fun htg => ?_)
          ·
            refine v_vret dX6_spellFilter_90 rfl ?_
            have hE : t ++ filS c = ((t ++ [letS (nI kn)]) ++ numS a9) := by
              simp only [filS, han, hfn, hcla, hclf, hkn, if_neg hc9, if_neg hta, if_neg htb, if_pos htf, if_pos htg, List.append_assoc, List.append_nil, List.nil_append]
            rw [hE]
            exact ⟨rfl, g2, (f2.tr f1)⟩
          · exact absurd htf htg
        ·
          refine v_aload_n 1 dX6_spellFilter_61 rfl rfl ?_
          refine v_get fl_X6_61 dX6_spellFilter_62 ((f2 0 (by decide)).trans ((f1 0 (by decide)).trans h0)) rfl ?_
          refine v_bipush (v := 44) dX6_spellFilter_65 (by first | rfl | decide) ?_
          refine v_callV (c_appC d g2 (by simp only [List.length_append, List.length_singleton]; omega) ⟨44, by decide, by decide⟩) cs_X6_438 dX6_spellFilter_67 g45_2 rfl rfl (Nat.le_of_ble_eq_true rfl) ?_
          rintro _ n3 ⟨rfl, g3, f3⟩
          obtain ⟨b3, ml3, g45_3⟩ := g3.at45
          refine v_pop dX6_spellFilter_70 rfl ?_
          refine v_iload_n 0 dX6_spellFilter_71 rfl rfl ?_
          refine v_callS (c_X6_tellsFigure (d + 5) ) cs_X6_455 dX6_spellFilter_72 rfl rfl (Nat.le_of_ble_eq_true rfl) ?_
          refine rt_k ?_
          refine v_if_eq (tgt := 90) dX6_spellFilter_75 (by decide) (fun htg => ?_) (fun htg => ?_)
          · exact absurd htg htf
          ·
            refine v_aload_n 1 dX6_spellFilter_78 rfl rfl ?_
            refine v_get fl_X6_61 dX6_spellFilter_79 ((f3 0 (by decide)).trans ((f2 0 (by decide)).trans ((f1 0 (by decide)).trans h0))) rfl ?_
            refine v_iload_n 2 dX6_spellFilter_82 rfl rfl ?_
            refine v_callS (c_X6_figureOf (d + 5)) cs_X6_150 dX6_spellFilter_83 rfl rfl (Nat.le_of_ble_eq_true rfl) ?_
            refine rt_k ?_
            rw [hfn]
            refine v_callV (c_J4_append_bf812 d g3 (by simp only [List.length_append, List.length_singleton]; omega) (by omega)) cs_X6_452 dX6_spellFilter_86 g45_3 rfl rfl (Nat.le_of_ble_eq_true rfl) ?_
            rintro _ n4 ⟨rfl, g4, f4⟩
            obtain ⟨b4, ml4, g45_4⟩ := g4.at45
            refine v_pop dX6_spellFilter_89 rfl ?_
            refine v_vret dX6_spellFilter_90 rfl ?_
            have hE : t ++ filS c = ((((t ++ [letS (nI kn)]) ++ numS a9) ++ [44]) ++ numS f9) := by
              simp only [filS, han, hfn, hcla, hclf, hkn, if_neg hc9, if_neg hta, if_neg htb, if_neg htf, if_neg htg, List.append_assoc, List.append_nil, List.nil_append]
            rw [hE]
            exact ⟨rfl, g4, (f4.tr (f3.tr (f2.tr f1)))⟩
  · exact absurd hc9 (by rw [in_7 kn hk7]; decide)

