theorem be_ix {x : Int32} {n : Nat} (hn : n < 2 ^ 30) (h : ¬ beO x (nI n) = 0) : ∃ k, k ≤ n ∧ x = nI k := by
  have h0 : ¬ x < 0 := fun z => h (by simp only [beO, if_pos z])
  obtain ⟨k, hk, rfl⟩ := nI_of h0
  refine ⟨k, ?_, rfl⟩
  by_cases e : nI k ≤ nI n
  · exact (nI_leI hk (by omega)).mp e
  · exact absurd (by simp only [beO, if_neg h0, if_neg e]) h
theorem beO_b (x n : Int32) : beO x n = 0 ∨ beO x n = 1 := by
  unfold beO
  split
  · exact Or.inl rfl
  · split
    · exact Or.inr rfl
    · exact Or.inl rfl
set_option maxRecDepth 20000 in
set_option maxHeartbeats 4000000 in
theorem c_X6_isBehind {G : Cx} (d : Nat) {μ : Hp} {hi n k : Int32} (h0 : μ 0 = some (filC hi)) (h1 : μ 1 = some (benC 2 3 n 4 5 9)) : Ct G (d) 0 0 M_X6_isBehind [.ref 0, .int k] μ (Rt (some (.int (beO k n))) μ) := by
  refine Ct.ofV (by decide +kernel) (Nat.le_of_ble_eq_true rfl) ?_
  refine v_ls (ls' := [(0, .ref 0), (1, .int k)]) rfl ?_
  refine v_iload_n 1 dX6_isBehind_0 rfl rfl ?_
  refine v_if_lt (tgt := 19) dX6_isBehind_1 (by decide) (fun hc1 => ?_) (fun hc1 => ?_)
  ·
    refine v_iconst (v := 0) dX6_isBehind_19 (by first | rfl | decide) ?_
    refine v_iret dX6_isBehind_20 rfl (by first | rfl | decide | exact nar_b (by first | assumption | rfl)) ?_
    exact ⟨by simp only [beO, if_pos hc1, if_neg (Int32.not_le.mpr hc1)], rfl⟩
  ·
    refine v_iload_n 1 dX6_isBehind_4 rfl rfl ?_
    refine v_aload_n 0 dX6_isBehind_5 rfl rfl ?_
    refine v_get fl_X6_12 dX6_isBehind_6 h0 rfl ?_
    refine v_get fl_X6_140 dX6_isBehind_9 h1 rfl ?_
    refine v_icmp_gt (tgt := 19) dX6_isBehind_12 (by decide) (fun hc12 => ?_) (fun hc12 => ?_)
    ·
      refine v_iconst (v := 0) dX6_isBehind_19 (by first | rfl | decide) ?_
      refine v_iret dX6_isBehind_20 rfl (by first | rfl | decide | exact nar_b (by first | assumption | rfl)) ?_
      exact ⟨by simp only [beO, if_neg hc1, if_pos (Int32.not_lt.mp hc1), if_pos hc12, if_neg (Int32.not_le.mpr hc12)], rfl⟩
    ·
      refine v_iconst (v := 1) dX6_isBehind_15 (by first | rfl | decide) ?_
      refine v_goto (tgt := 20) dX6_isBehind_16 (by decide) ?_
      refine v_iret dX6_isBehind_20 rfl (by first | rfl | decide | exact nar_b (by first | assumption | rfl)) ?_
      exact ⟨by simp only [beO, if_neg hc1, if_pos (Int32.not_lt.mp hc1), if_neg hc12, if_pos (Int32.not_lt.mp hc12)], rfl⟩

set_option maxRecDepth 20000 in
set_option maxHeartbeats 4000000 in
theorem c_X6_shineBehind {G : Cx} (d : Nat) {μ : Hp} {hi : Int32} {l : List Int32} {p : Nat → Int32} {L K : LT} {b : Nat} (h0 : μ 0 = some (filC hi)) (h1 : μ 1 = some (benC 2 3 (nI l.length) 4 5 9)) (h2 : μ 2 = some (ligL L)) (h3 : μ 3 = some (arI 8 p)) (hpl : Pl l p) (hl8 : l.length ≤ 8) (h50 : μ 50 = some (ligL K)) (hb : b < 2 ^ 30) : Ct G (d + 4) 0 0 M_X6_shineBehind [.ref 0, .int (nI b)] μ (Rt none (up μ 50 (ligL (runO (l.take b) L)))) := by
  refine Ct.ofV (by decide +kernel) (Nat.le_of_ble_eq_true rfl) ?_
  refine v_ls (ls' := [(0, .ref 0), (1, .int (nI b))]) rfl ?_
  refine v_aload_n 0 dX6_shineBehind_0 rfl rfl ?_
  refine v_get fl_X6_68 dX6_shineBehind_1 h0 rfl ?_
  refine v_aload_n 0 dX6_shineBehind_4 rfl rfl ?_
  refine v_get fl_X6_12 dX6_shineBehind_5 h0 rfl ?_
  refine v_get fl_X6_86 dX6_shineBehind_8 h1 rfl ?_
  refine v_callV (c_X1_takeFrom (d + 2) h50 h2) cs_X6_89 dX6_shineBehind_11 h50 rfl rfl (Nat.le_of_ble_eq_true rfl) ?_
  refine rt_k ?_
  refine v_aload_n 0 dX6_shineBehind_14 rfl rfl ?_
  refine v_get fl_X6_12 dX6_shineBehind_15 (up_n (by decide) h0) rfl ?_
  refine v_aload_n 0 dX6_shineBehind_18 rfl rfl ?_
  refine v_get fl_X6_68 dX6_shineBehind_19 (up_n (by decide) h0) rfl ?_
  refine v_iconst (v := 0) dX6_shineBehind_22 (by first | rfl | decide) ?_
  refine v_iload_n 1 dX6_shineBehind_23 rfl rfl ?_
  refine v_callV (c_X0_send d (i := 0) (b := b) (up_n (by decide) h1) (up_n (by decide) h3) hpl hl8 (by decide) (by decide) (up_s _ _ _) (by omega) (by omega)) cs_X6_242 dX6_shineBehind_24 (up_n (by decide) h1) rfl rfl (Nat.le_of_ble_eq_true rfl) ?_
  refine rt_k ?_
  refine v_hp (up_up _ _ _ _) ?_
  refine v_vret dX6_shineBehind_27 rfl ?_
  exact ⟨rfl, rfl⟩

set_option maxRecDepth 20000 in
set_option maxHeartbeats 4000000 in
theorem c_X6_shineOn {G : Cx} (d : Nat) {μ : Hp} {hi : Int32} {l : List Int32} {p : Nat → Int32} {A K : LT} {i : Nat} {c : Int32} (h0 : μ 0 = some (filC hi)) (h1 : μ 1 = some (benC 2 3 (nI l.length) 4 5 9)) (h3 : μ 3 = some (arI 8 p)) (hpl : Pl l p) (hl8 : l.length ≤ 8) (h50 : μ 50 = some (ligL K)) (h51 : μ 51 = some (ligL A)) (hi9 : i < 2 ^ 20) : Ct G (d + 4) 0 0 M_X6_shineOn [.ref 0, .int (nI i), .int c] μ (Rt none (up μ 50 (ligL (runO (l.drop (i + 1)) (passO c A))))) := by
  refine Ct.ofV (by decide +kernel) (Nat.le_of_ble_eq_true rfl) ?_
  refine v_ls (ls' := [(0, .ref 0), (1, .int (nI i)), (2, .int c)]) rfl ?_
  refine v_aload_n 0 dX6_shineOn_0 rfl rfl ?_
  refine v_get fl_X6_68 dX6_shineOn_1 h0 rfl ?_
  refine v_aload_n 0 dX6_shineOn_4 rfl rfl ?_
  refine v_get fl_X6_72 dX6_shineOn_5 h0 rfl ?_
  refine v_callV (c_X1_takeFrom (d + 2) h50 h51) cs_X6_89 dX6_shineOn_8 h50 rfl rfl (Nat.le_of_ble_eq_true rfl) ?_
  refine rt_k ?_
  refine v_aload_n 0 dX6_shineOn_11 rfl rfl ?_
  refine v_get fl_X6_68 dX6_shineOn_12 (up_n (by decide) h0) rfl ?_
  refine v_iload_n 2 dX6_shineOn_15 rfl rfl ?_
  refine v_callV (c_X1_pass (d + 1) (up_s _ _ _)) cs_X6_252 dX6_shineOn_16 (up_s _ _ _) rfl rfl (Nat.le_of_ble_eq_true rfl) ?_
  refine rt_k ?_
  refine v_hp (up_up _ _ _ _) ?_
  refine v_aload_n 0 dX6_shineOn_19 rfl rfl ?_
  refine v_get fl_X6_12 dX6_shineOn_20 (up_n (by decide) h0) rfl ?_
  refine v_aload_n 0 dX6_shineOn_23 rfl rfl ?_
  refine v_get fl_X6_68 dX6_shineOn_24 (up_n (by decide) h0) rfl ?_
  refine v_iload_n 1 dX6_shineOn_27 rfl rfl ?_
  refine v_iconst (v := 1) dX6_shineOn_28 (by first | rfl | decide) ?_
  refine v_iadd dX6_shineOn_29 ?_
  refine v_aload_n 0 dX6_shineOn_30 rfl rfl ?_
  refine v_get fl_X6_12 dX6_shineOn_31 (up_n (by decide) h0) rfl ?_
  refine v_get fl_X6_140 dX6_shineOn_34 (up_n (by decide) h1) rfl ?_
  rw [nI_1]
  refine v_callV (c_X0_send d (i := i + 1) (b := l.length) (up_n (by decide) h1) (up_n (by decide) h3) hpl hl8 (by decide) (by decide) (up_s _ _ _) (by omega) (by omega)) cs_X6_242 dX6_shineOn_37 (up_n (by decide) h1) rfl rfl (Nat.le_of_ble_eq_true rfl) ?_
  refine rt_k ?_
  refine v_hp (up_up _ _ _ _) ?_
  refine v_vret dX6_shineOn_40 rfl ?_
  exact ⟨rfl, by rw [List.take_length]⟩

set_option maxRecDepth 20000 in
set_option maxHeartbeats 4000000 in
theorem c_X6_isCrossed {G : Cx} (d : Nat) {μ : Hp} {hi a b : Int32} {K : LT} (h0 : μ 0 = some (filC hi)) (h50 : μ 50 = some (ligL K)) : Ct G (d + 3) 0 0 M_X6_isCrossed [.ref 0, .int a, .int b] μ (Rt (some (.int (if crsO a b then 1 else 0))) (up μ 50 (ligL (two a b (unitO 0))))) := by
  refine Ct.ofV (by decide +kernel) (Nat.le_of_ble_eq_true rfl) ?_
  refine v_ls (ls' := [(0, .ref 0), (1, .int a), (2, .int b)]) rfl ?_
  refine v_aload_n 0 dX6_isCrossed_0 rfl rfl ?_
  refine v_get fl_X6_68 dX6_isCrossed_1 h0 rfl ?_
  refine v_iconst (v := 0) dX6_isCrossed_4 (by first | rfl | decide) ?_
  refine v_callV (c_X1_becomeUnit (d + 1) h50) cs_X6_239 dX6_isCrossed_5 h50 rfl rfl (Nat.le_of_ble_eq_true rfl) ?_
  refine rt_k ?_
  refine v_aload_n 0 dX6_isCrossed_8 rfl rfl ?_
  refine v_get fl_X6_68 dX6_isCrossed_9 (up_n (by decide) h0) rfl ?_
  refine v_iload_n 1 dX6_isCrossed_12 rfl rfl ?_
  refine v_callV (c_X1_pass d (up_s _ _ _)) cs_X6_252 dX6_isCrossed_13 (up_s _ _ _) rfl rfl (Nat.le_of_ble_eq_true rfl) ?_
  refine rt_k ?_
  refine v_hp (up_up _ _ _ _) ?_
  refine v_aload_n 0 dX6_isCrossed_16 rfl rfl ?_
  refine v_get fl_X6_68 dX6_isCrossed_17 (up_n (by decide) h0) rfl ?_
  refine v_iload_n 2 dX6_isCrossed_20 rfl rfl ?_
  refine v_callV (c_X1_pass d (up_s _ _ _)) cs_X6_252 dX6_isCrossed_21 (up_s _ _ _) rfl rfl (Nat.le_of_ble_eq_true rfl) ?_
  refine rt_k ?_
  refine v_hp (up_up _ _ _ _) ?_
  refine v_aload_n 0 dX6_isCrossed_24 rfl rfl ?_
  refine v_get fl_X6_68 dX6_isCrossed_25 (up_n (by decide) h0) rfl ?_
  refine v_callV (c_X1_isDark (d + 2) (up_s _ _ _)) cs_X6_189 dX6_isCrossed_28 (up_s _ _ _) rfl rfl (Nat.le_of_ble_eq_true rfl) ?_
  refine rt_k ?_
  refine v_iret dX6_isCrossed_31 rfl (nar_ite) ?_
  exact ⟨rfl, rfl⟩

set_option maxRecDepth 20000 in
set_option maxHeartbeats 4000000 in
theorem c_X6_leftInBeam {G : Cx} (d : Nat) {μ : Hp} {hi n : Int32} {σ : ST} {B : LT} {x : Int32} (h0 : μ 0 = some (filC hi)) (h1 : μ 1 = some (benC 2 3 n 4 5 9)) (h2 : μ 2 = some (ligL (sM σ))) (h50 : μ 50 = some (ligL B)) : Ct G (d + 3) 0 0 M_X6_leftInBeam [.ref 0, .int x] μ (Rt (some (.long (lefO σ B x))) μ) := by
  refine Ct.ofV (by decide +kernel) (Nat.le_of_ble_eq_true rfl) ?_
  refine v_ls (ls' := [(0, .ref 0), (1, .int x)]) rfl ?_
  refine v_aload_n 0 dX6_leftInBeam_0 rfl rfl ?_
  refine v_get fl_X6_12 dX6_leftInBeam_1 h0 rfl ?_
  refine v_get fl_X6_86 dX6_leftInBeam_4 h1 rfl ?_
  refine v_get fl_X6_199 dX6_leftInBeam_7 h2 rfl ?_
  refine v_lconst (v := 0) dX6_leftInBeam_10 (by first | rfl | decide) ?_
  refine v_lc_ne (tgt := 19) dX6_leftInBeam_11 dX6_leftInBeam_12 (by decide) (fun hc11 => ?_) (fun hc11 => ?_)
  ·
    refine v_aload_n 0 dX6_leftInBeam_19 rfl rfl ?_
    refine v_get fl_X6_68 dX6_leftInBeam_20 h0 rfl ?_
    refine v_get fl_X6_199 dX6_leftInBeam_23 h50 rfl ?_
    refine v_aload_n 0 dX6_leftInBeam_26 rfl rfl ?_
    refine v_get fl_X6_12 dX6_leftInBeam_27 h0 rfl ?_
    refine v_get fl_X6_86 dX6_leftInBeam_30 h1 rfl ?_
    refine v_get fl_X6_199 dX6_leftInBeam_33 h2 rfl ?_
    refine v_aload_n 0 dX6_leftInBeam_36 rfl rfl ?_
    refine v_get fl_X6_68 dX6_leftInBeam_37 h0 rfl ?_
    refine v_get fl_X6_246 dX6_leftInBeam_40 h50 rfl ?_
    refine v_lshl dX6_leftInBeam_43 ?_
    refine v_iload_n 1 dX6_leftInBeam_44 rfl rfl ?_
    refine v_callS (c_X6_fraction d ) cs_X6_203 dX6_leftInBeam_45 rfl rfl (Nat.le_of_ble_eq_true rfl) ?_
    refine rt_k ?_
    refine v_lret dX6_leftInBeam_48 rfl ?_
    exact ⟨by simp only [lefO, if_neg hc11], rfl⟩
  ·
    refine v_ldc2 kc_X6_174 dX6_leftInBeam_15 ?_
    refine v_lret dX6_leftInBeam_18 rfl ?_
    exact ⟨by simp only [lefO, if_pos hc11], rfl⟩

set_option maxRecDepth 20000 in
set_option maxHeartbeats 4000000 in
theorem c_sqA {G : Cx} (d : Nat) {μ : Hp} {hi n : Int32} {B : LT} {f g : Nat → Int32} {S : LT} (h0 : μ 0 = some (filC hi)) (h50 : μ 50 = some (ligL B)) (h29 : μ 29 = some (troC n)) (h30 : μ 30 = some (arI 4 f)) (h31 : μ 31 = some (arI 4 g)) (hS : shrO B = S) (hf : fstO S < 0) : Ct G (d + 3) 0 0 M_X6_squaresAreOver [.ref 0] μ (Rt (some (.int 0)) (up μ 50 (ligL S))) := by
  refine Ct.ofV (by decide +kernel) (Nat.le_of_ble_eq_true rfl) ?_
  refine v_ls (ls' := [(0, .ref 0)]) rfl ?_
  refine v_aload_n 0 dX6_squaresAreOver_0 rfl rfl ?_
  refine v_get fl_X6_68 dX6_squaresAreOver_1 h0 rfl ?_
  refine v_callV (c_X1_shrink d h50) cs_X6_403 dX6_squaresAreOver_4 h50 rfl rfl (Nat.le_of_ble_eq_true rfl) ?_
  refine rt_k ?_
  rw [hS]
  refine v_aload_n 0 dX6_squaresAreOver_7 rfl rfl ?_
  refine v_get fl_X6_68 dX6_squaresAreOver_8 (up_n (by decide) h0) rfl ?_
  refine v_callV (c_X1_firstOver (d + 1) (up_s _ _ _)) cs_X6_406 dX6_squaresAreOver_11 (up_s _ _ _) rfl rfl (Nat.le_of_ble_eq_true rfl) ?_
  refine rt_k ?_
  refine v_istore_n dX6_squaresAreOver_14 rfl (by decide) (fun x1 e_x1 => ?_)
  refine v_ls (ls' := [(1, .int x1), (0, .ref 0)]) rfl ?_
  refine v_iload_n 0 dX6_squaresAreOver_15 rfl rfl ?_
  refine v_if_ge (tgt := 21) dX6_squaresAreOver_16 (by decide) (fun hc16 => ?_) (fun hc16 => ?_)
  · exact absurd hf (by rw [← e_x1]; exact Int32.not_lt.mpr hc16)
  ·
    refine v_iconst (v := 0) dX6_squaresAreOver_19 (by first | rfl | decide) ?_
    refine v_iret dX6_squaresAreOver_20 rfl (by first | rfl | decide | exact nar_b (by first | assumption | rfl)) ?_
    exact ⟨rfl, rfl⟩

set_option maxRecDepth 20000 in
set_option maxHeartbeats 4000000 in
theorem c_sqB {G : Cx} (d : Nat) {μ : Hp} {hi n : Int32} {B : LT} {f g : Nat → Int32} {S : LT} (h0 : μ 0 = some (filC hi)) (h50 : μ 50 = some (ligL B)) (h29 : μ 29 = some (troC n)) (h30 : μ 30 = some (arI 4 f)) (h31 : μ 31 = some (arI 4 g)) (hS : shrO B = S) (hf : ¬ fstO S < 0) : Ct G (d + 3) 0 0 M_X6_squaresAreOver [.ref 0] μ (Rt (some (.int 1)) (up (up (up (up (up μ 50 (ligL S)) 29 (troC 0)) 30 (arI 4 (upd f 0 4))) 31 (arI 4 (upd g 0 (fstO S)))) 29 (troC (nI 1)))) := by
  refine Ct.ofV (by decide +kernel) (Nat.le_of_ble_eq_true rfl) ?_
  refine v_ls (ls' := [(0, .ref 0)]) rfl ?_
  refine v_aload_n 0 dX6_squaresAreOver_0 rfl rfl ?_
  refine v_get fl_X6_68 dX6_squaresAreOver_1 h0 rfl ?_
  refine v_callV (c_X1_shrink d h50) cs_X6_403 dX6_squaresAreOver_4 h50 rfl rfl (Nat.le_of_ble_eq_true rfl) ?_
  refine rt_k ?_
  rw [hS]
  refine v_aload_n 0 dX6_squaresAreOver_7 rfl rfl ?_
  refine v_get fl_X6_68 dX6_squaresAreOver_8 (up_n (by decide) h0) rfl ?_
  refine v_callV (c_X1_firstOver (d + 1) (up_s _ _ _)) cs_X6_406 dX6_squaresAreOver_11 (up_s _ _ _) rfl rfl (Nat.le_of_ble_eq_true rfl) ?_
  refine rt_k ?_
  refine v_istore_n dX6_squaresAreOver_14 rfl (by decide) (fun x1 e_x1 => ?_)
  refine v_ls (ls' := [(1, .int x1), (0, .ref 0)]) rfl ?_
  refine v_iload_n 0 dX6_squaresAreOver_15 rfl rfl ?_
  refine v_if_ge (tgt := 21) dX6_squaresAreOver_16 (by decide) (fun hc16 => ?_) (fun hc16 => ?_)
  ·
    refine v_aload_n 1 dX6_squaresAreOver_21 rfl rfl ?_
    refine v_get fl_X6_40 dX6_squaresAreOver_22 (up_n (by decide) h0) rfl ?_
    refine v_callV (c_X5_forget (d + 2) (up_n (by decide) h29)) cs_X6_352 dX6_squaresAreOver_25 (up_n (by decide) h29) rfl rfl (Nat.le_of_ble_eq_true rfl) ?_
    refine rt_k ?_
    refine v_aload_n 1 dX6_squaresAreOver_28 rfl rfl ?_
    refine v_get fl_X6_40 dX6_squaresAreOver_29 (up_n (by decide) (up_n (by decide) h0)) rfl ?_
    refine v_iconst (v := 4) dX6_squaresAreOver_32 (by first | rfl | decide) ?_
    refine v_iload_n 0 dX6_squaresAreOver_33 rfl rfl ?_
    refine v_callV (c_X5_note (d + 2) (k := 0) (up_s _ _ _) (up_n (by decide) (up_n (by decide) h30)) (up_n (by decide) (up_n (by decide) h31)) (by decide)) cs_X6_359 dX6_squaresAreOver_34 (up_s _ _ _) rfl rfl (Nat.le_of_ble_eq_true rfl) ?_
    refine rt_k ?_
    refine v_iconst (v := 1) dX6_squaresAreOver_37 (by first | rfl | decide) ?_
    refine v_iret dX6_squaresAreOver_38 rfl (by first | rfl | decide | exact nar_b (by first | assumption | rfl)) ?_
    exact ⟨rfl, by rw [e_x1]; rfl⟩
  · exact absurd (by rw [← e_x1]; exact Int32.not_le.mp hc16) hf

set_option maxRecDepth 20000 in
set_option maxHeartbeats 4000000 in
theorem c_X6_light {G : Cx} (d : Nat) {μ : Hp} {σ : ST} {k : Int32} {w : Int32} (h : Cl σ μ) (hw : Wp (sP σ)) : Ct G (d + 5) 0 0 M_X6_light [.ref 0, .int k, .int w] μ (Po (σ) (.long (rLight σ k w)) μ) := by
  refine Ct.ofV (by decide +kernel) (Nat.le_of_ble_eq_true rfl) ?_
  refine v_ls (ls' := [(0, .ref 0), (1, .int k), (2, .int w)]) rfl ?_
  obtain ⟨h0, ⟨p, h1, h2, h3, h4, h5, h6, h7, h8, h9, hpl⟩, ⟨bk, hbk, pk, k11, k12, k13, k14, k15, k16, k17, k18, k19, hpk⟩, ⟨h20, h21, h22, h23, h24⟩, ⟨tt, ops, cd, kk, pp, ff, h25, h26, h27, h28, htp, ht60⟩, ⟨h29, h30, h31⟩, ⟨⟨oc, hoc⟩, h37, h38, h39⟩, hsx, ⟨B0, B1, B2, h50, h51, h52⟩⟩ := id h
  have hl8 := hw.1
  refine v_aload_n 0 dX6_light_0 rfl rfl ?_
  refine v_iload_n 1 dX6_light_1 rfl rfl ?_
  refine v_callV (c_X6_isBehind (d + 4) h0 h1) cs_X6_168 dX6_light_2 h0 rfl rfl (Nat.le_of_ble_eq_true rfl) ?_
  refine rt_k ?_
  refine v_if_eq (tgt := 15) dX6_light_5 (by decide) (fun hc5 => ?_) (fun hc5 => ?_)
  ·
    refine v_ldc2 kc_X6_174 dX6_light_15 ?_
    refine v_lret dX6_light_18 rfl ?_
    have hE : rLight σ k w = VD := by
      first | (simp only [rLight, if_pos hc5]; done) | grind [rLight]
    rw [hE]
    exact ⟨rfl, h, Fo.rf μ⟩
  ·
    refine v_iload_n 2 dX6_light_8 rfl rfl ?_
    refine v_callS (c_X6_isLightPart (d + 4) ) cs_X6_171 dX6_light_9 rfl rfl (Nat.le_of_ble_eq_true rfl) ?_
    refine rt_k ?_
    refine v_if_ne (tgt := 19) dX6_light_12 (by decide) (fun hc12 => ?_) (fun hc12 => ?_)
    ·
      obtain ⟨n, hn9, rfl⟩ := be_ix (by omega) hc5
      have hcn : (nI n).toNatClampNeg = n := clamp (by omega)
      refine v_aload_n 0 dX6_light_19 rfl rfl ?_
      refine v_iload_n 1 dX6_light_20 rfl rfl ?_
      refine v_callV (c_X6_shineBehind d h0 h1 h2 h3 hpl hl8 h50 (by omega)) cs_X6_176 dX6_light_21 h0 rfl rfl (Nat.le_of_ble_eq_true rfl) ?_
      refine rt_k ?_
      refine v_aload_n 0 dX6_light_24 rfl rfl ?_
      refine v_get fl_X6_68 dX6_light_25 (up_n (by decide) h0) rfl ?_
      refine v_iload_n 2 dX6_light_28 rfl rfl ?_
      refine v_callV (c_X1_part (d + 4) (up_s _ _ _)) cs_X6_179 dX6_light_29 (up_s _ _ _) rfl rfl (Nat.le_of_ble_eq_true rfl) ?_
      refine rt_k ?_
      refine v_lret dX6_light_32 rfl ?_
      exact ⟨by simp only [rLight, if_neg hc5, if_neg hc12, hcn], h.beam _, fun i hi => by repeat (first | rfl | refine up_n (by omega) ?_)⟩
    ·
      refine v_ldc2 kc_X6_174 dX6_light_15 ?_
      refine v_lret dX6_light_18 rfl ?_
      have hE : rLight σ k w = VD := by
        first | (simp only [rLight, if_neg hc5, if_pos hc12]; done) | grind [rLight]
      rw [hE]
      exact ⟨rfl, h, Fo.rf μ⟩

set_option maxRecDepth 20000 in
set_option maxHeartbeats 4000000 in
theorem c_X6_left {G : Cx} (d : Nat) {μ : Hp} {σ : ST} {k : Int32} {w : Int32} (h : Cl σ μ) (hw : Wp (sP σ)) : Ct G (d + 5) 0 0 M_X6_left [.ref 0, .int k, .int w] μ (Po (σ) (.long (rLeft σ k w)) μ) := by
  refine Ct.ofV (by decide +kernel) (Nat.le_of_ble_eq_true rfl) ?_
  refine v_ls (ls' := [(0, .ref 0), (1, .int k), (2, .int w)]) rfl ?_
  obtain ⟨h0, ⟨p, h1, h2, h3, h4, h5, h6, h7, h8, h9, hpl⟩, ⟨bk, hbk, pk, k11, k12, k13, k14, k15, k16, k17, k18, k19, hpk⟩, ⟨h20, h21, h22, h23, h24⟩, ⟨tt, ops, cd, kk, pp, ff, h25, h26, h27, h28, htp, ht60⟩, ⟨h29, h30, h31⟩, ⟨⟨oc, hoc⟩, h37, h38, h39⟩, hsx, ⟨B0, B1, B2, h50, h51, h52⟩⟩ := id h
  have hl8 := hw.1
  refine v_aload_n 0 dX6_left_0 rfl rfl ?_
  refine v_iload_n 1 dX6_left_1 rfl rfl ?_
  refine v_callV (c_X6_isBehind (d + 4) h0 h1) cs_X6_168 dX6_left_2 h0 rfl rfl (Nat.le_of_ble_eq_true rfl) ?_
  refine rt_k ?_
  refine v_if_eq (tgt := 15) dX6_left_5 (by decide) (fun hc5 => ?_) (fun hc5 => ?_)
  ·
    refine v_ldc2 kc_X6_174 dX6_left_15 ?_
    refine v_lret dX6_left_18 rfl ?_
    have hE : rLeft σ k w = VD := by
      first | (simp only [rLeft, if_pos hc5]; done) | grind [rLeft]
    rw [hE]
    exact ⟨rfl, h, Fo.rf μ⟩
  ·
    refine v_iload_n 2 dX6_left_8 rfl rfl ?_
    refine v_callS (c_X6_isFractionPart (d + 4) ) cs_X6_183 dX6_left_9 rfl rfl (Nat.le_of_ble_eq_true rfl) ?_
    refine rt_k ?_
    refine v_if_ne (tgt := 19) dX6_left_12 (by decide) (fun hc12 => ?_) (fun hc12 => ?_)
    ·
      obtain ⟨n, hn9, rfl⟩ := be_ix (by omega) hc5
      have hcn : (nI n).toNatClampNeg = n := clamp (by omega)
      refine v_aload_n 0 dX6_left_19 rfl rfl ?_
      refine v_iload_n 1 dX6_left_20 rfl rfl ?_
      refine v_callV (c_X6_shineBehind d h0 h1 h2 h3 hpl hl8 h50 (by omega)) cs_X6_176 dX6_left_21 h0 rfl rfl (Nat.le_of_ble_eq_true rfl) ?_
      refine rt_k ?_
      refine v_aload_n 0 dX6_left_24 rfl rfl ?_
      refine v_iload_n 2 dX6_left_25 rfl rfl ?_
      refine v_callV (c_X6_leftInBeam (d + 1) (σ := σ) (up_n (by decide) h0) (up_n (by decide) h1) (up_n (by decide) h2) (up_s _ _ _)) cs_X6_186 dX6_left_26 (up_n (by decide) h0) rfl rfl (Nat.le_of_ble_eq_true rfl) ?_
      refine rt_k ?_
      refine v_lret dX6_left_29 rfl ?_
      exact ⟨by simp only [rLeft, if_neg hc5, if_neg hc12, hcn], h.beam _, fun i hi => by repeat (first | rfl | refine up_n (by omega) ?_)⟩
    ·
      refine v_ldc2 kc_X6_174 dX6_left_15 ?_
      refine v_lret dX6_left_18 rfl ?_
      have hE : rLeft σ k w = VD := by
        first | (simp only [rLeft, if_neg hc5, if_pos hc12]; done) | grind [rLeft]
      rw [hE]
      exact ⟨rfl, h, Fo.rf μ⟩

set_option maxRecDepth 20000 in
set_option maxHeartbeats 4000000 in
theorem c_X6_degree {G : Cx} (d : Nat) {μ : Hp} {σ : ST} {k : Int32} {w : Int32} (h : Cl σ μ) (hw : Wp (sP σ)) : Ct G (d + 5) 0 0 M_X6_degree [.ref 0, .int k, .int w] μ (Po ((rDegree σ k w).2) (.long ((rDegree σ k w).1)) μ) := by
  refine Ct.ofV (by decide +kernel) (Nat.le_of_ble_eq_true rfl) ?_
  refine v_ls (ls' := [(0, .ref 0), (1, .int k), (2, .int w)]) rfl ?_
  obtain ⟨h0, ⟨p, h1, h2, h3, h4, h5, h6, h7, h8, h9, hpl⟩, ⟨bk, hbk, pk, k11, k12, k13, k14, k15, k16, k17, k18, k19, hpk⟩, ⟨h20, h21, h22, h23, h24⟩, ⟨tt, ops, cd, kk, pp, ff, h25, h26, h27, h28, htp, ht60⟩, ⟨h29, h30, h31⟩, ⟨⟨oc, hoc⟩, h37, h38, h39⟩, hsx, ⟨B0, B1, B2, h50, h51, h52⟩⟩ := id h
  have hl8 := hw.1
  refine v_aload_n 0 dX6_degree_0 rfl rfl ?_
  refine v_iload_n 1 dX6_degree_1 rfl rfl ?_
  refine v_callV (c_X6_isBehind (d + 4) h0 h1) cs_X6_168 dX6_degree_2 h0 rfl rfl (Nat.le_of_ble_eq_true rfl) ?_
  refine rt_k ?_
  refine v_if_eq (tgt := 15) dX6_degree_5 (by decide) (fun hc5 => ?_) (fun hc5 => ?_)
  ·
    refine v_ldc2 kc_X6_174 dX6_degree_15 ?_
    refine v_lret dX6_degree_18 rfl ?_
    have hE : rDegree σ k w = (VD, σ) := by
      first | (simp only [rDegree, if_pos hc5]; done) | grind [rDegree]
    rw [hE]
    exact ⟨rfl, h, Fo.rf μ⟩
  ·
    refine v_iload_n 2 dX6_degree_8 rfl rfl ?_
    refine v_callS (c_X6_isFractionPart (d + 4) ) cs_X6_183 dX6_degree_9 rfl rfl (Nat.le_of_ble_eq_true rfl) ?_
    refine rt_k ?_
    refine v_if_ne (tgt := 19) dX6_degree_12 (by decide) (fun hc12 => ?_) (fun hc12 => ?_)
    ·
      obtain ⟨n, hn9, rfl⟩ := be_ix (by omega) hc5
      have hcn : (nI n).toNatClampNeg = n := clamp (by omega)
      obtain ⟨S9, hS⟩ : ∃ S, shrO (behO σ n) = S := ⟨_, rfl⟩
      refine v_aload_n 0 dX6_degree_19 rfl rfl ?_
      refine v_iload_n 1 dX6_degree_20 rfl rfl ?_
      refine v_callV (c_X6_shineBehind d h0 h1 h2 h3 hpl hl8 h50 (by omega)) cs_X6_176 dX6_degree_21 h0 rfl rfl (Nat.le_of_ble_eq_true rfl) ?_
      refine rt_k ?_
      refine v_aload_n 0 dX6_degree_24 rfl rfl ?_
      refine v_get fl_X6_68 dX6_degree_25 (up_n (by decide) h0) rfl ?_
      refine v_callV (c_X1_isDark (d + 4) (up_s _ _ _)) cs_X6_189 dX6_degree_28 (up_s _ _ _) rfl rfl (Nat.le_of_ble_eq_true rfl) ?_
      refine rt_k ?_
      refine v_if_ne (tgt := 41) dX6_degree_31 (by decide) (fun hc31 => ?_) (fun hc31 => ?_)
      ·
        refine v_ldc2 kc_X6_174 dX6_degree_41 ?_
        refine v_lret dX6_degree_44 rfl ?_
        have hi0 : (behO σ n).1 = 0 := by
          by_cases z : (behO σ n).1 = 0
          · exact z
          · exact absurd (if_neg z) hc31
        have hE : rDegree σ (nI n) w = (VD, σ) := by simp only [rDegree, degO, if_neg hc5, if_neg hc12, hcn, if_pos hi0]
        rw [hE]
        exact ⟨rfl, h.beam _, fun i hi => by repeat (first | rfl | refine up_n (by omega) ?_)⟩
      ·
        refine v_aload_n 0 dX6_degree_34 rfl rfl ?_
        by_cases hf : fstO S9 < 0
        ·
          have hi0 : ¬ (behO σ n).1 = 0 := fun z => by rw [if_pos z] at hc31; exact absurd hc31 (by decide)
          refine v_callV (c_sqA (d + 1) (up_n (by decide) h0) (up_s _ _ _) (up_n (by decide) h29) (up_n (by decide) h30) (up_n (by decide) h31) hS hf) cs_X6_192 dX6_degree_35 (up_n (by decide) h0) rfl rfl (Nat.le_of_ble_eq_true rfl) ?_
          refine rt_k ?_
          refine v_hp (up_up _ _ _ _) ?_
          refine v_if_eq (tgt := 45) dX6_degree_38 (by decide) (fun hc38 => ?_) (fun hc38 => ?_)
          ·
            refine v_aload_n 0 dX6_degree_45 rfl rfl ?_
            refine v_get fl_X6_68 dX6_degree_46 (up_n (by decide) h0) rfl ?_
            refine v_callV (c_X1_sumOfSquares (d + 4) (up_s _ _ _)) cs_X6_195 dX6_degree_49 (up_s _ _ _) rfl rfl (Nat.le_of_ble_eq_true rfl) ?_
            refine rt_k ?_
            refine v_aload_n 0 dX6_degree_52 rfl rfl ?_
            refine v_get fl_X6_68 dX6_degree_53 (up_n (by decide) h0) rfl ?_
            refine v_get fl_X6_199 dX6_degree_56 (up_s _ _ _) rfl ?_
            refine v_aload_n 0 dX6_degree_59 rfl rfl ?_
            refine v_get fl_X6_68 dX6_degree_60 (up_n (by decide) h0) rfl ?_
            refine v_get fl_X6_199 dX6_degree_63 (up_s _ _ _) rfl ?_
            refine v_lmul dX6_degree_66 ?_
            refine v_iload_n 2 dX6_degree_67 rfl rfl ?_
            refine v_callS (c_X6_fraction (d + 2) ) cs_X6_203 dX6_degree_68 rfl rfl (Nat.le_of_ble_eq_true rfl) ?_
            refine rt_k ?_
            refine v_lret dX6_degree_71 rfl ?_
            have hE : rDegree σ (nI n) w = (fraO (sqO S9) (S9.1 * S9.1) w, σ) := by simp only [rDegree, degO, if_neg hc5, if_neg hc12, hcn, if_neg hi0, hS, if_pos hf]
            rw [hE]
            exact ⟨rfl, h.beam _, fun i hi => by repeat (first | rfl | refine up_n (by omega) ?_)⟩
          · exact absurd rfl hc38
        ·
          have hi0 : ¬ (behO σ n).1 = 0 := fun z => by rw [if_pos z] at hc31; exact absurd hc31 (by decide)
          refine v_callV (c_sqB (d + 1) (up_n (by decide) h0) (up_s _ _ _) (up_n (by decide) h29) (up_n (by decide) h30) (up_n (by decide) h31) hS hf) cs_X6_192 dX6_degree_35 (up_n (by decide) h0) rfl rfl (Nat.le_of_ble_eq_true rfl) ?_
          refine rt_k ?_
          refine v_if_eq (tgt := 45) dX6_degree_38 (by decide) (fun hc38 => ?_) (fun hc38 => ?_)
          · exact absurd hc38 (by decide)
          ·
            refine v_ldc2 kc_X6_174 dX6_degree_41 ?_
            refine v_lret dX6_degree_44 rfl ?_
            have hE : rDegree σ (nI n) w = (VD, toW σ (tooW (sW σ) (fstO S9))) := by simp only [rDegree, degO, if_neg hc5, if_neg hc12, hcn, if_neg hi0, hS, if_neg hf]
            rw [hE]
            exact ⟨rfl, (((h.beam _).beam _).forget).note 1 _ _, fun i hi => by repeat (first | rfl | refine up_n (by omega) ?_)⟩
    ·
      refine v_ldc2 kc_X6_174 dX6_degree_15 ?_
      refine v_lret dX6_degree_18 rfl ?_
      have hE : rDegree σ k w = (VD, σ) := by
        first | (simp only [rDegree, if_neg hc5, if_pos hc12]; done) | grind [rDegree]
      rw [hE]
      exact ⟨rfl, h, Fo.rf μ⟩

set_option maxRecDepth 20000 in
set_option maxHeartbeats 4000000 in
theorem c_X6_sort {G : Cx} (d : Nat) {μ : Hp} {σ : ST} {k : Int32} (h : Cl σ μ) (hw : Wp (sP σ)) : Ct G (d + 5) 0 0 M_X6_sort [.ref 0, .int k] μ (Po ((rSort σ k).2) (.int ((rSort σ k).1)) μ) := by
  refine Ct.ofV (by decide +kernel) (Nat.le_of_ble_eq_true rfl) ?_
  refine v_ls (ls' := [(0, .ref 0), (1, .int k)]) rfl ?_
  obtain ⟨h0, ⟨p, h1, h2, h3, h4, h5, h6, h7, h8, h9, hpl⟩, ⟨bk, hbk, pk, k11, k12, k13, k14, k15, k16, k17, k18, k19, hpk⟩, ⟨h20, h21, h22, h23, h24⟩, ⟨tt, ops, cd, kk, pp, ff, h25, h26, h27, h28, htp, ht60⟩, ⟨h29, h30, h31⟩, ⟨⟨oc, hoc⟩, h37, h38, h39⟩, hsx, ⟨B0, B1, B2, h50, h51, h52⟩⟩ := id h
  have hl8 := hw.1
  refine v_aload_n 0 dX6_sort_0 rfl rfl ?_
  refine v_iload_n 1 dX6_sort_1 rfl rfl ?_
  refine v_callV (c_X6_isBehind (d + 4) h0 h1) cs_X6_168 dX6_sort_2 h0 rfl rfl (Nat.le_of_ble_eq_true rfl) ?_
  refine rt_k ?_
  refine v_if_ne (tgt := 10) dX6_sort_5 (by decide) (fun hc5 => ?_) (fun hc5 => ?_)
  ·
    obtain ⟨n, hn9, rfl⟩ := be_ix (by omega) hc5
    have hcn : (nI n).toNatClampNeg = n := clamp (by omega)
    obtain ⟨S9, hS⟩ : ∃ S, shrO (behO σ n) = S := ⟨_, rfl⟩
    refine v_aload_n 0 dX6_sort_10 rfl rfl ?_
    refine v_iload_n 1 dX6_sort_11 rfl rfl ?_
    refine v_callV (c_X6_shineBehind d h0 h1 h2 h3 hpl hl8 h50 (by omega)) cs_X6_176 dX6_sort_12 h0 rfl rfl (Nat.le_of_ble_eq_true rfl) ?_
    refine rt_k ?_
    refine v_aload_n 0 dX6_sort_15 rfl rfl ?_
    refine v_get fl_X6_68 dX6_sort_16 (up_n (by decide) h0) rfl ?_
    refine v_callV (c_X1_isDark (d + 4) (up_s _ _ _)) cs_X6_189 dX6_sort_19 (up_s _ _ _) rfl rfl (Nat.le_of_ble_eq_true rfl) ?_
    refine rt_k ?_
    refine v_if_eq (tgt := 27) dX6_sort_22 (by decide) (fun hc22 => ?_) (fun hc22 => ?_)
    ·
      have hi0 : ¬ (behO σ n).1 = 0 := fun z => by rw [if_pos z] at hc22; exact absurd hc22 (by decide)
      refine v_aload_n 0 dX6_sort_27 rfl rfl ?_
      refine v_get fl_X6_68 dX6_sort_28 (up_n (by decide) h0) rfl ?_
      refine v_get fl_X6_207 dX6_sort_31 (up_s _ _ _) rfl ?_
      refine v_lconst (v := 0) dX6_sort_34 (by first | rfl | decide) ?_
      refine v_lc_ne (tgt := 65) dX6_sort_35 dX6_sort_36 (by decide) (fun hc35 => ?_) (fun hc35 => ?_)
      ·
        refine v_aload_n 0 dX6_sort_65 rfl rfl ?_
        by_cases hf : fstO S9 < 0
        ·
          have hn3 : ¬ ((behO σ n).2.1 = 0 ∧ (behO σ n).2.2.1 = 0 ∧ (behO σ n).2.2.2.1 = 0) := by
            rintro ⟨z1, z2, z3⟩
            first | exact hc35 z1 | exact hc47 z2 | exact hc59 z3
          refine v_callV (c_sqA (d + 1) (up_n (by decide) h0) (up_s _ _ _) (up_n (by decide) h29) (up_n (by decide) h30) (up_n (by decide) h31) hS hf) cs_X6_192 dX6_sort_66 (up_n (by decide) h0) rfl rfl (Nat.le_of_ble_eq_true rfl) ?_
          refine rt_k ?_
          refine v_hp (up_up _ _ _ _) ?_
          refine v_if_eq (tgt := 75) dX6_sort_69 (by decide) (fun hc69 => ?_) (fun hc69 => ?_)
          ·
            refine v_aload_n 0 dX6_sort_75 rfl rfl ?_
            refine v_get fl_X6_68 dX6_sort_76 (up_n (by decide) h0) rfl ?_
            refine v_callV (c_X1_sumOfSquares (d + 4) (up_s _ _ _)) cs_X6_195 dX6_sort_79 (up_s _ _ _) rfl rfl (Nat.le_of_ble_eq_true rfl) ?_
            refine rt_k ?_
            refine v_aload_n 0 dX6_sort_82 rfl rfl ?_
            refine v_get fl_X6_68 dX6_sort_83 (up_n (by decide) h0) rfl ?_
            refine v_get fl_X6_199 dX6_sort_86 (up_s _ _ _) rfl ?_
            refine v_aload_n 0 dX6_sort_89 rfl rfl ?_
            refine v_get fl_X6_68 dX6_sort_90 (up_n (by decide) h0) rfl ?_
            refine v_get fl_X6_199 dX6_sort_93 (up_s _ _ _) rfl ?_
            refine v_lmul dX6_sort_96 ?_
            refine v_lc_eq (tgt := 103) dX6_sort_97 dX6_sort_98 (by decide) (fun hc97 => ?_) (fun hc97 => ?_)
            ·
              refine v_aload_n 0 dX6_sort_103 rfl rfl ?_
              refine v_get fl_X6_68 dX6_sort_104 (up_n (by decide) h0) rfl ?_
              refine v_get fl_X6_213 dX6_sort_107 (up_s _ _ _) rfl ?_
              refine v_lconst (v := 0) dX6_sort_110 (by first | rfl | decide) ?_
              refine v_lc_ne (tgt := 117) dX6_sort_111 dX6_sort_112 (by decide) (fun hc111 => ?_) (fun hc111 => ?_)
              ·
                refine v_aload_n 0 dX6_sort_117 rfl rfl ?_
                refine v_get fl_X6_68 dX6_sort_118 (up_n (by decide) h0) rfl ?_
                refine v_get fl_X6_207 dX6_sort_121 (up_s _ _ _) rfl ?_
                refine v_lconst (v := 0) dX6_sort_124 (by first | rfl | decide) ?_
                refine v_lc_ne (tgt := 145) dX6_sort_125 dX6_sort_126 (by decide) (fun hc125 => ?_) (fun hc125 => ?_)
                ·
                  refine v_iconst (v := 4) dX6_sort_145 (by first | rfl | decide) ?_
                  refine v_iret dX6_sort_146 rfl (by first | rfl | decide | exact nar_b (by first | assumption | rfl)) ?_
                  have hE : rSort σ (nI n) = (4, σ) := by simp only [rSort, srtO, if_neg hc5, hcn, if_neg hi0, if_neg hn3, hS, if_pos hf, sorO, if_pos hc97, if_neg hc111, if_neg hc125]
                  rw [hE]
                  exact ⟨rfl, h.beam _, fun i hi => by repeat (first | rfl | refine up_n (by omega) ?_)⟩
                ·
                  refine v_aload_n 0 dX6_sort_129 rfl rfl ?_
                  refine v_get fl_X6_68 dX6_sort_130 (up_n (by decide) h0) rfl ?_
                  refine v_get fl_X6_210 dX6_sort_133 (up_s _ _ _) rfl ?_
                  refine v_lconst (v := 0) dX6_sort_136 (by first | rfl | decide) ?_
                  refine v_lc_ne (tgt := 145) dX6_sort_137 dX6_sort_138 (by decide) (fun hc137 => ?_) (fun hc137 => ?_)
                  ·
                    refine v_iconst (v := 4) dX6_sort_145 (by first | rfl | decide) ?_
                    refine v_iret dX6_sort_146 rfl (by first | rfl | decide | exact nar_b (by first | assumption | rfl)) ?_
                    have hE : rSort σ (nI n) = (4, σ) := by simp only [rSort, srtO, if_neg hc5, hcn, if_neg hi0, if_neg hn3, hS, if_pos hf, sorO, if_pos hc97, if_neg hc111, if_pos hc125, if_neg hc137]
                    rw [hE]
                    exact ⟨rfl, h.beam _, fun i hi => by repeat (first | rfl | refine up_n (by omega) ?_)⟩
                  ·
                    refine v_iconst (v := 3) dX6_sort_141 (by first | rfl | decide) ?_
                    refine v_goto (tgt := 146) dX6_sort_142 (by decide) ?_
                    refine v_iret dX6_sort_146 rfl (by first | rfl | decide | exact nar_b (by first | assumption | rfl)) ?_
                    have hE : rSort σ (nI n) = (3, σ) := by simp only [rSort, srtO, if_neg hc5, hcn, if_neg hi0, if_neg hn3, hS, if_pos hf, sorO, if_pos hc97, if_neg hc111, if_pos hc125, if_pos hc137]
                    rw [hE]
                    exact ⟨rfl, h.beam _, fun i hi => by repeat (first | rfl | refine up_n (by omega) ?_)⟩
              ·
                refine v_iconst (v := 2) dX6_sort_115 (by first | rfl | decide) ?_
                refine v_iret dX6_sort_116 rfl (by first | rfl | decide | exact nar_b (by first | assumption | rfl)) ?_
                have hE : rSort σ (nI n) = (2, σ) := by simp only [rSort, srtO, if_neg hc5, hcn, if_neg hi0, if_neg hn3, hS, if_pos hf, sorO, if_pos hc97, if_pos hc111]
                rw [hE]
                exact ⟨rfl, h.beam _, fun i hi => by repeat (first | rfl | refine up_n (by omega) ?_)⟩
            ·
              refine v_iconst (v := 5) dX6_sort_101 (by first | rfl | decide) ?_
              refine v_iret dX6_sort_102 rfl (by first | rfl | decide | exact nar_b (by first | assumption | rfl)) ?_
              have hE : rSort σ (nI n) = (5, σ) := by simp only [rSort, srtO, if_neg hc5, hcn, if_neg hi0, if_neg hn3, hS, if_pos hf, sorO, if_neg hc97]
              rw [hE]
              exact ⟨rfl, h.beam _, fun i hi => by repeat (first | rfl | refine up_n (by omega) ?_)⟩
          · exact absurd rfl hc69
        ·
          have hn3 : ¬ ((behO σ n).2.1 = 0 ∧ (behO σ n).2.2.1 = 0 ∧ (behO σ n).2.2.2.1 = 0) := by
            rintro ⟨z1, z2, z3⟩
            first | exact hc35 z1 | exact hc47 z2 | exact hc59 z3
          refine v_callV (c_sqB (d + 1) (up_n (by decide) h0) (up_s _ _ _) (up_n (by decide) h29) (up_n (by decide) h30) (up_n (by decide) h31) hS hf) cs_X6_192 dX6_sort_66 (up_n (by decide) h0) rfl rfl (Nat.le_of_ble_eq_true rfl) ?_
          refine rt_k ?_
          refine v_if_eq (tgt := 75) dX6_sort_69 (by decide) (fun hc69 => ?_) (fun hc69 => ?_)
          · exact absurd hc69 (by decide)
          ·
            refine v_bipush (v := -9) dX6_sort_72 (by first | rfl | decide) ?_
            refine v_iret dX6_sort_74 rfl (by first | rfl | decide | exact nar_b (by first | assumption | rfl)) ?_
            have hE : rSort σ (nI n) = (-9, toW σ (tooW (sW σ) (fstO S9))) := by simp only [rSort, srtO, if_neg hc5, hcn, if_neg hi0, if_neg hn3, hS, if_neg hf]
            rw [hE]
            exact ⟨rfl, (((h.beam _).beam _).forget).note 1 _ _, fun i hi => by repeat (first | rfl | refine up_n (by omega) ?_)⟩
      ·
        refine v_aload_n 0 dX6_sort_39 rfl rfl ?_
        refine v_get fl_X6_68 dX6_sort_40 (up_n (by decide) h0) rfl ?_
        refine v_get fl_X6_210 dX6_sort_43 (up_s _ _ _) rfl ?_
        refine v_lconst (v := 0) dX6_sort_46 (by first | rfl | decide) ?_
        refine v_lc_ne (tgt := 65) dX6_sort_47 dX6_sort_48 (by decide) (fun hc47 => ?_) (fun hc47 => ?_)
        ·
          refine v_aload_n 0 dX6_sort_65 rfl rfl ?_
          by_cases hf : fstO S9 < 0
          ·
            have hn3 : ¬ ((behO σ n).2.1 = 0 ∧ (behO σ n).2.2.1 = 0 ∧ (behO σ n).2.2.2.1 = 0) := by
              rintro ⟨z1, z2, z3⟩
              first | exact hc35 z1 | exact hc47 z2 | exact hc59 z3
            refine v_callV (c_sqA (d + 1) (up_n (by decide) h0) (up_s _ _ _) (up_n (by decide) h29) (up_n (by decide) h30) (up_n (by decide) h31) hS hf) cs_X6_192 dX6_sort_66 (up_n (by decide) h0) rfl rfl (Nat.le_of_ble_eq_true rfl) ?_
            refine rt_k ?_
            refine v_hp (up_up _ _ _ _) ?_
            refine v_if_eq (tgt := 75) dX6_sort_69 (by decide) (fun hc69 => ?_) (fun hc69 => ?_)
            ·
              refine v_aload_n 0 dX6_sort_75 rfl rfl ?_
              refine v_get fl_X6_68 dX6_sort_76 (up_n (by decide) h0) rfl ?_
              refine v_callV (c_X1_sumOfSquares (d + 4) (up_s _ _ _)) cs_X6_195 dX6_sort_79 (up_s _ _ _) rfl rfl (Nat.le_of_ble_eq_true rfl) ?_
              refine rt_k ?_
              refine v_aload_n 0 dX6_sort_82 rfl rfl ?_
              refine v_get fl_X6_68 dX6_sort_83 (up_n (by decide) h0) rfl ?_
              refine v_get fl_X6_199 dX6_sort_86 (up_s _ _ _) rfl ?_
              refine v_aload_n 0 dX6_sort_89 rfl rfl ?_
              refine v_get fl_X6_68 dX6_sort_90 (up_n (by decide) h0) rfl ?_
              refine v_get fl_X6_199 dX6_sort_93 (up_s _ _ _) rfl ?_
              refine v_lmul dX6_sort_96 ?_
              refine v_lc_eq (tgt := 103) dX6_sort_97 dX6_sort_98 (by decide) (fun hc97 => ?_) (fun hc97 => ?_)
              ·
                refine v_aload_n 0 dX6_sort_103 rfl rfl ?_
                refine v_get fl_X6_68 dX6_sort_104 (up_n (by decide) h0) rfl ?_
                refine v_get fl_X6_213 dX6_sort_107 (up_s _ _ _) rfl ?_
                refine v_lconst (v := 0) dX6_sort_110 (by first | rfl | decide) ?_
                refine v_lc_ne (tgt := 117) dX6_sort_111 dX6_sort_112 (by decide) (fun hc111 => ?_) (fun hc111 => ?_)
                ·
                  refine v_aload_n 0 dX6_sort_117 rfl rfl ?_
                  refine v_get fl_X6_68 dX6_sort_118 (up_n (by decide) h0) rfl ?_
                  refine v_get fl_X6_207 dX6_sort_121 (up_s _ _ _) rfl ?_
                  refine v_lconst (v := 0) dX6_sort_124 (by first | rfl | decide) ?_
                  refine v_lc_ne (tgt := 145) dX6_sort_125 dX6_sort_126 (by decide) (fun hc125 => ?_) (fun hc125 => ?_)
                  ·
                    refine v_iconst (v := 4) dX6_sort_145 (by first | rfl | decide) ?_
                    refine v_iret dX6_sort_146 rfl (by first | rfl | decide | exact nar_b (by first | assumption | rfl)) ?_
                    have hE : rSort σ (nI n) = (4, σ) := by simp only [rSort, srtO, if_neg hc5, hcn, if_neg hi0, if_neg hn3, hS, if_pos hf, sorO, if_pos hc97, if_neg hc111, if_neg hc125]
                    rw [hE]
                    exact ⟨rfl, h.beam _, fun i hi => by repeat (first | rfl | refine up_n (by omega) ?_)⟩
                  ·
                    refine v_aload_n 0 dX6_sort_129 rfl rfl ?_
                    refine v_get fl_X6_68 dX6_sort_130 (up_n (by decide) h0) rfl ?_
                    refine v_get fl_X6_210 dX6_sort_133 (up_s _ _ _) rfl ?_
                    refine v_lconst (v := 0) dX6_sort_136 (by first | rfl | decide) ?_
                    refine v_lc_ne (tgt := 145) dX6_sort_137 dX6_sort_138 (by decide) (fun hc137 => ?_) (fun hc137 => ?_)
                    ·
                      refine v_iconst (v := 4) dX6_sort_145 (by first | rfl | decide) ?_
                      refine v_iret dX6_sort_146 rfl (by first | rfl | decide | exact nar_b (by first | assumption | rfl)) ?_
                      have hE : rSort σ (nI n) = (4, σ) := by simp only [rSort, srtO, if_neg hc5, hcn, if_neg hi0, if_neg hn3, hS, if_pos hf, sorO, if_pos hc97, if_neg hc111, if_pos hc125, if_neg hc137]
                      rw [hE]
                      exact ⟨rfl, h.beam _, fun i hi => by repeat (first | rfl | refine up_n (by omega) ?_)⟩
                    ·
                      refine v_iconst (v := 3) dX6_sort_141 (by first | rfl | decide) ?_
                      refine v_goto (tgt := 146) dX6_sort_142 (by decide) ?_
                      refine v_iret dX6_sort_146 rfl (by first | rfl | decide | exact nar_b (by first | assumption | rfl)) ?_
                      have hE : rSort σ (nI n) = (3, σ) := by simp only [rSort, srtO, if_neg hc5, hcn, if_neg hi0, if_neg hn3, hS, if_pos hf, sorO, if_pos hc97, if_neg hc111, if_pos hc125, if_pos hc137]
                      rw [hE]
                      exact ⟨rfl, h.beam _, fun i hi => by repeat (first | rfl | refine up_n (by omega) ?_)⟩
                ·
                  refine v_iconst (v := 2) dX6_sort_115 (by first | rfl | decide) ?_
                  refine v_iret dX6_sort_116 rfl (by first | rfl | decide | exact nar_b (by first | assumption | rfl)) ?_
                  have hE : rSort σ (nI n) = (2, σ) := by simp only [rSort, srtO, if_neg hc5, hcn, if_neg hi0, if_neg hn3, hS, if_pos hf, sorO, if_pos hc97, if_pos hc111]
                  rw [hE]
                  exact ⟨rfl, h.beam _, fun i hi => by repeat (first | rfl | refine up_n (by omega) ?_)⟩
              ·
                refine v_iconst (v := 5) dX6_sort_101 (by first | rfl | decide) ?_
                refine v_iret dX6_sort_102 rfl (by first | rfl | decide | exact nar_b (by first | assumption | rfl)) ?_
                have hE : rSort σ (nI n) = (5, σ) := by simp only [rSort, srtO, if_neg hc5, hcn, if_neg hi0, if_neg hn3, hS, if_pos hf, sorO, if_neg hc97]
                rw [hE]
                exact ⟨rfl, h.beam _, fun i hi => by repeat (first | rfl | refine up_n (by omega) ?_)⟩
            · exact absurd rfl hc69
          ·
            have hn3 : ¬ ((behO σ n).2.1 = 0 ∧ (behO σ n).2.2.1 = 0 ∧ (behO σ n).2.2.2.1 = 0) := by
              rintro ⟨z1, z2, z3⟩
              first | exact hc35 z1 | exact hc47 z2 | exact hc59 z3
            refine v_callV (c_sqB (d + 1) (up_n (by decide) h0) (up_s _ _ _) (up_n (by decide) h29) (up_n (by decide) h30) (up_n (by decide) h31) hS hf) cs_X6_192 dX6_sort_66 (up_n (by decide) h0) rfl rfl (Nat.le_of_ble_eq_true rfl) ?_
            refine rt_k ?_
            refine v_if_eq (tgt := 75) dX6_sort_69 (by decide) (fun hc69 => ?_) (fun hc69 => ?_)
            · exact absurd hc69 (by decide)
            ·
              refine v_bipush (v := -9) dX6_sort_72 (by first | rfl | decide) ?_
              refine v_iret dX6_sort_74 rfl (by first | rfl | decide | exact nar_b (by first | assumption | rfl)) ?_
              have hE : rSort σ (nI n) = (-9, toW σ (tooW (sW σ) (fstO S9))) := by simp only [rSort, srtO, if_neg hc5, hcn, if_neg hi0, if_neg hn3, hS, if_neg hf]
              rw [hE]
              exact ⟨rfl, (((h.beam _).beam _).forget).note 1 _ _, fun i hi => by repeat (first | rfl | refine up_n (by omega) ?_)⟩
        ·
          refine v_aload_n 0 dX6_sort_51 rfl rfl ?_
          refine v_get fl_X6_68 dX6_sort_52 (up_n (by decide) h0) rfl ?_
          refine v_get fl_X6_213 dX6_sort_55 (up_s _ _ _) rfl ?_
          refine v_lconst (v := 0) dX6_sort_58 (by first | rfl | decide) ?_
          refine v_lc_ne (tgt := 65) dX6_sort_59 dX6_sort_60 (by decide) (fun hc59 => ?_) (fun hc59 => ?_)
          ·
            refine v_aload_n 0 dX6_sort_65 rfl rfl ?_
            by_cases hf : fstO S9 < 0
            ·
              have hn3 : ¬ ((behO σ n).2.1 = 0 ∧ (behO σ n).2.2.1 = 0 ∧ (behO σ n).2.2.2.1 = 0) := by
                rintro ⟨z1, z2, z3⟩
                first | exact hc35 z1 | exact hc47 z2 | exact hc59 z3
              refine v_callV (c_sqA (d + 1) (up_n (by decide) h0) (up_s _ _ _) (up_n (by decide) h29) (up_n (by decide) h30) (up_n (by decide) h31) hS hf) cs_X6_192 dX6_sort_66 (up_n (by decide) h0) rfl rfl (Nat.le_of_ble_eq_true rfl) ?_
              refine rt_k ?_
              refine v_hp (up_up _ _ _ _) ?_
              refine v_if_eq (tgt := 75) dX6_sort_69 (by decide) (fun hc69 => ?_) (fun hc69 => ?_)
              ·
                refine v_aload_n 0 dX6_sort_75 rfl rfl ?_
                refine v_get fl_X6_68 dX6_sort_76 (up_n (by decide) h0) rfl ?_
                refine v_callV (c_X1_sumOfSquares (d + 4) (up_s _ _ _)) cs_X6_195 dX6_sort_79 (up_s _ _ _) rfl rfl (Nat.le_of_ble_eq_true rfl) ?_
                refine rt_k ?_
                refine v_aload_n 0 dX6_sort_82 rfl rfl ?_
                refine v_get fl_X6_68 dX6_sort_83 (up_n (by decide) h0) rfl ?_
                refine v_get fl_X6_199 dX6_sort_86 (up_s _ _ _) rfl ?_
                refine v_aload_n 0 dX6_sort_89 rfl rfl ?_
                refine v_get fl_X6_68 dX6_sort_90 (up_n (by decide) h0) rfl ?_
                refine v_get fl_X6_199 dX6_sort_93 (up_s _ _ _) rfl ?_
                refine v_lmul dX6_sort_96 ?_
                refine v_lc_eq (tgt := 103) dX6_sort_97 dX6_sort_98 (by decide) (fun hc97 => ?_) (fun hc97 => ?_)
                ·
                  refine v_aload_n 0 dX6_sort_103 rfl rfl ?_
                  refine v_get fl_X6_68 dX6_sort_104 (up_n (by decide) h0) rfl ?_
                  refine v_get fl_X6_213 dX6_sort_107 (up_s _ _ _) rfl ?_
                  refine v_lconst (v := 0) dX6_sort_110 (by first | rfl | decide) ?_
                  refine v_lc_ne (tgt := 117) dX6_sort_111 dX6_sort_112 (by decide) (fun hc111 => ?_) (fun hc111 => ?_)
                  ·
                    refine v_aload_n 0 dX6_sort_117 rfl rfl ?_
                    refine v_get fl_X6_68 dX6_sort_118 (up_n (by decide) h0) rfl ?_
                    refine v_get fl_X6_207 dX6_sort_121 (up_s _ _ _) rfl ?_
                    refine v_lconst (v := 0) dX6_sort_124 (by first | rfl | decide) ?_
                    refine v_lc_ne (tgt := 145) dX6_sort_125 dX6_sort_126 (by decide) (fun hc125 => ?_) (fun hc125 => ?_)
                    ·
                      refine v_iconst (v := 4) dX6_sort_145 (by first | rfl | decide) ?_
                      refine v_iret dX6_sort_146 rfl (by first | rfl | decide | exact nar_b (by first | assumption | rfl)) ?_
                      have hE : rSort σ (nI n) = (4, σ) := by simp only [rSort, srtO, if_neg hc5, hcn, if_neg hi0, if_neg hn3, hS, if_pos hf, sorO, if_pos hc97, if_neg hc111, if_neg hc125]
                      rw [hE]
                      exact ⟨rfl, h.beam _, fun i hi => by repeat (first | rfl | refine up_n (by omega) ?_)⟩
                    ·
                      refine v_aload_n 0 dX6_sort_129 rfl rfl ?_
                      refine v_get fl_X6_68 dX6_sort_130 (up_n (by decide) h0) rfl ?_
                      refine v_get fl_X6_210 dX6_sort_133 (up_s _ _ _) rfl ?_
                      refine v_lconst (v := 0) dX6_sort_136 (by first | rfl | decide) ?_
                      refine v_lc_ne (tgt := 145) dX6_sort_137 dX6_sort_138 (by decide) (fun hc137 => ?_) (fun hc137 => ?_)
                      ·
                        refine v_iconst (v := 4) dX6_sort_145 (by first | rfl | decide) ?_
                        refine v_iret dX6_sort_146 rfl (by first | rfl | decide | exact nar_b (by first | assumption | rfl)) ?_
                        have hE : rSort σ (nI n) = (4, σ) := by simp only [rSort, srtO, if_neg hc5, hcn, if_neg hi0, if_neg hn3, hS, if_pos hf, sorO, if_pos hc97, if_neg hc111, if_pos hc125, if_neg hc137]
                        rw [hE]
                        exact ⟨rfl, h.beam _, fun i hi => by repeat (first | rfl | refine up_n (by omega) ?_)⟩
                      ·
                        refine v_iconst (v := 3) dX6_sort_141 (by first | rfl | decide) ?_
                        refine v_goto (tgt := 146) dX6_sort_142 (by decide) ?_
                        refine v_iret dX6_sort_146 rfl (by first | rfl | decide | exact nar_b (by first | assumption | rfl)) ?_
                        have hE : rSort σ (nI n) = (3, σ) := by simp only [rSort, srtO, if_neg hc5, hcn, if_neg hi0, if_neg hn3, hS, if_pos hf, sorO, if_pos hc97, if_neg hc111, if_pos hc125, if_pos hc137]
                        rw [hE]
                        exact ⟨rfl, h.beam _, fun i hi => by repeat (first | rfl | refine up_n (by omega) ?_)⟩
                  ·
                    refine v_iconst (v := 2) dX6_sort_115 (by first | rfl | decide) ?_
                    refine v_iret dX6_sort_116 rfl (by first | rfl | decide | exact nar_b (by first | assumption | rfl)) ?_
                    have hE : rSort σ (nI n) = (2, σ) := by simp only [rSort, srtO, if_neg hc5, hcn, if_neg hi0, if_neg hn3, hS, if_pos hf, sorO, if_pos hc97, if_pos hc111]
                    rw [hE]
                    exact ⟨rfl, h.beam _, fun i hi => by repeat (first | rfl | refine up_n (by omega) ?_)⟩
                ·
                  refine v_iconst (v := 5) dX6_sort_101 (by first | rfl | decide) ?_
                  refine v_iret dX6_sort_102 rfl (by first | rfl | decide | exact nar_b (by first | assumption | rfl)) ?_
                  have hE : rSort σ (nI n) = (5, σ) := by simp only [rSort, srtO, if_neg hc5, hcn, if_neg hi0, if_neg hn3, hS, if_pos hf, sorO, if_neg hc97]
                  rw [hE]
                  exact ⟨rfl, h.beam _, fun i hi => by repeat (first | rfl | refine up_n (by omega) ?_)⟩
              · exact absurd rfl hc69
            ·
              have hn3 : ¬ ((behO σ n).2.1 = 0 ∧ (behO σ n).2.2.1 = 0 ∧ (behO σ n).2.2.2.1 = 0) := by
                rintro ⟨z1, z2, z3⟩
                first | exact hc35 z1 | exact hc47 z2 | exact hc59 z3
              refine v_callV (c_sqB (d + 1) (up_n (by decide) h0) (up_s _ _ _) (up_n (by decide) h29) (up_n (by decide) h30) (up_n (by decide) h31) hS hf) cs_X6_192 dX6_sort_66 (up_n (by decide) h0) rfl rfl (Nat.le_of_ble_eq_true rfl) ?_
              refine rt_k ?_
              refine v_if_eq (tgt := 75) dX6_sort_69 (by decide) (fun hc69 => ?_) (fun hc69 => ?_)
              · exact absurd hc69 (by decide)
              ·
                refine v_bipush (v := -9) dX6_sort_72 (by first | rfl | decide) ?_
                refine v_iret dX6_sort_74 rfl (by first | rfl | decide | exact nar_b (by first | assumption | rfl)) ?_
                have hE : rSort σ (nI n) = (-9, toW σ (tooW (sW σ) (fstO S9))) := by simp only [rSort, srtO, if_neg hc5, hcn, if_neg hi0, if_neg hn3, hS, if_neg hf]
                rw [hE]
                exact ⟨rfl, (((h.beam _).beam _).forget).note 1 _ _, fun i hi => by repeat (first | rfl | refine up_n (by omega) ?_)⟩
          ·
            refine v_iconst (v := 1) dX6_sort_63 (by first | rfl | decide) ?_
            refine v_iret dX6_sort_64 rfl (by first | rfl | decide | exact nar_b (by first | assumption | rfl)) ?_
            have hE : rSort σ (nI n) = (1, σ) := by simp only [rSort, srtO, if_neg hc5, hcn, if_neg hi0, if_pos (And.intro hc35 (And.intro hc47 hc59))]
            rw [hE]
            exact ⟨rfl, h.beam _, fun i hi => by repeat (first | rfl | refine up_n (by omega) ?_)⟩
    ·
      refine v_iconst (v := 0) dX6_sort_25 (by first | rfl | decide) ?_
      refine v_iret dX6_sort_26 rfl (by first | rfl | decide | exact nar_b (by first | assumption | rfl)) ?_
      have hi0 : (behO σ n).1 = 0 := by
        by_cases z : (behO σ n).1 = 0
        · exact z
        · exact absurd (if_neg z) hc22
      have hE : rSort σ (nI n) = (0, σ) := by simp only [rSort, srtO, if_neg hc5, hcn, if_pos hi0]
      rw [hE]
      exact ⟨rfl, h.beam _, fun i hi => by repeat (first | rfl | refine up_n (by omega) ?_)⟩
  ·
    refine v_iconst (v := -1) dX6_sort_8 (by first | rfl | decide) ?_
    refine v_iret dX6_sort_9 rfl (by first | rfl | decide | exact nar_b (by first | assumption | rfl)) ?_
    have hE : rSort σ k = (-1, σ) := by
      first | (simp only [rSort, if_pos hc5]; done) | grind [rSort]
    rw [hE]
    exact ⟨rfl, h, Fo.rf μ⟩

