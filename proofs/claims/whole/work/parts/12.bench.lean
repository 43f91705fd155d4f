theorem nI_m1 {k : Nat} (h : 0 < k) : nI k + (-1) = nI (k - 1) := by
  obtain ⟨j, rfl⟩ : ∃ j, k = j + 1 := ⟨k - 1, by omega⟩
  exact pk_m1 j
set_option maxRecDepth 20000 in
set_option maxHeartbeats 4000000 in
theorem c_X6_isPlateOrRotator {G : Cx} (d : Nat) {μ : Hp} {k : Int32}  : Ct G (d) 0 0 M_X6_isPlateOrRotator [.int k] μ (Rt (some (.int (prO k))) μ) := by
  refine Ct.ofV (by decide +kernel) (Nat.le_of_ble_eq_true rfl) ?_
  refine v_ls (ls' := [(0, .int k)]) rfl ?_
  refine v_iload_n 0 dX6_isPlateOrRotator_0 rfl rfl ?_
  refine v_iconst (v := 4) dX6_isPlateOrRotator_1 (by first | rfl | decide) ?_
  refine v_icmp_eq (tgt := 10) dX6_isPlateOrRotator_2 (by decide) (fun c2 => ?_) (fun c2 => ?_)
  ·
    refine v_iconst (v := 1) dX6_isPlateOrRotator_10 (by first | rfl | decide) ?_
    refine v_goto (tgt := 15) dX6_isPlateOrRotator_11 (by decide) ?_
    refine v_iret dX6_isPlateOrRotator_15 rfl (by first | rfl | decide | exact nar_b (by first | assumption | rfl)) ?_
    exact ⟨by simp only [prO, spO, if_pos c2], rfl⟩
  ·
    refine v_iload_n 0 dX6_isPlateOrRotator_5 rfl rfl ?_
    refine v_iconst (v := 5) dX6_isPlateOrRotator_6 (by first | rfl | decide) ?_
    refine v_icmp_ne (tgt := 14) dX6_isPlateOrRotator_7 (by decide) (fun c7 => ?_) (fun c7 => ?_)
    ·
      refine v_iconst (v := 0) dX6_isPlateOrRotator_14 (by first | rfl | decide) ?_
      refine v_iret dX6_isPlateOrRotator_15 rfl (by first | rfl | decide | exact nar_b (by first | assumption | rfl)) ?_
      exact ⟨by simp only [prO, spO, if_neg c2, if_neg c7], rfl⟩
    ·
      refine v_iconst (v := 1) dX6_isPlateOrRotator_10 (by first | rfl | decide) ?_
      refine v_goto (tgt := 15) dX6_isPlateOrRotator_11 (by decide) ?_
      refine v_iret dX6_isPlateOrRotator_15 rfl (by first | rfl | decide | exact nar_b (by first | assumption | rfl)) ?_
      exact ⟨by simp only [prO, spO, if_neg c2, if_pos c7], rfl⟩

set_option maxRecDepth 20000 in
set_option maxHeartbeats 4000000 in
theorem c_X6_isSheetOrPolar {G : Cx} (d : Nat) {μ : Hp} {k : Int32}  : Ct G (d) 0 0 M_X6_isSheetOrPolar [.int k] μ (Rt (some (.int (spO k))) μ) := by
  refine Ct.ofV (by decide +kernel) (Nat.le_of_ble_eq_true rfl) ?_
  refine v_ls (ls' := [(0, .int k)]) rfl ?_
  refine v_iload_n 0 dX6_isSheetOrPolar_0 rfl rfl ?_
  refine v_iconst (v := 2) dX6_isSheetOrPolar_1 (by first | rfl | decide) ?_
  refine v_icmp_eq (tgt := 10) dX6_isSheetOrPolar_2 (by decide) (fun c2 => ?_) (fun c2 => ?_)
  ·
    refine v_iconst (v := 1) dX6_isSheetOrPolar_10 (by first | rfl | decide) ?_
    refine v_goto (tgt := 15) dX6_isSheetOrPolar_11 (by decide) ?_
    refine v_iret dX6_isSheetOrPolar_15 rfl (by first | rfl | decide | exact nar_b (by first | assumption | rfl)) ?_
    exact ⟨by simp only [prO, spO, if_pos c2], rfl⟩
  ·
    refine v_iload_n 0 dX6_isSheetOrPolar_5 rfl rfl ?_
    refine v_iconst (v := 3) dX6_isSheetOrPolar_6 (by first | rfl | decide) ?_
    refine v_icmp_ne (tgt := 14) dX6_isSheetOrPolar_7 (by decide) (fun c7 => ?_) (fun c7 => ?_)
    ·
      refine v_iconst (v := 0) dX6_isSheetOrPolar_14 (by first | rfl | decide) ?_
      refine v_iret dX6_isSheetOrPolar_15 rfl (by first | rfl | decide | exact nar_b (by first | assumption | rfl)) ?_
      exact ⟨by simp only [prO, spO, if_neg c2, if_neg c7], rfl⟩
    ·
      refine v_iconst (v := 1) dX6_isSheetOrPolar_10 (by first | rfl | decide) ?_
      refine v_goto (tgt := 15) dX6_isSheetOrPolar_11 (by decide) ?_
      refine v_iret dX6_isSheetOrPolar_15 rfl (by first | rfl | decide | exact nar_b (by first | assumption | rfl)) ?_
      exact ⟨by simp only [prO, spO, if_neg c2, if_pos c7], rfl⟩

set_option maxRecDepth 20000 in
set_option maxHeartbeats 4000000 in
theorem c_X0_has {G : Cx} (d : Nat) {μ : Hp} {n i : Int32} (h1 : μ 1 = some (benC 2 3 n 4 5 9)) : Ct G (d) 0 0 M_X0_has [.ref 1, .int i] μ (Rt (some (.int (if i < 0 then 0 else if n ≤ i then 0 else 1))) μ) := by
  refine Ct.ofV (by decide +kernel) (Nat.le_of_ble_eq_true rfl) ?_
  refine v_ls (ls' := [(0, .ref 1), (1, .int i)]) rfl ?_
  refine v_iload_n 1 dX0_has_0 rfl rfl ?_
  refine v_if_lt (tgt := 16) dX0_has_1 (by decide) (fun c1 => ?_) (fun c1 => ?_)
  ·
    refine v_iconst (v := 0) dX0_has_16 (by first | rfl | decide) ?_
    refine v_iret dX0_has_17 rfl (by first | rfl | decide | exact nar_b (by first | assumption | rfl)) ?_
    exact ⟨by simp only [if_pos c1, if_neg (Int32.not_le.mpr c1)], rfl⟩
  ·
    refine v_iload_n 1 dX0_has_4 rfl rfl ?_
    refine v_aload_n 0 dX0_has_5 rfl rfl ?_
    refine v_get fl_X0_44 dX0_has_6 h1 rfl ?_
    refine v_icmp_ge (tgt := 16) dX0_has_9 (by decide) (fun c9 => ?_) (fun c9 => ?_)
    ·
      refine v_iconst (v := 0) dX0_has_16 (by first | rfl | decide) ?_
      refine v_iret dX0_has_17 rfl (by first | rfl | decide | exact nar_b (by first | assumption | rfl)) ?_
      exact ⟨by simp only [if_neg c1, if_pos (Int32.not_lt.mp c1), if_pos c9, if_neg (Int32.not_lt.mpr c9)], rfl⟩
    ·
      refine v_iconst (v := 1) dX0_has_12 (by first | rfl | decide) ?_
      refine v_goto (tgt := 17) dX0_has_13 (by decide) ?_
      refine v_iret dX0_has_17 rfl (by first | rfl | decide | exact nar_b (by first | assumption | rfl)) ?_
      exact ⟨by simp only [if_neg c1, if_pos (Int32.not_lt.mp c1), if_neg c9, if_pos (Int32.not_le.mp c9)], rfl⟩

set_option maxRecDepth 20000 in
set_option maxHeartbeats 4000000 in
theorem c_X0_append {G : Cx} (d : Nat) {μ : Hp} {l : List Int32} {p : Nat → Int32} {c : Int32} (h1 : μ 1 = some (benC 2 3 (nI l.length) 4 5 9)) (h3 : μ 3 = some (arI 8 p)) (hl : Pl l p) (h8 : l.length ≤ 8) : Ct G (d) 0 0 M_X0_append [.ref 1, .int c] μ (Rt (some (.int (if l.length = 8 then -4 else nI l.length))) (if l.length = 8 then μ else up (up μ 3 (arI 8 (upd p l.length c))) 1 (benC 2 3 (nI (l.length + 1)) 4 5 9))) := by
  refine Ct.ofV (by decide +kernel) (Nat.le_of_ble_eq_true rfl) ?_
  refine v_ls (ls' := [(0, .ref 1), (1, .int c)]) rfl ?_
  have h6 : nI l.length < 8 → l.length < 8 := fun c => (nI_ltI (b := 8) (by omega) (by decide)).mp c
  have h6n : ¬ nI l.length < 8 → l.length = 8 := fun c => by
    have : ¬ l.length < 8 := fun z => c ((nI_ltI (b := 8) (by omega) (by decide)).mpr z)
    omega
  refine v_aload_n 0 dX0_append_0 rfl rfl ?_
  refine v_get fl_X0_44 dX0_append_1 h1 rfl ?_
  refine v_bipush (v := 8) dX0_append_4 (by first | rfl | decide) ?_
  refine v_icmp_lt (tgt := 12) dX0_append_6 (by decide) (fun c6 => ?_) (fun c6 => ?_)
  ·
    refine v_aload_n 0 dX0_append_12 rfl rfl ?_
    refine v_get fl_X0_18 dX0_append_13 h1 rfl ?_
    refine v_aload_n 0 dX0_append_16 rfl rfl ?_
    refine v_get fl_X0_44 dX0_append_17 h1 rfl ?_
    refine v_iload_n 1 dX0_append_20 rfl rfl ?_
    refine v_iast dX0_append_21 h3 (nI_in' (h6 c6)) ?_
    refine v_aload_n 0 dX0_append_22 rfl rfl ?_
    refine v_dup dX0_append_23 rfl ?_
    refine v_get fl_X0_44 dX0_append_24 (up_n (by decide) h1) rfl ?_
    refine v_iconst (v := 1) dX0_append_27 (by first | rfl | decide) ?_
    refine v_iadd dX0_append_28 ?_
    refine v_put fp_X0_44 dX0_append_29 (up_n (by decide) h1) (Nat.le_of_ble_eq_true rfl) (by first | rfl | decide) (by first | rfl | decide) ?_
    refine v_aload_n 0 dX0_append_32 rfl rfl ?_
    refine v_get fl_X0_44 dX0_append_33 (up_s _ _ _) rfl ?_
    refine v_iconst (v := 1) dX0_append_36 (by first | rfl | decide) ?_
    refine v_isub dX0_append_37 ?_
    refine v_iret dX0_append_38 rfl (by first | rfl | decide | exact nar_b (by first | assumption | rfl)) ?_
    have h := h6 c6
    exact ⟨by rw [if_neg (by omega)]; congr 2; rw [nI_1]; exact nI_pred _, by rw [if_neg (by omega), clamp (by omega), nI_1]; rfl⟩
  ·
    refine v_bipush (v := -4) dX0_append_9 (by first | rfl | decide) ?_
    refine v_iret dX0_append_11 rfl (by first | rfl | decide | exact nar_b (by first | assumption | rfl)) ?_
    have h := h6n c6
    exact ⟨by rw [if_pos h], by rw [if_pos h]⟩

set_option maxRecDepth 20000 in
set_option maxHeartbeats 4000000 in
theorem takeOut_loop {G : Cx} (d : Nat) {μ : Hp} {l : List Int32} {p : Nat → Int32} {i : Nat} (h1 : μ 1 = some (benC 2 3 (nI l.length) 4 5 9)) (h8 : l.length ≤ 8) (hi : i < l.length) : ∀ (m : Nat) (j : Nat) (q : Nat → Int32), j + 1 + m = l.length → i ≤ j → (∀ x, x < 8 → q x = if i ≤ x ∧ x < j then p (x + 1) else p x) → V G M_X0_takeOut (d + 0) 0 0 (fun r μ' => r = none ∧ ∃ q, μ' = up (up μ 3 (arI 8 q)) 1 (benC 2 3 (nI (l.length - 1)) 4 5 9) ∧ ∀ x, x + 1 < l.length → q x = if i ≤ x then p (x + 1) else p x) 2 [(2, .int (nI j)), (0, .ref 1), (1, .int (nI i))] [] (up μ 3 (arI 8 q)) := by
  intro m
  induction m with
  | zero =>
    intro j q hj hij hq
    refine v_iload_n 0 dX0_takeOut_2 rfl rfl ?_
    refine v_iconst (v := 1) dX0_takeOut_3 (by first | rfl | decide) ?_
    refine v_iadd dX0_takeOut_4 ?_
    refine v_aload_n 1 dX0_takeOut_5 rfl rfl ?_
    refine v_get fl_X0_44 dX0_takeOut_6 (up_n (by decide) h1) rfl ?_
    refine v_icmp_ge (tgt := 32) dX0_takeOut_9 (by decide) (fun c9 => ?_) (fun c9 => ?_)
    ·
      refine v_aload_n 1 dX0_takeOut_32 rfl rfl ?_
      refine v_dup dX0_takeOut_33 rfl ?_
      refine v_get fl_X0_44 dX0_takeOut_34 (up_n (by decide) h1) rfl ?_
      refine v_iconst (v := 1) dX0_takeOut_37 (by first | rfl | decide) ?_
      refine v_isub dX0_takeOut_38 ?_
      refine v_put fp_X0_44 dX0_takeOut_39 (up_n (by decide) h1) (Nat.le_of_ble_eq_true rfl) (by first | rfl | decide) (by first | rfl | decide) ?_
      refine v_vret dX0_takeOut_42 rfl ?_
      exact ⟨rfl, q, by rw [nI_sub1 (by omega)]; rfl, fun x hx => by
        rw [hq x (by omega)]
        by_cases e : i ≤ x
        · rw [if_pos e, if_pos ⟨e, by omega⟩]
        · rw [if_neg e, if_neg (fun z => e z.1)]⟩
    · exact absurd ((nI_leI (by omega) (by omega)).mpr (by omega)) (show ¬ nI l.length ≤ nI (j + 1) from by rw [← nI_1]; exact c9)
  | succ m ih =>
    intro j q hj hij hq
    refine v_iload_n 0 dX0_takeOut_2 rfl rfl ?_
    refine v_iconst (v := 1) dX0_takeOut_3 (by first | rfl | decide) ?_
    refine v_iadd dX0_takeOut_4 ?_
    refine v_aload_n 1 dX0_takeOut_5 rfl rfl ?_
    refine v_get fl_X0_44 dX0_takeOut_6 (up_n (by decide) h1) rfl ?_
    refine v_icmp_ge (tgt := 32) dX0_takeOut_9 (by decide) (fun c9 => ?_) (fun c9 => ?_)
    · exact absurd ((nI_leI (by omega) (by omega)).mp (show nI l.length ≤ nI (j + 1) from by rw [← nI_1]; exact c9)) (by omega)
    ·
      refine v_aload_n 1 dX0_takeOut_12 rfl rfl ?_
      refine v_get fl_X0_18 dX0_takeOut_13 (up_n (by decide) h1) rfl ?_
      refine v_iload_n 0 dX0_takeOut_16 rfl rfl ?_
      refine v_aload_n 1 dX0_takeOut_17 rfl rfl ?_
      refine v_get fl_X0_18 dX0_takeOut_18 (up_n (by decide) h1) rfl ?_
      refine v_iload_n 0 dX0_takeOut_21 rfl rfl ?_
      refine v_iconst (v := 1) dX0_takeOut_22 (by first | rfl | decide) ?_
      refine v_iadd dX0_takeOut_23 ?_
      refine v_iald dX0_takeOut_24 (up_s _ _ _) (by rw [nI_1]; exact nI_in' (by omega)) ?_
      refine v_iast dX0_takeOut_25 (up_s _ _ _) (nI_in' (by omega)) ?_
      refine v_hp (up_up _ _ _ _) ?_
      refine v_iinc (v := 1) 0 dX0_takeOut_26 rfl rfl (by decide) (fun z e_z => ?_)
      refine v_ls (ls' := [(2, .int z), (0, .ref 1), (1, .int (nI i))]) rfl ?_
      rw [nI_1] at e_z
      subst e_z
      refine v_goto (tgt := 2) dX0_takeOut_29 (by decide) ?_
      exact ih (j + 1) _ (by omega) (by omega) (fun x hx => by
        rw [clamp (by omega), nI_1, clamp (by omega)]
        show (if x = j then _ else _) = _
        by_cases e : x = j
        · rw [if_pos e, hq (j + 1) (by omega), if_neg (by omega), e]
          by_cases e2 : i ≤ j
          · rw [if_pos ⟨e2, by omega⟩]
          · omega
        · rw [if_neg e, hq x hx]
          by_cases e2 : i ≤ x ∧ x < j
          · rw [if_pos e2, if_pos ⟨e2.1, by omega⟩]
          · rw [if_neg e2, if_neg (fun z => e2 ⟨z.1, by omega⟩)])
      

set_option maxRecDepth 20000 in
set_option maxHeartbeats 4000000 in
theorem c_X0_takeOut {G : Cx} (d : Nat) {μ : Hp} {l : List Int32} {p : Nat → Int32} {i : Nat} (h1 : μ 1 = some (benC 2 3 (nI l.length) 4 5 9)) (h3 : μ 3 = some (arI 8 p)) (hl : Pl l p) (h8 : l.length ≤ 8) (hi : i < l.length) : Ct G (d) 0 0 M_X0_takeOut [.ref 1, .int (nI i)] μ (fun r μ' => r = none ∧ ∃ q, μ' = up (up μ 3 (arI 8 q)) 1 (benC 2 3 (nI (l.length - 1)) 4 5 9) ∧ Pl (l.eraseIdx i) q) := by
  refine Ct.ofV (by decide +kernel) (Nat.le_of_ble_eq_true rfl) ?_
  refine v_ls (ls' := [(0, .ref 1), (1, .int (nI i))]) rfl ?_
  refine v_iload_n 1 dX0_takeOut_0 rfl rfl ?_
  refine v_istore_n dX0_takeOut_1 rfl (by decide) (fun x2 e_x2 => ?_)
  refine v_ls (ls' := [(2, .int x2), (0, .ref 1), (1, .int (nI i))]) rfl ?_
  subst e_x2
  refine v_hp (up_id h3).symm ?_
  refine v_post (takeOut_loop d (p := p) h1 h8 hi (l.length - i - 1) i p (by omega) (Nat.le_refl i) (fun x _ => by rw [if_neg (by omega)])) ?_
  rintro r m ⟨hr, q, hm, hq⟩
  exact ⟨hr, q, hm, hl.erase hq hi⟩
  

set_option maxRecDepth 20000 in
set_option maxHeartbeats 4000000 in
theorem putIn_loop {G : Cx} (d : Nat) {μ : Hp} {l : List Int32} {p : Nat → Int32} {i : Nat} {c : Int32} (h1 : μ 1 = some (benC 2 3 (nI l.length) 4 5 9)) (h8 : l.length < 8) (hi : i ≤ l.length) : ∀ (m : Nat) (j : Nat) (q : Nat → Int32), j = i + m → j ≤ l.length → (∀ x, x < 8 → q x = if j < x ∧ x ≤ l.length then p (x - 1) else p x) → V G M_X0_putIn (d + 0) 0 0 (fun r μ' => r = none ∧ ∃ q, μ' = up (up μ 3 (arI 8 q)) 1 (benC 2 3 (nI (l.length + 1)) 4 5 9) ∧ ∀ x, x ≤ l.length → q x = if x < i then p x else if x = i then c else p (x - 1)) 15 [(3, .int (nI j)), (0, .ref 1), (1, .int (nI i)), (2, .int c)] [] (up μ 3 (arI 8 q)) := by
  intro m
  induction m with
  | zero =>
    intro j q hj hjl hq
    refine v_iload_n 0 dX0_putIn_15 rfl rfl ?_
    refine v_iload_n 2 dX0_putIn_16 rfl rfl ?_
    refine v_icmp_le (tgt := 40) dX0_putIn_17 (by decide) (fun c17 => ?_) (fun c17 => ?_)
    ·
      refine v_aload_n 1 dX0_putIn_40 rfl rfl ?_
      refine v_get fl_X0_18 dX0_putIn_41 (up_n (by decide) h1) rfl ?_
      refine v_iload_n 2 dX0_putIn_44 rfl rfl ?_
      refine v_iload_n 3 dX0_putIn_45 rfl rfl ?_
      refine v_iast dX0_putIn_46 (up_s _ _ _) (nI_in' (by omega)) ?_
      refine v_hp (up_up _ _ _ _) ?_
      refine v_aload_n 1 dX0_putIn_47 rfl rfl ?_
      refine v_dup dX0_putIn_48 rfl ?_
      refine v_get fl_X0_44 dX0_putIn_49 (up_n (by decide) h1) rfl ?_
      refine v_iconst (v := 1) dX0_putIn_52 (by first | rfl | decide) ?_
      refine v_iadd dX0_putIn_53 ?_
      refine v_put fp_X0_44 dX0_putIn_54 (up_n (by decide) h1) (Nat.le_of_ble_eq_true rfl) (by first | rfl | decide) (by first | rfl | decide) ?_
      refine v_vret dX0_putIn_57 rfl ?_
      exact ⟨rfl, _, by rw [nI_1]; rfl, fun x hx => by
        rw [clamp (by omega)]
        show (if x = i then c else q x) = _
        by_cases e : x = i
        · rw [if_pos e, if_neg (by omega), if_pos e]
        · rw [if_neg e, if_neg e, hq x (by omega)]
          by_cases e2 : x < i
          · rw [if_pos e2, if_neg (by omega)]
          · rw [if_neg e2, if_pos (by omega)]⟩
    · exact absurd ((nI_leI (by omega) (by omega)).mpr (by omega)) c17
  | succ m ih =>
    intro j q hj hjl hq
    refine v_iload_n 0 dX0_putIn_15 rfl rfl ?_
    refine v_iload_n 2 dX0_putIn_16 rfl rfl ?_
    refine v_icmp_le (tgt := 40) dX0_putIn_17 (by decide) (fun c17 => ?_) (fun c17 => ?_)
    · exact absurd ((nI_leI (by omega) (by omega)).mp c17) (by omega)
    ·
      refine v_aload_n 1 dX0_putIn_20 rfl rfl ?_
      refine v_get fl_X0_18 dX0_putIn_21 (up_n (by decide) h1) rfl ?_
      refine v_iload_n 0 dX0_putIn_24 rfl rfl ?_
      refine v_aload_n 1 dX0_putIn_25 rfl rfl ?_
      refine v_get fl_X0_18 dX0_putIn_26 (up_n (by decide) h1) rfl ?_
      refine v_iload_n 0 dX0_putIn_29 rfl rfl ?_
      refine v_iconst (v := 1) dX0_putIn_30 (by first | rfl | decide) ?_
      refine v_isub dX0_putIn_31 ?_
      refine v_iald dX0_putIn_32 (up_s _ _ _) (by rw [nI_sub1 (by omega)]; exact nI_in' (by omega)) ?_
      refine v_iast dX0_putIn_33 (up_s _ _ _) (nI_in' (by omega)) ?_
      refine v_hp (up_up _ _ _ _) ?_
      refine v_iinc (v := -1) 0 dX0_putIn_34 rfl rfl (by decide) (fun z e_z => ?_)
      refine v_ls (ls' := [(3, .int z), (0, .ref 1), (1, .int (nI i)), (2, .int c)]) rfl ?_
      have e_z2 : z = nI (j - 1) := by rw [e_z]; exact nI_m1 (by omega)
      clear e_z
      subst e_z2
      refine v_goto (tgt := 15) dX0_putIn_37 (by decide) ?_
      exact ih (j - 1) _ (by omega) (by omega) (fun x hx => by
        rw [clamp (by omega), nI_sub1 (by omega), clamp (by omega)]
        show (if x = j then q (j - 1) else q x) = _
        by_cases e : x = j
        · rw [if_pos e, hq (j - 1) (by omega), if_neg (by omega), if_pos (by omega), e]
        · rw [if_neg e, hq x hx]
          by_cases e2 : j < x ∧ x ≤ l.length
          · rw [if_pos e2, if_pos (by omega)]
          · rw [if_neg e2, if_neg (by omega)])
      

set_option maxRecDepth 20000 in
set_option maxHeartbeats 4000000 in
theorem c_X0_putIn {G : Cx} (d : Nat) {μ : Hp} {l : List Int32} {p : Nat → Int32} {i : Nat} {c : Int32} (h1 : μ 1 = some (benC 2 3 (nI l.length) 4 5 9)) (h3 : μ 3 = some (arI 8 p)) (hl : Pl l p) (h8 : l.length < 8) (hi : i ≤ l.length) : Ct G (d) 0 0 M_X0_putIn [.ref 1, .int (nI i), .int c] μ (fun r μ' => r = none ∧ ∃ q, μ' = up (up μ 3 (arI 8 q)) 1 (benC 2 3 (nI (l.length + 1)) 4 5 9) ∧ Pl (l.insertIdx i c) q) := by
  refine Ct.ofV (by decide +kernel) (Nat.le_of_ble_eq_true rfl) ?_
  refine v_ls (ls' := [(0, .ref 1), (1, .int (nI i)), (2, .int c)]) rfl ?_
  refine v_aload_n 0 dX0_putIn_0 rfl rfl ?_
  refine v_get fl_X0_44 dX0_putIn_1 h1 rfl ?_
  refine v_bipush (v := 8) dX0_putIn_4 (by first | rfl | decide) ?_
  refine v_icmp_lt (tgt := 10) dX0_putIn_6 (by decide) (fun c6 => ?_) (fun c6 => ?_)
  ·
    refine v_aload_n 0 dX0_putIn_10 rfl rfl ?_
    refine v_get fl_X0_44 dX0_putIn_11 h1 rfl ?_
    refine v_istore_n dX0_putIn_14 rfl (by decide) (fun x3 e_x3 => ?_)
    refine v_ls (ls' := [(3, .int x3), (0, .ref 1), (1, .int (nI i)), (2, .int c)]) rfl ?_
    subst e_x3
    refine v_hp (up_id h3).symm ?_
    refine v_post (putIn_loop d (p := p) h1 h8 hi (l.length - i) l.length p (by omega) (Nat.le_refl _) (fun x _ => by rw [if_neg (by omega)])) ?_
    rintro r m ⟨hr, q, hm, hq⟩
    exact ⟨hr, q, hm, hl.ins hi hq⟩
    
  · exact absurd ((nI_ltI (b := 8) (by omega) (by decide)).mpr h8) c6

set_option maxRecDepth 20000 in
set_option maxHeartbeats 4000000 in
theorem send_loop {G : Cx} (d : Nat) {μ : Hp} {l : List Int32} {p : Nat → Int32} {a b : Nat} {x2 : Int32} (h1 : μ 1 = some (benC 2 3 (nI l.length) 4 5 9)) (h3 : μ 3 = some (arI 8 p)) (hl : Pl l p) (h8 : l.length ≤ 8) (n1 : 1 ≠ a) (n3 : 3 ≠ a) (hb : b < 2 ^ 31) : ∀ (m : Nat) (j : Nat) (L : LT), (l.take b).length - j = m → j < 2 ^ 30 → V G M_X0_send (d + 3) 0 0 (Rt none (up μ a (ligL (runO ((l.take b).drop j) L)))) 3 [(4, .int (nI j)), (0, .ref 1), (1, .ref a), (2, .int x2), (3, .int (nI b))] [] (up μ a (ligL L)) := by
  intro m
  induction m with
  | zero =>
    intro j L hm hj
    refine v_iload 0 dX0_send_3 rfl ?_
    refine v_iload_n 4 dX0_send_5 rfl rfl ?_
    refine v_icmp_ge (tgt := 35) dX0_send_6 (by decide) (fun c6 => ?_) (fun c6 => ?_)
    ·
      refine v_vret dX0_send_35 rfl ?_
      exact ⟨rfl, by rw [seg_nil (by omega)]; rfl⟩
    ·
      refine v_iload 0 dX0_send_9 rfl ?_
      refine v_aload_n 1 dX0_send_11 rfl rfl ?_
      refine v_get fl_X0_44 dX0_send_12 (up_n n1 h1) rfl ?_
      refine v_icmp_ge (tgt := 35) dX0_send_15 (by decide) (fun c15 => ?_) (fun c15 => ?_)
      ·
        refine v_vret dX0_send_35 rfl ?_
        exact ⟨rfl, by rw [seg_nil (by omega)]; rfl⟩
      · have a1 : ¬ b ≤ j := fun z => c6 ((nI_leI (by omega) (by omega)).mpr z)
        have a2 : ¬ l.length ≤ j := fun z => c15 ((nI_leI (by omega) (by omega)).mpr z)
        rw [List.length_take] at hm
        omega
  | succ m ih =>
    intro j L hm hj
    refine v_iload 0 dX0_send_3 rfl ?_
    refine v_iload_n 4 dX0_send_5 rfl rfl ?_
    refine v_icmp_ge (tgt := 35) dX0_send_6 (by decide) (fun c6 => ?_) (fun c6 => ?_)
    · have := (nI_leI (by omega) (by omega)).mp c6
      rw [List.length_take] at hm
      omega
    ·
      refine v_iload 0 dX0_send_9 rfl ?_
      refine v_aload_n 1 dX0_send_11 rfl rfl ?_
      refine v_get fl_X0_44 dX0_send_12 (up_n n1 h1) rfl ?_
      refine v_icmp_ge (tgt := 35) dX0_send_15 (by decide) (fun c15 => ?_) (fun c15 => ?_)
      · have := (nI_leI (by omega) (by omega)).mp c15
        rw [List.length_take] at hm
        omega
      ·
        refine v_aload_n 2 dX0_send_18 rfl rfl ?_
        refine v_aload_n 1 dX0_send_19 rfl rfl ?_
        refine v_get fl_X0_18 dX0_send_20 (up_n n1 h1) rfl ?_
        refine v_iload 0 dX0_send_23 rfl ?_
        refine v_iald dX0_send_25 (up_n n3 h3) (nI_in' (by rw [List.length_take] at hm; omega)) ?_
        refine v_callV (c_X1_pass d (up_s _ _ _)) cs_X0_54 dX0_send_26 (up_s _ _ _) rfl rfl (Nat.le_of_ble_eq_true rfl) ?_
        refine rt_k ?_
        refine v_hp (up_up _ _ _ _) ?_
        refine v_iinc (v := 1) 0 dX0_send_29 rfl rfl (by decide) (fun z e_z => ?_)
        refine v_ls (ls' := [(4, .int z), (0, .ref 1), (1, .ref a), (2, .int x2), (3, .int (nI b))]) rfl ?_
        rw [nI_1] at e_z
        subst e_z
        refine v_goto (tgt := 3) dX0_send_32 (by decide) ?_
        rw [seg_cons hl (by omega), runO_cons, clamp (by omega)]
        exact ih (j + 1) _ (by omega) (by rw [List.length_take] at hm; omega)
        

set_option maxRecDepth 20000 in
set_option maxHeartbeats 4000000 in
theorem c_X0_send {G : Cx} (d : Nat) {μ : Hp} {l : List Int32} {p : Nat → Int32} {a i b : Nat} {L : LT} (h1 : μ 1 = some (benC 2 3 (nI l.length) 4 5 9)) (h3 : μ 3 = some (arI 8 p)) (hl : Pl l p) (h8 : l.length ≤ 8) (n1 : 1 ≠ a) (n3 : 3 ≠ a) (ha : μ a = some (ligL L)) (hi : i < 2 ^ 30) (hb : b < 2 ^ 31) : Ct G (d + 3) 0 0 M_X0_send [.ref 1, .ref a, .int (nI i), .int (nI b)] μ (Rt none (up μ a (ligL (runO ((l.take b).drop i) L)))) := by
  refine Ct.ofV (by decide +kernel) (Nat.le_of_ble_eq_true rfl) ?_
  refine v_ls (ls' := [(0, .ref 1), (1, .ref a), (2, .int (nI i)), (3, .int (nI b))]) rfl ?_
  refine v_iload_n 2 dX0_send_0 rfl rfl ?_
  refine v_istore dX0_send_1 (by decide) (fun x4 e_x4 => ?_)
  refine v_ls (ls' := [(4, .int x4), (0, .ref 1), (1, .ref a), (2, .int (nI i)), (3, .int (nI b))]) rfl ?_
  subst e_x4
  refine v_hp (up_id ha).symm ?_
  exact send_loop d h1 h3 hl h8 n1 n3 hb _ i L rfl hi
  

set_option maxRecDepth 20000 in
set_option maxHeartbeats 4000000 in
theorem back_loop {G : Cx} (d : Nat) {μ : Hp} {l : List Int32} {p : Nat → Int32} (h1 : μ 1 = some (benC 2 3 (nI l.length) 4 5 9)) (h3 : μ 3 = some (arI 8 p)) (hl : Pl l p) (h8 : l.length ≤ 8) : ∀ (m : Nat) (j : Nat), l.length - j = m → j ≤ l.length → V G M_X0_canGoBack (d + 1) 0 0 (Rt (some (.int (if ∀ c ∈ l.drop j, kdO c = 0 ∨ prO (kdO c) ≠ 0 then 1 else 0))) μ) 2 [(1, .int (nI j)), (0, .ref 1)] [] (μ) := by
  intro m
  induction m with
  | zero =>
    intro j hm hj
    refine v_iload_n 0 dX0_canGoBack_2 rfl rfl ?_
    refine v_aload_n 1 dX0_canGoBack_3 rfl rfl ?_
    refine v_get fl_X0_44 dX0_canGoBack_4 h1 rfl ?_
    refine v_icmp_ge (tgt := 39) dX0_canGoBack_7 (by decide) (fun c7 => ?_) (fun c7 => ?_)
    ·
      refine v_iconst (v := 1) dX0_canGoBack_39 (by first | rfl | decide) ?_
      refine v_iret dX0_canGoBack_40 rfl (by first | rfl | decide | exact nar_b (by first | assumption | rfl)) ?_
      exact ⟨by rw [if_pos (by rw [List.drop_of_length_le (by omega)]; intro c hc; cases hc)], rfl⟩
    · exact absurd ((nI_leI (by omega) (by omega)).mpr (by omega)) c7
  | succ m ih =>
    intro j hm hj
    refine v_iload_n 0 dX0_canGoBack_2 rfl rfl ?_
    refine v_aload_n 1 dX0_canGoBack_3 rfl rfl ?_
    refine v_get fl_X0_44 dX0_canGoBack_4 h1 rfl ?_
    refine v_icmp_ge (tgt := 39) dX0_canGoBack_7 (by decide) (fun c7 => ?_) (fun c7 => ?_)
    · have := (nI_leI (by omega) (by omega)).mp c7
      omega
    ·
      refine v_aload_n 1 dX0_canGoBack_10 rfl rfl ?_
      refine v_get fl_X0_18 dX0_canGoBack_11 h1 rfl ?_
      refine v_iload_n 0 dX0_canGoBack_14 rfl rfl ?_
      refine v_iald dX0_canGoBack_15 h3 (nI_in' (by omega)) ?_
      refine v_callSN (c_X6_kindOf d ) cs_X0_58 dX0_canGoBack_16 rfl rfl (Nat.le_of_ble_eq_true rfl) ?_
      refine rt_k ?_
      refine v_istore_n dX0_canGoBack_19 rfl (by decide) (fun y e_y => ?_)
      refine v_ls (ls' := [(2, .int y), (1, .int (nI j)), (0, .ref 1)]) rfl ?_
      rw [clamp (by omega)] at e_y
      subst e_y
      have hd : l.drop j = p j :: l.drop (j + 1) := drop_cons hl (by omega)
      refine v_iload_n 0 dX0_canGoBack_20 rfl rfl ?_
      refine v_if_eq (tgt := 33) dX0_canGoBack_21 (by decide) (fun c21 => ?_) (fun c21 => ?_)
      ·
        have hk : kdO (p j) = 0 ∨ prO (kdO (p j)) ≠ 0 := by first | exact Or.inl c21 | exact Or.inr c28
        have he : (∀ c ∈ l.drop j, kdO c = 0 ∨ prO (kdO c) ≠ 0) ↔ (∀ c ∈ l.drop (j + 1), kdO c = 0 ∨ prO (kdO c) ≠ 0) := by rw [hd, List.forall_mem_cons]; exact ⟨fun z => z.2, fun z => ⟨hk, z⟩⟩
        simp only [he]
        refine v_iinc (v := 1) 1 dX0_canGoBack_33 rfl rfl (by decide) (fun z e_z => ?_)
        refine v_ls (ls' := [(1, .int z), (2, _), (0, .ref 1)]) rfl ?_
        rw [nI_1] at e_z
        subst e_z
        refine v_goto (tgt := 2) dX0_canGoBack_36 (by decide) ?_
        refine v_pick [0, 2] rfl ?_
        exact ih (j + 1) (by omega) (by omega)
        
      ·
        refine v_iload_n 0 dX0_canGoBack_24 rfl rfl ?_
        refine v_callSN (c_X6_isPlateOrRotator d ) cs_X0_62 dX0_canGoBack_25 rfl rfl (Nat.le_of_ble_eq_true rfl) ?_
        refine rt_k ?_
        refine v_if_ne (tgt := 33) dX0_canGoBack_28 (by decide) (fun c28 => ?_) (fun c28 => ?_)
        ·
          have hk : kdO (p j) = 0 ∨ prO (kdO (p j)) ≠ 0 := by first | exact Or.inl c21 | exact Or.inr c28
          have he : (∀ c ∈ l.drop j, kdO c = 0 ∨ prO (kdO c) ≠ 0) ↔ (∀ c ∈ l.drop (j + 1), kdO c = 0 ∨ prO (kdO c) ≠ 0) := by rw [hd, List.forall_mem_cons]; exact ⟨fun z => z.2, fun z => ⟨hk, z⟩⟩
          simp only [he]
          refine v_iinc (v := 1) 1 dX0_canGoBack_33 rfl rfl (by decide) (fun z e_z => ?_)
          refine v_ls (ls' := [(1, .int z), (2, _), (0, .ref 1)]) rfl ?_
          rw [nI_1] at e_z
          subst e_z
          refine v_goto (tgt := 2) dX0_canGoBack_36 (by decide) ?_
          refine v_pick [0, 2] rfl ?_
          exact ih (j + 1) (by omega) (by omega)
          
        ·
          refine v_iconst (v := 0) dX0_canGoBack_31 (by first | rfl | decide) ?_
          refine v_iret dX0_canGoBack_32 rfl (by first | rfl | decide | exact nar_b (by first | assumption | rfl)) ?_
          exact ⟨by rw [if_neg (fun z => by rcases z (p j) (by rw [hd]; exact List.mem_cons_self) with q | q; exact c21 q; exact q c28)], rfl⟩

set_option maxRecDepth 20000 in
set_option maxHeartbeats 4000000 in
theorem c_X0_canGoBack {G : Cx} (d : Nat) {μ : Hp} {l : List Int32} {p : Nat → Int32} (h1 : μ 1 = some (benC 2 3 (nI l.length) 4 5 9)) (h3 : μ 3 = some (arI 8 p)) (hl : Pl l p) (h8 : l.length ≤ 8) : Ct G (d + 1) 0 0 M_X0_canGoBack [.ref 1] μ (Rt (some (.int (if ∀ c ∈ l, kdO c = 0 ∨ prO (kdO c) ≠ 0 then 1 else 0))) μ) := by
  refine Ct.ofV (by decide +kernel) (Nat.le_of_ble_eq_true rfl) ?_
  refine v_ls (ls' := [(0, .ref 1)]) rfl ?_
  refine v_iconst (v := 0) dX0_canGoBack_0 (by first | rfl | decide) ?_
  refine v_istore_n dX0_canGoBack_1 rfl (by decide) (fun x1 e_x1 => ?_)
  refine v_ls (ls' := [(1, .int x1), (0, .ref 1)]) rfl ?_
  subst e_x1
  exact back_loop d h1 h3 hl h8 l.length 0 (by omega) (by omega)
  

set_option maxRecDepth 20000 in
set_option maxHeartbeats 4000000 in
theorem many_loop {G : Cx} (d : Nat) {μ : Hp} {l : List Int32} {p : Nat → Int32} {c : Int32} {b : Nat} (h1 : μ 1 = some (benC 2 3 (nI l.length) 4 5 9)) (h3 : μ 3 = some (arI 8 p)) (hl : Pl l p) (h8 : l.length ≤ 8) (hb : b < 2 ^ 31) : ∀ (m : Nat) (j k : Nat), (l.take b).length - j = m → j ≤ 8 → k ≤ j → V G M_X0_howMany (d + 0) 0 0 (Rt (some (.int (nI (k + cntO c ((l.take b).drop j))))) μ) 5 [(4, .int (nI j)), (3, .int (nI k)), (0, .ref 1), (1, .int c), (2, .int (nI b))] [] (μ) := by
  intro m
  induction m with
  | zero =>
    intro j k hm hj hk
    refine v_iload 0 dX0_howMany_5 rfl ?_
    refine v_iload_n 4 dX0_howMany_7 rfl rfl ?_
    refine v_icmp_ge (tgt := 40) dX0_howMany_8 (by decide) (fun c8 => ?_) (fun c8 => ?_)
    ·
      refine v_iload_n 1 dX0_howMany_40 rfl rfl ?_
      refine v_iret dX0_howMany_41 rfl (by first | rfl | decide | exact nar_b (by first | assumption | rfl)) ?_
      exact ⟨by rw [seg_nil (by omega)]; rfl, rfl⟩
    ·
      refine v_iload 0 dX0_howMany_11 rfl ?_
      refine v_aload_n 2 dX0_howMany_13 rfl rfl ?_
      refine v_get fl_X0_44 dX0_howMany_14 h1 rfl ?_
      refine v_icmp_ge (tgt := 40) dX0_howMany_17 (by decide) (fun c17 => ?_) (fun c17 => ?_)
      ·
        refine v_iload_n 1 dX0_howMany_40 rfl rfl ?_
        refine v_iret dX0_howMany_41 rfl (by first | rfl | decide | exact nar_b (by first | assumption | rfl)) ?_
        exact ⟨by rw [seg_nil (by omega)]; rfl, rfl⟩
      · have a1 : ¬ b ≤ j := fun z => c8 ((nI_leI (by omega) (by omega)).mpr z)
        have a2 : ¬ l.length ≤ j := fun z => c17 ((nI_leI (by omega) (by omega)).mpr z)
        rw [List.length_take] at hm
        omega
  | succ m ih =>
    intro j k hm hj hk
    refine v_iload 0 dX0_howMany_5 rfl ?_
    refine v_iload_n 4 dX0_howMany_7 rfl rfl ?_
    refine v_icmp_ge (tgt := 40) dX0_howMany_8 (by decide) (fun c8 => ?_) (fun c8 => ?_)
    · have := (nI_leI (by omega) (by omega)).mp c8
      rw [List.length_take] at hm
      omega
    ·
      refine v_iload 0 dX0_howMany_11 rfl ?_
      refine v_aload_n 2 dX0_howMany_13 rfl rfl ?_
      refine v_get fl_X0_44 dX0_howMany_14 h1 rfl ?_
      refine v_icmp_ge (tgt := 40) dX0_howMany_17 (by decide) (fun c17 => ?_) (fun c17 => ?_)
      · have := (nI_leI (by omega) (by omega)).mp c17
        rw [List.length_take] at hm
        omega
      ·
        refine v_aload_n 2 dX0_howMany_20 rfl rfl ?_
        refine v_get fl_X0_18 dX0_howMany_21 h1 rfl ?_
        refine v_iload 0 dX0_howMany_24 rfl ?_
        refine v_iald dX0_howMany_26 h3 (nI_in' (by rw [List.length_take] at hm; omega)) ?_
        refine v_iload_n 3 dX0_howMany_27 rfl rfl ?_
        refine v_icmp_ne (tgt := 34) dX0_howMany_28 (by decide) (fun c28 => ?_) (fun c28 => ?_)
        ·
          have hs := seg_cons hl (j := j) (b := b) (by omega)
          have hjl : j < 8 := by rw [List.length_take] at hm; omega
          rw [clamp (by omega)] at c28
          rw [hs]
          refine v_iinc (v := 1) 0 dX0_howMany_34 rfl rfl (by decide) (fun z e_z => ?_)
          refine v_ls (ls' := [(4, .int z), (3, .int (nI k)), (0, .ref 1), (1, .int c), (2, .int (nI b))]) rfl ?_
          rw [nI_1] at e_z
          subst e_z
          refine v_goto (tgt := 5) dX0_howMany_37 (by decide) ?_
          first
            | (have h0 : cntO c (p j :: (l.take b).drop (j + 1)) = 1 + cntO c ((l.take b).drop (j + 1)) := by simp [cntO, c28]; omega
               rw [h0, ← Nat.add_assoc]
               refine v_pick [0, 1, 2, 3, 4] rfl ?_
               exact ih (j + 1) (k + 1) (by omega) (by omega) (by omega))
            | (have h0 : cntO c (p j :: (l.take b).drop (j + 1)) = cntO c ((l.take b).drop (j + 1)) := by simp [cntO, c28]
               rw [h0]
               refine v_pick [0, 1, 2, 3, 4] rfl ?_
               exact ih (j + 1) k (by omega) (by omega) (by omega))
          
        ·
          refine v_iinc (v := 1) 1 dX0_howMany_31 rfl rfl (by decide) (fun w e_w => ?_)
          refine v_ls (ls' := [(3, .int w), (4, .int (nI j)), (0, .ref 1), (1, .int c), (2, .int (nI b))]) rfl ?_
          rw [nI_1] at e_w
          subst e_w
          have hs := seg_cons hl (j := j) (b := b) (by omega)
          have hjl : j < 8 := by rw [List.length_take] at hm; omega
          rw [clamp (by omega)] at c28
          rw [hs]
          refine v_iinc (v := 1) 1 dX0_howMany_34 rfl rfl (by decide) (fun z e_z => ?_)
          refine v_ls (ls' := [(4, .int z), (3, _), (0, .ref 1), (1, .int c), (2, .int (nI b))]) rfl ?_
          rw [nI_1] at e_z
          subst e_z
          refine v_goto (tgt := 5) dX0_howMany_37 (by decide) ?_
          first
            | (have h0 : cntO c (p j :: (l.take b).drop (j + 1)) = 1 + cntO c ((l.take b).drop (j + 1)) := by simp [cntO, c28]; omega
               rw [h0, ← Nat.add_assoc]
               refine v_pick [0, 1, 2, 3, 4] rfl ?_
               exact ih (j + 1) (k + 1) (by omega) (by omega) (by omega))
            | (have h0 : cntO c (p j :: (l.take b).drop (j + 1)) = cntO c ((l.take b).drop (j + 1)) := by simp [cntO, c28]
               rw [h0]
               refine v_pick [0, 1, 2, 3, 4] rfl ?_
               exact ih (j + 1) k (by omega) (by omega) (by omega))
          

set_option maxRecDepth 20000 in
set_option maxHeartbeats 4000000 in
theorem c_X0_howMany {G : Cx} (d : Nat) {μ : Hp} {l : List Int32} {p : Nat → Int32} {c : Int32} {b : Nat} (h1 : μ 1 = some (benC 2 3 (nI l.length) 4 5 9)) (h3 : μ 3 = some (arI 8 p)) (hl : Pl l p) (h8 : l.length ≤ 8) (hb : b < 2 ^ 31) : Ct G (d) 0 0 M_X0_howMany [.ref 1, .int c, .int (nI b)] μ (Rt (some (.int (nI (cntO c (l.take b))))) μ) := by
  refine Ct.ofV (by decide +kernel) (Nat.le_of_ble_eq_true rfl) ?_
  refine v_ls (ls' := [(0, .ref 1), (1, .int c), (2, .int (nI b))]) rfl ?_
  refine v_iconst (v := 0) dX0_howMany_0 (by first | rfl | decide) ?_
  refine v_istore_n dX0_howMany_1 rfl (by decide) (fun x3 e_x3 => ?_)
  refine v_ls (ls' := [(3, .int x3), (0, .ref 1), (1, .int c), (2, .int (nI b))]) rfl ?_
  subst e_x3
  refine v_iconst (v := 0) dX0_howMany_2 (by first | rfl | decide) ?_
  refine v_istore dX0_howMany_3 (by decide) (fun x4 e_x4 => ?_)
  refine v_ls (ls' := [(4, .int x4), (3, _), (0, .ref 1), (1, .int c), (2, .int (nI b))]) rfl ?_
  subst e_x4
  have h0 := many_loop (G := G) d (c := c) h1 h3 hl h8 hb _ 0 0 rfl (by omega) (by omega)
  rw [Nat.zero_add] at h0
  exact h0
  

