abbrev redC (n k p f : Int32) : va_E := .inr (5, [.ref 26, .int n, .int k, .ref 27, .int p, .ref 28, .int f])
set_option maxRecDepth 20000 in
set_option maxHeartbeats 4000000 in
theorem c_X4_next {G : Cx} (d : Nat) {μ : Hp} {tp : List Int32} {t : Nat → Int32} {k : Nat} {p f : Int32} (h25 : μ 25 = some (redC (nI tp.length) (nI k) p f)) (h26 : μ 26 = some (arI 60 t)) (hp : Pl tp t) (h60 : tp.length ≤ 60) (hk : k ≤ 60) : Ct G (d) 0 0 M_X4_next [.ref 25] μ (Rt (some (.int (nxP tp k))) μ) := by
  refine Ct.ofV (by decide +kernel) (Nat.le_of_ble_eq_true rfl) ?_
  refine v_ls (ls' := [(0, .ref 25)]) rfl ?_
  refine v_aload_n 0 dX4_next_0 rfl rfl ?_
  refine v_get fl_X4_21 dX4_next_1 h25 rfl ?_
  refine v_aload_n 0 dX4_next_4 rfl rfl ?_
  refine v_get fl_X4_35 dX4_next_5 h25 rfl ?_
  refine v_icmp_ge (tgt := 32) dX4_next_8 (by decide) (fun hc8 => ?_) (fun hc8 => ?_)
  ·
    refine v_iconst (v := 0) dX4_next_32 (by first | rfl | decide) ?_
    refine v_iret dX4_next_33 rfl (by first | rfl | decide | exact nar_b (by first | assumption | rfl)) ?_
    first
      | (have h1 : ¬ tp.length ≤ k := fun z => hc8 ((nI_leI (by omega) (by omega)).mpr z)
         exact ⟨by show some (Value.int (t (nI k).toNatClampNeg)) = some (Value.int (tp.getD k 0)); rw [clamp (by omega), getD_at hp (by omega)], rfl⟩)
      | (have h1 : tp.length ≤ k := by
           first
             | exact (nI_leI (by omega) (by omega)).mp hc8
             | (have := (nI_leI (a := 60) (by decide) (by omega)).mp hc17; omega)
         exact ⟨by rw [nxP, List.getD_eq_getElem?_getD, List.getElem?_eq_none (by omega)]; rfl, rfl⟩)
  ·
    refine v_aload_n 0 dX4_next_11 rfl rfl ?_
    refine v_get fl_X4_21 dX4_next_12 h25 rfl ?_
    refine v_bipush (v := 60) dX4_next_15 (by first | rfl | decide) ?_
    refine v_icmp_ge (tgt := 32) dX4_next_17 (by decide) (fun hc17 => ?_) (fun hc17 => ?_)
    ·
      refine v_iconst (v := 0) dX4_next_32 (by first | rfl | decide) ?_
      refine v_iret dX4_next_33 rfl (by first | rfl | decide | exact nar_b (by first | assumption | rfl)) ?_
      first
        | (have h1 : ¬ tp.length ≤ k := fun z => hc8 ((nI_leI (by omega) (by omega)).mpr z)
           exact ⟨by show some (Value.int (t (nI k).toNatClampNeg)) = some (Value.int (tp.getD k 0)); rw [clamp (by omega), getD_at hp (by omega)], rfl⟩)
        | (have h1 : tp.length ≤ k := by
             first
               | exact (nI_leI (by omega) (by omega)).mp hc8
               | (have := (nI_leI (a := 60) (by decide) (by omega)).mp hc17; omega)
           exact ⟨by rw [nxP, List.getD_eq_getElem?_getD, List.getElem?_eq_none (by omega)]; rfl, rfl⟩)
    ·
      refine v_aload_n 0 dX4_next_20 rfl rfl ?_
      refine v_get fl_X4_9 dX4_next_21 h25 rfl ?_
      refine v_aload_n 0 dX4_next_24 rfl rfl ?_
      refine v_get fl_X4_21 dX4_next_25 h25 rfl ?_
      refine v_iald dX4_next_28 h26 (nI_in' (by have : ¬ tp.length ≤ k := fun z => hc8 ((nI_leI (by omega) (by omega)).mpr z); omega)) ?_
      refine v_goto (tgt := 33) dX4_next_29 (by decide) ?_
      refine v_iret dX4_next_33 rfl (by first | rfl | decide | exact nar_b (by first | assumption | rfl)) ?_
      first
        | (have h1 : ¬ tp.length ≤ k := fun z => hc8 ((nI_leI (by omega) (by omega)).mpr z)
           exact ⟨by show some (Value.int (t (nI k).toNatClampNeg)) = some (Value.int (tp.getD k 0)); rw [clamp (by omega), getD_at hp (by omega)], rfl⟩)
        | (have h1 : tp.length ≤ k := by
             first
               | exact (nI_leI (by omega) (by omega)).mp hc8
               | (have := (nI_leI (a := 60) (by decide) (by omega)).mp hc17; omega)
           exact ⟨by rw [nxP, List.getD_eq_getElem?_getD, List.getElem?_eq_none (by omega)]; rfl, rfl⟩)

set_option maxRecDepth 20000 in
set_option maxHeartbeats 4000000 in
theorem c_X4_takes {G : Cx} (d : Nat) {μ : Hp} {tp : List Int32} {t : Nat → Int32} {k : Nat} {p f : Int32} {c : Int32} (h25 : μ 25 = some (redC (nI tp.length) (nI k) p f)) (h26 : μ 26 = some (arI 60 t)) (hp : Pl tp t) (h60 : tp.length ≤ 60) (hk : k ≤ 60) : Ct G (d + 1) 0 0 M_X4_takes [.ref 25, .int c] μ (Rt (some (.int (if nxP tp k = c then 1 else 0))) (up μ 25 (redC (nI tp.length) (nI (if nxP tp k = c then k + 1 else k)) p f))) := by
  refine Ct.ofV (by decide +kernel) (Nat.le_of_ble_eq_true rfl) ?_
  refine v_ls (ls' := [(0, .ref 25), (1, .int c)]) rfl ?_
  refine v_aload_n 0 dX4_takes_0 rfl rfl ?_
  refine v_callV (c_X4_next d h25 h26 hp h60 hk) cs_X4_38 dX4_takes_1 h25 rfl rfl (Nat.le_of_ble_eq_true rfl) ?_
  refine rt_k ?_
  refine v_iload_n 1 dX4_takes_4 rfl rfl ?_
  refine v_icmp_eq (tgt := 10) dX4_takes_5 (by decide) (fun hc5 => ?_) (fun hc5 => ?_)
  ·
    refine v_aload_n 0 dX4_takes_10 rfl rfl ?_
    refine v_dup dX4_takes_11 rfl ?_
    refine v_get fl_X4_21 dX4_takes_12 h25 rfl ?_
    refine v_iconst (v := 1) dX4_takes_15 (by first | rfl | decide) ?_
    refine v_iadd dX4_takes_16 ?_
    refine v_put fp_X4_21 dX4_takes_17 h25 (Nat.le_of_ble_eq_true rfl) (by first | rfl | decide) (by first | rfl | decide) ?_
    refine v_iconst (v := 1) dX4_takes_20 (by first | rfl | decide) ?_
    refine v_iret dX4_takes_21 rfl (by first | rfl | decide | exact nar_b (by first | assumption | rfl)) ?_
    exact ⟨by rw [if_pos hc5], by rw [if_pos hc5, nI_1]; rfl⟩
  ·
    refine v_iconst (v := 0) dX4_takes_8 (by first | rfl | decide) ?_
    refine v_iret dX4_takes_9 rfl (by first | rfl | decide | exact nar_b (by first | assumption | rfl)) ?_
    exact ⟨by rw [if_neg hc5], by rw [if_neg hc5, up_id h25]⟩

set_option maxRecDepth 20000 in
set_option maxHeartbeats 4000000 in
theorem c_X4_takeFigure {G : Cx} (d : Nat) {μ : Hp} {tp : List Int32} {t : Nat → Int32} {k : Nat} {p f : Int32} {most : Int32} (h25 : μ 25 = some (redC (nI tp.length) (nI k) p f)) (h26 : μ 26 = some (arI 60 t)) (hp : Pl tp t) (h60 : tp.length ≤ 60) (hk : k ≤ 60) : Ct G (d + 1) 0 0 M_X4_takeFigure [.ref 25, .int most] μ (Rt (some (.int (figP tp k most))) (up μ 25 (redC (nI tp.length) (nI (if figP tp k most < 0 then k else k + 1)) p f))) := by
  refine Ct.ofV (by decide +kernel) (Nat.le_of_ble_eq_true rfl) ?_
  refine v_ls (ls' := [(0, .ref 25), (1, .int most)]) rfl ?_
  refine v_aload_n 0 dX4_takeFigure_0 rfl rfl ?_
  refine v_callV (c_X4_next d h25 h26 hp h60 hk) cs_X4_38 dX4_takeFigure_1 h25 rfl rfl (Nat.le_of_ble_eq_true rfl) ?_
  refine rt_k ?_
  refine v_bipush (v := 48) dX4_takeFigure_4 (by first | rfl | decide) ?_
  refine v_isub dX4_takeFigure_6 ?_
  refine v_istore_n dX4_takeFigure_7 rfl (by decide) (fun x2_1 e_x2_1 => ?_)
  refine v_ls (ls' := [(2, .int x2_1), (0, .ref 25), (1, .int most)]) rfl ?_
  subst e_x2_1
  refine v_iload_n 0 dX4_takeFigure_8 rfl rfl ?_
  refine v_if_lt (tgt := 17) dX4_takeFigure_9 (by decide) (fun hc9 => ?_) (fun hc9 => ?_)
  ·
    refine v_iconst (v := -1) dX4_takeFigure_17 (by first | rfl | decide) ?_
    refine v_iret dX4_takeFigure_18 rfl (by first | rfl | decide | exact nar_b (by first | assumption | rfl)) ?_
    have h1 : figP tp k most = -1 := by simp only [figP, if_pos hc9, if_neg (Int32.not_le.mpr hc9)]
    exact ⟨by rw [h1], by rw [h1, if_pos (by decide), up_id h25]⟩
  ·
    refine v_iload_n 0 dX4_takeFigure_12 rfl rfl ?_
    refine v_iload_n 2 dX4_takeFigure_13 rfl rfl ?_
    refine v_icmp_le (tgt := 19) dX4_takeFigure_14 (by decide) (fun hc14 => ?_) (fun hc14 => ?_)
    ·
      refine v_aload_n 1 dX4_takeFigure_19 rfl rfl ?_
      refine v_dup dX4_takeFigure_20 rfl ?_
      refine v_get fl_X4_21 dX4_takeFigure_21 h25 rfl ?_
      refine v_iconst (v := 1) dX4_takeFigure_24 (by first | rfl | decide) ?_
      refine v_iadd dX4_takeFigure_25 ?_
      refine v_put fp_X4_21 dX4_takeFigure_26 h25 (Nat.le_of_ble_eq_true rfl) (by first | rfl | decide) (by first | rfl | decide) ?_
      refine v_iload_n 0 dX4_takeFigure_29 rfl rfl ?_
      refine v_iret dX4_takeFigure_30 rfl (by first | rfl | decide | exact nar_b (by first | assumption | rfl)) ?_
      have h1 : figP tp k most = nxP tp k - 48 := by simp only [figP, if_neg hc9, if_pos (Int32.not_lt.mp hc9), if_pos hc14, if_neg (Int32.not_lt.mpr hc14)]
      exact ⟨by rw [h1], by rw [h1, if_neg hc9, nI_1]; rfl⟩
    ·
      refine v_iconst (v := -1) dX4_takeFigure_17 (by first | rfl | decide) ?_
      refine v_iret dX4_takeFigure_18 rfl (by first | rfl | decide | exact nar_b (by first | assumption | rfl)) ?_
      have h1 : figP tp k most = -1 := by simp only [figP, if_neg hc9, if_pos (Int32.not_lt.mp hc9), if_neg hc14, if_pos (Int32.not_le.mp hc14)]
      exact ⟨by rw [h1], by rw [h1, if_pos (by decide), up_id h25]⟩

/-- the codes' row holds the first eight -/
def C8 (cs : List Int32) (cd : Nat → Int32) : Prop := ∀ j, j < 8 → j < cs.length → cd j = cs.getD j 0
theorem C8.keep {cs : List Int32} {cd : Nat → Int32} (h : C8 cs cd) (c : Int32) : C8 (cs ++ [c]) (upd cd cs.length c) := fun j h8 hj => by
  rw [List.length_append, List.length_singleton] at hj
  show (if j = cs.length then c else cd j) = _
  by_cases e : j = cs.length
  · rw [if_pos e, e]; simp
  · rw [if_neg e, h j h8 (by omega)]
    rw [List.getD_eq_getElem?_getD, List.getD_eq_getElem?_getD, List.getElem?_append_left (by omega)]
theorem C8.full {cs : List Int32} {cd : Nat → Int32} (h : C8 cs cd) (c : Int32) (h8 : 8 ≤ cs.length) : C8 (cs ++ [c]) cd := fun j j8 hj => by
  rw [h j j8 (by omega)]
  rw [List.getD_eq_getElem?_getD, List.getD_eq_getElem?_getD, List.getElem?_append_left (by omega)]
set_option maxRecDepth 20000 in
set_option maxHeartbeats 4000000 in
theorem c_X4_keep {G : Cx} (d : Nat) {μ : Hp} {n k p : Int32} {cs : List Int32} {cd : Nat → Int32} {c : Int32} (h25 : μ 25 = some (redC n k p (nI cs.length))) (h28 : μ 28 = some (arI 8 cd)) (h8 : C8 cs cd) (hs : cs.length < 2 ^ 30) : Ct G (d) 0 0 M_X4_keep [.ref 25, .int c] μ (fun r μ' => r = none ∧ ∃ cd', μ' = up (up μ 28 (arI 8 cd')) 25 (redC n k p (nI (cs.length + 1))) ∧ ∀ c', (cs.length < 8 → c' = c) → C8 (cs ++ [c']) cd') := by
  refine Ct.ofV (by decide +kernel) (Nat.le_of_ble_eq_true rfl) ?_
  refine v_ls (ls' := [(0, .ref 25), (1, .int c)]) rfl ?_
  refine v_aload_n 0 dX4_keep_0 rfl rfl ?_
  refine v_get fl_X4_28 dX4_keep_1 h25 rfl ?_
  refine v_bipush (v := 8) dX4_keep_4 (by first | rfl | decide) ?_
  refine v_icmp_ge (tgt := 19) dX4_keep_6 (by decide) (fun hc6 => ?_) (fun hc6 => ?_)
  ·
    refine v_aload_n 0 dX4_keep_19 rfl rfl ?_
    refine v_dup dX4_keep_20 rfl ?_
    refine v_get fl_X4_28 dX4_keep_21 h25 rfl ?_
    refine v_iconst (v := 1) dX4_keep_24 (by first | rfl | decide) ?_
    refine v_iadd dX4_keep_25 ?_
    refine v_put fp_X4_28 dX4_keep_26 h25 (Nat.le_of_ble_eq_true rfl) (by first | rfl | decide) (by first | rfl | decide) ?_
    refine v_vret dX4_keep_29 rfl ?_
    exact ⟨rfl, cd, by rw [nI_1, up_id h28]; rfl, fun c' _ => h8.full c' ((nI_leI (a := 8) (by decide) (by omega)).mp hc6)⟩
  ·
    refine v_aload_n 0 dX4_keep_9 rfl rfl ?_
    refine v_get fl_X4_18 dX4_keep_10 h25 rfl ?_
    refine v_aload_n 0 dX4_keep_13 rfl rfl ?_
    refine v_get fl_X4_28 dX4_keep_14 h25 rfl ?_
    refine v_iload_n 1 dX4_keep_17 rfl rfl ?_
    refine v_iast dX4_keep_18 h28 (nI_in' (by have : ¬ 8 ≤ cs.length := fun z => hc6 ((nI_leI (a := 8) (by decide) (by omega)).mpr z); omega)) ?_
    refine v_aload_n 0 dX4_keep_19 rfl rfl ?_
    refine v_dup dX4_keep_20 rfl ?_
    refine v_get fl_X4_28 dX4_keep_21 (up_n (by decide) h25) rfl ?_
    refine v_iconst (v := 1) dX4_keep_24 (by first | rfl | decide) ?_
    refine v_iadd dX4_keep_25 ?_
    refine v_put fp_X4_28 dX4_keep_26 (up_n (by decide) h25) (Nat.le_of_ble_eq_true rfl) (by first | rfl | decide) (by first | rfl | decide) ?_
    refine v_vret dX4_keep_29 rfl ?_
    exact ⟨rfl, _, by rw [nI_1, clamp (by omega)]; rfl, fun c' hc' => by rw [hc' (by have : ¬ 8 ≤ cs.length := fun z => hc6 ((nI_leI (a := 8) (by decide) (by omega)).mpr z); omega)]; exact h8.keep c⟩

