set_option maxRecDepth 20000 in
set_option maxHeartbeats 4000000 in
theorem out7_loop {G : Cx} (d : Nat) {μ : Hp} {l : List Int32} {p : Nat → Int32} {i : Nat} {un lr mr hr le at9 fa op tr sg hm hi : Int32} {co wh : Int64} (h60 : μ 60 = some (modC (nI l.length) co wh un lr mr hr le at9 fa op tr sg hm hi)) (hl8 : l.length ≤ 8) (hi9 : i < l.length) : ∀ (m : Nat) (j : Nat) (q : Nat → Int32), j + 1 + m = l.length → i ≤ j → (∀ x, x < 8 → q x = if i ≤ x ∧ x < j then p (x + 1) else p x) → V G M_X7_takesOut (d + 0) 0 0 (fun r μ' => r = none ∧ ∃ q, μ' = up μ 62 (arI 8 q) ∧ ∀ x, x + 1 < l.length → q x = if i ≤ x then p (x + 1) else p x) 2 [(2, .int (nI j)), (0, .ref 60), (1, .int (nI i))] [] (up μ 62 (arI 8 q)) := by
  intro m
  induction m with
  | zero =>
    intro j q hj hij hq
    refine v_iload_n 0 dX7_takesOut_2 rfl rfl ?_
    refine v_iconst (v := 1) dX7_takesOut_3 (by first | rfl | decide) ?_
    refine v_iadd dX7_takesOut_4 ?_
    refine v_aload_n 1 dX7_takesOut_5 rfl rfl ?_
    refine v_get fl_X7_91 dX7_takesOut_6 (up_n (by decide) h60) rfl ?_
    rw [nI_1]
    refine v_icmp_ge (tgt := 32) dX7_takesOut_9 (by decide) (fun hc9 => ?_) (fun hc9 => ?_)
    ·
      refine v_vret dX7_takesOut_32 rfl ?_
      exact ⟨rfl, q, rfl, fun x hx => by
        rw [hq x (by omega)]
        by_cases e : i ≤ x
        · rw [if_pos e, if_pos ⟨e, by omega⟩]
        · rw [if_neg e, if_neg (fun z => e z.1)]⟩
    · exact absurd ((nI_leI (by omega) (by omega)).mpr (by omega)) hc9
  | succ m ih =>
    intro j q hj hij hq
    refine v_iload_n 0 dX7_takesOut_2 rfl rfl ?_
    refine v_iconst (v := 1) dX7_takesOut_3 (by first | rfl | decide) ?_
    refine v_iadd dX7_takesOut_4 ?_
    refine v_aload_n 1 dX7_takesOut_5 rfl rfl ?_
    refine v_get fl_X7_91 dX7_takesOut_6 (up_n (by decide) h60) rfl ?_
    rw [nI_1]
    refine v_icmp_ge (tgt := 32) dX7_takesOut_9 (by decide) (fun hc9 => ?_) (fun hc9 => ?_)
    · exact absurd ((nI_leI (by omega) (by omega)).mp hc9) (by omega)
    ·
      refine v_aload_n 1 dX7_takesOut_12 rfl rfl ?_
      refine v_get fl_X7_17 dX7_takesOut_13 (up_n (by decide) h60) rfl ?_
      refine v_iload_n 0 dX7_takesOut_16 rfl rfl ?_
      refine v_aload_n 1 dX7_takesOut_17 rfl rfl ?_
      refine v_get fl_X7_17 dX7_takesOut_18 (up_n (by decide) h60) rfl ?_
      refine v_iload_n 0 dX7_takesOut_21 rfl rfl ?_
      refine v_iconst (v := 1) dX7_takesOut_22 (by first | rfl | decide) ?_
      refine v_iadd dX7_takesOut_23 ?_
      refine v_iald dX7_takesOut_24 (up_s _ _ _) (by rw [nI_1]; exact nI_in' (by omega)) ?_
      refine v_iast dX7_takesOut_25 (up_s _ _ _) (nI_in' (by omega)) ?_
      refine v_hp (up_up _ _ _ _) ?_
      refine v_iinc (v := 1) 0 dX7_takesOut_26 rfl rfl (by decide) (fun z e_z => ?_)
      refine v_ls (ls' := [(2, .int z), (0, .ref 60), (1, .int (nI i))]) rfl ?_
      rw [nI_1] at e_z
      subst e_z
      refine v_goto (tgt := 2) dX7_takesOut_29 (by decide) ?_
      exact ih (j + 1) _ (by omega) (by omega) (fun x hx => by
        rw [clamp (by omega), nI_1, clamp (by omega)]
        show (if x = j then _ else _) = _
        by_cases e : x = j
        · rw [if_pos e, hq (j + 1) (by omega), if_neg (by omega), e, if_pos ⟨by omega, by omega⟩]
        · rw [if_neg e, hq x hx]
          by_cases e2 : i ≤ x ∧ x < j
          · rw [if_pos e2, if_pos ⟨e2.1, by omega⟩]
          · rw [if_neg e2, if_neg (fun z => e2 ⟨z.1, by omega⟩)])
      

set_option maxRecDepth 20000 in
set_option maxHeartbeats 4000000 in
theorem c_X7_takesOut {G : Cx} (d : Nat) {μ : Hp} {l : List Int32} {p : Nat → Int32} {i : Nat} {un lr mr hr le at9 fa op tr sg hm hi : Int32} {co wh : Int64} (h60 : μ 60 = some (modC (nI l.length) co wh un lr mr hr le at9 fa op tr sg hm hi)) (h62 : μ 62 = some (arI 8 p)) (hpl : Pl l p) (hl8 : l.length ≤ 8) (hi9 : i < l.length) : Ct G (d) 0 0 M_X7_takesOut [.ref 60, .int (nI i)] μ (fun r μ' => r = none ∧ ∃ q, μ' = up μ 62 (arI 8 q) ∧ Pl (l.eraseIdx i) q) := by
  refine Ct.ofV (by decide +kernel) (Nat.le_of_ble_eq_true rfl) ?_
  refine v_ls (ls' := [(0, .ref 60), (1, .int (nI i))]) rfl ?_
  refine v_iload_n 1 dX7_takesOut_0 rfl rfl ?_
  refine v_istore_n dX7_takesOut_1 rfl (by decide) (fun x2 e_x2 => ?_)
  refine v_ls (ls' := [(2, .int x2), (0, .ref 60), (1, .int (nI i))]) rfl ?_
  subst e_x2
  refine v_hp (up_id h62).symm ?_
  refine v_post (out7_loop d (p := p) h60 hl8 hi9 (l.length - i - 1) i p (by omega) (Nat.le_refl i) (fun x _ => by rw [if_neg (by omega)])) ?_
  rintro r m ⟨hr, q, hm, hq⟩
  exact ⟨hr, q, hm, hpl.erase hq hi9⟩
  

set_option maxRecDepth 20000 in
set_option maxHeartbeats 4000000 in
theorem c_X7_cut {G : Cx} (d : Nat) {μ : Hp} {σ : ST} {i : Int32} (h : Mo σ μ) (hw : Wp (sP σ)) : Ct G (d + 2) 0 0 M_X7_cut [.ref 60, .int i] μ (Pm ((rCut σ i).2) (.int ((rCut σ i).1)) μ) := by
  refine Ct.ofV (by decide +kernel) (Nat.le_of_ble_eq_true rfl) ?_
  refine v_ls (ls' := [(0, .ref 60), (1, .int i)]) rfl ?_
  obtain ⟨co, wh, un, lr, mr, hr, at9, fa, op, sg, hm, p, tt, ro, og, tc, op9, sp, nw, se, le, mo, ot, h60, h61, h62, h63, h64, h65, h66, h67, h68, h69, h70, h71, h72, h73, h74, h75, h76, h77, h78, h79, h80, hmk, hpl, htp, ht60⟩ := id h
  have hl8 := hw.1
  refine v_aload_n 0 dX7_cut_0 rfl rfl ?_
  refine v_iload_n 1 dX7_cut_1 rfl rfl ?_
  refine v_callV (c_X7_isFilter d h60 (by omega)) cs_X7_169 dX7_cut_2 h60 rfl rfl (Nat.le_of_ble_eq_true rfl) ?_
  refine rt_k ?_
  refine v_if_ne (tgt := 10) dX7_cut_5 (by decide) (fun hc5 => ?_) (fun hc5 => ?_)
  ·
    obtain ⟨n, hn9, rfl⟩ := in_ix (by omega) hc5
    have hcn : (nI n).toNatClampNeg = n := clamp (by omega)
    refine v_aload_n 0 dX7_cut_10 rfl rfl ?_
    refine v_iload_n 1 dX7_cut_11 rfl rfl ?_
    refine v_callV (c_X7_takesOut (d + 1) h60 h62 hpl hl8 hn9) cs_X7_180 dX7_cut_12 h60 rfl rfl (Nat.le_of_ble_eq_true rfl) ?_
    rintro _ _ ⟨rfl, q, rfl, hq⟩
    refine v_aload_n 0 dX7_cut_15 rfl rfl ?_
    refine v_dup dX7_cut_16 rfl ?_
    refine v_get fl_X7_91 dX7_cut_17 (up_n (by decide) h60) rfl ?_
    refine v_iconst (v := 1) dX7_cut_20 (by first | rfl | decide) ?_
    refine v_isub dX7_cut_21 ?_
    refine v_put fp_X7_91 dX7_cut_22 (up_n (by decide) h60) (Nat.le_of_ble_eq_true rfl) (by first | rfl | decide) (by first | rfl | decide) ?_
    refine v_aload_n 0 dX7_cut_25 rfl rfl ?_
    refine v_get fl_X7_91 dX7_cut_26 (up_s _ _ _) rfl ?_
    refine v_iret dX7_cut_29 rfl (by first | rfl | decide | exact nar_b (by first | assumption | rfl)) ?_
    have hE : rCut σ (nI n) = (nI ((sP σ).length - 1), toP σ ((sP σ).eraseIdx n)) := by simp only [rCut, if_neg hc5, hcn]
    rw [hE]
    have hx : nI (sP (toP σ ((sP σ).eraseIdx n))).length = nI (sP σ).length - 1 := by show nI ((sP σ).eraseIdx n).length = _; rw [List.length_eraseIdx_of_lt hn9, nI_sub1 (by omega)]
    exact ⟨by rw [nI_sub1 (by omega)], ⟨co, wh, un, lr, mr, hr, at9, fa, op, sg, hm, q, tt, ro, og, tc, op9, sp, nw, se, le, mo, ot, (by rw [hx]; repeat (first | assumption | exact up_s _ _ _ | refine up_n (by omega) ?_)), (by repeat (first | assumption | exact up_s _ _ _ | refine up_n (by omega) ?_)), (by repeat (first | assumption | exact up_s _ _ _ | refine up_n (by omega) ?_)), (by repeat (first | assumption | exact up_s _ _ _ | refine up_n (by omega) ?_)), (by repeat (first | assumption | exact up_s _ _ _ | refine up_n (by omega) ?_)), (by repeat (first | assumption | exact up_s _ _ _ | refine up_n (by omega) ?_)), (by repeat (first | assumption | exact up_s _ _ _ | refine up_n (by omega) ?_)), (by repeat (first | assumption | exact up_s _ _ _ | refine up_n (by omega) ?_)), (by repeat (first | assumption | exact up_s _ _ _ | refine up_n (by omega) ?_)), (by repeat (first | assumption | exact up_s _ _ _ | refine up_n (by omega) ?_)), (by repeat (first | assumption | exact up_s _ _ _ | refine up_n (by omega) ?_)), (by repeat (first | assumption | exact up_s _ _ _ | refine up_n (by omega) ?_)), (by repeat (first | assumption | exact up_s _ _ _ | refine up_n (by omega) ?_)), (by repeat (first | assumption | exact up_s _ _ _ | refine up_n (by omega) ?_)), (by repeat (first | assumption | exact up_s _ _ _ | refine up_n (by omega) ?_)), (by repeat (first | assumption | exact up_s _ _ _ | refine up_n (by omega) ?_)), (by repeat (first | assumption | exact up_s _ _ _ | refine up_n (by omega) ?_)), (by repeat (first | assumption | exact up_s _ _ _ | refine up_n (by omega) ?_)), (by repeat (first | assumption | exact up_s _ _ _ | refine up_n (by omega) ?_)), (by repeat (first | assumption | exact up_s _ _ _ | refine up_n (by omega) ?_)), (by repeat (first | assumption | exact up_s _ _ _ | refine up_n (by omega) ?_)), (hmk.kept (fun i a b => by repeat (first | rfl | refine up_n (by omega) ?_))), hq, htp, ht60⟩, fun i hi => by repeat (first | rfl | refine up_n (by omega) ?_)⟩
  ·
    refine v_iconst (v := -1) dX7_cut_8 (by first | rfl | decide) ?_
    refine v_iret dX7_cut_9 rfl (by first | rfl | decide | exact nar_b (by first | assumption | rfl)) ?_
    have hE : rCut σ i = (-1, σ) := by
      first
        | (simp only [rCut, if_pos hc5]; done)
        | (grind [rCut]; done)
    rw [hE]
    exact ⟨rfl, h, Fp.rf μ⟩

set_option maxRecDepth 20000 in
set_option maxHeartbeats 4000000 in
theorem c_X7_clear {G : Cx} (d : Nat) {μ : Hp} {σ : ST}  (h : Mo σ μ) (hw : Wp (sP σ)) : Ct G (d) 0 0 M_X7_clear [.ref 60] μ (Pm ((rClear σ).2) (.int ((rClear σ).1)) μ) := by
  refine Ct.ofV (by decide +kernel) (Nat.le_of_ble_eq_true rfl) ?_
  refine v_ls (ls' := [(0, .ref 60)]) rfl ?_
  obtain ⟨co, wh, un, lr, mr, hr, at9, fa, op, sg, hm, p, tt, ro, og, tc, op9, sp, nw, se, le, mo, ot, h60, h61, h62, h63, h64, h65, h66, h67, h68, h69, h70, h71, h72, h73, h74, h75, h76, h77, h78, h79, h80, hmk, hpl, htp, ht60⟩ := id h
  have hl8 := hw.1
  refine v_aload_n 0 dX7_clear_0 rfl rfl ?_
  refine v_get fl_X7_91 dX7_clear_1 h60 rfl ?_
  refine v_istore_n dX7_clear_4 rfl (by decide) (fun x1_1 e_x1_1 => ?_)
  refine v_ls (ls' := [(1, .int x1_1), (0, .ref 60)]) rfl ?_
  subst e_x1_1
  refine v_aload_n 1 dX7_clear_5 rfl rfl ?_
  refine v_iconst (v := 0) dX7_clear_6 (by first | rfl | decide) ?_
  refine v_put fp_X7_91 dX7_clear_7 h60 (Nat.le_of_ble_eq_true rfl) (by first | rfl | decide) (by first | rfl | decide) ?_
  refine v_iload_n 0 dX7_clear_10 rfl rfl ?_
  refine v_iret dX7_clear_11 rfl (by first | rfl | decide | exact nar_b (by first | assumption | rfl)) ?_
  exact ⟨rfl, ⟨co, wh, un, lr, mr, hr, at9, fa, op, sg, hm, p, tt, ro, og, tc, op9, sp, nw, se, le, mo, ot, (up_s _ _ _), (by repeat (first | assumption | exact up_s _ _ _ | refine up_n (by omega) ?_)), (by repeat (first | assumption | exact up_s _ _ _ | refine up_n (by omega) ?_)), (by repeat (first | assumption | exact up_s _ _ _ | refine up_n (by omega) ?_)), (by repeat (first | assumption | exact up_s _ _ _ | refine up_n (by omega) ?_)), (by repeat (first | assumption | exact up_s _ _ _ | refine up_n (by omega) ?_)), (by repeat (first | assumption | exact up_s _ _ _ | refine up_n (by omega) ?_)), (by repeat (first | assumption | exact up_s _ _ _ | refine up_n (by omega) ?_)), (by repeat (first | assumption | exact up_s _ _ _ | refine up_n (by omega) ?_)), (by repeat (first | assumption | exact up_s _ _ _ | refine up_n (by omega) ?_)), (by repeat (first | assumption | exact up_s _ _ _ | refine up_n (by omega) ?_)), (by repeat (first | assumption | exact up_s _ _ _ | refine up_n (by omega) ?_)), (by repeat (first | assumption | exact up_s _ _ _ | refine up_n (by omega) ?_)), (by repeat (first | assumption | exact up_s _ _ _ | refine up_n (by omega) ?_)), (by repeat (first | assumption | exact up_s _ _ _ | refine up_n (by omega) ?_)), (by repeat (first | assumption | exact up_s _ _ _ | refine up_n (by omega) ?_)), (by repeat (first | assumption | exact up_s _ _ _ | refine up_n (by omega) ?_)), (by repeat (first | assumption | exact up_s _ _ _ | refine up_n (by omega) ?_)), (by repeat (first | assumption | exact up_s _ _ _ | refine up_n (by omega) ?_)), (by repeat (first | assumption | exact up_s _ _ _ | refine up_n (by omega) ?_)), (by repeat (first | assumption | exact up_s _ _ _ | refine up_n (by omega) ?_)), (hmk.kept (fun i a b => by repeat (first | rfl | refine up_n (by omega) ?_))), (fun j hj => absurd hj (Nat.not_lt_zero j)), htp, ht60⟩, fun i hi => by repeat (first | rfl | refine up_n (by omega) ?_)⟩

theorem ins_erase {l : List Int32} {i : Nat} (h : i < l.length) : (l.eraseIdx i).insertIdx i (l.getD i 0) = l := by
  have hl : (l.eraseIdx i).length = l.length - 1 := List.length_eraseIdx_of_lt h
  apply List.ext_getElem?
  intro j
  rw [List.getElem?_insertIdx]
  by_cases e : j < i
  · rw [if_pos e, List.getElem?_eraseIdx, if_pos e]
  · rw [if_neg e]
    by_cases e2 : j = i
    · rw [if_pos e2, if_pos (by omega), e2, List.getD_eq_getElem?_getD, List.getElem?_eq_getElem h]
      rfl
    · rw [if_neg e2, List.getElem?_eraseIdx, if_neg (by omega), show j - 1 + 1 = j by omega]
set_option maxRecDepth 20000 in
set_option maxHeartbeats 4000000 in
theorem mv_loop {G : Cx} (d : Nat) {μ : Hp} {l : List Int32} {q : Nat → Int32} {n b : Nat} {c : Int32} {m un lr mr hr le at9 fa op tr sg hm hi : Int32} {co wh : Int64} (h60 : μ 60 = some (modC m co wh un lr mr hr le at9 fa op tr sg hm hi)) (hl8 : l.length < 8) (hb9 : b ≤ l.length) (hn9 : n < 8) : ∀ (m : Nat) (j : Nat) (f : Nat → Int32), j = b + m → j ≤ l.length → (∀ x, x < 8 → f x = if j < x ∧ x ≤ l.length then q (x - 1) else q x) → V G M_X7_move (d + 2) 0 0 (fun r μ' => r = some (.int (if nI n = nI b then 0 else 1)) ∧ ∃ f, μ' = up μ 62 (arI 8 f) ∧ ∀ x, x ≤ l.length → f x = if x < b then q x else if x = b then c else q (x - 1)) 38 [(4, .int (nI j)), (3, .int c), (0, .ref 60), (1, .int (nI n)), (2, .int (nI b))] [] (up μ 62 (arI 8 f)) := by
  intro m
  induction m with
  | zero =>
    intro j f hj hjl hq
    refine v_iload 0 dX7_move_38 rfl ?_
    refine v_iload_n 4 dX7_move_40 rfl rfl ?_
    refine v_icmp_le (tgt := 66) dX7_move_41 (by decide) (fun hc41 => ?_) (fun hc41 => ?_)
    ·
      refine v_aload_n 2 dX7_move_66 rfl rfl ?_
      refine v_get fl_X7_17 dX7_move_67 (up_n (by decide) h60) rfl ?_
      refine v_iload_n 4 dX7_move_70 rfl rfl ?_
      refine v_iload_n 1 dX7_move_71 rfl rfl ?_
      refine v_iast dX7_move_72 (up_s _ _ _) (nI_in' (by omega)) ?_
      refine v_hp (up_up _ _ _ _) ?_
      refine v_iload_n 3 dX7_move_73 rfl rfl ?_
      refine v_iload_n 4 dX7_move_74 rfl rfl ?_
      refine v_icmp_ne (tgt := 82) dX7_move_75 (by decide) (fun hc75 => ?_) (fun hc75 => ?_)
      ·
        refine v_iconst (v := 1) dX7_move_82 (by first | rfl | decide) ?_
        refine v_iret dX7_move_83 rfl (by first | rfl | decide | exact nar_b (by first | assumption | rfl)) ?_
        refine ⟨by first | rw [if_pos hc75] | rw [if_neg hc75], _, rfl, fun x hx => by
          rw [clamp (by omega)]
          show (if x = b then c else f x) = _
          by_cases e : x = b
          · rw [if_pos e, if_neg (by omega), if_pos e]
          · rw [if_neg e, if_neg e, hq x (by omega)]
            by_cases e2 : x < b
            · rw [if_pos e2, if_neg (by omega)]
            · rw [if_neg e2, if_pos (by omega)]⟩
      ·
        refine v_iconst (v := 0) dX7_move_78 (by first | rfl | decide) ?_
        refine v_goto (tgt := 83) dX7_move_79 (by decide) ?_
        refine v_iret dX7_move_83 rfl (by first | rfl | decide | exact nar_b (by first | assumption | rfl)) ?_
        refine ⟨by first | rw [if_pos hc75] | rw [if_neg hc75], _, rfl, fun x hx => by
          rw [clamp (by omega)]
          show (if x = b then c else f x) = _
          by_cases e : x = b
          · rw [if_pos e, if_neg (by omega), if_pos e]
          · rw [if_neg e, if_neg e, hq x (by omega)]
            by_cases e2 : x < b
            · rw [if_pos e2, if_neg (by omega)]
            · rw [if_neg e2, if_pos (by omega)]⟩
    · exact absurd ((nI_leI (by omega) (by omega)).mpr (by omega)) hc41
  | succ m ih =>
    intro j f hj hjl hq
    refine v_iload 0 dX7_move_38 rfl ?_
    refine v_iload_n 4 dX7_move_40 rfl rfl ?_
    refine v_icmp_le (tgt := 66) dX7_move_41 (by decide) (fun hc41 => ?_) (fun hc41 => ?_)
    · exact absurd ((nI_leI (by omega) (by omega)).mp hc41) (by omega)
    ·
      refine v_aload_n 2 dX7_move_44 rfl rfl ?_
      refine v_get fl_X7_17 dX7_move_45 (up_n (by decide) h60) rfl ?_
      refine v_iload 0 dX7_move_48 rfl ?_
      refine v_aload_n 2 dX7_move_50 rfl rfl ?_
      refine v_get fl_X7_17 dX7_move_51 (up_n (by decide) h60) rfl ?_
      refine v_iload 0 dX7_move_54 rfl ?_
      refine v_iconst (v := 1) dX7_move_56 (by first | rfl | decide) ?_
      refine v_isub dX7_move_57 ?_
      refine v_iald dX7_move_58 (up_s _ _ _) (by rw [nI_sub1 (by omega)]; exact nI_in' (by omega)) ?_
      refine v_iast dX7_move_59 (up_s _ _ _) (nI_in' (by omega)) ?_
      refine v_hp (up_up _ _ _ _) ?_
      refine v_iinc (v := -1) 0 dX7_move_60 rfl rfl (by decide) (fun z e_z => ?_)
      refine v_ls (ls' := [(4, .int z), (3, .int c), (0, .ref 60), (1, .int (nI n)), (2, .int (nI b))]) rfl ?_
      have e_z2 : z = nI (j - 1) := by rw [e_z]; exact nI_m1 (by omega)
      clear e_z
      subst e_z2
      refine v_goto (tgt := 38) dX7_move_63 (by decide) ?_
      exact ih (j - 1) _ (by omega) (by omega) (fun x hx => by
        rw [clamp (by omega), nI_sub1 (by omega), clamp (by omega)]
        show (if x = j then f (j - 1) else f x) = _
        by_cases e : x = j
        · rw [if_pos e, hq (j - 1) (by omega), if_neg (by omega), if_pos (by omega), e]
        · rw [if_neg e, hq x hx]
          by_cases e2 : j < x ∧ x ≤ l.length
          · rw [if_pos e2, if_pos (by omega)]
          · rw [if_neg e2, if_neg (by omega)])
      

set_option maxRecDepth 20000 in
set_option maxHeartbeats 4000000 in
theorem c_X7_move {G : Cx} (d : Nat) {μ : Hp} {σ : ST} {i : Int32} {j : Int32} (h : Mo σ μ) (hw : Wp (sP σ)) : Ct G (d + 2) 0 0 M_X7_move [.ref 60, .int i, .int j] μ (Pm ((rMove σ i j).2) (.int ((rMove σ i j).1)) μ) := by
  refine Ct.ofV (by decide +kernel) (Nat.le_of_ble_eq_true rfl) ?_
  refine v_ls (ls' := [(0, .ref 60), (1, .int i), (2, .int j)]) rfl ?_
  obtain ⟨co, wh, un, lr, mr, hr, at9, fa, op, sg, hm, p, tt, ro, og, tc, op9, sp, nw, se, le, mo, ot, h60, h61, h62, h63, h64, h65, h66, h67, h68, h69, h70, h71, h72, h73, h74, h75, h76, h77, h78, h79, h80, hmk, hpl, htp, ht60⟩ := id h
  have hl8 := hw.1
  refine v_aload_n 0 dX7_move_0 rfl rfl ?_
  refine v_iload_n 1 dX7_move_1 rfl rfl ?_
  refine v_callV (c_X7_isFilter d h60 (by omega)) cs_X7_169 dX7_move_2 h60 rfl rfl (Nat.le_of_ble_eq_true rfl) ?_
  refine rt_k ?_
  refine v_if_eq (tgt := 16) dX7_move_5 (by decide) (fun hc5 => ?_) (fun hc5 => ?_)
  ·
    refine v_iconst (v := -1) dX7_move_16 (by first | rfl | decide) ?_
    refine v_iret dX7_move_17 rfl (by first | rfl | decide | exact nar_b (by first | assumption | rfl)) ?_
    have hE : rMove σ i j = (-1, σ) := by
      first
        | (simp only [rMove, if_pos hc5]; done)
        | (grind [rMove]; done)
    rw [hE]
    exact ⟨rfl, h, Fp.rf μ⟩
  ·
    refine v_aload_n 0 dX7_move_8 rfl rfl ?_
    refine v_iload_n 2 dX7_move_9 rfl rfl ?_
    refine v_callV (c_X7_isFilter d h60 (by omega)) cs_X7_169 dX7_move_10 h60 rfl rfl (Nat.le_of_ble_eq_true rfl) ?_
    refine rt_k ?_
    refine v_if_ne (tgt := 18) dX7_move_13 (by decide) (fun hc13 => ?_) (fun hc13 => ?_)
    ·
      obtain ⟨n, hn9, rfl⟩ := in_ix (by omega) hc5
      obtain ⟨b, hb9, rfl⟩ := in_ix (by omega) hc13
      have hcn : (nI n).toNatClampNeg = n := clamp (by omega)
      have hcb : (nI b).toNatClampNeg = b := clamp (by omega)
      refine v_aload_n 0 dX7_move_18 rfl rfl ?_
      refine v_get fl_X7_17 dX7_move_19 h60 rfl ?_
      refine v_iload_n 1 dX7_move_22 rfl rfl ?_
      refine v_iald dX7_move_23 h62 (nI_in' (by omega)) ?_
      refine v_istore_n dX7_move_24 rfl (by decide) (fun cc e_cc => ?_)
      refine v_ls (ls' := [(3, .int cc), (0, .ref 60), (1, .int (nI n)), (2, .int (nI b))]) rfl ?_
      have hcc : atP σ (nI n) = cc := by rw [e_cc, hcn]; exact at_nI hpl hn9 hl8
      refine v_aload_n 1 dX7_move_25 rfl rfl ?_
      refine v_iload_n 2 dX7_move_26 rfl rfl ?_
      refine v_callV (c_X7_takesOut (d + 1) h60 h62 hpl hl8 hn9) cs_X7_180 dX7_move_27 h60 rfl rfl (Nat.le_of_ble_eq_true rfl) ?_
      rintro _ _ ⟨rfl, q, rfl, hq⟩
      refine v_aload_n 1 dX7_move_30 rfl rfl ?_
      refine v_get fl_X7_91 dX7_move_31 (up_n (by decide) h60) rfl ?_
      refine v_iconst (v := 1) dX7_move_34 (by first | rfl | decide) ?_
      refine v_isub dX7_move_35 ?_
      refine v_istore dX7_move_36 (by decide) (fun x4 e_x4 => ?_)
      refine v_ls (ls' := [(4, .int x4), (3, .int cc), (0, .ref 60), (1, .int (nI n)), (2, .int (nI b))]) rfl ?_
      rw [nI_sub1 (by omega)] at e_x4
      subst e_x4
      have hle : ((sP σ).eraseIdx n).length = (sP σ).length - 1 := List.length_eraseIdx_of_lt hn9
      refine v_post (mv_loop d (l := (sP σ).eraseIdx n) (q := q) (b := b) (c := cc) h60 (by omega) (by omega) (by omega) ((sP σ).length - 1 - b) ((sP σ).length - 1) q (by omega) (by omega) (fun x hx => by rw [if_neg (by omega)])) ?_
      rintro _ _ ⟨rfl, f, rfl, hf⟩
      have hpi := hq.ins (i := b) (c := cc) (by omega) hf
      have hli : (((sP σ).eraseIdx n).insertIdx b cc).length = (sP σ).length := by rw [List.length_insertIdx_of_le_length (by omega)]; omega
      by_cases e : nI n = nI b
      · have e2 : n = b := (nI_eq (by omega) (by omega)).mp e
        subst e2
        have hcc2 : (sP σ).getD n 0 = cc := by rw [← hcc]; show _ = (sP σ).getD (nI n).toNatClampNeg 0; rw [hcn]
        rw [← hcc2, ins_erase hn9] at hpi
        have hE : rMove σ (nI n) (nI n) = (0, σ) := by simp only [rMove, if_neg hc5, if_pos trivial]
        rw [hE]
        exact ⟨by rw [if_pos rfl], ⟨co, wh, un, lr, mr, hr, at9, fa, op, sg, hm, f, tt, ro, og, tc, op9, sp, nw, se, le, mo, ot, (by repeat (first | assumption | exact up_s _ _ _ | refine up_n (by omega) ?_)), (by repeat (first | assumption | exact up_s _ _ _ | refine up_n (by omega) ?_)), (by repeat (first | assumption | exact up_s _ _ _ | refine up_n (by omega) ?_)), (by repeat (first | assumption | exact up_s _ _ _ | refine up_n (by omega) ?_)), (by repeat (first | assumption | exact up_s _ _ _ | refine up_n (by omega) ?_)), (by repeat (first | assumption | exact up_s _ _ _ | refine up_n (by omega) ?_)), (by repeat (first | assumption | exact up_s _ _ _ | refine up_n (by omega) ?_)), (by repeat (first | assumption | exact up_s _ _ _ | refine up_n (by omega) ?_)), (by repeat (first | assumption | exact up_s _ _ _ | refine up_n (by omega) ?_)), (by repeat (first | assumption | exact up_s _ _ _ | refine up_n (by omega) ?_)), (by repeat (first | assumption | exact up_s _ _ _ | refine up_n (by omega) ?_)), (by repeat (first | assumption | exact up_s _ _ _ | refine up_n (by omega) ?_)), (by repeat (first | assumption | exact up_s _ _ _ | refine up_n (by omega) ?_)), (by repeat (first | assumption | exact up_s _ _ _ | refine up_n (by omega) ?_)), (by repeat (first | assumption | exact up_s _ _ _ | refine up_n (by omega) ?_)), (by repeat (first | assumption | exact up_s _ _ _ | refine up_n (by omega) ?_)), (by repeat (first | assumption | exact up_s _ _ _ | refine up_n (by omega) ?_)), (by repeat (first | assumption | exact up_s _ _ _ | refine up_n (by omega) ?_)), (by repeat (first | assumption | exact up_s _ _ _ | refine up_n (by omega) ?_)), (by repeat (first | assumption | exact up_s _ _ _ | refine up_n (by omega) ?_)), (by repeat (first | assumption | exact up_s _ _ _ | refine up_n (by omega) ?_)), (hmk.kept (fun i a b => by repeat (first | rfl | refine up_n (by omega) ?_))), hpi, htp, ht60⟩, fun i hi => by repeat (first | rfl | refine up_n (by omega) ?_)⟩
      · have hE : rMove σ (nI n) (nI b) = (1, toP σ (((sP σ).eraseIdx n).insertIdx b cc)) := by simp only [rMove, if_neg hc5, if_neg hc13, if_neg e, hcc, hcn, hcb]
        rw [hE]
        have hx : nI (sP (toP σ (((sP σ).eraseIdx n).insertIdx b cc))).length = nI (sP σ).length := by show nI (((sP σ).eraseIdx n).insertIdx b cc).length = _; rw [hli]
        exact ⟨by rw [if_neg e], ⟨co, wh, un, lr, mr, hr, at9, fa, op, sg, hm, f, tt, ro, og, tc, op9, sp, nw, se, le, mo, ot, (by rw [hx]; repeat (first | assumption | exact up_s _ _ _ | refine up_n (by omega) ?_)), (by repeat (first | assumption | exact up_s _ _ _ | refine up_n (by omega) ?_)), (by repeat (first | assumption | exact up_s _ _ _ | refine up_n (by omega) ?_)), (by repeat (first | assumption | exact up_s _ _ _ | refine up_n (by omega) ?_)), (by repeat (first | assumption | exact up_s _ _ _ | refine up_n (by omega) ?_)), (by repeat (first | assumption | exact up_s _ _ _ | refine up_n (by omega) ?_)), (by repeat (first | assumption | exact up_s _ _ _ | refine up_n (by omega) ?_)), (by repeat (first | assumption | exact up_s _ _ _ | refine up_n (by omega) ?_)), (by repeat (first | assumption | exact up_s _ _ _ | refine up_n (by omega) ?_)), (by repeat (first | assumption | exact up_s _ _ _ | refine up_n (by omega) ?_)), (by repeat (first | assumption | exact up_s _ _ _ | refine up_n (by omega) ?_)), (by repeat (first | assumption | exact up_s _ _ _ | refine up_n (by omega) ?_)), (by repeat (first | assumption | exact up_s _ _ _ | refine up_n (by omega) ?_)), (by repeat (first | assumption | exact up_s _ _ _ | refine up_n (by omega) ?_)), (by repeat (first | assumption | exact up_s _ _ _ | refine up_n (by omega) ?_)), (by repeat (first | assumption | exact up_s _ _ _ | refine up_n (by omega) ?_)), (by repeat (first | assumption | exact up_s _ _ _ | refine up_n (by omega) ?_)), (by repeat (first | assumption | exact up_s _ _ _ | refine up_n (by omega) ?_)), (by repeat (first | assumption | exact up_s _ _ _ | refine up_n (by omega) ?_)), (by repeat (first | assumption | exact up_s _ _ _ | refine up_n (by omega) ?_)), (by repeat (first | assumption | exact up_s _ _ _ | refine up_n (by omega) ?_)), (hmk.kept (fun i a b => by repeat (first | rfl | refine up_n (by omega) ?_))), hpi, htp, ht60⟩, fun i hi => by repeat (first | rfl | refine up_n (by omega) ?_)⟩
      
    ·
      refine v_iconst (v := -1) dX7_move_16 (by first | rfl | decide) ?_
      refine v_iret dX7_move_17 rfl (by first | rfl | decide | exact nar_b (by first | assumption | rfl)) ?_
      have hE : rMove σ i j = (-1, σ) := by
        first
          | (simp only [rMove, if_neg hc5, if_pos hc13]; done)
          | (grind [rMove]; done)
      rw [hE]
      exact ⟨rfl, h, Fp.rf μ⟩

set_option maxRecDepth 20000 in
set_option maxHeartbeats 4000000 in
theorem c_X7_isUnderKind {G : Cx} (d : Nat) {μ : Hp} {k h : Int32}  : Ct G (d) 0 0 M_X7_isUnderKind [.int k, .int h] μ (Rt (some (.int (undO k h))) μ) := by
  refine Ct.ofV (by decide +kernel) (Nat.le_of_ble_eq_true rfl) ?_
  refine v_ls (ls' := [(0, .int k), (1, .int h)]) rfl ?_
  refine v_iload_n 1 dX7_isUnderKind_0 rfl rfl ?_
  by_cases cl1 : (h).toInt < 0
  · refine v_tableOut (tgt := 97) dX7_isUnderKind_1 (Or.inl cl1) (by decide) ?_
    have cs1_0 : ¬ h = 0 := sw_lo cl1 (by decide)
    have cs1_1 : ¬ h = 1 := sw_lo cl1 (by decide)
    have cs1_2 : ¬ h = 2 := sw_lo cl1 (by decide)
    have cs1_3 : ¬ h = 3 := sw_lo cl1 (by decide)
    have cs1_4 : ¬ h = 4 := sw_lo cl1 (by decide)
    refine v_iload_n 0 dX7_isUnderKind_97 rfl rfl ?_
    refine v_iload_n 1 dX7_isUnderKind_98 rfl rfl ?_
    refine v_icmp_ne (tgt := 106) dX7_isUnderKind_99 (by decide) (fun hc99 => ?_) (fun hc99 => ?_)
    ·
      refine v_iconst (v := 0) dX7_isUnderKind_106 (by first | rfl | decide) ?_
      refine v_iret dX7_isUnderKind_107 rfl (by first | rfl | decide | exact nar_b (by first | assumption | rfl)) ?_
      exact ⟨by first | (simp only [undO, if_neg cs1_0, if_neg cs1_1, if_neg cs1_2, if_neg cs1_3, if_neg cs1_4, if_neg hc99]; done) | grind [undO], rfl⟩
    ·
      refine v_iconst (v := 1) dX7_isUnderKind_102 (by first | rfl | decide) ?_
      refine v_goto (tgt := 107) dX7_isUnderKind_103 (by decide) ?_
      refine v_iret dX7_isUnderKind_107 rfl (by first | rfl | decide | exact nar_b (by first | assumption | rfl)) ?_
      exact ⟨by first | (simp only [undO, if_neg cs1_0, if_neg cs1_1, if_neg cs1_2, if_neg cs1_3, if_neg cs1_4, if_pos hc99]; done) | grind [undO], rfl⟩
  by_cases ch1 : 4 < (h).toInt
  · refine v_tableOut (tgt := 97) dX7_isUnderKind_1 (Or.inr ch1) (by decide) ?_
    have cs1_0 : ¬ h = 0 := sw_hi ch1 (by decide)
    have cs1_1 : ¬ h = 1 := sw_hi ch1 (by decide)
    have cs1_2 : ¬ h = 2 := sw_hi ch1 (by decide)
    have cs1_3 : ¬ h = 3 := sw_hi ch1 (by decide)
    have cs1_4 : ¬ h = 4 := sw_hi ch1 (by decide)
    refine v_iload_n 0 dX7_isUnderKind_97 rfl rfl ?_
    refine v_iload_n 1 dX7_isUnderKind_98 rfl rfl ?_
    refine v_icmp_ne (tgt := 106) dX7_isUnderKind_99 (by decide) (fun hc99 => ?_) (fun hc99 => ?_)
    ·
      refine v_iconst (v := 0) dX7_isUnderKind_106 (by first | rfl | decide) ?_
      refine v_iret dX7_isUnderKind_107 rfl (by first | rfl | decide | exact nar_b (by first | assumption | rfl)) ?_
      exact ⟨by first | (simp only [undO, if_neg cs1_0, if_neg cs1_1, if_neg cs1_2, if_neg cs1_3, if_neg cs1_4, if_neg hc99]; done) | grind [undO], rfl⟩
    ·
      refine v_iconst (v := 1) dX7_isUnderKind_102 (by first | rfl | decide) ?_
      refine v_goto (tgt := 107) dX7_isUnderKind_103 (by decide) ?_
      refine v_iret dX7_isUnderKind_107 rfl (by first | rfl | decide | exact nar_b (by first | assumption | rfl)) ?_
      exact ⟨by first | (simp only [undO, if_neg cs1_0, if_neg cs1_1, if_neg cs1_2, if_neg cs1_3, if_neg cs1_4, if_pos hc99]; done) | grind [undO], rfl⟩
  by_cases cs1_0 : h = 0
  · refine v_tableIn (off := 35) (tgt := 36) dX7_isUnderKind_1 cl1 ch1 (by rw [cs1_0]; rfl) (by decide) ?_
    refine v_iconst (v := 1) dX7_isUnderKind_36 (by first | rfl | decide) ?_
    refine v_iret dX7_isUnderKind_37 rfl (by first | rfl | decide | exact nar_b (by first | assumption | rfl)) ?_
    exact ⟨by first | (simp only [undO, if_pos cs1_0]; done) | grind [undO], rfl⟩
  by_cases cs1_1 : h = 1
  · refine v_tableIn (off := 37) (tgt := 38) dX7_isUnderKind_1 cl1 ch1 (by rw [cs1_1]; rfl) (by decide) ?_
    refine v_iload_n 0 dX7_isUnderKind_38 rfl rfl ?_
    refine v_iconst (v := 1) dX7_isUnderKind_39 (by first | rfl | decide) ?_
    refine v_icmp_eq (tgt := 59) dX7_isUnderKind_40 (by decide) (fun hc40 => ?_) (fun hc40 => ?_)
    ·
      refine v_iconst (v := 1) dX7_isUnderKind_59 (by first | rfl | decide) ?_
      refine v_goto (tgt := 64) dX7_isUnderKind_60 (by decide) ?_
      refine v_iret dX7_isUnderKind_64 rfl (by first | rfl | decide | exact nar_b (by first | assumption | rfl)) ?_
      exact ⟨by first | (simp only [undO, if_neg cs1_0, if_pos cs1_1, if_pos hc40]; done) | grind [undO], rfl⟩
    ·
      refine v_iload_n 0 dX7_isUnderKind_43 rfl rfl ?_
      refine v_iconst (v := 2) dX7_isUnderKind_44 (by first | rfl | decide) ?_
      refine v_icmp_eq (tgt := 59) dX7_isUnderKind_45 (by decide) (fun hc45 => ?_) (fun hc45 => ?_)
      ·
        refine v_iconst (v := 1) dX7_isUnderKind_59 (by first | rfl | decide) ?_
        refine v_goto (tgt := 64) dX7_isUnderKind_60 (by decide) ?_
        refine v_iret dX7_isUnderKind_64 rfl (by first | rfl | decide | exact nar_b (by first | assumption | rfl)) ?_
        exact ⟨by first | (simp only [undO, if_neg cs1_0, if_pos cs1_1, if_neg hc40, if_pos hc45]; done) | grind [undO], rfl⟩
      ·
        refine v_iload_n 0 dX7_isUnderKind_48 rfl rfl ?_
        refine v_iconst (v := 3) dX7_isUnderKind_49 (by first | rfl | decide) ?_
        refine v_icmp_eq (tgt := 59) dX7_isUnderKind_50 (by decide) (fun hc50 => ?_) (fun hc50 => ?_)
        ·
          refine v_iconst (v := 1) dX7_isUnderKind_59 (by first | rfl | decide) ?_
          refine v_goto (tgt := 64) dX7_isUnderKind_60 (by decide) ?_
          refine v_iret dX7_isUnderKind_64 rfl (by first | rfl | decide | exact nar_b (by first | assumption | rfl)) ?_
          exact ⟨by first | (simp only [undO, if_neg cs1_0, if_pos cs1_1, if_neg hc40, if_neg hc45, if_pos hc50]; done) | grind [undO], rfl⟩
        ·
          refine v_iload_n 0 dX7_isUnderKind_53 rfl rfl ?_
          refine v_bipush (v := 6) dX7_isUnderKind_54 (by first | rfl | decide) ?_
          refine v_icmp_ne (tgt := 63) dX7_isUnderKind_56 (by decide) (fun hc56 => ?_) (fun hc56 => ?_)
          ·
            refine v_iconst (v := 0) dX7_isUnderKind_63 (by first | rfl | decide) ?_
            refine v_iret dX7_isUnderKind_64 rfl (by first | rfl | decide | exact nar_b (by first | assumption | rfl)) ?_
            exact ⟨by first | (simp only [undO, if_neg cs1_0, if_pos cs1_1, if_neg hc40, if_neg hc45, if_neg hc50, if_neg hc56]; done) | grind [undO], rfl⟩
          ·
            refine v_iconst (v := 1) dX7_isUnderKind_59 (by first | rfl | decide) ?_
            refine v_goto (tgt := 64) dX7_isUnderKind_60 (by decide) ?_
            refine v_iret dX7_isUnderKind_64 rfl (by first | rfl | decide | exact nar_b (by first | assumption | rfl)) ?_
            exact ⟨by first | (simp only [undO, if_neg cs1_0, if_pos cs1_1, if_neg hc40, if_neg hc45, if_neg hc50, if_pos hc56]; done) | grind [undO], rfl⟩
  by_cases cs1_2 : h = 2
  · refine v_tableIn (off := 64) (tgt := 65) dX7_isUnderKind_1 cl1 ch1 (by rw [cs1_2]; rfl) (by decide) ?_
    refine v_iload_n 0 dX7_isUnderKind_65 rfl rfl ?_
    refine v_iconst (v := 2) dX7_isUnderKind_66 (by first | rfl | decide) ?_
    refine v_icmp_eq (tgt := 75) dX7_isUnderKind_67 (by decide) (fun hc67 => ?_) (fun hc67 => ?_)
    ·
      refine v_iconst (v := 1) dX7_isUnderKind_75 (by first | rfl | decide) ?_
      refine v_goto (tgt := 80) dX7_isUnderKind_76 (by decide) ?_
      refine v_iret dX7_isUnderKind_80 rfl (by first | rfl | decide | exact nar_b (by first | assumption | rfl)) ?_
      exact ⟨by first | (simp only [undO, if_neg cs1_0, if_neg cs1_1, if_pos cs1_2, if_pos hc67]; done) | grind [undO], rfl⟩
    ·
      refine v_iload_n 0 dX7_isUnderKind_70 rfl rfl ?_
      refine v_iconst (v := 3) dX7_isUnderKind_71 (by first | rfl | decide) ?_
      refine v_icmp_ne (tgt := 79) dX7_isUnderKind_72 (by decide) (fun hc72 => ?_) (fun hc72 => ?_)
      ·
        refine v_iconst (v := 0) dX7_isUnderKind_79 (by first | rfl | decide) ?_
        refine v_iret dX7_isUnderKind_80 rfl (by first | rfl | decide | exact nar_b (by first | assumption | rfl)) ?_
        exact ⟨by first | (simp only [undO, if_neg cs1_0, if_neg cs1_1, if_pos cs1_2, if_neg hc67, if_neg hc72]; done) | grind [undO], rfl⟩
      ·
        refine v_iconst (v := 1) dX7_isUnderKind_75 (by first | rfl | decide) ?_
        refine v_goto (tgt := 80) dX7_isUnderKind_76 (by decide) ?_
        refine v_iret dX7_isUnderKind_80 rfl (by first | rfl | decide | exact nar_b (by first | assumption | rfl)) ?_
        exact ⟨by first | (simp only [undO, if_neg cs1_0, if_neg cs1_1, if_pos cs1_2, if_neg hc67, if_pos hc72]; done) | grind [undO], rfl⟩
  by_cases cs1_3 : h = 3
  · refine v_tableIn (off := 96) (tgt := 97) dX7_isUnderKind_1 cl1 ch1 (by rw [cs1_3]; rfl) (by decide) ?_
    refine v_iload_n 0 dX7_isUnderKind_97 rfl rfl ?_
    refine v_iload_n 1 dX7_isUnderKind_98 rfl rfl ?_
    refine v_icmp_ne (tgt := 106) dX7_isUnderKind_99 (by decide) (fun hc99 => ?_) (fun hc99 => ?_)
    ·
      refine v_iconst (v := 0) dX7_isUnderKind_106 (by first | rfl | decide) ?_
      refine v_iret dX7_isUnderKind_107 rfl (by first | rfl | decide | exact nar_b (by first | assumption | rfl)) ?_
      exact ⟨by first | (simp only [undO, if_neg cs1_0, if_neg cs1_1, if_neg cs1_2, if_pos cs1_3, if_neg hc99]; done) | grind [undO], rfl⟩
    ·
      refine v_iconst (v := 1) dX7_isUnderKind_102 (by first | rfl | decide) ?_
      refine v_goto (tgt := 107) dX7_isUnderKind_103 (by decide) ?_
      refine v_iret dX7_isUnderKind_107 rfl (by first | rfl | decide | exact nar_b (by first | assumption | rfl)) ?_
      exact ⟨by first | (simp only [undO, if_neg cs1_0, if_neg cs1_1, if_neg cs1_2, if_pos cs1_3, if_pos hc99]; done) | grind [undO], rfl⟩
  by_cases cs1_4 : h = 4
  · refine v_tableIn (off := 80) (tgt := 81) dX7_isUnderKind_1 cl1 ch1 (by rw [cs1_4]; rfl) (by decide) ?_
    refine v_iload_n 0 dX7_isUnderKind_81 rfl rfl ?_
    refine v_iconst (v := 4) dX7_isUnderKind_82 (by first | rfl | decide) ?_
    refine v_icmp_eq (tgt := 91) dX7_isUnderKind_83 (by decide) (fun hc83 => ?_) (fun hc83 => ?_)
    ·
      refine v_iconst (v := 1) dX7_isUnderKind_91 (by first | rfl | decide) ?_
      refine v_goto (tgt := 96) dX7_isUnderKind_92 (by decide) ?_
      refine v_iret dX7_isUnderKind_96 rfl (by first | rfl | decide | exact nar_b (by first | assumption | rfl)) ?_
      exact ⟨by first | (simp only [undO, if_neg cs1_0, if_neg cs1_1, if_neg cs1_2, if_neg cs1_3, if_pos cs1_4, if_pos hc83]; done) | grind [undO], rfl⟩
    ·
      refine v_iload_n 0 dX7_isUnderKind_86 rfl rfl ?_
      refine v_iconst (v := 5) dX7_isUnderKind_87 (by first | rfl | decide) ?_
      refine v_icmp_ne (tgt := 95) dX7_isUnderKind_88 (by decide) (fun hc88 => ?_) (fun hc88 => ?_)
      ·
        refine v_iconst (v := 0) dX7_isUnderKind_95 (by first | rfl | decide) ?_
        refine v_iret dX7_isUnderKind_96 rfl (by first | rfl | decide | exact nar_b (by first | assumption | rfl)) ?_
        exact ⟨by first | (simp only [undO, if_neg cs1_0, if_neg cs1_1, if_neg cs1_2, if_neg cs1_3, if_pos cs1_4, if_neg hc83, if_neg hc88]; done) | grind [undO], rfl⟩
      ·
        refine v_iconst (v := 1) dX7_isUnderKind_91 (by first | rfl | decide) ?_
        refine v_goto (tgt := 96) dX7_isUnderKind_92 (by decide) ?_
        refine v_iret dX7_isUnderKind_96 rfl (by first | rfl | decide | exact nar_b (by first | assumption | rfl)) ?_
        exact ⟨by first | (simp only [undO, if_neg cs1_0, if_neg cs1_1, if_neg cs1_2, if_neg cs1_3, if_pos cs1_4, if_neg hc83, if_pos hc88]; done) | grind [undO], rfl⟩
  exfalso
  have q1_0 := lv_neT (a := 0) cs1_0 (by decide)
  have q1_1 := lv_neT (a := 1) cs1_1 (by decide)
  have q1_2 := lv_neT (a := 2) cs1_2 (by decide)
  have q1_3 := lv_neT (a := 3) cs1_3 (by decide)
  have q1_4 := lv_neT (a := 4) cs1_4 (by decide)
  omega

theorem und_pr (k : Int32) : undO k 4 = prO k := by grind [undO]
theorem und_sp (k : Int32) : undO k 2 = spO k := by grind [undO]
theorem of_bad (c w : Int32) (h : w < 0 ∨ 6 < w) : ofO c w = -1 := by
  unfold ofO
  rw [if_neg (show ¬ w = 0 by grind), if_neg (show ¬ w = 1 by grind), if_neg (show ¬ w = 2 by grind), if_neg (show ¬ w = 3 by grind), if_neg (show ¬ w = 4 by grind), if_neg (show ¬ w = 5 by grind), if_neg (show ¬ w = 6 by grind)]
set_option maxRecDepth 20000 in
set_option maxHeartbeats 4000000 in
theorem c_X7_of {G : Cx} (d : Nat) {μ : Hp} {σ : ST} {i : Int32} {w : Int32} (h : Mo σ μ) (hw : Wp (sP σ)) : Ct G (d + 2) 0 0 M_X7_of [.ref 60, .int i, .int w] μ (Pm (σ) (.int (rOf σ i w)) μ) := by
  refine Ct.ofV (by decide +kernel) (Nat.le_of_ble_eq_true rfl) ?_
  refine v_ls (ls' := [(0, .ref 60), (1, .int i), (2, .int w)]) rfl ?_
  obtain ⟨co, wh, un, lr, mr, hr, at9, fa, op, sg, hm, p, tt, ro, og, tc, op9, sp, nw, se, le, mo, ot, h60, h61, h62, h63, h64, h65, h66, h67, h68, h69, h70, h71, h72, h73, h74, h75, h76, h77, h78, h79, h80, hmk, hpl, htp, ht60⟩ := id h
  have hl8 := hw.1
  refine v_aload_n 0 dX7_of_0 rfl rfl ?_
  refine v_iload_n 1 dX7_of_1 rfl rfl ?_
  refine v_callV (c_X7_isFilter d h60 (by omega)) cs_X7_169 dX7_of_2 h60 rfl rfl (Nat.le_of_ble_eq_true rfl) ?_
  refine rt_k ?_
  refine v_if_eq (tgt := 20) dX7_of_5 (by decide) (fun hc5 => ?_) (fun hc5 => ?_)
  ·
    refine v_iconst (v := -1) dX7_of_20 (by first | rfl | decide) ?_
    refine v_iret dX7_of_21 rfl (by first | rfl | decide | exact nar_b (by first | assumption | rfl)) ?_
    have hE : rOf σ i w = -1 := by simp only [rOf, if_pos hc5]
    rw [hE]
    exact ⟨rfl, h, Fp.rf μ⟩
  ·
    refine v_iload_n 2 dX7_of_8 rfl rfl ?_
    refine v_i2l dX7_of_9 ?_
    refine v_lconst (v := 0) dX7_of_10 (by first | rfl | decide) ?_
    refine v_ldc2 kc_X7_158 dX7_of_11 ?_
    refine v_callS (c_X7_inL (d + 1) 6 7 6 (by decide) rfl rfl) cs_X7_95 dX7_of_14 rfl rfl (Nat.le_of_ble_eq_true rfl) ?_
    refine rt_k ?_
    refine v_if_ne (tgt := 22) dX7_of_17 (by decide) (fun hc17 => ?_) (fun hc17 => ?_)
    ·
      obtain ⟨n, hn9, rfl⟩ := in_ix (by omega) hc5
      have hcn : (nI n).toNatClampNeg = n := clamp (by omega)
      refine v_aload_n 0 dX7_of_22 rfl rfl ?_
      refine v_get fl_X7_17 dX7_of_23 h60 rfl ?_
      refine v_iload_n 1 dX7_of_26 rfl rfl ?_
      refine v_iald dX7_of_27 h62 (nI_in' (by omega)) ?_
      refine v_istore_n dX7_of_28 rfl (by decide) (fun cc e_cc => ?_)
      refine v_ls (ls' := [(3, .int cc), (0, .ref 60), (1, .int (nI n)), (2, .int w)]) rfl ?_
      have hcc : atP σ (nI n) = cc := by rw [e_cc, hcn]; exact at_nI hpl hn9 hl8
      refine v_iload_n 3 dX7_of_29 rfl rfl ?_
      refine v_iconst (v := 3) dX7_of_30 (by first | rfl | decide) ?_
      refine v_icmp_ge (tgt := 40) dX7_of_31 (by decide) (fun hc31 => ?_) (fun hc31 => ?_)
      ·
        refine v_iload_n 3 dX7_of_40 rfl rfl ?_
        refine v_bipush (v := 6) dX7_of_41 (by first | rfl | decide) ?_
        refine v_icmp_ne (tgt := 48) dX7_of_43 (by decide) (fun hc43 => ?_) (fun hc43 => ?_)
        ·
          refine v_iload_n 3 dX7_of_48 rfl rfl ?_
          refine v_iconst (v := 5) dX7_of_49 (by first | rfl | decide) ?_
          refine v_icmp_ne (tgt := 76) dX7_of_50 (by decide) (fun hc50 => ?_) (fun hc50 => ?_)
          ·
            refine v_iload_n 0 dX7_of_76 rfl rfl ?_
            refine v_callS (c_X7_kindOf (d + 1) ) cs_X7_101 dX7_of_77 rfl rfl (Nat.le_of_ble_eq_true rfl) ?_
            refine rt_k ?_
            refine v_iconst (v := 2) dX7_of_80 (by first | rfl | decide) ?_
            refine v_callS (c_X7_isUnderKind (d + 1) ) cs_X7_184 dX7_of_81 rfl rfl (Nat.le_of_ble_eq_true rfl) ?_
            refine rt_k ?_
            rw [und_sp]
            refine v_if_ne (tgt := 92) dX7_of_84 (by decide) (fun hc84 => ?_) (fun hc84 => ?_)
            ·
              refine v_iload_n 3 dX7_of_92 rfl rfl ?_
              refine v_iconst (v := 3) dX7_of_93 (by first | rfl | decide) ?_
              refine v_icmp_ne (tgt := 104) dX7_of_94 (by decide) (fun hc94 => ?_) (fun hc94 => ?_)
              ·
                refine v_iload_n 0 dX7_of_104 rfl rfl ?_
                refine v_callS (c_X7_across d ) cs_X7_111 dX7_of_105 rfl rfl (Nat.le_of_ble_eq_true rfl) ?_
                refine rt_k ?_
                refine v_iret dX7_of_108 rfl (by first | rfl | decide | exact nar_b (by first | assumption | rfl)) ?_
                have hw34 : w = 3 ∨ w = 4 := by
                  have hq : ¬ inO w 7 = 0 := hc17
                  clear h hw h60 h61 h62 h63 h64 h65 h66 h67 h68 h69 h70 h71 h72 h73 h74 h75 h76 h77 h78 h79 h80 hmk hpl htp hcc
                  grind
                have hE : rOf σ (nI n) w = acO cc := by
                  simp only [rOf, if_neg hc5, hcc]
                  have q : w = 4 := hw34.resolve_left hc94
                  simp only [ofO, q, if_neg hc84]
                  rfl
                rw [hE]
                exact ⟨rfl, h, Fp.rf μ⟩
              ·
                refine v_iload_n 0 dX7_of_97 rfl rfl ?_
                refine v_callS (c_X7_along d ) cs_X7_108 dX7_of_98 rfl rfl (Nat.le_of_ble_eq_true rfl) ?_
                refine rt_k ?_
                refine v_goto (tgt := 108) dX7_of_101 (by decide) ?_
                refine v_iret dX7_of_108 rfl (by first | rfl | decide | exact nar_b (by first | assumption | rfl)) ?_
                have hw34 : w = 3 ∨ w = 4 := by
                  have hq : ¬ inO w 7 = 0 := hc17
                  clear h hw h60 h61 h62 h63 h64 h65 h66 h67 h68 h69 h70 h71 h72 h73 h74 h75 h76 h77 h78 h79 h80 hmk hpl htp hcc
                  grind
                have hE : rOf σ (nI n) w = alO cc := by
                  simp only [rOf, if_neg hc5, hcc]
                  simp only [ofO, hc94, if_neg hc84]
                  rfl
                rw [hE]
                exact ⟨rfl, h, Fp.rf μ⟩
            ·
              refine v_bipush (v := -5) dX7_of_87 (by first | rfl | decide) ?_
              refine v_goto (tgt := 108) dX7_of_89 (by decide) ?_
              refine v_iret dX7_of_108 rfl (by first | rfl | decide | exact nar_b (by first | assumption | rfl)) ?_
              have hw34 : w = 3 ∨ w = 4 := by
                have hq : ¬ inO w 7 = 0 := hc17
                clear h hw h60 h61 h62 h63 h64 h65 h66 h67 h68 h69 h70 h71 h72 h73 h74 h75 h76 h77 h78 h79 h80 hmk hpl htp hcc
                grind
              have hE : rOf σ (nI n) w = -5 := by
                simp only [rOf, if_neg hc5, hcc]
                rcases hw34 with q | q <;> simp only [ofO, q, if_pos hc84] <;> rfl
              rw [hE]
              exact ⟨rfl, h, Fp.rf μ⟩
          ·
            refine v_iload_n 0 dX7_of_53 rfl rfl ?_
            refine v_callS (c_X7_kindOf (d + 1) ) cs_X7_101 dX7_of_54 rfl rfl (Nat.le_of_ble_eq_true rfl) ?_
            refine rt_k ?_
            refine v_iconst (v := 4) dX7_of_57 (by first | rfl | decide) ?_
            refine v_callS (c_X7_isUnderKind (d + 1) ) cs_X7_184 dX7_of_58 rfl rfl (Nat.le_of_ble_eq_true rfl) ?_
            refine rt_k ?_
            rw [und_pr]
            refine v_if_eq (tgt := 73) dX7_of_61 (by decide) (fun hc61 => ?_) (fun hc61 => ?_)
            ·
              refine v_bipush (v := -5) dX7_of_73 (by first | rfl | decide) ?_
              refine v_iret dX7_of_75 rfl (by first | rfl | decide | exact nar_b (by first | assumption | rfl)) ?_
              have hE : rOf σ (nI n) w = -5 := by
                simp only [rOf, if_neg hc5, hcc]
                simp only [ofO, hc50, if_pos hc61]
                rfl
              rw [hE]
              exact ⟨rfl, h, Fp.rf μ⟩
            ·
              refine v_iload_n 0 dX7_of_64 rfl rfl ?_
              refine v_callS (c_X7_figureOf (d + 1) ) cs_X7_105 dX7_of_65 rfl rfl (Nat.le_of_ble_eq_true rfl) ?_
              refine rt_k ?_
              refine v_iconst (v := 4) dX7_of_68 (by first | rfl | decide) ?_
              refine v_irem dX7_of_69 (by decide) ?_
              refine v_goto (tgt := 75) dX7_of_70 (by decide) ?_
              refine v_iret dX7_of_75 rfl (by first | rfl | decide | exact nar_b (by first | assumption | rfl)) ?_
              have hE : rOf σ (nI n) w = qtO cc := by
                simp only [rOf, if_neg hc5, hcc]
                simp only [ofO, hc50, if_neg hc61]
                rfl
              rw [hE]
              exact ⟨rfl, h, Fp.rf μ⟩
        ·
          refine v_iload_n 0 dX7_of_46 rfl rfl ?_
          refine v_iret dX7_of_47 rfl (by first | rfl | decide | exact nar_b (by first | assumption | rfl)) ?_
          have hE : rOf σ (nI n) w = cc := by
            simp only [rOf, if_neg hc5, hcc]
            simp only [ofO, hc43]
            rfl
          rw [hE]
          exact ⟨rfl, h, Fp.rf μ⟩
      ·
        refine v_iload_n 0 dX7_of_34 rfl rfl ?_
        refine v_iload_n 3 dX7_of_35 rfl rfl ?_
        refine v_callS (c_X7_told d ) cs_X7_173 dX7_of_36 rfl rfl (Nat.le_of_ble_eq_true rfl) ?_
        refine rt_k ?_
        refine v_iret dX7_of_39 rfl (by first | rfl | decide | exact nar_b (by first | assumption | rfl)) ?_
        have hE : rOf σ (nI n) w = tolO cc w := by
          simp only [rOf, if_neg hc5, hcc]
          have hq : ¬ inO w 7 = 0 := hc17
          clear h hw h60 h61 h62 h63 h64 h65 h66 h67 h68 h69 h70 h71 h72 h73 h74 h75 h76 h77 h78 h79 h80 hmk hpl htp hcc
          grind [ofO]
        rw [hE]
        exact ⟨rfl, h, Fp.rf μ⟩
    ·
      refine v_iconst (v := -1) dX7_of_20 (by first | rfl | decide) ?_
      refine v_iret dX7_of_21 rfl (by first | rfl | decide | exact nar_b (by first | assumption | rfl)) ?_
      have hE : rOf σ i w = -1 := by
        have hq := (in_iff (n := 6) (by decide)).mp hc17
        have hq : w < 0 ∨ 6 < w := hq
        simp only [rOf, if_neg hc5]
        exact of_bad _ w hq
      rw [hE]
      exact ⟨rfl, h, Fp.rf μ⟩

theorem und_b (k h : Int32) : undO k h = 0 ∨ undO k h = 1 := by
  unfold undO
  repeat' split
  all_goals first | exact Or.inl rfl | exact Or.inr rfl
set_option maxRecDepth 20000 in
set_option maxHeartbeats 4000000 in
theorem c_X7_isUnder {G : Cx} (d : Nat) {μ : Hp} {σ : ST} {i : Int32} {w : Int32} (h : Mo σ μ) (hw : Wp (sP σ)) : Ct G (d + 2) 0 0 M_X7_isUnder [.ref 60, .int i, .int w] μ (Pm (σ) (.int (rUnder σ i w)) μ) := by
  refine Ct.ofV (by decide +kernel) (Nat.le_of_ble_eq_true rfl) ?_
  refine v_ls (ls' := [(0, .ref 60), (1, .int i), (2, .int w)]) rfl ?_
  obtain ⟨co, wh, un, lr, mr, hr, at9, fa, op, sg, hm, p, tt, ro, og, tc, op9, sp, nw, se, le, mo, ot, h60, h61, h62, h63, h64, h65, h66, h67, h68, h69, h70, h71, h72, h73, h74, h75, h76, h77, h78, h79, h80, hmk, hpl, htp, ht60⟩ := id h
  have hl8 := hw.1
  refine v_aload_n 0 dX7_isUnder_0 rfl rfl ?_
  refine v_iload_n 1 dX7_isUnder_1 rfl rfl ?_
  refine v_callV (c_X7_isFilter d h60 (by omega)) cs_X7_169 dX7_isUnder_2 h60 rfl rfl (Nat.le_of_ble_eq_true rfl) ?_
  refine rt_k ?_
  refine v_if_eq (tgt := 20) dX7_isUnder_5 (by decide) (fun hc5 => ?_) (fun hc5 => ?_)
  ·
    refine v_iconst (v := -1) dX7_isUnder_20 (by first | rfl | decide) ?_
    refine v_iret dX7_isUnder_21 rfl (by first | rfl | decide | exact nar_b (by first | assumption | rfl)) ?_
    have hE : rUnder σ i w = -1 := by
      first
        | (simp only [rUnder, if_pos hc5]; done)
        | (grind [rUnder]; done)
    rw [hE]
    exact ⟨rfl, h, Fp.rf μ⟩
  ·
    refine v_iload_n 2 dX7_isUnder_8 rfl rfl ?_
    refine v_i2l dX7_isUnder_9 ?_
    refine v_lconst (v := 0) dX7_isUnder_10 (by first | rfl | decide) ?_
    refine v_ldc2 kc_X7_158 dX7_isUnder_11 ?_
    refine v_callS (c_X7_inL (d + 1) 6 7 6 (by decide) rfl rfl) cs_X7_95 dX7_isUnder_14 rfl rfl (Nat.le_of_ble_eq_true rfl) ?_
    refine rt_k ?_
    refine v_if_ne (tgt := 22) dX7_isUnder_17 (by decide) (fun hc17 => ?_) (fun hc17 => ?_)
    ·
      obtain ⟨n, hn9, rfl⟩ := in_ix (by omega) hc5
      have hcn : (nI n).toNatClampNeg = n := clamp (by omega)
      refine v_aload_n 0 dX7_isUnder_22 rfl rfl ?_
      refine v_get fl_X7_17 dX7_isUnder_23 h60 rfl ?_
      refine v_iload_n 1 dX7_isUnder_26 rfl rfl ?_
      refine v_iald dX7_isUnder_27 h62 (nI_in' (by omega)) ?_
      refine v_callS (c_X7_kindOf (d + 1) ) cs_X7_101 dX7_isUnder_28 rfl rfl (Nat.le_of_ble_eq_true rfl) ?_
      refine rt_k ?_
      refine v_iload_n 2 dX7_isUnder_31 rfl rfl ?_
      refine v_callS (c_X7_isUnderKind (d + 1) ) cs_X7_184 dX7_isUnder_32 rfl rfl (Nat.le_of_ble_eq_true rfl) ?_
      refine rt_k ?_
      refine v_if_eq (tgt := 42) dX7_isUnder_35 (by decide) (fun hc35 => ?_) (fun hc35 => ?_)
      ·
        refine v_iconst (v := 0) dX7_isUnder_42 (by first | rfl | decide) ?_
        refine v_iret dX7_isUnder_43 rfl (by first | rfl | decide | exact nar_b (by first | assumption | rfl)) ?_
        rw [hcn] at hc35
        have hE : rUnder σ (nI n) w = undO (kdO (p n)) w := by simp only [rUnder, if_neg hc5, if_neg hc17, at_nI hpl hn9 hl8]
        rw [hE, hc35]
        exact ⟨rfl, h, Fp.rf μ⟩
      ·
        refine v_iconst (v := 1) dX7_isUnder_38 (by first | rfl | decide) ?_
        refine v_goto (tgt := 43) dX7_isUnder_39 (by decide) ?_
        refine v_iret dX7_isUnder_43 rfl (by first | rfl | decide | exact nar_b (by first | assumption | rfl)) ?_
        rw [hcn] at hc35
        have hE : rUnder σ (nI n) w = undO (kdO (p n)) w := by simp only [rUnder, if_neg hc5, if_neg hc17, at_nI hpl hn9 hl8]
        rw [hE, (und_b (kdO (p n)) w).resolve_left hc35]
        exact ⟨rfl, h, Fp.rf μ⟩
    ·
      refine v_iconst (v := -1) dX7_isUnder_20 (by first | rfl | decide) ?_
      refine v_iret dX7_isUnder_21 rfl (by first | rfl | decide | exact nar_b (by first | assumption | rfl)) ?_
      have hE : rUnder σ i w = -1 := by
        first
          | (simp only [rUnder, if_neg hc5, if_pos hc17]; done)
          | (grind [rUnder]; done)
      rw [hE]
      exact ⟨rfl, h, Fp.rf μ⟩

