section NRM
variable {G : Cx} {M : MD} {d mc ms : Nat} {P : Option Value → Hp → Prop} {pc : Nat} {ls : List (Nat × Value)} {st : List Value} {μ : Hp}
theorem v_nrm {a : Nat} {e0 e1 : va_E} (hμ : μ a = some e0) (hat : ∀ (ad : Nat → Nat) (H : Heap), va_at (cD G) vwCl (ad a, xe G ad e0) H → va_at (cD G) vwCl (ad a, xe G ad e1) H) (hok : oke μ e1) (k : V G M d mc ms P pc ls st (up μ a e1)) : V G M d mc ms P pc ls st μ :=
  fun p l e R s m args below meth c Q ad H locs cells slots sl F hW hS hR hl hs hsl h1 h2 hE =>
    k p l e R s m args below meth c Q ad H locs cells slots sl F (hW.put hμ rfl (hat ad H (hW.mut hμ)) (fun _ _ => rfl) hok) hS hR (fun q hq => (up_sb μ a e1).okv (hl q hq)) (fun q hq => (up_sb μ a e1).okv (hs q hq)) hsl h1 h2 (hE.to Ag.refl (up_sb μ a e1) (Nat.le_refl _) (Nat.le_refl _))
theorem v_nJ {a n : Nat} {f g : Nat → Int64} (hμ : μ a = some (arJ n f)) (h : ∀ j, j < n → f j = g j) (k : V G M d mc ms P pc ls st (up μ a (arJ n g))) : V G M d mc ms P pc ls st μ :=
  v_nrm (e1 := arJ n g) hμ (fun ad H q => by
    show H[ad a]? = some (vp_cell _ (n, .inr (.inl g)))
    rw [vp_cell_l, ← arr_eq (cA G 1) (f := fun j => .long (f j)) (fun j hj => by rw [h j hj]), ← vp_cell_l]
    exact q) trivial k
theorem v_njJ {a n : Nat} {f g : Nat → Int64} (h : ∀ j, j < n → f j = g j) (k : V G M d mc ms P pc ls st (up μ a (arJ n g))) : V G M d mc ms P pc ls st (up μ a (arJ n f)) :=
  v_nJ (up_s _ _ _) h (by rw [up_up]; exact k)
theorem v_nI {a n : Nat} {f g : Nat → Int32} (hμ : μ a = some (arI n f)) (h : ∀ j, j < n → f j = g j) (k : V G M d mc ms P pc ls st (up μ a (arI n g))) : V G M d mc ms P pc ls st μ :=
  v_nrm (e1 := arI n g) hμ (fun ad H q => by
    show H[ad a]? = some (vp_cell _ (n, .inl g))
    rw [vp_cell_i, ← arr_eq (cA G 0) (f := fun j => .int (f j)) (fun j hj => by rw [h j hj]), ← vp_cell_i]
    exact q) trivial k
theorem v_niI {a n : Nat} {f g : Nat → Int32} (h : ∀ j, j < n → f j = g j) (k : V G M d mc ms P pc ls st (up μ a (arI n g))) : V G M d mc ms P pc ls st (up μ a (arI n f)) :=
  v_nI (up_s _ _ _) h (by rw [up_up]; exact k)
theorem v_nF {a n : Nat} {f g : Nat → UInt32} (hμ : μ a = some (arF n f)) (h : ∀ j, j < n → f j = g j) (k : V G M d mc ms P pc ls st (up μ a (arF n g))) : V G M d mc ms P pc ls st μ :=
  v_nrm (e1 := arF n g) hμ (fun ad H q => by
    show H[ad a]? = some (vp_cell _ (n, .inr (.inr (.inl g))))
    rw [vp_cell_f, ← arr_eq (cA G 2) (f := fun j => .float (f j)) (fun j hj => by rw [h j hj]), ← vp_cell_f]
    exact q) trivial k
theorem v_nfF {a n : Nat} {f g : Nat → UInt32} (h : ∀ j, j < n → f j = g j) (k : V G M d mc ms P pc ls st (up μ a (arF n g))) : V G M d mc ms P pc ls st (up μ a (arF n f)) :=
  v_nF (up_s _ _ _) h (by rw [up_up]; exact k)
end NRM
abbrev modC (m : Int32) (co wh : Int64) (un lr mr hr le at9 fa op tr sg hm hi : Int32) : va_E := .inr (8, [.ref 61, .ref 62, .int m, .ref 63, .long co, .long wh, .ref 64, .ref 65, .ref 66, .int un, .int lr, .int mr, .ref 67, .ref 68, .int hr, .ref 69, .ref 70, .ref 71, .ref 72, .ref 73, .ref 74, .ref 75, .int le, .int at9, .int fa, .ref 76, .int op, .ref 77, .ref 78, .ref 79, .int tr, .ref 80, .int sg, .ref 81, .ref 82, .int hm, .ref 83, .ref 84, .ref 85, .int hi])
theorem fr_in (x : Int32) (n : Nat) (hn : n + 1 < 2 ^ 31) : frO x.toInt64 0 (nI n).toInt64 = inO x (nI (n + 1)) := by
  show (if x.toInt64 < (0 : Int32).toInt64 then (0 : Int32) else if (nI n).toInt64 < x.toInt64 then 0 else 1) = _
  have h2 : nI n < x ↔ nI (n + 1) ≤ x := by
    rw [Int32.lt_iff_toInt_lt, Int32.le_iff_toInt_le, nI_toInt (by omega), nI_toInt (by omega)]
    omega
  simp only [Int32.toInt64_lt, h2]
set_option maxRecDepth 20000 in
set_option maxHeartbeats 4000000 in
theorem c_X7_in {G : Cx} (d : Nat) {μ : Hp} {v a b : Int64}  : Ct G (d) 0 0 M_X7_in [.long v, .long a, .long b] μ (Rt (some (.int (frO v a b))) μ) := by
  refine Ct.ofV (by decide +kernel) (Nat.le_of_ble_eq_true rfl) ?_
  refine v_ls (ls' := [(0, .long v), (2, .long a), (4, .long b)]) rfl ?_
  refine v_lload_n 0 dX7_in_0 rfl rfl ?_
  refine v_lload_n 1 dX7_in_1 rfl rfl ?_
  refine v_lc_lt (tgt := 17) dX7_in_2 dX7_in_3 (by decide) (fun hc2 => ?_) (fun hc2 => ?_)
  ·
    refine v_iconst (v := 0) dX7_in_17 (by first | rfl | decide) ?_
    refine v_iret dX7_in_18 rfl (by first | rfl | decide | exact nar_b (by first | assumption | rfl)) ?_
    exact ⟨by simp only [frO, mayO, wiO, sqO, alO, acO, if_pos hc2, if_neg (Int64.not_le.mpr hc2)], rfl⟩
  ·
    refine v_lload_n 0 dX7_in_6 rfl rfl ?_
    refine v_lload 2 dX7_in_7 rfl ?_
    refine v_lc_gt (tgt := 17) dX7_in_9 dX7_in_10 (by decide) (fun hc9 => ?_) (fun hc9 => ?_)
    ·
      refine v_iconst (v := 0) dX7_in_17 (by first | rfl | decide) ?_
      refine v_iret dX7_in_18 rfl (by first | rfl | decide | exact nar_b (by first | assumption | rfl)) ?_
      exact ⟨by simp only [frO, mayO, wiO, sqO, alO, acO, if_neg hc2, if_pos (Int64.not_lt.mp hc2), if_pos hc9, if_neg (Int64.not_le.mpr hc9)], rfl⟩
    ·
      refine v_iconst (v := 1) dX7_in_13 (by first | rfl | decide) ?_
      refine v_goto (tgt := 18) dX7_in_14 (by decide) ?_
      refine v_iret dX7_in_18 rfl (by first | rfl | decide | exact nar_b (by first | assumption | rfl)) ?_
      exact ⟨by simp only [frO, mayO, wiO, sqO, alO, acO, if_neg hc2, if_pos (Int64.not_lt.mp hc2), if_neg hc9, if_pos (Int64.not_lt.mp hc9)], rfl⟩

theorem c_X7_inN {G : Cx} (d n : Nat) (hn : n + 1 < 2 ^ 31) {μ : Hp} {x : Int32} : Ct G d 0 0 M_X7_in [.long x.toInt64, .long 0, .long (nI n).toInt64] μ (Rt (some (.int (inO x (nI (n + 1))))) μ) := by
  rw [← fr_in x n hn]
  exact c_X7_in d
set_option maxRecDepth 20000 in
set_option maxHeartbeats 4000000 in
theorem c_X7_isFilter {G : Cx} (d : Nat) {μ : Hp} {i : Int32} {k : Nat} {un lr mr hr le at9 fa op tr sg hm hi : Int32} {co wh : Int64} (h60 : μ 60 = some (modC (nI k) co wh un lr mr hr le at9 fa op tr sg hm hi)) (hk : k < 2 ^ 30) : Ct G (d + 1) 0 0 M_X7_isFilter [.ref 60, .int i] μ (Rt (some (.int (inO i (nI k)))) μ) := by
  refine Ct.ofV (by decide +kernel) (Nat.le_of_ble_eq_true rfl) ?_
  refine v_ls (ls' := [(0, .ref 60), (1, .int i)]) rfl ?_
  refine v_iload_n 1 dX7_isFilter_0 rfl rfl ?_
  refine v_i2l dX7_isFilter_1 ?_
  refine v_lconst (v := 0) dX7_isFilter_2 (by first | rfl | decide) ?_
  refine v_aload_n 0 dX7_isFilter_3 rfl rfl ?_
  refine v_get fl_X7_91 dX7_isFilter_4 h60 rfl ?_
  refine v_iconst (v := 1) dX7_isFilter_7 (by first | rfl | decide) ?_
  refine v_isub dX7_isFilter_8 ?_
  refine v_i2l dX7_isFilter_9 ?_
  refine v_callS (c_X7_in d) cs_X7_95 dX7_isFilter_10 rfl rfl (Nat.le_of_ble_eq_true rfl) ?_
  refine rt_k ?_
  refine v_iret dX7_isFilter_13 rfl (by simp only [frO]; split <;> (try split) <;> decide) ?_
  refine ⟨?_, rfl⟩
  cases k with
  | zero =>
    have hz : ¬ (i < 0 ∧ ¬ i < 0) := fun q => q.2 q.1
    show some (Value.int (frO i.toInt64 (0 : Int32).toInt64 (-1 : Int32).toInt64)) = _
    simp only [frO, Int32.toInt64_lt, inO]
    by_cases q0 : i < 0
    · rw [if_pos q0, if_pos q0]
    · rw [if_neg q0, if_neg q0, if_pos (by rw [Int32.lt_iff_toInt_lt] at q0 ⊢; rw [show (-1 : Int32).toInt = -1 from rfl]; rw [show (0 : Int32).toInt = 0 from rfl] at q0; omega), if_pos (show nI 0 ≤ i from by rw [Int32.lt_iff_toInt_lt] at q0; rw [Int32.le_iff_toInt_le, nI_toInt (by decide)]; rw [show (0 : Int32).toInt = 0 from rfl] at q0; omega)]
  | succ k =>
    rw [show nI (k + 1) - 1 = nI k from nI_pred k]
    exact congrArg (fun z => some (Value.int z)) (fr_in i k (by omega))

set_option maxRecDepth 20000 in
set_option maxHeartbeats 4000000 in
theorem c_X7_isBehind {G : Cx} (d : Nat) {μ : Hp} {i : Int32} {k : Nat} {un lr mr hr le at9 fa op tr sg hm hi : Int32} {co wh : Int64} (h60 : μ 60 = some (modC (nI k) co wh un lr mr hr le at9 fa op tr sg hm hi)) (hk : k < 2 ^ 30) : Ct G (d + 1) 0 0 M_X7_isBehind [.ref 60, .int i] μ (Rt (some (.int (inO i (nI (k + 1))))) μ) := by
  refine Ct.ofV (by decide +kernel) (Nat.le_of_ble_eq_true rfl) ?_
  refine v_ls (ls' := [(0, .ref 60), (1, .int i)]) rfl ?_
  refine v_iload_n 1 dX7_isBehind_0 rfl rfl ?_
  refine v_i2l dX7_isBehind_1 ?_
  refine v_lconst (v := 0) dX7_isBehind_2 (by first | rfl | decide) ?_
  refine v_aload_n 0 dX7_isBehind_3 rfl rfl ?_
  refine v_get fl_X7_91 dX7_isBehind_4 h60 rfl ?_
  refine v_i2l dX7_isBehind_7 ?_
  refine v_callS (c_X7_inN d k (by omega)) cs_X7_95 dX7_isBehind_8 rfl rfl (Nat.le_of_ble_eq_true rfl) ?_
  refine rt_k ?_
  refine v_iret dX7_isBehind_11 rfl (by simp only [inO]; split <;> (try split) <;> decide) ?_
  exact ⟨rfl, rfl⟩

set_option maxRecDepth 20000 in
set_option maxHeartbeats 4000000 in
theorem c_X7_codeOf {G : Cx} (d : Nat) {μ : Hp} {k a f : Int32}  : Ct G (d) 0 0 M_X7_codeOf [.int k, .int a, .int f] μ (Rt (some (.int (cdO k a f))) μ) := by
  refine Ct.ofV (by decide +kernel) (Nat.le_of_ble_eq_true rfl) ?_
  refine v_ls (ls' := [(0, .int k), (1, .int a), (2, .int f)]) rfl ?_
  refine v_sipush (v := 1000) dX7_codeOf_0 (by first | rfl | decide) ?_
  refine v_iload_n 0 dX7_codeOf_3 rfl rfl ?_
  refine v_imul dX7_codeOf_4 ?_
  refine v_bipush (v := 100) dX7_codeOf_5 (by first | rfl | decide) ?_
  refine v_iload_n 1 dX7_codeOf_7 rfl rfl ?_
  refine v_imul dX7_codeOf_8 ?_
  refine v_iadd dX7_codeOf_9 ?_
  refine v_iload_n 2 dX7_codeOf_10 rfl rfl ?_
  refine v_iadd dX7_codeOf_11 ?_
  refine v_iret dX7_codeOf_12 rfl (by first | rfl | decide | exact nar_b (by first | assumption | rfl)) ?_
  exact ⟨rfl, rfl⟩

set_option maxRecDepth 20000 in
set_option maxHeartbeats 4000000 in
theorem c_X7_kindOf {G : Cx} (d : Nat) {μ : Hp} {c : Int32}  : Ct G (d) 0 0 M_X7_kindOf [.int c] μ (Rt (some (.int (kdO c))) μ) := by
  refine Ct.ofV (by decide +kernel) (Nat.le_of_ble_eq_true rfl) ?_
  refine v_ls (ls' := [(0, .int c)]) rfl ?_
  refine v_iload_n 0 dX7_kindOf_0 rfl rfl ?_
  refine v_sipush (v := 1000) dX7_kindOf_1 (by first | rfl | decide) ?_
  refine v_idiv dX7_kindOf_4 (by decide) ?_
  refine v_iret dX7_kindOf_5 rfl (by first | rfl | decide | exact nar_b (by first | assumption | rfl)) ?_
  exact ⟨rfl, rfl⟩

set_option maxRecDepth 20000 in
set_option maxHeartbeats 4000000 in
theorem c_X7_angleOf {G : Cx} (d : Nat) {μ : Hp} {c : Int32}  : Ct G (d) 0 0 M_X7_angleOf [.int c] μ (Rt (some (.int (anO c))) μ) := by
  refine Ct.ofV (by decide +kernel) (Nat.le_of_ble_eq_true rfl) ?_
  refine v_ls (ls' := [(0, .int c)]) rfl ?_
  refine v_iload_n 0 dX7_angleOf_0 rfl rfl ?_
  refine v_bipush (v := 100) dX7_angleOf_1 (by first | rfl | decide) ?_
  refine v_idiv dX7_angleOf_3 (by decide) ?_
  refine v_bipush (v := 10) dX7_angleOf_4 (by first | rfl | decide) ?_
  refine v_irem dX7_angleOf_6 (by decide) ?_
  refine v_iret dX7_angleOf_7 rfl (by first | rfl | decide | exact nar_b (by first | assumption | rfl)) ?_
  exact ⟨rfl, rfl⟩

set_option maxRecDepth 20000 in
set_option maxHeartbeats 4000000 in
theorem c_X7_figureOf {G : Cx} (d : Nat) {μ : Hp} {c : Int32}  : Ct G (d) 0 0 M_X7_figureOf [.int c] μ (Rt (some (.int (fgO c))) μ) := by
  refine Ct.ofV (by decide +kernel) (Nat.le_of_ble_eq_true rfl) ?_
  refine v_ls (ls' := [(0, .int c)]) rfl ?_
  refine v_iload_n 0 dX7_figureOf_0 rfl rfl ?_
  refine v_bipush (v := 100) dX7_figureOf_1 (by first | rfl | decide) ?_
  refine v_irem dX7_figureOf_3 (by decide) ?_
  refine v_iret dX7_figureOf_4 rfl (by first | rfl | decide | exact nar_b (by first | assumption | rfl)) ?_
  exact ⟨rfl, rfl⟩

set_option maxRecDepth 20000 in
set_option maxHeartbeats 4000000 in
theorem c_X7_mayBe {G : Cx} (d : Nat) {μ : Hp} {i q u v : Int64}  : Ct G (d + 1) 0 0 M_X7_mayBe [.long i, .long q, .long u, .long v] μ (Rt (some (.int (mayO (i, q, u, v, 0)))) μ) := by
  refine Ct.ofV (by decide +kernel) (Nat.le_of_ble_eq_true rfl) ?_
  refine v_ls (ls' := [(0, .long i), (2, .long q), (4, .long u), (6, .long v)]) rfl ?_
  refine v_lload_n 0 dX7_mayBe_0 rfl rfl ?_
  refine v_lconst (v := 0) dX7_mayBe_1 (by first | rfl | decide) ?_
  refine v_lc_lt (tgt := 64) dX7_mayBe_2 dX7_mayBe_3 (by decide) (fun hc2 => ?_) (fun hc2 => ?_)
  ·
    refine v_iconst (v := 0) dX7_mayBe_64 (by first | rfl | decide) ?_
    refine v_iret dX7_mayBe_65 rfl (by first | rfl | decide | exact nar_b (by first | assumption | rfl)) ?_
    exact ⟨by simp only [frO, mayO, wiO, sqO, alO, acO, if_pos hc2, if_neg (Int64.not_le.mpr hc2)], rfl⟩
  ·
    refine v_lload_n 1 dX7_mayBe_6 rfl rfl ?_
    refine v_lload_n 0 dX7_mayBe_7 rfl rfl ?_
    refine v_lneg dX7_mayBe_8 ?_
    refine v_lload_n 0 dX7_mayBe_9 rfl rfl ?_
    refine v_callS (c_X7_in d) cs_X7_95 dX7_mayBe_10 rfl rfl (Nat.le_of_ble_eq_true rfl) ?_
    refine rt_k ?_
    refine v_if_eq (tgt := 64) dX7_mayBe_13 (by decide) (fun hc13 => ?_) (fun hc13 => ?_)
    ·
      refine v_iconst (v := 0) dX7_mayBe_64 (by first | rfl | decide) ?_
      refine v_iret dX7_mayBe_65 rfl (by first | rfl | decide | exact nar_b (by first | assumption | rfl)) ?_
      exact ⟨by simp only [frO, mayO, wiO, sqO, alO, acO, if_neg hc2, if_pos (Int64.not_lt.mp hc2), if_pos hc13], rfl⟩
    ·
      refine v_lload 2 dX7_mayBe_16 rfl ?_
      refine v_lload_n 0 dX7_mayBe_18 rfl rfl ?_
      refine v_lneg dX7_mayBe_19 ?_
      refine v_lload_n 0 dX7_mayBe_20 rfl rfl ?_
      refine v_callS (c_X7_in d) cs_X7_95 dX7_mayBe_21 rfl rfl (Nat.le_of_ble_eq_true rfl) ?_
      refine rt_k ?_
      refine v_if_eq (tgt := 64) dX7_mayBe_24 (by decide) (fun hc24 => ?_) (fun hc24 => ?_)
      ·
        refine v_iconst (v := 0) dX7_mayBe_64 (by first | rfl | decide) ?_
        refine v_iret dX7_mayBe_65 rfl (by first | rfl | decide | exact nar_b (by first | assumption | rfl)) ?_
        exact ⟨by simp only [frO, mayO, wiO, sqO, alO, acO, if_neg hc2, if_pos (Int64.not_lt.mp hc2), if_neg hc13, if_pos hc24], rfl⟩
      ·
        refine v_lload 3 dX7_mayBe_27 rfl ?_
        refine v_lload_n 0 dX7_mayBe_29 rfl rfl ?_
        refine v_lneg dX7_mayBe_30 ?_
        refine v_lload_n 0 dX7_mayBe_31 rfl rfl ?_
        refine v_callS (c_X7_in d) cs_X7_95 dX7_mayBe_32 rfl rfl (Nat.le_of_ble_eq_true rfl) ?_
        refine rt_k ?_
        refine v_if_eq (tgt := 64) dX7_mayBe_35 (by decide) (fun hc35 => ?_) (fun hc35 => ?_)
        ·
          refine v_iconst (v := 0) dX7_mayBe_64 (by first | rfl | decide) ?_
          refine v_iret dX7_mayBe_65 rfl (by first | rfl | decide | exact nar_b (by first | assumption | rfl)) ?_
          exact ⟨by simp only [frO, mayO, wiO, sqO, alO, acO, if_neg hc2, if_pos (Int64.not_lt.mp hc2), if_neg hc13, if_neg hc24, if_pos hc35], rfl⟩
        ·
          refine v_lload_n 1 dX7_mayBe_38 rfl rfl ?_
          refine v_lload_n 1 dX7_mayBe_39 rfl rfl ?_
          refine v_lmul dX7_mayBe_40 ?_
          refine v_lload 2 dX7_mayBe_41 rfl ?_
          refine v_lload 2 dX7_mayBe_43 rfl ?_
          refine v_lmul dX7_mayBe_45 ?_
          refine v_ladd dX7_mayBe_46 ?_
          refine v_lload 3 dX7_mayBe_47 rfl ?_
          refine v_lload 3 dX7_mayBe_49 rfl ?_
          refine v_lmul dX7_mayBe_51 ?_
          refine v_ladd dX7_mayBe_52 ?_
          refine v_lload_n 0 dX7_mayBe_53 rfl rfl ?_
          refine v_lload_n 0 dX7_mayBe_54 rfl rfl ?_
          refine v_lmul dX7_mayBe_55 ?_
          refine v_lc_gt (tgt := 64) dX7_mayBe_56 dX7_mayBe_57 (by decide) (fun hc56 => ?_) (fun hc56 => ?_)
          ·
            refine v_iconst (v := 0) dX7_mayBe_64 (by first | rfl | decide) ?_
            refine v_iret dX7_mayBe_65 rfl (by first | rfl | decide | exact nar_b (by first | assumption | rfl)) ?_
            exact ⟨by simp only [frO, mayO, wiO, sqO, alO, acO, if_neg hc2, if_pos (Int64.not_lt.mp hc2), if_neg hc13, if_neg hc24, if_neg hc35, if_pos hc56, if_neg (Int64.not_le.mpr hc56)], rfl⟩
          ·
            refine v_iconst (v := 1) dX7_mayBe_60 (by first | rfl | decide) ?_
            refine v_goto (tgt := 65) dX7_mayBe_61 (by decide) ?_
            refine v_iret dX7_mayBe_65 rfl (by first | rfl | decide | exact nar_b (by first | assumption | rfl)) ?_
            exact ⟨by simp only [frO, mayO, wiO, sqO, alO, acO, if_neg hc2, if_pos (Int64.not_lt.mp hc2), if_neg hc13, if_neg hc24, if_neg hc35, if_neg hc56, if_pos (Int64.not_lt.mp hc56)], rfl⟩

set_option maxRecDepth 20000 in
set_option maxHeartbeats 4000000 in
theorem c_X7_along {G : Cx} (d : Nat) {μ : Hp} {c : Int32}  : Ct G (d + 1) 0 0 M_X7_along [.int c] μ (Rt (some (.int (alO c))) μ) := by
  refine Ct.ofV (by decide +kernel) (Nat.le_of_ble_eq_true rfl) ?_
  refine v_ls (ls' := [(0, .int c)]) rfl ?_
  refine v_iload_n 0 dX7_along_0 rfl rfl ?_
  refine v_callS (c_X7_kindOf d ) cs_X7_101 dX7_along_1 rfl rfl (Nat.le_of_ble_eq_true rfl) ?_
  refine rt_k ?_
  refine v_iconst (v := 3) dX7_along_4 (by first | rfl | decide) ?_
  refine v_icmp_ne (tgt := 12) dX7_along_5 (by decide) (fun hc5 => ?_) (fun hc5 => ?_)
  ·
    refine v_iload_n 0 dX7_along_12 rfl rfl ?_
    refine v_callS (c_X7_figureOf d ) cs_X7_105 dX7_along_13 rfl rfl (Nat.le_of_ble_eq_true rfl) ?_
    refine rt_k ?_
    refine v_iconst (v := 4) dX7_along_16 (by first | rfl | decide) ?_
    refine v_idiv dX7_along_17 (by decide) ?_
    refine v_iret dX7_along_18 rfl (by first | rfl | decide | exact nar_b (by first | assumption | rfl)) ?_
    exact ⟨by simp only [frO, mayO, wiO, sqO, alO, acO, if_neg hc5], rfl⟩
  ·
    refine v_iconst (v := 4) dX7_along_8 (by first | rfl | decide) ?_
    refine v_goto (tgt := 18) dX7_along_9 (by decide) ?_
    refine v_iret dX7_along_18 rfl (by first | rfl | decide | exact nar_b (by first | assumption | rfl)) ?_
    exact ⟨by simp only [frO, mayO, wiO, sqO, alO, acO, if_pos hc5], rfl⟩

set_option maxRecDepth 20000 in
set_option maxHeartbeats 4000000 in
theorem c_X7_across {G : Cx} (d : Nat) {μ : Hp} {c : Int32}  : Ct G (d + 1) 0 0 M_X7_across [.int c] μ (Rt (some (.int (acO c))) μ) := by
  refine Ct.ofV (by decide +kernel) (Nat.le_of_ble_eq_true rfl) ?_
  refine v_ls (ls' := [(0, .int c)]) rfl ?_
  refine v_iload_n 0 dX7_across_0 rfl rfl ?_
  refine v_callS (c_X7_kindOf d ) cs_X7_101 dX7_across_1 rfl rfl (Nat.le_of_ble_eq_true rfl) ?_
  refine rt_k ?_
  refine v_iconst (v := 3) dX7_across_4 (by first | rfl | decide) ?_
  refine v_icmp_ne (tgt := 12) dX7_across_5 (by decide) (fun hc5 => ?_) (fun hc5 => ?_)
  ·
    refine v_iload_n 0 dX7_across_12 rfl rfl ?_
    refine v_callS (c_X7_figureOf d ) cs_X7_105 dX7_across_13 rfl rfl (Nat.le_of_ble_eq_true rfl) ?_
    refine rt_k ?_
    refine v_iconst (v := 4) dX7_across_16 (by first | rfl | decide) ?_
    refine v_irem dX7_across_17 (by decide) ?_
    refine v_iret dX7_across_18 rfl (by first | rfl | decide | exact nar_b (by first | assumption | rfl)) ?_
    exact ⟨by simp only [frO, mayO, wiO, sqO, alO, acO, if_neg hc5], rfl⟩
  ·
    refine v_iconst (v := 0) dX7_across_8 (by first | rfl | decide) ?_
    refine v_goto (tgt := 18) dX7_across_9 (by decide) ?_
    refine v_iret dX7_across_18 rfl (by first | rfl | decide | exact nar_b (by first | assumption | rfl)) ?_
    exact ⟨by simp only [frO, mayO, wiO, sqO, alO, acO, if_pos hc5], rfl⟩

set_option maxRecDepth 20000 in
set_option maxHeartbeats 4000000 in
theorem low7_loop {G : Cx} (d : Nat) {μ : Hp} {a : Nat} : ∀ (n : Nat) (L : LT), L.2.2.2.2.toNatClampNeg = n → V G M_X7_toLowest d 0 0 (Rt none (up μ a (mlg (lowN n L)))) 0 [(0, .ref a)] [] (up μ a (mlg L)) := by
  intro n
  induction n with
  | zero =>
    intro L hn
    refine v_aload_n 0 dX7_toLowest_0 rfl rfl ?_
    refine v_iconst (v := 4) dX7_toLowest_1 (by first | rfl | decide) ?_
    refine v_lald dX7_toLowest_2 (up_s _ _ _) (nI_in' (k := 4) (by decide)) ?_
    refine v_lconst (v := 0) dX7_toLowest_3 (by first | rfl | decide) ?_
    refine v_lc_le (tgt := 102) dX7_toLowest_4 dX7_toLowest_5 (by decide) (fun hc4 => ?_) (fun hc4 => ?_)
    ·
      refine v_vret dX7_toLowest_102 rfl ?_
      exact ⟨rfl, rfl⟩
    · have hz : ¬ L.2.2.2.2 ≤ 0 := fun z => hc4 ((w_le0 _).mpr z)
      obtain ⟨n, h1, -⟩ := tnc_pos hz
      omega
  | succ n ih =>
    intro L hn
    refine v_aload_n 0 dX7_toLowest_0 rfl rfl ?_
    refine v_iconst (v := 4) dX7_toLowest_1 (by first | rfl | decide) ?_
    refine v_lald dX7_toLowest_2 (up_s _ _ _) (nI_in' (k := 4) (by decide)) ?_
    refine v_lconst (v := 0) dX7_toLowest_3 (by first | rfl | decide) ?_
    refine v_lc_le (tgt := 102) dX7_toLowest_4 dX7_toLowest_5 (by decide) (fun hc4 => ?_) (fun hc4 => ?_)
    ·
      refine v_vret dX7_toLowest_102 rfl ?_
      have hlow : lowN (n + 1) L = L := by
        by_cases q0 : L.2.2.2.2 ≤ 0
        · simp only [lowN, if_pos q0]
        · have q1 : ¬ evnO L := fun q => by
            have q2 := (evn_iff L).mp q
            first
              | exact q0 ((w_le0 _).mp hc4)
              | exact hc16 ((even_rem _).mpr q2.1)
              | exact hc28 ((even_rem _).mpr q2.2.1)
              | exact hc40 ((even_rem _).mpr q2.2.2.1)
              | exact hc52 ((even_rem _).mpr q2.2.2.2)
          simp only [lowN, if_neg q0, if_neg q1]
      exact ⟨rfl, by rw [hlow]⟩
    ·
      refine v_aload_n 0 dX7_toLowest_8 rfl rfl ?_
      refine v_iconst (v := 0) dX7_toLowest_9 (by first | rfl | decide) ?_
      refine v_lald dX7_toLowest_10 (up_s _ _ _) (nI_in' (k := 0) (by decide)) ?_
      refine v_ldc2 kc_X7_99 dX7_toLowest_11 ?_
      refine v_lrem dX7_toLowest_14 (by decide) ?_
      refine v_lconst (v := 0) dX7_toLowest_15 (by first | rfl | decide) ?_
      refine v_lc_ne (tgt := 102) dX7_toLowest_16 dX7_toLowest_17 (by decide) (fun hc16 => ?_) (fun hc16 => ?_)
      ·
        refine v_vret dX7_toLowest_102 rfl ?_
        have hlow : lowN (n + 1) L = L := by
          by_cases q0 : L.2.2.2.2 ≤ 0
          · simp only [lowN, if_pos q0]
          · have q1 : ¬ evnO L := fun q => by
              have q2 := (evn_iff L).mp q
              first
                | exact q0 ((w_le0 _).mp hc4)
                | exact hc16 ((even_rem _).mpr q2.1)
                | exact hc28 ((even_rem _).mpr q2.2.1)
                | exact hc40 ((even_rem _).mpr q2.2.2.1)
                | exact hc52 ((even_rem _).mpr q2.2.2.2)
            simp only [lowN, if_neg q0, if_neg q1]
        exact ⟨rfl, by rw [hlow]⟩
      ·
        refine v_aload_n 0 dX7_toLowest_20 rfl rfl ?_
        refine v_iconst (v := 1) dX7_toLowest_21 (by first | rfl | decide) ?_
        refine v_lald dX7_toLowest_22 (up_s _ _ _) (nI_in' (k := 1) (by decide)) ?_
        refine v_ldc2 kc_X7_99 dX7_toLowest_23 ?_
        refine v_lrem dX7_toLowest_26 (by decide) ?_
        refine v_lconst (v := 0) dX7_toLowest_27 (by first | rfl | decide) ?_
        refine v_lc_ne (tgt := 102) dX7_toLowest_28 dX7_toLowest_29 (by decide) (fun hc28 => ?_) (fun hc28 => ?_)
        ·
          refine v_vret dX7_toLowest_102 rfl ?_
          have hlow : lowN (n + 1) L = L := by
            by_cases q0 : L.2.2.2.2 ≤ 0
            · simp only [lowN, if_pos q0]
            · have q1 : ¬ evnO L := fun q => by
                have q2 := (evn_iff L).mp q
                first
                  | exact q0 ((w_le0 _).mp hc4)
                  | exact hc16 ((even_rem _).mpr q2.1)
                  | exact hc28 ((even_rem _).mpr q2.2.1)
                  | exact hc40 ((even_rem _).mpr q2.2.2.1)
                  | exact hc52 ((even_rem _).mpr q2.2.2.2)
              simp only [lowN, if_neg q0, if_neg q1]
          exact ⟨rfl, by rw [hlow]⟩
        ·
          refine v_aload_n 0 dX7_toLowest_32 rfl rfl ?_
          refine v_iconst (v := 2) dX7_toLowest_33 (by first | rfl | decide) ?_
          refine v_lald dX7_toLowest_34 (up_s _ _ _) (nI_in' (k := 2) (by decide)) ?_
          refine v_ldc2 kc_X7_99 dX7_toLowest_35 ?_
          refine v_lrem dX7_toLowest_38 (by decide) ?_
          refine v_lconst (v := 0) dX7_toLowest_39 (by first | rfl | decide) ?_
          refine v_lc_ne (tgt := 102) dX7_toLowest_40 dX7_toLowest_41 (by decide) (fun hc40 => ?_) (fun hc40 => ?_)
          ·
            refine v_vret dX7_toLowest_102 rfl ?_
            have hlow : lowN (n + 1) L = L := by
              by_cases q0 : L.2.2.2.2 ≤ 0
              · simp only [lowN, if_pos q0]
              · have q1 : ¬ evnO L := fun q => by
                  have q2 := (evn_iff L).mp q
                  first
                    | exact q0 ((w_le0 _).mp hc4)
                    | exact hc16 ((even_rem _).mpr q2.1)
                    | exact hc28 ((even_rem _).mpr q2.2.1)
                    | exact hc40 ((even_rem _).mpr q2.2.2.1)
                    | exact hc52 ((even_rem _).mpr q2.2.2.2)
                simp only [lowN, if_neg q0, if_neg q1]
            exact ⟨rfl, by rw [hlow]⟩
          ·
            refine v_aload_n 0 dX7_toLowest_44 rfl rfl ?_
            refine v_iconst (v := 3) dX7_toLowest_45 (by first | rfl | decide) ?_
            refine v_lald dX7_toLowest_46 (up_s _ _ _) (nI_in' (k := 3) (by decide)) ?_
            refine v_ldc2 kc_X7_99 dX7_toLowest_47 ?_
            refine v_lrem dX7_toLowest_50 (by decide) ?_
            refine v_lconst (v := 0) dX7_toLowest_51 (by first | rfl | decide) ?_
            refine v_lc_ne (tgt := 102) dX7_toLowest_52 dX7_toLowest_53 (by decide) (fun hc52 => ?_) (fun hc52 => ?_)
            ·
              refine v_vret dX7_toLowest_102 rfl ?_
              have hlow : lowN (n + 1) L = L := by
                by_cases q0 : L.2.2.2.2 ≤ 0
                · simp only [lowN, if_pos q0]
                · have q1 : ¬ evnO L := fun q => by
                    have q2 := (evn_iff L).mp q
                    first
                      | exact q0 ((w_le0 _).mp hc4)
                      | exact hc16 ((even_rem _).mpr q2.1)
                      | exact hc28 ((even_rem _).mpr q2.2.1)
                      | exact hc40 ((even_rem _).mpr q2.2.2.1)
                      | exact hc52 ((even_rem _).mpr q2.2.2.2)
                  simp only [lowN, if_neg q0, if_neg q1]
              exact ⟨rfl, by rw [hlow]⟩
            ·
              refine v_aload_n 0 dX7_toLowest_56 rfl rfl ?_
              refine v_iconst (v := 0) dX7_toLowest_57 (by first | rfl | decide) ?_
              refine v_dup2_11 dX7_toLowest_58 rfl rfl ?_
              refine v_lald dX7_toLowest_59 (up_s _ _ _) (nI_in' (k := 0) (by decide)) ?_
              refine v_ldc2 kc_X7_99 dX7_toLowest_60 ?_
              refine v_ldiv dX7_toLowest_63 (by decide) ?_
              refine v_last dX7_toLowest_64 (up_s _ _ _) (nI_in' (k := 0) (by decide)) ?_
              refine v_hp (up_up _ _ _ _) ?_
              refine v_aload_n 0 dX7_toLowest_65 rfl rfl ?_
              refine v_iconst (v := 1) dX7_toLowest_66 (by first | rfl | decide) ?_
              refine v_dup2_11 dX7_toLowest_67 rfl rfl ?_
              refine v_lald dX7_toLowest_68 (up_s _ _ _) (nI_in' (k := 1) (by decide)) ?_
              refine v_ldc2 kc_X7_99 dX7_toLowest_69 ?_
              refine v_ldiv dX7_toLowest_72 (by decide) ?_
              refine v_last dX7_toLowest_73 (up_s _ _ _) (nI_in' (k := 1) (by decide)) ?_
              refine v_hp (up_up _ _ _ _) ?_
              refine v_aload_n 0 dX7_toLowest_74 rfl rfl ?_
              refine v_iconst (v := 2) dX7_toLowest_75 (by first | rfl | decide) ?_
              refine v_dup2_11 dX7_toLowest_76 rfl rfl ?_
              refine v_lald dX7_toLowest_77 (up_s _ _ _) (nI_in' (k := 2) (by decide)) ?_
              refine v_ldc2 kc_X7_99 dX7_toLowest_78 ?_
              refine v_ldiv dX7_toLowest_81 (by decide) ?_
              refine v_last dX7_toLowest_82 (up_s _ _ _) (nI_in' (k := 2) (by decide)) ?_
              refine v_hp (up_up _ _ _ _) ?_
              refine v_aload_n 0 dX7_toLowest_83 rfl rfl ?_
              refine v_iconst (v := 3) dX7_toLowest_84 (by first | rfl | decide) ?_
              refine v_dup2_11 dX7_toLowest_85 rfl rfl ?_
              refine v_lald dX7_toLowest_86 (up_s _ _ _) (nI_in' (k := 3) (by decide)) ?_
              refine v_ldc2 kc_X7_99 dX7_toLowest_87 ?_
              refine v_ldiv dX7_toLowest_90 (by decide) ?_
              refine v_last dX7_toLowest_91 (up_s _ _ _) (nI_in' (k := 3) (by decide)) ?_
              refine v_hp (up_up _ _ _ _) ?_
              refine v_aload_n 0 dX7_toLowest_92 rfl rfl ?_
              refine v_iconst (v := 4) dX7_toLowest_93 (by first | rfl | decide) ?_
              refine v_dup2_11 dX7_toLowest_94 rfl rfl ?_
              refine v_lald dX7_toLowest_95 (up_s _ _ _) (nI_in' (k := 4) (by decide)) ?_
              refine v_lconst (v := 1) dX7_toLowest_96 (by first | rfl | decide) ?_
              refine v_lsub dX7_toLowest_97 ?_
              refine v_last dX7_toLowest_98 (up_s _ _ _) (nI_in' (k := 4) (by decide)) ?_
              refine v_hp (up_up _ _ _ _) ?_
              have q0 : ¬ L.2.2.2.2 ≤ 0 := fun z => hc4 ((w_le0 _).mpr z)
              have k1 := (even_rem L.1).mp hc16
              have k2 := (even_rem L.2.1).mp hc28
              have k3 := (even_rem L.2.2.1).mp hc40
              have k4 := (even_rem L.2.2.2.1).mp hc52
              have q1 : evnO L := (evn_iff L).mpr ⟨k1, k2, k3, k4⟩
              have hg : lowN (n + 1) L = lowN n (halfO L) := by simp only [lowN, if_neg q0, if_pos q1]
              rw [hg]
              obtain ⟨n2, h1, h2⟩ := tnc_pos q0
              refine v_njJ (g := lvO (halfO L)) (all5 (half_div k1) (half_div k2) (half_div k3) (half_div k4) (w_sub (a := L.2.2.2.2) (b := 1) (by have := L.2.2.2.2.le_toInt; have : ¬ L.2.2.2.2.toInt ≤ (0 : Int32).toInt := fun z => q0 (Int32.le_iff_toInt_le.mpr z); rw [show (0 : Int32).toInt = 0 from rfl] at this; rw [show (1 : Int32).toInt = 1 from rfl]; omega) (by have := L.2.2.2.2.toInt_lt; rw [show (1 : Int32).toInt = 1 from rfl]; omega)).symm) ?_
              refine v_goto (tgt := 0) dX7_toLowest_99 (by decide) ?_
              exact ih (halfO L) (by show (L.2.2.2.2 - 1).toNatClampNeg = n; omega)

set_option maxRecDepth 20000 in
set_option maxHeartbeats 4000000 in
theorem c_X7_toLowest {G : Cx} (d : Nat) {μ : Hp} {a : Nat} {L : LT} (h0 : μ a = some (mlg L)) : Ct G (d) 0 0 M_X7_toLowest [.ref a] μ (Rt none (up μ a (mlg (lowO L)))) := by
  refine Ct.ofV (by decide +kernel) (Nat.le_of_ble_eq_true rfl) ?_
  refine v_ls (ls' := [(0, .ref a)]) rfl ?_
  refine v_hp (up_id h0).symm ?_
  exact low7_loop d _ L rfl

set_option maxRecDepth 20000 in
set_option maxHeartbeats 4000000 in
theorem c_X7_scales {G : Cx} (d : Nat) {μ : Hp} {a : Nat} {L : LT} {x y : Int32} (h0 : μ a = some (mlg L)) (he : Eb 1000 L) : Ct G (d) 0 0 M_X7_scales [.ref a, .long x.toInt64, .long y.toInt64, .int 4] μ (Rt none (up μ a (mlg (greyO x y L)))) := by
  refine Ct.ofV (by decide +kernel) (Nat.le_of_ble_eq_true rfl) ?_
  refine v_ls (ls' := [(0, .ref a), (1, .long x.toInt64), (3, .long y.toInt64), (5, .int 4)]) rfl ?_
  refine v_aload_n 0 dX7_scales_0 rfl rfl ?_
  refine v_iconst (v := 0) dX7_scales_1 (by first | rfl | decide) ?_
  refine v_dup2_11 dX7_scales_2 rfl rfl ?_
  refine v_lald dX7_scales_3 h0 (nI_in' (k := 0) (by decide)) ?_
  refine v_lload_n 1 dX7_scales_4 rfl rfl ?_
  refine v_lmul dX7_scales_5 ?_
  refine v_last dX7_scales_6 h0 (nI_in' (k := 0) (by decide)) ?_
  refine v_aload_n 0 dX7_scales_7 rfl rfl ?_
  refine v_iconst (v := 1) dX7_scales_8 (by first | rfl | decide) ?_
  refine v_dup2_11 dX7_scales_9 rfl rfl ?_
  refine v_lald dX7_scales_10 (up_s _ _ _) (nI_in' (k := 1) (by decide)) ?_
  refine v_lload_n 2 dX7_scales_11 rfl rfl ?_
  refine v_lmul dX7_scales_12 ?_
  refine v_last dX7_scales_13 (up_s _ _ _) (nI_in' (k := 1) (by decide)) ?_
  refine v_hp (up_up _ _ _ _) ?_
  refine v_aload_n 0 dX7_scales_14 rfl rfl ?_
  refine v_iconst (v := 2) dX7_scales_15 (by first | rfl | decide) ?_
  refine v_dup2_11 dX7_scales_16 rfl rfl ?_
  refine v_lald dX7_scales_17 (up_s _ _ _) (nI_in' (k := 2) (by decide)) ?_
  refine v_lload_n 2 dX7_scales_18 rfl rfl ?_
  refine v_lmul dX7_scales_19 ?_
  refine v_last dX7_scales_20 (up_s _ _ _) (nI_in' (k := 2) (by decide)) ?_
  refine v_hp (up_up _ _ _ _) ?_
  refine v_aload_n 0 dX7_scales_21 rfl rfl ?_
  refine v_iconst (v := 3) dX7_scales_22 (by first | rfl | decide) ?_
  refine v_dup2_11 dX7_scales_23 rfl rfl ?_
  refine v_lald dX7_scales_24 (up_s _ _ _) (nI_in' (k := 3) (by decide)) ?_
  refine v_lload_n 2 dX7_scales_25 rfl rfl ?_
  refine v_lmul dX7_scales_26 ?_
  refine v_last dX7_scales_27 (up_s _ _ _) (nI_in' (k := 3) (by decide)) ?_
  refine v_hp (up_up _ _ _ _) ?_
  refine v_aload_n 0 dX7_scales_28 rfl rfl ?_
  refine v_iconst (v := 4) dX7_scales_29 (by first | rfl | decide) ?_
  refine v_dup2_11 dX7_scales_30 rfl rfl ?_
  refine v_lald dX7_scales_31 (up_s _ _ _) (nI_in' (k := 4) (by decide)) ?_
  refine v_iload 3 dX7_scales_32 rfl ?_
  refine v_i2l dX7_scales_34 ?_
  refine v_ladd dX7_scales_35 ?_
  refine v_last dX7_scales_36 (up_s _ _ _) (nI_in' (k := 4) (by decide)) ?_
  refine v_hp (up_up _ _ _ _) ?_
  refine v_njJ (g := lvO (greyO x y L)) (all5 (Int64.mul_comm _ _) (Int64.mul_comm _ _) (Int64.mul_comm _ _) (Int64.mul_comm _ _) (w_add (a := L.2.2.2.2) (b := 4) (by have := he.1; rw [show (4 : Int32).toInt = 4 from rfl]; omega) (by have := he.2; rw [show (4 : Int32).toInt = 4 from rfl]; omega)).symm) ?_
  refine v_vret dX7_scales_37 rfl ?_
  exact ⟨rfl, rfl⟩

set_option maxRecDepth 20000 in
set_option maxHeartbeats 4000000 in
theorem c_X7_sheet {G : Cx} (d : Nat) {μ : Hp} {a : Nat} {L : LT} {c : Int32} (h0 : μ a = some (mlg L)) (he : Eb 1000 L) (hv : Vc c) : Ct G (d + 2) 0 0 M_X7_sheet [.ref a, .int c] μ (Rt none (up μ a (mlg (sheetO (anO c) (alO c) (acO c) L)))) := by
  refine Ct.ofV (by decide +kernel) (Nat.le_of_ble_eq_true rfl) ?_
  refine v_ls (ls' := [(0, .ref a), (1, .int c)]) rfl ?_
  refine v_iload_n 1 dX7_sheet_0 rfl rfl ?_
  refine v_callS (c_X7_along d ) cs_X7_108 dX7_sheet_1 rfl rfl (Nat.le_of_ble_eq_true rfl) ?_
  refine rt_k ?_
  refine v_i2l dX7_sheet_4 ?_
  refine v_lstore_n dX7_sheet_5 rfl (by decide) (fun x2_1 e_x2_1 => ?_)
  refine v_ls (ls' := [(2, .long x2_1), (0, .ref a), (1, .int c)]) rfl ?_
  subst e_x2_1
  refine v_iload_n 2 dX7_sheet_6 rfl rfl ?_
  refine v_callS (c_X7_across d ) cs_X7_111 dX7_sheet_7 rfl rfl (Nat.le_of_ble_eq_true rfl) ?_
  refine rt_k ?_
  refine v_i2l dX7_sheet_10 ?_
  refine v_lstore dX7_sheet_11 (by decide) (fun x4_1 e_x4_1 => ?_)
  refine v_ls (ls' := [(4, .long x4_1), (2, _), (0, .ref a), (1, .int c)]) rfl ?_
  subst e_x4_1
  refine v_iload_n 3 dX7_sheet_13 rfl rfl ?_
  refine v_callS (c_X7_angleOf (d + 1) ) cs_X7_114 dX7_sheet_14 rfl rfl (Nat.le_of_ble_eq_true rfl) ?_
  refine rt_k ?_
  refine v_istore dX7_sheet_17 (by decide) (fun x6_1 e_x6_1 => ?_)
  refine v_ls (ls' := [(6, .int x6_1), (4, _), (2, _), (0, .ref a), (1, .int c)]) rfl ?_
  subst e_x6_1
  refine v_iload 0 dX7_sheet_19 rfl ?_
  refine v_iconst (v := 2) dX7_sheet_21 (by first | rfl | decide) ?_
  refine v_irem dX7_sheet_22 (by decide) ?_
  refine v_if_ne (tgt := 30) dX7_sheet_23 (by decide) (fun hc23 => ?_) (fun hc23 => ?_)
  ·
    refine v_iconst (v := 2) dX7_sheet_30 (by first | rfl | decide) ?_
    refine v_istore dX7_sheet_31 (by decide) (fun x7_1 e_x7_1 => ?_)
    refine v_ls (ls' := [(7, .int x7_1), (6, _), (4, _), (2, _), (0, .ref a), (1, .int c)]) rfl ?_
    subst e_x7_1
    refine v_iconst (v := 3) dX7_sheet_33 (by first | rfl | decide) ?_
    refine v_iload 0 dX7_sheet_34 rfl ?_
    refine v_isub dX7_sheet_36 ?_
    refine v_istore dX7_sheet_37 (by decide) (fun x8_1 e_x8_1 => ?_)
    refine v_ls (ls' := [(8, .int x8_1), (7, .int (2)), (6, _), (4, _), (2, _), (0, .ref a), (1, .int c)]) rfl ?_
    subst e_x8_1
    refine v_iload 2 dX7_sheet_39 rfl ?_
    refine v_iconst (v := 2) dX7_sheet_41 (by first | rfl | decide) ?_
    refine v_icmp_ge (tgt := 49) dX7_sheet_42 (by decide) (fun hc42 => ?_) (fun hc42 => ?_)
    ·
      refine v_ldc2 kc_X7_117 dX7_sheet_49 ?_
      refine v_lstore dX7_sheet_52 (by decide) (fun x9_1 e_x9_1 => ?_)
      refine v_ls (ls' := [(9, .long x9_1), (8, _), (7, .int (2)), (6, _), (4, _), (2, _), (0, .ref a), (1, .int c)]) rfl ?_
      subst e_x9_1
      refine v_aload_n 6 dX7_sheet_54 rfl rfl ?_
      refine v_iconst (v := 0) dX7_sheet_55 (by first | rfl | decide) ?_
      refine v_lald dX7_sheet_56 h0 (nI_in' (k := 0) (by decide)) ?_
      refine v_lstore dX7_sheet_57 (by decide) (fun x11_1 e_x11_1 => ?_)
      refine v_ls (ls' := [(11, .long x11_1), (9, _), (8, _), (7, .int (2)), (6, _), (4, _), (2, _), (0, .ref a), (1, .int c)]) rfl ?_
      subst e_x11_1
      refine v_lload 1 dX7_sheet_59 rfl ?_
      refine v_aload_n 7 dX7_sheet_61 rfl rfl ?_
      refine v_iload 3 dX7_sheet_62 rfl ?_
      refine v_lald dX7_sheet_64 h0 (by first | exact nI_in' (k := 1) (by decide) | exact nI_in' (k := 2) (by decide)) ?_
      refine v_lmul dX7_sheet_65 ?_
      refine v_lstore dX7_sheet_66 (by decide) (fun x13_1 e_x13_1 => ?_)
      refine v_ls (ls' := [(13, .long x13_1), (11, _), (9, _), (8, _), (7, .int (2)), (6, _), (4, _), (2, _), (0, .ref a), (1, .int c)]) rfl ?_
      subst e_x13_1
      refine v_aload_n 8 dX7_sheet_68 rfl rfl ?_
      refine v_iconst (v := 0) dX7_sheet_69 (by first | rfl | decide) ?_
      refine v_lload_n 7 dX7_sheet_70 rfl rfl ?_
      refine v_lload_n 7 dX7_sheet_71 rfl rfl ?_
      refine v_lmul dX7_sheet_72 ?_
      refine v_lload 6 dX7_sheet_73 rfl ?_
      refine v_lload 6 dX7_sheet_75 rfl ?_
      refine v_lmul dX7_sheet_77 ?_
      refine v_ladd dX7_sheet_78 ?_
      refine v_lload 1 dX7_sheet_79 rfl ?_
      refine v_lmul dX7_sheet_81 ?_
      refine v_lload_n 7 dX7_sheet_82 rfl rfl ?_
      refine v_lload_n 7 dX7_sheet_83 rfl rfl ?_
      refine v_lmul dX7_sheet_84 ?_
      refine v_lload 6 dX7_sheet_85 rfl ?_
      refine v_lload 6 dX7_sheet_87 rfl ?_
      refine v_lmul dX7_sheet_89 ?_
      refine v_lsub dX7_sheet_90 ?_
      refine v_lload 0 dX7_sheet_91 rfl ?_
      refine v_lmul dX7_sheet_93 ?_
      refine v_ladd dX7_sheet_94 ?_
      refine v_last dX7_sheet_95 h0 (nI_in' (k := 0) (by decide)) ?_
      refine v_aload_n 8 dX7_sheet_96 rfl rfl ?_
      refine v_iload 4 dX7_sheet_97 rfl ?_
      refine v_lload 2 dX7_sheet_99 rfl ?_
      refine v_lload_n 7 dX7_sheet_101 rfl rfl ?_
      refine v_lload_n 7 dX7_sheet_102 rfl rfl ?_
      refine v_lmul dX7_sheet_103 ?_
      refine v_lload 6 dX7_sheet_104 rfl ?_
      refine v_lload 6 dX7_sheet_106 rfl ?_
      refine v_lmul dX7_sheet_108 ?_
      refine v_lsub dX7_sheet_109 ?_
      refine v_lload 1 dX7_sheet_110 rfl ?_
      refine v_lmul dX7_sheet_112 ?_
      refine v_lload_n 7 dX7_sheet_113 rfl rfl ?_
      refine v_lload_n 7 dX7_sheet_114 rfl rfl ?_
      refine v_lmul dX7_sheet_115 ?_
      refine v_lload 6 dX7_sheet_116 rfl ?_
      refine v_lload 6 dX7_sheet_118 rfl ?_
      refine v_lmul dX7_sheet_120 ?_
      refine v_ladd dX7_sheet_121 ?_
      refine v_lload 0 dX7_sheet_122 rfl ?_
      refine v_lmul dX7_sheet_124 ?_
      refine v_ladd dX7_sheet_125 ?_
      refine v_lmul dX7_sheet_126 ?_
      refine v_last dX7_sheet_127 (up_s _ _ _) (by first | exact nI_in' (k := 1) (by decide) | exact nI_in' (k := 2) (by decide)) ?_
      refine v_hp (up_up _ _ _ _) ?_
      refine v_aload_n 8 dX7_sheet_128 rfl rfl ?_
      refine v_iload 3 dX7_sheet_129 rfl ?_
      refine v_dup2_11 dX7_sheet_131 rfl rfl ?_
      refine v_lald dX7_sheet_132 (up_s _ _ _) (by first | exact nI_in' (k := 1) (by decide) | exact nI_in' (k := 2) (by decide)) ?_
      refine v_ldc2 kc_X7_99 dX7_sheet_133 ?_
      refine v_lload_n 7 dX7_sheet_136 rfl rfl ?_
      refine v_lmul dX7_sheet_137 ?_
      refine v_lload 6 dX7_sheet_138 rfl ?_
      refine v_lmul dX7_sheet_140 ?_
      refine v_lmul dX7_sheet_141 ?_
      refine v_last dX7_sheet_142 (up_s _ _ _) (by first | exact nI_in' (k := 1) (by decide) | exact nI_in' (k := 2) (by decide)) ?_
      refine v_hp (up_up _ _ _ _) ?_
      refine v_aload_n 8 dX7_sheet_143 rfl rfl ?_
      refine v_iconst (v := 3) dX7_sheet_144 (by first | rfl | decide) ?_
      refine v_dup2_11 dX7_sheet_145 rfl rfl ?_
      refine v_lald dX7_sheet_146 (up_s _ _ _) (nI_in' (k := 3) (by decide)) ?_
      refine v_ldc2 kc_X7_99 dX7_sheet_147 ?_
      refine v_lload_n 7 dX7_sheet_150 rfl rfl ?_
      refine v_lmul dX7_sheet_151 ?_
      refine v_lload 6 dX7_sheet_152 rfl ?_
      refine v_lmul dX7_sheet_154 ?_
      refine v_lmul dX7_sheet_155 ?_
      refine v_last dX7_sheet_156 (up_s _ _ _) (nI_in' (k := 3) (by decide)) ?_
      refine v_hp (up_up _ _ _ _) ?_
      refine v_aload_n 8 dX7_sheet_157 rfl rfl ?_
      refine v_iconst (v := 4) dX7_sheet_158 (by first | rfl | decide) ?_
      refine v_dup2_11 dX7_sheet_159 rfl rfl ?_
      refine v_lald dX7_sheet_160 (up_s _ _ _) (nI_in' (k := 4) (by decide)) ?_
      refine v_ldc2 kc_X7_119 dX7_sheet_161 ?_
      refine v_ladd dX7_sheet_164 ?_
      refine v_last dX7_sheet_165 (up_s _ _ _) (nI_in' (k := 4) (by decide)) ?_
      refine v_hp (up_up _ _ _ _) ?_
      have hsh := hv.sheet
      refine v_njJ (g := lvO (sheetO (anO c) (alO c) (acO c) L)) (all5 ?_ ?_ ?_ ?_ ?_) ?_
      · simp only [sheetO, lvO, if_neg hc23, if_pos hc42, if_neg (Int32.not_lt.mpr hc42), hsh.1, hsh.2.1]
        rfl
      · simp only [sheetO, lvO, if_neg hc23, if_pos hc42, if_neg (Int32.not_lt.mpr hc42), hsh.1, hsh.2.1, hsh.2.2]
        exact (Int64.mul_comm _ _)
      · simp only [sheetO, lvO, if_neg hc23, if_pos hc42, if_neg (Int32.not_lt.mpr hc42), hsh.1, hsh.2.1, hsh.2.2]
        exact rfl
      · simp only [sheetO, lvO, if_neg hc23, if_pos hc42, if_neg (Int32.not_lt.mpr hc42), hsh.1, hsh.2.1, hsh.2.2]
        exact Int64.mul_comm _ _
      · simp only [sheetO, lvO, if_neg hc23, if_pos hc42, if_neg (Int32.not_lt.mpr hc42)]
        exact (w_add (a := L.2.2.2.2) (b := 5) (by have := he.1; rw [show (5 : Int32).toInt = 5 from rfl]; omega) (by have := he.2; rw [show (5 : Int32).toInt = 5 from rfl]; omega)).symm
      refine v_vret dX7_sheet_166 rfl ?_
      exact ⟨rfl, rfl⟩
    ·
      refine v_lconst (v := 1) dX7_sheet_45 (by first | rfl | decide) ?_
      refine v_goto (tgt := 52) dX7_sheet_46 (by decide) ?_
      refine v_lstore dX7_sheet_52 (by decide) (fun x9_2 e_x9_2 => ?_)
      refine v_ls (ls' := [(9, .long x9_2), (8, _), (7, .int (2)), (6, _), (4, _), (2, _), (0, .ref a), (1, .int c)]) rfl ?_
      subst e_x9_2
      refine v_aload_n 6 dX7_sheet_54 rfl rfl ?_
      refine v_iconst (v := 0) dX7_sheet_55 (by first | rfl | decide) ?_
      refine v_lald dX7_sheet_56 h0 (nI_in' (k := 0) (by decide)) ?_
      refine v_lstore dX7_sheet_57 (by decide) (fun x11_2 e_x11_2 => ?_)
      refine v_ls (ls' := [(11, .long x11_2), (9, _), (8, _), (7, .int (2)), (6, _), (4, _), (2, _), (0, .ref a), (1, .int c)]) rfl ?_
      subst e_x11_2
      refine v_lload 1 dX7_sheet_59 rfl ?_
      refine v_aload_n 7 dX7_sheet_61 rfl rfl ?_
      refine v_iload 3 dX7_sheet_62 rfl ?_
      refine v_lald dX7_sheet_64 h0 (by first | exact nI_in' (k := 1) (by decide) | exact nI_in' (k := 2) (by decide)) ?_
      refine v_lmul dX7_sheet_65 ?_
      refine v_lstore dX7_sheet_66 (by decide) (fun x13_2 e_x13_2 => ?_)
      refine v_ls (ls' := [(13, .long x13_2), (11, _), (9, _), (8, _), (7, .int (2)), (6, _), (4, _), (2, _), (0, .ref a), (1, .int c)]) rfl ?_
      subst e_x13_2
      refine v_aload_n 8 dX7_sheet_68 rfl rfl ?_
      refine v_iconst (v := 0) dX7_sheet_69 (by first | rfl | decide) ?_
      refine v_lload_n 7 dX7_sheet_70 rfl rfl ?_
      refine v_lload_n 7 dX7_sheet_71 rfl rfl ?_
      refine v_lmul dX7_sheet_72 ?_
      refine v_lload 6 dX7_sheet_73 rfl ?_
      refine v_lload 6 dX7_sheet_75 rfl ?_
      refine v_lmul dX7_sheet_77 ?_
      refine v_ladd dX7_sheet_78 ?_
      refine v_lload 1 dX7_sheet_79 rfl ?_
      refine v_lmul dX7_sheet_81 ?_
      refine v_lload_n 7 dX7_sheet_82 rfl rfl ?_
      refine v_lload_n 7 dX7_sheet_83 rfl rfl ?_
      refine v_lmul dX7_sheet_84 ?_
      refine v_lload 6 dX7_sheet_85 rfl ?_
      refine v_lload 6 dX7_sheet_87 rfl ?_
      refine v_lmul dX7_sheet_89 ?_
      refine v_lsub dX7_sheet_90 ?_
      refine v_lload 0 dX7_sheet_91 rfl ?_
      refine v_lmul dX7_sheet_93 ?_
      refine v_ladd dX7_sheet_94 ?_
      refine v_last dX7_sheet_95 h0 (nI_in' (k := 0) (by decide)) ?_
      refine v_aload_n 8 dX7_sheet_96 rfl rfl ?_
      refine v_iload 4 dX7_sheet_97 rfl ?_
      refine v_lload 2 dX7_sheet_99 rfl ?_
      refine v_lload_n 7 dX7_sheet_101 rfl rfl ?_
      refine v_lload_n 7 dX7_sheet_102 rfl rfl ?_
      refine v_lmul dX7_sheet_103 ?_
      refine v_lload 6 dX7_sheet_104 rfl ?_
      refine v_lload 6 dX7_sheet_106 rfl ?_
      refine v_lmul dX7_sheet_108 ?_
      refine v_lsub dX7_sheet_109 ?_
      refine v_lload 1 dX7_sheet_110 rfl ?_
      refine v_lmul dX7_sheet_112 ?_
      refine v_lload_n 7 dX7_sheet_113 rfl rfl ?_
      refine v_lload_n 7 dX7_sheet_114 rfl rfl ?_
      refine v_lmul dX7_sheet_115 ?_
      refine v_lload 6 dX7_sheet_116 rfl ?_
      refine v_lload 6 dX7_sheet_118 rfl ?_
      refine v_lmul dX7_sheet_120 ?_
      refine v_ladd dX7_sheet_121 ?_
      refine v_lload 0 dX7_sheet_122 rfl ?_
      refine v_lmul dX7_sheet_124 ?_
      refine v_ladd dX7_sheet_125 ?_
      refine v_lmul dX7_sheet_126 ?_
      refine v_last dX7_sheet_127 (up_s _ _ _) (by first | exact nI_in' (k := 1) (by decide) | exact nI_in' (k := 2) (by decide)) ?_
      refine v_hp (up_up _ _ _ _) ?_
      refine v_aload_n 8 dX7_sheet_128 rfl rfl ?_
      refine v_iload 3 dX7_sheet_129 rfl ?_
      refine v_dup2_11 dX7_sheet_131 rfl rfl ?_
      refine v_lald dX7_sheet_132 (up_s _ _ _) (by first | exact nI_in' (k := 1) (by decide) | exact nI_in' (k := 2) (by decide)) ?_
      refine v_ldc2 kc_X7_99 dX7_sheet_133 ?_
      refine v_lload_n 7 dX7_sheet_136 rfl rfl ?_
      refine v_lmul dX7_sheet_137 ?_
      refine v_lload 6 dX7_sheet_138 rfl ?_
      refine v_lmul dX7_sheet_140 ?_
      refine v_lmul dX7_sheet_141 ?_
      refine v_last dX7_sheet_142 (up_s _ _ _) (by first | exact nI_in' (k := 1) (by decide) | exact nI_in' (k := 2) (by decide)) ?_
      refine v_hp (up_up _ _ _ _) ?_
      refine v_aload_n 8 dX7_sheet_143 rfl rfl ?_
      refine v_iconst (v := 3) dX7_sheet_144 (by first | rfl | decide) ?_
      refine v_dup2_11 dX7_sheet_145 rfl rfl ?_
      refine v_lald dX7_sheet_146 (up_s _ _ _) (nI_in' (k := 3) (by decide)) ?_
      refine v_ldc2 kc_X7_99 dX7_sheet_147 ?_
      refine v_lload_n 7 dX7_sheet_150 rfl rfl ?_
      refine v_lmul dX7_sheet_151 ?_
      refine v_lload 6 dX7_sheet_152 rfl ?_
      refine v_lmul dX7_sheet_154 ?_
      refine v_lmul dX7_sheet_155 ?_
      refine v_last dX7_sheet_156 (up_s _ _ _) (nI_in' (k := 3) (by decide)) ?_
      refine v_hp (up_up _ _ _ _) ?_
      refine v_aload_n 8 dX7_sheet_157 rfl rfl ?_
      refine v_iconst (v := 4) dX7_sheet_158 (by first | rfl | decide) ?_
      refine v_dup2_11 dX7_sheet_159 rfl rfl ?_
      refine v_lald dX7_sheet_160 (up_s _ _ _) (nI_in' (k := 4) (by decide)) ?_
      refine v_ldc2 kc_X7_119 dX7_sheet_161 ?_
      refine v_ladd dX7_sheet_164 ?_
      refine v_last dX7_sheet_165 (up_s _ _ _) (nI_in' (k := 4) (by decide)) ?_
      refine v_hp (up_up _ _ _ _) ?_
      have hsh := hv.sheet
      refine v_njJ (g := lvO (sheetO (anO c) (alO c) (acO c) L)) (all5 ?_ ?_ ?_ ?_ ?_) ?_
      · simp only [sheetO, lvO, if_neg hc23, if_neg hc42, if_pos (Int32.not_le.mp hc42), hsh.1, hsh.2.1]
        rfl
      · simp only [sheetO, lvO, if_neg hc23, if_neg hc42, if_pos (Int32.not_le.mp hc42), hsh.1, hsh.2.1, hsh.2.2]
        exact (Int64.mul_comm _ _)
      · simp only [sheetO, lvO, if_neg hc23, if_neg hc42, if_pos (Int32.not_le.mp hc42), hsh.1, hsh.2.1, hsh.2.2]
        exact rfl
      · simp only [sheetO, lvO, if_neg hc23, if_neg hc42, if_pos (Int32.not_le.mp hc42), hsh.1, hsh.2.1, hsh.2.2]
        exact Int64.mul_comm _ _
      · simp only [sheetO, lvO, if_neg hc23, if_neg hc42, if_pos (Int32.not_le.mp hc42)]
        exact (w_add (a := L.2.2.2.2) (b := 5) (by have := he.1; rw [show (5 : Int32).toInt = 5 from rfl]; omega) (by have := he.2; rw [show (5 : Int32).toInt = 5 from rfl]; omega)).symm
      refine v_vret dX7_sheet_166 rfl ?_
      exact ⟨rfl, rfl⟩
  ·
    refine v_iconst (v := 1) dX7_sheet_26 (by first | rfl | decide) ?_
    refine v_goto (tgt := 31) dX7_sheet_27 (by decide) ?_
    refine v_istore dX7_sheet_31 (by decide) (fun x7_2 e_x7_2 => ?_)
    refine v_ls (ls' := [(7, .int x7_2), (6, _), (4, _), (2, _), (0, .ref a), (1, .int c)]) rfl ?_
    subst e_x7_2
    refine v_iconst (v := 3) dX7_sheet_33 (by first | rfl | decide) ?_
    refine v_iload 0 dX7_sheet_34 rfl ?_
    refine v_isub dX7_sheet_36 ?_
    refine v_istore dX7_sheet_37 (by decide) (fun x8_2 e_x8_2 => ?_)
    refine v_ls (ls' := [(8, .int x8_2), (7, .int (1)), (6, _), (4, _), (2, _), (0, .ref a), (1, .int c)]) rfl ?_
    subst e_x8_2
    refine v_iload 2 dX7_sheet_39 rfl ?_
    refine v_iconst (v := 2) dX7_sheet_41 (by first | rfl | decide) ?_
    refine v_icmp_ge (tgt := 49) dX7_sheet_42 (by decide) (fun hc42 => ?_) (fun hc42 => ?_)
    ·
      refine v_ldc2 kc_X7_117 dX7_sheet_49 ?_
      refine v_lstore dX7_sheet_52 (by decide) (fun x9_3 e_x9_3 => ?_)
      refine v_ls (ls' := [(9, .long x9_3), (8, _), (7, .int (1)), (6, _), (4, _), (2, _), (0, .ref a), (1, .int c)]) rfl ?_
      subst e_x9_3
      refine v_aload_n 6 dX7_sheet_54 rfl rfl ?_
      refine v_iconst (v := 0) dX7_sheet_55 (by first | rfl | decide) ?_
      refine v_lald dX7_sheet_56 h0 (nI_in' (k := 0) (by decide)) ?_
      refine v_lstore dX7_sheet_57 (by decide) (fun x11_3 e_x11_3 => ?_)
      refine v_ls (ls' := [(11, .long x11_3), (9, _), (8, _), (7, .int (1)), (6, _), (4, _), (2, _), (0, .ref a), (1, .int c)]) rfl ?_
      subst e_x11_3
      refine v_lload 1 dX7_sheet_59 rfl ?_
      refine v_aload_n 7 dX7_sheet_61 rfl rfl ?_
      refine v_iload 3 dX7_sheet_62 rfl ?_
      refine v_lald dX7_sheet_64 h0 (by first | exact nI_in' (k := 1) (by decide) | exact nI_in' (k := 2) (by decide)) ?_
      refine v_lmul dX7_sheet_65 ?_
      refine v_lstore dX7_sheet_66 (by decide) (fun x13_3 e_x13_3 => ?_)
      refine v_ls (ls' := [(13, .long x13_3), (11, _), (9, _), (8, _), (7, .int (1)), (6, _), (4, _), (2, _), (0, .ref a), (1, .int c)]) rfl ?_
      subst e_x13_3
      refine v_aload_n 8 dX7_sheet_68 rfl rfl ?_
      refine v_iconst (v := 0) dX7_sheet_69 (by first | rfl | decide) ?_
      refine v_lload_n 7 dX7_sheet_70 rfl rfl ?_
      refine v_lload_n 7 dX7_sheet_71 rfl rfl ?_
      refine v_lmul dX7_sheet_72 ?_
      refine v_lload 6 dX7_sheet_73 rfl ?_
      refine v_lload 6 dX7_sheet_75 rfl ?_
      refine v_lmul dX7_sheet_77 ?_
      refine v_ladd dX7_sheet_78 ?_
      refine v_lload 1 dX7_sheet_79 rfl ?_
      refine v_lmul dX7_sheet_81 ?_
      refine v_lload_n 7 dX7_sheet_82 rfl rfl ?_
      refine v_lload_n 7 dX7_sheet_83 rfl rfl ?_
      refine v_lmul dX7_sheet_84 ?_
      refine v_lload 6 dX7_sheet_85 rfl ?_
      refine v_lload 6 dX7_sheet_87 rfl ?_
      refine v_lmul dX7_sheet_89 ?_
      refine v_lsub dX7_sheet_90 ?_
      refine v_lload 0 dX7_sheet_91 rfl ?_
      refine v_lmul dX7_sheet_93 ?_
      refine v_ladd dX7_sheet_94 ?_
      refine v_last dX7_sheet_95 h0 (nI_in' (k := 0) (by decide)) ?_
      refine v_aload_n 8 dX7_sheet_96 rfl rfl ?_
      refine v_iload 4 dX7_sheet_97 rfl ?_
      refine v_lload 2 dX7_sheet_99 rfl ?_
      refine v_lload_n 7 dX7_sheet_101 rfl rfl ?_
      refine v_lload_n 7 dX7_sheet_102 rfl rfl ?_
      refine v_lmul dX7_sheet_103 ?_
      refine v_lload 6 dX7_sheet_104 rfl ?_
      refine v_lload 6 dX7_sheet_106 rfl ?_
      refine v_lmul dX7_sheet_108 ?_
      refine v_lsub dX7_sheet_109 ?_
      refine v_lload 1 dX7_sheet_110 rfl ?_
      refine v_lmul dX7_sheet_112 ?_
      refine v_lload_n 7 dX7_sheet_113 rfl rfl ?_
      refine v_lload_n 7 dX7_sheet_114 rfl rfl ?_
      refine v_lmul dX7_sheet_115 ?_
      refine v_lload 6 dX7_sheet_116 rfl ?_
      refine v_lload 6 dX7_sheet_118 rfl ?_
      refine v_lmul dX7_sheet_120 ?_
      refine v_ladd dX7_sheet_121 ?_
      refine v_lload 0 dX7_sheet_122 rfl ?_
      refine v_lmul dX7_sheet_124 ?_
      refine v_ladd dX7_sheet_125 ?_
      refine v_lmul dX7_sheet_126 ?_
      refine v_last dX7_sheet_127 (up_s _ _ _) (by first | exact nI_in' (k := 1) (by decide) | exact nI_in' (k := 2) (by decide)) ?_
      refine v_hp (up_up _ _ _ _) ?_
      refine v_aload_n 8 dX7_sheet_128 rfl rfl ?_
      refine v_iload 3 dX7_sheet_129 rfl ?_
      refine v_dup2_11 dX7_sheet_131 rfl rfl ?_
      refine v_lald dX7_sheet_132 (up_s _ _ _) (by first | exact nI_in' (k := 1) (by decide) | exact nI_in' (k := 2) (by decide)) ?_
      refine v_ldc2 kc_X7_99 dX7_sheet_133 ?_
      refine v_lload_n 7 dX7_sheet_136 rfl rfl ?_
      refine v_lmul dX7_sheet_137 ?_
      refine v_lload 6 dX7_sheet_138 rfl ?_
      refine v_lmul dX7_sheet_140 ?_
      refine v_lmul dX7_sheet_141 ?_
      refine v_last dX7_sheet_142 (up_s _ _ _) (by first | exact nI_in' (k := 1) (by decide) | exact nI_in' (k := 2) (by decide)) ?_
      refine v_hp (up_up _ _ _ _) ?_
      refine v_aload_n 8 dX7_sheet_143 rfl rfl ?_
      refine v_iconst (v := 3) dX7_sheet_144 (by first | rfl | decide) ?_
      refine v_dup2_11 dX7_sheet_145 rfl rfl ?_
      refine v_lald dX7_sheet_146 (up_s _ _ _) (nI_in' (k := 3) (by decide)) ?_
      refine v_ldc2 kc_X7_99 dX7_sheet_147 ?_
      refine v_lload_n 7 dX7_sheet_150 rfl rfl ?_
      refine v_lmul dX7_sheet_151 ?_
      refine v_lload 6 dX7_sheet_152 rfl ?_
      refine v_lmul dX7_sheet_154 ?_
      refine v_lmul dX7_sheet_155 ?_
      refine v_last dX7_sheet_156 (up_s _ _ _) (nI_in' (k := 3) (by decide)) ?_
      refine v_hp (up_up _ _ _ _) ?_
      refine v_aload_n 8 dX7_sheet_157 rfl rfl ?_
      refine v_iconst (v := 4) dX7_sheet_158 (by first | rfl | decide) ?_
      refine v_dup2_11 dX7_sheet_159 rfl rfl ?_
      refine v_lald dX7_sheet_160 (up_s _ _ _) (nI_in' (k := 4) (by decide)) ?_
      refine v_ldc2 kc_X7_119 dX7_sheet_161 ?_
      refine v_ladd dX7_sheet_164 ?_
      refine v_last dX7_sheet_165 (up_s _ _ _) (nI_in' (k := 4) (by decide)) ?_
      refine v_hp (up_up _ _ _ _) ?_
      have hsh := hv.sheet
      refine v_njJ (g := lvO (sheetO (anO c) (alO c) (acO c) L)) (all5 ?_ ?_ ?_ ?_ ?_) ?_
      · simp only [sheetO, lvO, if_pos hc23, if_pos hc42, if_neg (Int32.not_lt.mpr hc42), hsh.1, hsh.2.1]
        rfl
      · simp only [sheetO, lvO, if_pos hc23, if_pos hc42, if_neg (Int32.not_lt.mpr hc42), hsh.1, hsh.2.1, hsh.2.2]
        exact rfl
      · simp only [sheetO, lvO, if_pos hc23, if_pos hc42, if_neg (Int32.not_lt.mpr hc42), hsh.1, hsh.2.1, hsh.2.2]
        exact (Int64.mul_comm _ _)
      · simp only [sheetO, lvO, if_pos hc23, if_pos hc42, if_neg (Int32.not_lt.mpr hc42), hsh.1, hsh.2.1, hsh.2.2]
        exact Int64.mul_comm _ _
      · simp only [sheetO, lvO, if_pos hc23, if_pos hc42, if_neg (Int32.not_lt.mpr hc42)]
        exact (w_add (a := L.2.2.2.2) (b := 5) (by have := he.1; rw [show (5 : Int32).toInt = 5 from rfl]; omega) (by have := he.2; rw [show (5 : Int32).toInt = 5 from rfl]; omega)).symm
      refine v_vret dX7_sheet_166 rfl ?_
      exact ⟨rfl, rfl⟩
    ·
      refine v_lconst (v := 1) dX7_sheet_45 (by first | rfl | decide) ?_
      refine v_goto (tgt := 52) dX7_sheet_46 (by decide) ?_
      refine v_lstore dX7_sheet_52 (by decide) (fun x9_4 e_x9_4 => ?_)
      refine v_ls (ls' := [(9, .long x9_4), (8, _), (7, .int (1)), (6, _), (4, _), (2, _), (0, .ref a), (1, .int c)]) rfl ?_
      subst e_x9_4
      refine v_aload_n 6 dX7_sheet_54 rfl rfl ?_
      refine v_iconst (v := 0) dX7_sheet_55 (by first | rfl | decide) ?_
      refine v_lald dX7_sheet_56 h0 (nI_in' (k := 0) (by decide)) ?_
      refine v_lstore dX7_sheet_57 (by decide) (fun x11_4 e_x11_4 => ?_)
      refine v_ls (ls' := [(11, .long x11_4), (9, _), (8, _), (7, .int (1)), (6, _), (4, _), (2, _), (0, .ref a), (1, .int c)]) rfl ?_
      subst e_x11_4
      refine v_lload 1 dX7_sheet_59 rfl ?_
      refine v_aload_n 7 dX7_sheet_61 rfl rfl ?_
      refine v_iload 3 dX7_sheet_62 rfl ?_
      refine v_lald dX7_sheet_64 h0 (by first | exact nI_in' (k := 1) (by decide) | exact nI_in' (k := 2) (by decide)) ?_
      refine v_lmul dX7_sheet_65 ?_
      refine v_lstore dX7_sheet_66 (by decide) (fun x13_4 e_x13_4 => ?_)
      refine v_ls (ls' := [(13, .long x13_4), (11, _), (9, _), (8, _), (7, .int (1)), (6, _), (4, _), (2, _), (0, .ref a), (1, .int c)]) rfl ?_
      subst e_x13_4
      refine v_aload_n 8 dX7_sheet_68 rfl rfl ?_
      refine v_iconst (v := 0) dX7_sheet_69 (by first | rfl | decide) ?_
      refine v_lload_n 7 dX7_sheet_70 rfl rfl ?_
      refine v_lload_n 7 dX7_sheet_71 rfl rfl ?_
      refine v_lmul dX7_sheet_72 ?_
      refine v_lload 6 dX7_sheet_73 rfl ?_
      refine v_lload 6 dX7_sheet_75 rfl ?_
      refine v_lmul dX7_sheet_77 ?_
      refine v_ladd dX7_sheet_78 ?_
      refine v_lload 1 dX7_sheet_79 rfl ?_
      refine v_lmul dX7_sheet_81 ?_
      refine v_lload_n 7 dX7_sheet_82 rfl rfl ?_
      refine v_lload_n 7 dX7_sheet_83 rfl rfl ?_
      refine v_lmul dX7_sheet_84 ?_
      refine v_lload 6 dX7_sheet_85 rfl ?_
      refine v_lload 6 dX7_sheet_87 rfl ?_
      refine v_lmul dX7_sheet_89 ?_
      refine v_lsub dX7_sheet_90 ?_
      refine v_lload 0 dX7_sheet_91 rfl ?_
      refine v_lmul dX7_sheet_93 ?_
      refine v_ladd dX7_sheet_94 ?_
      refine v_last dX7_sheet_95 h0 (nI_in' (k := 0) (by decide)) ?_
      refine v_aload_n 8 dX7_sheet_96 rfl rfl ?_
      refine v_iload 4 dX7_sheet_97 rfl ?_
      refine v_lload 2 dX7_sheet_99 rfl ?_
      refine v_lload_n 7 dX7_sheet_101 rfl rfl ?_
      refine v_lload_n 7 dX7_sheet_102 rfl rfl ?_
      refine v_lmul dX7_sheet_103 ?_
      refine v_lload 6 dX7_sheet_104 rfl ?_
      refine v_lload 6 dX7_sheet_106 rfl ?_
      refine v_lmul dX7_sheet_108 ?_
      refine v_lsub dX7_sheet_109 ?_
      refine v_lload 1 dX7_sheet_110 rfl ?_
      refine v_lmul dX7_sheet_112 ?_
      refine v_lload_n 7 dX7_sheet_113 rfl rfl ?_
      refine v_lload_n 7 dX7_sheet_114 rfl rfl ?_
      refine v_lmul dX7_sheet_115 ?_
      refine v_lload 6 dX7_sheet_116 rfl ?_
      refine v_lload 6 dX7_sheet_118 rfl ?_
      refine v_lmul dX7_sheet_120 ?_
      refine v_ladd dX7_sheet_121 ?_
      refine v_lload 0 dX7_sheet_122 rfl ?_
      refine v_lmul dX7_sheet_124 ?_
      refine v_ladd dX7_sheet_125 ?_
      refine v_lmul dX7_sheet_126 ?_
      refine v_last dX7_sheet_127 (up_s _ _ _) (by first | exact nI_in' (k := 1) (by decide) | exact nI_in' (k := 2) (by decide)) ?_
      refine v_hp (up_up _ _ _ _) ?_
      refine v_aload_n 8 dX7_sheet_128 rfl rfl ?_
      refine v_iload 3 dX7_sheet_129 rfl ?_
      refine v_dup2_11 dX7_sheet_131 rfl rfl ?_
      refine v_lald dX7_sheet_132 (up_s _ _ _) (by first | exact nI_in' (k := 1) (by decide) | exact nI_in' (k := 2) (by decide)) ?_
      refine v_ldc2 kc_X7_99 dX7_sheet_133 ?_
      refine v_lload_n 7 dX7_sheet_136 rfl rfl ?_
      refine v_lmul dX7_sheet_137 ?_
      refine v_lload 6 dX7_sheet_138 rfl ?_
      refine v_lmul dX7_sheet_140 ?_
      refine v_lmul dX7_sheet_141 ?_
      refine v_last dX7_sheet_142 (up_s _ _ _) (by first | exact nI_in' (k := 1) (by decide) | exact nI_in' (k := 2) (by decide)) ?_
      refine v_hp (up_up _ _ _ _) ?_
      refine v_aload_n 8 dX7_sheet_143 rfl rfl ?_
      refine v_iconst (v := 3) dX7_sheet_144 (by first | rfl | decide) ?_
      refine v_dup2_11 dX7_sheet_145 rfl rfl ?_
      refine v_lald dX7_sheet_146 (up_s _ _ _) (nI_in' (k := 3) (by decide)) ?_
      refine v_ldc2 kc_X7_99 dX7_sheet_147 ?_
      refine v_lload_n 7 dX7_sheet_150 rfl rfl ?_
      refine v_lmul dX7_sheet_151 ?_
      refine v_lload 6 dX7_sheet_152 rfl ?_
      refine v_lmul dX7_sheet_154 ?_
      refine v_lmul dX7_sheet_155 ?_
      refine v_last dX7_sheet_156 (up_s _ _ _) (nI_in' (k := 3) (by decide)) ?_
      refine v_hp (up_up _ _ _ _) ?_
      refine v_aload_n 8 dX7_sheet_157 rfl rfl ?_
      refine v_iconst (v := 4) dX7_sheet_158 (by first | rfl | decide) ?_
      refine v_dup2_11 dX7_sheet_159 rfl rfl ?_
      refine v_lald dX7_sheet_160 (up_s _ _ _) (nI_in' (k := 4) (by decide)) ?_
      refine v_ldc2 kc_X7_119 dX7_sheet_161 ?_
      refine v_ladd dX7_sheet_164 ?_
      refine v_last dX7_sheet_165 (up_s _ _ _) (nI_in' (k := 4) (by decide)) ?_
      refine v_hp (up_up _ _ _ _) ?_
      have hsh := hv.sheet
      refine v_njJ (g := lvO (sheetO (anO c) (alO c) (acO c) L)) (all5 ?_ ?_ ?_ ?_ ?_) ?_
      · simp only [sheetO, lvO, if_pos hc23, if_neg hc42, if_pos (Int32.not_le.mp hc42), hsh.1, hsh.2.1]
        rfl
      · simp only [sheetO, lvO, if_pos hc23, if_neg hc42, if_pos (Int32.not_le.mp hc42), hsh.1, hsh.2.1, hsh.2.2]
        exact rfl
      · simp only [sheetO, lvO, if_pos hc23, if_neg hc42, if_pos (Int32.not_le.mp hc42), hsh.1, hsh.2.1, hsh.2.2]
        exact (Int64.mul_comm _ _)
      · simp only [sheetO, lvO, if_pos hc23, if_neg hc42, if_pos (Int32.not_le.mp hc42), hsh.1, hsh.2.1, hsh.2.2]
        exact Int64.mul_comm _ _
      · simp only [sheetO, lvO, if_pos hc23, if_neg hc42, if_pos (Int32.not_le.mp hc42)]
        exact (w_add (a := L.2.2.2.2) (b := 5) (by have := he.1; rw [show (5 : Int32).toInt = 5 from rfl]; omega) (by have := he.2; rw [show (5 : Int32).toInt = 5 from rfl]; omega)).symm
      refine v_vret dX7_sheet_166 rfl ?_
      exact ⟨rfl, rfl⟩

set_option maxRecDepth 20000 in
set_option maxHeartbeats 4000000 in
theorem c_X7_quarter {G : Cx} (d : Nat) {μ : Hp} {a : Nat} {L : LT} {c : Int32} (h0 : μ a = some (mlg L)) (hv : Vc c) : Ct G (d + 1) 0 0 M_X7_quarter [.ref a, .int c] μ (Rt none (up μ a (mlg (turnO (if kdO c = 5 then 4 else anO c) L)))) := by
  refine Ct.ofV (by decide +kernel) (Nat.le_of_ble_eq_true rfl) ?_
  refine v_ls (ls' := [(0, .ref a), (1, .int c)]) rfl ?_
  refine v_aload_n 0 dX7_quarter_0 rfl rfl ?_
  refine v_iconst (v := 1) dX7_quarter_1 (by first | rfl | decide) ?_
  refine v_lald dX7_quarter_2 h0 (nI_in' (k := 1) (by decide)) ?_
  refine v_lstore_n dX7_quarter_3 rfl (by decide) (fun x2_1 e_x2_1 => ?_)
  refine v_ls (ls' := [(2, .long x2_1), (0, .ref a), (1, .int c)]) rfl ?_
  subst e_x2_1
  refine v_aload_n 1 dX7_quarter_4 rfl rfl ?_
  refine v_iconst (v := 2) dX7_quarter_5 (by first | rfl | decide) ?_
  refine v_lald dX7_quarter_6 h0 (nI_in' (k := 2) (by decide)) ?_
  refine v_lstore dX7_quarter_7 (by decide) (fun x4_1 e_x4_1 => ?_)
  refine v_ls (ls' := [(4, .long x4_1), (2, _), (0, .ref a), (1, .int c)]) rfl ?_
  subst e_x4_1
  refine v_aload_n 2 dX7_quarter_9 rfl rfl ?_
  refine v_iconst (v := 3) dX7_quarter_10 (by first | rfl | decide) ?_
  refine v_lald dX7_quarter_11 h0 (nI_in' (k := 3) (by decide)) ?_
  refine v_lstore dX7_quarter_12 (by decide) (fun x6_1 e_x6_1 => ?_)
  refine v_ls (ls' := [(6, .long x6_1), (4, _), (2, _), (0, .ref a), (1, .int c)]) rfl ?_
  subst e_x6_1
  refine v_iload_n 4 dX7_quarter_14 rfl rfl ?_
  refine v_callS (c_X7_kindOf d ) cs_X7_101 dX7_quarter_15 rfl rfl (Nat.le_of_ble_eq_true rfl) ?_
  refine rt_k ?_
  refine v_iconst (v := 5) dX7_quarter_18 (by first | rfl | decide) ?_
  refine v_icmp_ne (tgt := 33) dX7_quarter_19 (by decide) (fun hc19 => ?_) (fun hc19 => ?_)
  ·
    refine v_iload_n 4 dX7_quarter_33 rfl rfl ?_
    refine v_callS (c_X7_angleOf d ) cs_X7_114 dX7_quarter_34 rfl rfl (Nat.le_of_ble_eq_true rfl) ?_
    refine rt_k ?_
    by_cases cl37 : (anO c).toInt < 0
    · refine v_tableOut (tgt := 105) dX7_quarter_37 (Or.inl cl37) (by decide) ?_
      have cs37_0 : ¬ anO c = 0 := sw_lo cl37 (by decide)
      have cs37_1 : ¬ anO c = 1 := sw_lo cl37 (by decide)
      have cs37_2 : ¬ anO c = 2 := sw_lo cl37 (by decide)
      refine v_aload_n 3 dX7_quarter_105 rfl rfl ?_
      refine v_iconst (v := 3) dX7_quarter_106 (by first | rfl | decide) ?_
      refine v_lload_n 2 dX7_quarter_107 rfl rfl ?_
      refine v_lneg dX7_quarter_108 ?_
      refine v_last dX7_quarter_109 h0 (nI_in' (k := 3) (by decide)) ?_
      refine v_aload_n 3 dX7_quarter_110 rfl rfl ?_
      refine v_iconst (v := 1) dX7_quarter_111 (by first | rfl | decide) ?_
      refine v_lload 0 dX7_quarter_112 rfl ?_
      refine v_last dX7_quarter_114 (up_s _ _ _) (nI_in' (k := 1) (by decide)) ?_
      refine v_hp (up_up _ _ _ _) ?_
      have han : anO c = 3 := by
        obtain ⟨a9, ha9, he9⟩ := hv.an
        match a9, ha9 with
        | 0, _ => exact absurd he9 cs37_0
        | 1, _ => exact absurd he9 cs37_1
        | 2, _ => exact absurd he9 cs37_2
        | 3, _ => exact he9
      have htu : turnO (if kdO c = 5 then 4 else anO c) L = turnO 3 L := by rw [if_neg hc19, han]
      refine v_njJ (g := lvO (turnO (if kdO c = 5 then 4 else anO c) L)) ?_ ?_
      · rw [htu]
        exact all5 rfl rfl rfl rfl rfl
      refine v_vret dX7_quarter_115 rfl ?_
      exact ⟨rfl, rfl⟩
    by_cases ch37 : 2 < (anO c).toInt
    · refine v_tableOut (tgt := 105) dX7_quarter_37 (Or.inr ch37) (by decide) ?_
      have cs37_0 : ¬ anO c = 0 := sw_hi ch37 (by decide)
      have cs37_1 : ¬ anO c = 1 := sw_hi ch37 (by decide)
      have cs37_2 : ¬ anO c = 2 := sw_hi ch37 (by decide)
      refine v_aload_n 3 dX7_quarter_105 rfl rfl ?_
      refine v_iconst (v := 3) dX7_quarter_106 (by first | rfl | decide) ?_
      refine v_lload_n 2 dX7_quarter_107 rfl rfl ?_
      refine v_lneg dX7_quarter_108 ?_
      refine v_last dX7_quarter_109 h0 (nI_in' (k := 3) (by decide)) ?_
      refine v_aload_n 3 dX7_quarter_110 rfl rfl ?_
      refine v_iconst (v := 1) dX7_quarter_111 (by first | rfl | decide) ?_
      refine v_lload 0 dX7_quarter_112 rfl ?_
      refine v_last dX7_quarter_114 (up_s _ _ _) (nI_in' (k := 1) (by decide)) ?_
      refine v_hp (up_up _ _ _ _) ?_
      have han : anO c = 3 := by
        obtain ⟨a9, ha9, he9⟩ := hv.an
        match a9, ha9 with
        | 0, _ => exact absurd he9 cs37_0
        | 1, _ => exact absurd he9 cs37_1
        | 2, _ => exact absurd he9 cs37_2
        | 3, _ => exact he9
      have htu : turnO (if kdO c = 5 then 4 else anO c) L = turnO 3 L := by rw [if_neg hc19, han]
      refine v_njJ (g := lvO (turnO (if kdO c = 5 then 4 else anO c) L)) ?_ ?_
      · rw [htu]
        exact all5 rfl rfl rfl rfl rfl
      refine v_vret dX7_quarter_115 rfl ?_
      exact ⟨rfl, rfl⟩
    by_cases cs37_0 : anO c = 0
    · refine v_tableIn (off := 27) (tgt := 64) dX7_quarter_37 cl37 ch37 (by rw [cs37_0]; rfl) (by decide) ?_
      refine v_aload_n 3 dX7_quarter_64 rfl rfl ?_
      refine v_iconst (v := 2) dX7_quarter_65 (by first | rfl | decide) ?_
      refine v_lload 0 dX7_quarter_66 rfl ?_
      refine v_last dX7_quarter_68 h0 (nI_in' (k := 2) (by decide)) ?_
      refine v_aload_n 3 dX7_quarter_69 rfl rfl ?_
      refine v_iconst (v := 3) dX7_quarter_70 (by first | rfl | decide) ?_
      refine v_lload 1 dX7_quarter_71 rfl ?_
      refine v_lneg dX7_quarter_73 ?_
      refine v_last dX7_quarter_74 (up_s _ _ _) (nI_in' (k := 3) (by decide)) ?_
      refine v_hp (up_up _ _ _ _) ?_
      refine v_goto (tgt := 115) dX7_quarter_75 (by decide) ?_
      have han : anO c = 0 := cs37_0
      have htu : turnO (if kdO c = 5 then 4 else anO c) L = turnO 0 L := by rw [if_neg hc19, han]
      refine v_njJ (g := lvO (turnO (if kdO c = 5 then 4 else anO c) L)) ?_ ?_
      · rw [htu]
        exact all5 rfl rfl rfl rfl rfl
      refine v_vret dX7_quarter_115 rfl ?_
      exact ⟨rfl, rfl⟩
    by_cases cs37_1 : anO c = 1
    · refine v_tableIn (off := 41) (tgt := 78) dX7_quarter_37 cl37 ch37 (by rw [cs37_1]; rfl) (by decide) ?_
      refine v_aload_n 3 dX7_quarter_78 rfl rfl ?_
      refine v_iconst (v := 3) dX7_quarter_79 (by first | rfl | decide) ?_
      refine v_lload_n 2 dX7_quarter_80 rfl rfl ?_
      refine v_last dX7_quarter_81 h0 (nI_in' (k := 3) (by decide)) ?_
      refine v_aload_n 3 dX7_quarter_82 rfl rfl ?_
      refine v_iconst (v := 1) dX7_quarter_83 (by first | rfl | decide) ?_
      refine v_lload 0 dX7_quarter_84 rfl ?_
      refine v_lneg dX7_quarter_86 ?_
      refine v_last dX7_quarter_87 (up_s _ _ _) (nI_in' (k := 1) (by decide)) ?_
      refine v_hp (up_up _ _ _ _) ?_
      refine v_goto (tgt := 115) dX7_quarter_88 (by decide) ?_
      have han : anO c = 1 := cs37_1
      have htu : turnO (if kdO c = 5 then 4 else anO c) L = turnO 1 L := by rw [if_neg hc19, han]
      refine v_njJ (g := lvO (turnO (if kdO c = 5 then 4 else anO c) L)) ?_ ?_
      · rw [htu]
        exact all5 rfl rfl rfl rfl rfl
      refine v_vret dX7_quarter_115 rfl ?_
      exact ⟨rfl, rfl⟩
    by_cases cs37_2 : anO c = 2
    · refine v_tableIn (off := 54) (tgt := 91) dX7_quarter_37 cl37 ch37 (by rw [cs37_2]; rfl) (by decide) ?_
      refine v_aload_n 3 dX7_quarter_91 rfl rfl ?_
      refine v_iconst (v := 2) dX7_quarter_92 (by first | rfl | decide) ?_
      refine v_lload 0 dX7_quarter_93 rfl ?_
      refine v_lneg dX7_quarter_95 ?_
      refine v_last dX7_quarter_96 h0 (nI_in' (k := 2) (by decide)) ?_
      refine v_aload_n 3 dX7_quarter_97 rfl rfl ?_
      refine v_iconst (v := 3) dX7_quarter_98 (by first | rfl | decide) ?_
      refine v_lload 1 dX7_quarter_99 rfl ?_
      refine v_last dX7_quarter_101 (up_s _ _ _) (nI_in' (k := 3) (by decide)) ?_
      refine v_hp (up_up _ _ _ _) ?_
      refine v_goto (tgt := 115) dX7_quarter_102 (by decide) ?_
      have han : anO c = 2 := cs37_2
      have htu : turnO (if kdO c = 5 then 4 else anO c) L = turnO 2 L := by rw [if_neg hc19, han]
      refine v_njJ (g := lvO (turnO (if kdO c = 5 then 4 else anO c) L)) ?_ ?_
      · rw [htu]
        exact all5 rfl rfl rfl rfl rfl
      refine v_vret dX7_quarter_115 rfl ?_
      exact ⟨rfl, rfl⟩
    exfalso
    have q37_0 := lv_neT (a := 0) cs37_0 (by decide)
    have q37_1 := lv_neT (a := 1) cs37_1 (by decide)
    have q37_2 := lv_neT (a := 2) cs37_2 (by decide)
    omega
  ·
    refine v_aload_n 3 dX7_quarter_22 rfl rfl ?_
    refine v_iconst (v := 1) dX7_quarter_23 (by first | rfl | decide) ?_
    refine v_lload 1 dX7_quarter_24 rfl ?_
    refine v_lneg dX7_quarter_26 ?_
    refine v_last dX7_quarter_27 h0 (nI_in' (k := 1) (by decide)) ?_
    refine v_aload_n 3 dX7_quarter_28 rfl rfl ?_
    refine v_iconst (v := 2) dX7_quarter_29 (by first | rfl | decide) ?_
    refine v_lload_n 2 dX7_quarter_30 rfl rfl ?_
    refine v_last dX7_quarter_31 (up_s _ _ _) (nI_in' (k := 2) (by decide)) ?_
    refine v_hp (up_up _ _ _ _) ?_
    have htu : turnO (if kdO c = 5 then 4 else anO c) L = turnO 4 L := by rw [if_pos hc19]
    refine v_njJ (g := lvO (turnO (if kdO c = 5 then 4 else anO c) L)) ?_ ?_
    · rw [htu]
      exact all5 rfl rfl rfl rfl rfl
    refine v_vret dX7_quarter_32 rfl ?_
    exact ⟨rfl, rfl⟩

set_option maxRecDepth 20000 in
set_option maxHeartbeats 4000000 in
theorem quarters_loop {G : Cx} (d : Nat) {μ : Hp} {a n : Nat} {c : Int32} (hv : Vc c) (hn : n < 2 ^ 30) : ∀ (m : Nat) (j : Nat) (L : LT), j + m = n → V G M_X7_quarters (d + 2) 0 0 (Rt none (up μ a (mlg (turnsO m (if kdO c = 5 then 4 else anO c) L)))) 2 [(3, .int (nI j)), (0, .ref a), (1, .int c), (2, .int (nI n))] [] (up μ a (mlg L)) := by
  intro m
  induction m with
  | zero =>
    intro j L hj
    refine v_iload_n 0 dX7_quarters_2 rfl rfl ?_
    refine v_iload_n 3 dX7_quarters_3 rfl rfl ?_
    refine v_icmp_ge (tgt := 18) dX7_quarters_4 (by decide) (fun hc4 => ?_) (fun hc4 => ?_)
    ·
      refine v_vret dX7_quarters_18 rfl ?_
      exact ⟨rfl, rfl⟩
    · exact absurd ((nI_leI (by omega) (by omega)).mpr (by omega)) hc4
  | succ m ih =>
    intro j L hj
    refine v_iload_n 0 dX7_quarters_2 rfl rfl ?_
    refine v_iload_n 3 dX7_quarters_3 rfl rfl ?_
    refine v_icmp_ge (tgt := 18) dX7_quarters_4 (by decide) (fun hc4 => ?_) (fun hc4 => ?_)
    · have := (nI_leI (by omega) (by omega)).mp hc4
      omega
    ·
      refine v_aload_n 1 dX7_quarters_7 rfl rfl ?_
      refine v_iload_n 2 dX7_quarters_8 rfl rfl ?_
      refine v_callS (c_X7_quarter d (up_s _ _ _) hv) cs_X7_121 dX7_quarters_9 rfl rfl (Nat.le_of_ble_eq_true rfl) ?_
      refine rt_k ?_
      refine v_hp (up_up _ _ _ _) ?_
      refine v_iinc (v := 1) 0 dX7_quarters_12 rfl rfl (by decide) (fun z e_z => ?_)
      refine v_ls (ls' := [(3, .int z), (0, .ref a), (1, .int c), (2, .int (nI n))]) rfl ?_
      rw [nI_1] at e_z
      subst e_z
      refine v_goto (tgt := 2) dX7_quarters_15 (by decide) ?_
      exact ih (j + 1) _ (by omega)
      

set_option maxRecDepth 20000 in
set_option maxHeartbeats 4000000 in
theorem c_X7_quarters {G : Cx} (d : Nat) {μ : Hp} {a : Nat} {L : LT} {c : Int32} {n : Nat} (h0 : μ a = some (mlg L)) (hv : Vc c) (hn : n < 2 ^ 30) : Ct G (d + 2) 0 0 M_X7_quarters [.ref a, .int c, .int (nI n)] μ (Rt none (up μ a (mlg (turnsO n (if kdO c = 5 then 4 else anO c) L)))) := by
  refine Ct.ofV (by decide +kernel) (Nat.le_of_ble_eq_true rfl) ?_
  refine v_ls (ls' := [(0, .ref a), (1, .int c), (2, .int (nI n))]) rfl ?_
  refine v_iconst (v := 0) dX7_quarters_0 (by first | rfl | decide) ?_
  refine v_istore_n dX7_quarters_1 rfl (by decide) (fun x3 e_x3 => ?_)
  refine v_ls (ls' := [(3, .int x3), (0, .ref a), (1, .int c), (2, .int (nI n))]) rfl ?_
  subst e_x3
  refine v_hp (up_id h0).symm ?_
  exact quarters_loop d hv hn n 0 L (by omega)
  

set_option maxRecDepth 20000 in
set_option maxHeartbeats 4000000 in
theorem c_X7_goes {G : Cx} (d : Nat) {μ : Hp} {a : Nat} {L : LT} {c : Int32} (h0 : μ a = some (mlg L)) (he : Eb 1000 L) (hv : Vc c) : Ct G (d + 3) 0 0 M_X7_goes [.ref a, .int c] μ (Rt none (up μ a (mlg (passO c L)))) := by
  refine Ct.ofV (by decide +kernel) (Nat.le_of_ble_eq_true rfl) ?_
  refine v_ls (ls' := [(0, .ref a), (1, .int c)]) rfl ?_
  obtain ⟨f, hf, hfe⟩ := hv.fg
  obtain ⟨k, hk, hke⟩ := hv.kd
  have hq4 : (qtO c).toNatClampNeg = f % 4 := by rw [show qtO c = irem (fgO c) 4 from rfl, hfe, vc_qt f hf, clamp (by omega)]
  have hki : (kdO c).toInt = k := by rw [hke, nI_toInt (by omega)]
  refine v_iload_n 1 dX7_goes_0 rfl rfl ?_
  refine v_callS (c_X7_figureOf (d + 2) ) cs_X7_105 dX7_goes_1 rfl rfl (Nat.le_of_ble_eq_true rfl) ?_
  refine rt_k ?_
  refine v_istore_n dX7_goes_4 rfl (by decide) (fun x2_1 e_x2_1 => ?_)
  refine v_ls (ls' := [(2, .int x2_1), (0, .ref a), (1, .int c)]) rfl ?_
  subst e_x2_1
  refine v_iload_n 2 dX7_goes_5 rfl rfl ?_
  refine v_callS (c_X7_kindOf (d + 2) ) cs_X7_101 dX7_goes_6 rfl rfl (Nat.le_of_ble_eq_true rfl) ?_
  refine rt_k ?_
  by_cases cl9 : (kdO c).toInt < 0
  · omega
  by_cases ch9 : 6 < (kdO c).toInt
  · omega
  by_cases cs9_0 : kdO c = 0
  · refine v_tableIn (off := 43) (tgt := 52) dX7_goes_9 cl9 ch9 (by rw [cs9_0]; rfl) (by decide) ?_
    refine v_goto (tgt := 96) dX7_goes_52 (by decide) ?_
    refine v_aload_n 1 dX7_goes_96 rfl rfl ?_
    refine v_callS (c_X7_toLowest (d + 2) h0) cs_X7_136 dX7_goes_97 rfl rfl (Nat.le_of_ble_eq_true rfl) ?_
    refine rt_k ?_
    refine v_vret dX7_goes_100 rfl ?_
    exact ⟨rfl, by simp only [passO, goO, cs9_0]; rfl⟩
  by_cases cs9_1 : kdO c = 1
  · refine v_tableIn (off := 46) (tgt := 55) dX7_goes_9 cl9 ch9 (by rw [cs9_1]; rfl) (by decide) ?_
    refine v_aload_n 1 dX7_goes_55 rfl rfl ?_
    refine v_iload_n 0 dX7_goes_56 rfl rfl ?_
    refine v_i2l dX7_goes_57 ?_
    refine v_iload_n 0 dX7_goes_58 rfl rfl ?_
    refine v_i2l dX7_goes_59 ?_
    refine v_iconst (v := 4) dX7_goes_60 (by first | rfl | decide) ?_
    refine v_callS (c_X7_scales (d + 2) (x := fgO c) (y := fgO c) h0 he) cs_X7_125 dX7_goes_61 rfl rfl (Nat.le_of_ble_eq_true rfl) ?_
    refine rt_k ?_
    refine v_goto (tgt := 96) dX7_goes_64 (by decide) ?_
    refine v_aload_n 1 dX7_goes_96 rfl rfl ?_
    refine v_callS (c_X7_toLowest (d + 2) (up_s _ _ _)) cs_X7_136 dX7_goes_97 rfl rfl (Nat.le_of_ble_eq_true rfl) ?_
    refine rt_k ?_
    refine v_hp (up_up _ _ _ _) ?_
    refine v_vret dX7_goes_100 rfl ?_
    exact ⟨rfl, by simp only [passO, goO, if_neg cs9_0, if_pos cs9_1]⟩
  by_cases cs9_2 : kdO c = 2
  · refine v_tableIn (off := 58) (tgt := 67) dX7_goes_9 cl9 ch9 (by rw [cs9_2]; rfl) (by decide) ?_
    refine v_aload_n 1 dX7_goes_67 rfl rfl ?_
    refine v_iload_n 2 dX7_goes_68 rfl rfl ?_
    refine v_callS (c_X7_sheet d h0 he hv) cs_X7_129 dX7_goes_69 rfl rfl (Nat.le_of_ble_eq_true rfl) ?_
    refine rt_k ?_
    refine v_goto (tgt := 96) dX7_goes_72 (by decide) ?_
    refine v_aload_n 1 dX7_goes_96 rfl rfl ?_
    refine v_callS (c_X7_toLowest (d + 2) (up_s _ _ _)) cs_X7_136 dX7_goes_97 rfl rfl (Nat.le_of_ble_eq_true rfl) ?_
    refine rt_k ?_
    refine v_hp (up_up _ _ _ _) ?_
    refine v_vret dX7_goes_100 rfl ?_
    exact ⟨rfl, by simp only [passO, goO, if_neg cs9_0, if_neg cs9_1, if_pos cs9_2]⟩
  by_cases cs9_3 : kdO c = 3
  · refine v_tableIn (off := 58) (tgt := 67) dX7_goes_9 cl9 ch9 (by rw [cs9_3]; rfl) (by decide) ?_
    refine v_aload_n 1 dX7_goes_67 rfl rfl ?_
    refine v_iload_n 2 dX7_goes_68 rfl rfl ?_
    refine v_callS (c_X7_sheet d h0 he hv) cs_X7_129 dX7_goes_69 rfl rfl (Nat.le_of_ble_eq_true rfl) ?_
    refine rt_k ?_
    refine v_goto (tgt := 96) dX7_goes_72 (by decide) ?_
    refine v_aload_n 1 dX7_goes_96 rfl rfl ?_
    refine v_callS (c_X7_toLowest (d + 2) (up_s _ _ _)) cs_X7_136 dX7_goes_97 rfl rfl (Nat.le_of_ble_eq_true rfl) ?_
    refine rt_k ?_
    refine v_hp (up_up _ _ _ _) ?_
    refine v_vret dX7_goes_100 rfl ?_
    exact ⟨rfl, by simp only [passO, goO, if_neg cs9_0, if_neg cs9_1, if_neg cs9_2, if_pos cs9_3]⟩
  by_cases cs9_4 : kdO c = 4
  · refine v_tableIn (off := 79) (tgt := 88) dX7_goes_9 cl9 ch9 (by rw [cs9_4]; rfl) (by decide) ?_
    refine v_aload_n 1 dX7_goes_88 rfl rfl ?_
    refine v_iload_n 2 dX7_goes_89 rfl rfl ?_
    refine v_iload_n 0 dX7_goes_90 rfl rfl ?_
    refine v_iconst (v := 4) dX7_goes_91 (by first | rfl | decide) ?_
    refine v_irem dX7_goes_92 (by decide) ?_
    rw [show fgO c - fgO c / 4 * 4 = nI (f % 4) by rw [hfe]; exact vc_qt f hf]
    refine v_callS (c_X7_quarters d (n := f % 4) h0 hv (by omega)) cs_X7_132 dX7_goes_93 rfl rfl (Nat.le_of_ble_eq_true rfl) ?_
    refine rt_k ?_
    refine v_aload_n 1 dX7_goes_96 rfl rfl ?_
    refine v_callS (c_X7_toLowest (d + 2) (up_s _ _ _)) cs_X7_136 dX7_goes_97 rfl rfl (Nat.le_of_ble_eq_true rfl) ?_
    refine rt_k ?_
    refine v_hp (up_up _ _ _ _) ?_
    refine v_vret dX7_goes_100 rfl ?_
    exact ⟨rfl, by simp only [passO, goO, hq4, if_neg cs9_0, if_neg cs9_1, if_neg cs9_2, if_neg cs9_3, if_pos cs9_4]⟩
  by_cases cs9_5 : kdO c = 5
  · refine v_tableIn (off := 79) (tgt := 88) dX7_goes_9 cl9 ch9 (by rw [cs9_5]; rfl) (by decide) ?_
    refine v_aload_n 1 dX7_goes_88 rfl rfl ?_
    refine v_iload_n 2 dX7_goes_89 rfl rfl ?_
    refine v_iload_n 0 dX7_goes_90 rfl rfl ?_
    refine v_iconst (v := 4) dX7_goes_91 (by first | rfl | decide) ?_
    refine v_irem dX7_goes_92 (by decide) ?_
    rw [show fgO c - fgO c / 4 * 4 = nI (f % 4) by rw [hfe]; exact vc_qt f hf]
    refine v_callS (c_X7_quarters d (n := f % 4) h0 hv (by omega)) cs_X7_132 dX7_goes_93 rfl rfl (Nat.le_of_ble_eq_true rfl) ?_
    refine rt_k ?_
    refine v_aload_n 1 dX7_goes_96 rfl rfl ?_
    refine v_callS (c_X7_toLowest (d + 2) (up_s _ _ _)) cs_X7_136 dX7_goes_97 rfl rfl (Nat.le_of_ble_eq_true rfl) ?_
    refine rt_k ?_
    refine v_hp (up_up _ _ _ _) ?_
    refine v_vret dX7_goes_100 rfl ?_
    exact ⟨rfl, by simp only [passO, goO, hq4, if_neg cs9_0, if_neg cs9_1, if_neg cs9_2, if_neg cs9_3, if_neg cs9_4, if_pos cs9_5]⟩
  by_cases cs9_6 : kdO c = 6
  · refine v_tableIn (off := 66) (tgt := 75) dX7_goes_9 cl9 ch9 (by rw [cs9_6]; rfl) (by decide) ?_
    refine v_aload_n 1 dX7_goes_75 rfl rfl ?_
    refine v_ldc2 kc_X7_9 dX7_goes_76 ?_
    refine v_iload_n 0 dX7_goes_79 rfl rfl ?_
    refine v_i2l dX7_goes_80 ?_
    refine v_iconst (v := 4) dX7_goes_81 (by first | rfl | decide) ?_
    refine v_callS (c_X7_scales (d + 2) (x := 16) (y := fgO c) h0 he) cs_X7_125 dX7_goes_82 rfl rfl (Nat.le_of_ble_eq_true rfl) ?_
    refine rt_k ?_
    refine v_goto (tgt := 96) dX7_goes_85 (by decide) ?_
    refine v_aload_n 1 dX7_goes_96 rfl rfl ?_
    refine v_callS (c_X7_toLowest (d + 2) (up_s _ _ _)) cs_X7_136 dX7_goes_97 rfl rfl (Nat.le_of_ble_eq_true rfl) ?_
    refine rt_k ?_
    refine v_hp (up_up _ _ _ _) ?_
    refine v_vret dX7_goes_100 rfl ?_
    exact ⟨rfl, by simp only [passO, goO, if_neg cs9_0, if_neg cs9_1, if_neg cs9_2, if_neg cs9_3, if_neg cs9_4, if_neg cs9_5, if_pos cs9_6]⟩
  exfalso
  have q9_0 := lv_neT (a := 0) cs9_0 (by decide)
  have q9_1 := lv_neT (a := 1) cs9_1 (by decide)
  have q9_2 := lv_neT (a := 2) cs9_2 (by decide)
  have q9_3 := lv_neT (a := 3) cs9_3 (by decide)
  have q9_4 := lv_neT (a := 4) cs9_4 (by decide)
  have q9_5 := lv_neT (a := 5) cs9_5 (by decide)
  have q9_6 := lv_neT (a := 6) cs9_6 (by decide)
  omega

set_option maxRecDepth 20000 in
set_option maxHeartbeats 4000000 in
theorem c_X7_begins {G : Cx} (d : Nat) {μ : Hp} {a : Nat} {L : LT} {nw : Nat → Int64} {m un lr mr hr le at9 fa op tr sg hm hi : Int32} {co wh : Int64} (h60 : μ 60 = some (modC m co wh un lr mr hr le at9 fa op tr sg hm hi)) (h0 : μ a = some (mlg L)) (h63 : μ 63 = some (arJ 5 nw)) : Ct G (d + 1) 0 0 M_X7_begins [.ref 60, .ref a] μ (Rt none (up μ 63 (mlg L))) := by
  refine Ct.ofV (by decide +kernel) (Nat.le_of_ble_eq_true rfl) ?_
  refine v_ls (ls' := [(0, .ref 60), (1, .ref a)]) rfl ?_
  refine v_aload_n 1 dX7_begins_0 rfl rfl ?_
  refine v_iconst (v := 0) dX7_begins_1 (by first | rfl | decide) ?_
  refine v_aload_n 0 dX7_begins_2 rfl rfl ?_
  refine v_get fl_X7_21 dX7_begins_3 h60 rfl ?_
  refine v_iconst (v := 0) dX7_begins_6 (by first | rfl | decide) ?_
  refine v_iconst (v := 5) dX7_begins_7 (by first | rfl | decide) ?_
  refine v_copyl cs_X7_140 dX7_begins_8 h0 h63 rfl rfl (by decide) (by decide) (by decide) (by decide) (by decide) (fun i _ => rfl) (Nat.le_of_ble_eq_true rfl) ?_
  refine v_njJ (g := lvO L) (all5 rfl rfl rfl rfl rfl) ?_
  refine v_vret dX7_begins_11 rfl ?_
  exact ⟨rfl, rfl⟩

set_option maxRecDepth 20000 in
set_option maxHeartbeats 4000000 in
theorem behind_loop {G : Cx} (d : Nat) {μ : Hp} {l : List Int32} {p : Nat → Int32} {b : Nat} {m un lr mr hr le at9 fa op tr sg hm hi : Int32} {co wh : Int64} (h60 : μ 60 = some (modC m co wh un lr mr hr le at9 fa op tr sg hm hi)) (h62 : μ 62 = some (arI 8 p)) (hl : Pl l p) (h8 : l.length ≤ 8) (hv : ∀ c ∈ l, Vc c) (hb : b ≤ l.length) : ∀ (m : Nat) (j : Nat) (L : LT), j + m = b → Eb (5 * j + 100) L → V G M_X7_behind (d + 4) 0 0 (Rt none (up μ 63 (mlg (runO ((l.take b).drop j) L)))) 10 [(2, .int (nI j)), (0, .ref 60), (1, .int (nI b))] [] (up μ 63 (mlg L)) := by
  intro m
  induction m with
  | zero =>
    intro j L hj he
    refine v_iload_n 0 dX7_behind_10 rfl rfl ?_
    refine v_iload_n 2 dX7_behind_11 rfl rfl ?_
    refine v_icmp_ge (tgt := 34) dX7_behind_12 (by decide) (fun hc12 => ?_) (fun hc12 => ?_)
    ·
      refine v_vret dX7_behind_34 rfl ?_
      exact ⟨rfl, by rw [seg_nil (by rw [List.length_take]; omega)]; rfl⟩
    · exact absurd ((nI_leI (by omega) (by omega)).mpr (by omega)) hc12
  | succ m ih =>
    intro j L hj he
    refine v_iload_n 0 dX7_behind_10 rfl rfl ?_
    refine v_iload_n 2 dX7_behind_11 rfl rfl ?_
    refine v_icmp_ge (tgt := 34) dX7_behind_12 (by decide) (fun hc12 => ?_) (fun hc12 => ?_)
    · have := (nI_leI (by omega) (by omega)).mp hc12
      omega
    ·
      refine v_aload_n 1 dX7_behind_15 rfl rfl ?_
      refine v_get fl_X7_21 dX7_behind_16 (up_n (by decide) h60) rfl ?_
      refine v_aload_n 1 dX7_behind_19 rfl rfl ?_
      refine v_get fl_X7_17 dX7_behind_20 (up_n (by decide) h60) rfl ?_
      refine v_iload_n 0 dX7_behind_23 rfl rfl ?_
      refine v_iald dX7_behind_24 (up_n (by decide) h62) (nI_in' (by omega)) ?_
      rw [clamp (by omega)]
      have hvj : Vc (p j) := hv _ (by rw [← hl.at (by omega)]; exact List.getElem_mem _)
      refine v_callS (c_X7_goes d (up_s _ _ _) ⟨he.1, by have := he.2; omega⟩ hvj) cs_X7_149 dX7_behind_25 rfl rfl (Nat.le_of_ble_eq_true rfl) ?_
      refine rt_k ?_
      refine v_hp (up_up _ _ _ _) ?_
      refine v_iinc (v := 1) 0 dX7_behind_28 rfl rfl (by decide) (fun z e_z => ?_)
      refine v_ls (ls' := [(2, .int z), (0, .ref 60), (1, .int (nI b))]) rfl ?_
      rw [nI_1] at e_z
      subst e_z
      refine v_goto (tgt := 10) dX7_behind_31 (by decide) ?_
      rw [seg_cons hl (by rw [List.length_take]; omega), runO_cons]
      exact ih (j + 1) _ (by omega) (passO_e he (by omega))
      

set_option maxRecDepth 20000 in
set_option maxHeartbeats 4000000 in
theorem c_X7_behind {G : Cx} (d : Nat) {L : LT} {nw : Nat → Int64} {μ : Hp} {l : List Int32} {p : Nat → Int32} {b : Nat} {m un lr mr hr le at9 fa op tr sg hm hi : Int32} {co wh : Int64} (h60 : μ 60 = some (modC m co wh un lr mr hr le at9 fa op tr sg hm hi)) (h62 : μ 62 = some (arI 8 p)) (hl : Pl l p) (h8 : l.length ≤ 8) (hv : ∀ c ∈ l, Vc c) (hb : b ≤ l.length) (h61 : μ 61 = some (mlg L)) (h63 : μ 63 = some (arJ 5 nw)) (he : Eb 100 L) : Ct G (d + 4) 0 0 M_X7_behind [.ref 60, .int (nI b)] μ (Rt none (up μ 63 (mlg (runO (l.take b) L)))) := by
  refine Ct.ofV (by decide +kernel) (Nat.le_of_ble_eq_true rfl) ?_
  refine v_ls (ls' := [(0, .ref 60), (1, .int (nI b))]) rfl ?_
  refine v_aload_n 0 dX7_behind_0 rfl rfl ?_
  refine v_aload_n 0 dX7_behind_1 rfl rfl ?_
  refine v_get fl_X7_11 dX7_behind_2 h60 rfl ?_
  refine v_callV (c_X7_begins (d + 2) h60 h61 h63) cs_X7_146 dX7_behind_5 h60 rfl rfl (Nat.le_of_ble_eq_true rfl) ?_
  refine rt_k ?_
  refine v_iconst (v := 0) dX7_behind_8 (by first | rfl | decide) ?_
  refine v_istore_n dX7_behind_9 rfl (by decide) (fun x2 e_x2 => ?_)
  refine v_ls (ls' := [(2, .int x2), (0, .ref 60), (1, .int (nI b))]) rfl ?_
  subst e_x2
  exact behind_loop d h60 h62 hl h8 hv hb b 0 L (by omega) he
  

