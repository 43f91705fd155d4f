theorem fr_z {x z : Int32} (h : z = -1 ∨ ∃ k, k ≤ 12 ∧ z = nI k) : frO x.toInt64 0 (z - 1).toInt64 = inO x z := by
  show (if x.toInt64 < (0 : Int32).toInt64 then (0 : Int32) else if (z - 1).toInt64 < x.toInt64 then 0 else 1) = _
  have h2 : z - 1 < x ↔ z ≤ x := by
    have hz : -1 ≤ z.toInt := by
      rcases h with q | ⟨k, hk, q⟩
      · rw [q]; decide
      · rw [q, nI_toInt (by omega)]; omega
    have he : (z - 1).toInt = z.toInt - 1 := by
      rw [Int32.toInt_sub, show (1 : Int32).toInt = 1 from rfl]
      have := z.toInt_lt
      exact Int.bmod_eq_of_le (by simp; omega) (by simp; omega)
    rw [Int32.lt_iff_toInt_lt, Int32.le_iff_toInt_le, he]
    omega
  simp only [Int32.toInt64_lt, h2]
theorem ls_at (f : Nat → Nat → Int64) {n b : Nat} (hb : b < 12) : lsF f (12 * n + b) = f n b := by
  unfold lsF
  rw [show (12 * n + b) / 12 = n by omega, show (12 * n + b) % 12 = b by omega]
theorem ls_upd (f : Nat → Nat → Int64) {n b : Nat} (hb : b < 12) (v : Int64) : vp_updL (lsF f) (12 * n + b) v = lsF (rowU f n (vp_updL (f n) b v)) := by
  funext j
  show (if j = 12 * n + b then v else f (j / 12) (j % 12)) = (if j / 12 = n then vp_updL (f n) b v else f (j / 12)) (j % 12)
  by_cases e : j / 12 = n
  · rw [if_pos e, e]
    show _ = (if j % 12 = b then v else f n (j % 12))
    by_cases e2 : j % 12 = b
    · rw [if_pos e2, if_pos (by omega)]
    · rw [if_neg e2, if_neg (by omega)]
  · rw [if_neg e, if_neg (by omega)]
theorem rk_at (f : Nat → Nat → Int32) {n b : Nat} (hb : b < 4) : rkF f (4 * n + b) = f n b := by
  unfold rkF
  rw [show (4 * n + b) / 4 = n by omega, show (4 * n + b) % 4 = b by omega]
theorem rk_upd (f : Nat → Nat → Int32) {n b : Nat} (hb : b < 4) (v : Int32) : upd (rkF f) (4 * n + b) v = rkF (rowU f n (upd (f n) b v)) := by
  funext j
  show (if j = 4 * n + b then v else f (j / 4) (j % 4)) = (if j / 4 = n then upd (f n) b v else f (j / 4)) (j % 4)
  by_cases e : j / 4 = n
  · rw [if_pos e, e]
    show _ = (if j % 4 = b then v else f n (j % 4))
    by_cases e2 : j % 4 = b
    · rw [if_pos e2, if_pos (by omega)]
    · rw [if_neg e2, if_neg (by omega)]
  · rw [if_neg e, if_neg (by omega)]
theorem ix12 (n b : Nat) : (12 : Int32) * nI n + nI b = nI (12 * n + b) := by rw [show (12 : Int32) = nI 12 from rfl, pk_mul, nI_add]
theorem ix4 (n b : Nat) : (4 : Int32) * nI n + nI b = nI (4 * n + b) := by rw [show (4 : Int32) = nI 4 from rfl, pk_mul, nI_add]
theorem m12 (n : Nat) : (12 : Int32) * nI n = nI (12 * n) := by rw [show (12 : Int32) = nI 12 from rfl, pk_mul]
theorem m4 (n : Nat) : (4 : Int32) * nI n = nI (4 * n) := by rw [show (4 : Int32) = nI 4 from rfl, pk_mul]
set_option maxRecDepth 20000 in
set_option maxHeartbeats 4000000 in
theorem c_X7_isList {G : Cx} (d : Nat) {μ : Hp} {x : Int32}  : Ct G (d + 1) 0 0 M_X7_isList [.int x] μ (Rt (some (.int (inO x 3))) μ) := by
  refine Ct.ofV (by decide +kernel) (Nat.le_of_ble_eq_true rfl) ?_
  refine v_ls (ls' := [(0, .int x)]) rfl ?_
  refine v_iload_n 0 dX7_isList_0 rfl rfl ?_
  refine v_i2l dX7_isList_1 ?_
  refine v_lconst (v := 0) dX7_isList_2 (by first | rfl | decide) ?_
  refine v_ldc2 kc_X7_99 dX7_isList_3 ?_
  refine v_callS (c_X7_inL d 2 3 2 (by decide) rfl rfl) cs_X7_95 dX7_isList_6 rfl rfl (Nat.le_of_ble_eq_true rfl) ?_
  refine rt_k ?_
  refine v_iret dX7_isList_9 rfl (by simp only [inO]; split <;> (try split) <;> decide) ?_
  exact ⟨rfl, rfl⟩

set_option maxRecDepth 20000 in
set_option maxHeartbeats 4000000 in
theorem c_X7_isRack {G : Cx} (d : Nat) {μ : Hp} {x : Int32}  : Ct G (d + 1) 0 0 M_X7_isRack [.int x] μ (Rt (some (.int (inO x 3))) μ) := by
  refine Ct.ofV (by decide +kernel) (Nat.le_of_ble_eq_true rfl) ?_
  refine v_ls (ls' := [(0, .int x)]) rfl ?_
  refine v_iload_n 0 dX7_isRack_0 rfl rfl ?_
  refine v_i2l dX7_isRack_1 ?_
  refine v_lconst (v := 0) dX7_isRack_2 (by first | rfl | decide) ?_
  refine v_ldc2 kc_X7_99 dX7_isRack_3 ?_
  refine v_callS (c_X7_inL d 2 3 2 (by decide) rfl rfl) cs_X7_95 dX7_isRack_6 rfl rfl (Nat.le_of_ble_eq_true rfl) ?_
  refine rt_k ?_
  refine v_iret dX7_isRack_9 rfl (by simp only [inO]; split <;> (try split) <;> decide) ?_
  exact ⟨rfl, rfl⟩

set_option maxRecDepth 20000 in
set_option maxHeartbeats 4000000 in
theorem c_X7_isPlace {G : Cx} (d : Nat) {μ : Hp} {x : Int32}  : Ct G (d + 1) 0 0 M_X7_isPlace [.int x] μ (Rt (some (.int (inO x 4))) μ) := by
  refine Ct.ofV (by decide +kernel) (Nat.le_of_ble_eq_true rfl) ?_
  refine v_ls (ls' := [(0, .int x)]) rfl ?_
  refine v_iload_n 0 dX7_isPlace_0 rfl rfl ?_
  refine v_i2l dX7_isPlace_1 ?_
  refine v_lconst (v := 0) dX7_isPlace_2 (by first | rfl | decide) ?_
  refine v_ldc2 kc_X7_160 dX7_isPlace_3 ?_
  refine v_callS (c_X7_inL d 3 4 3 (by decide) rfl rfl) cs_X7_95 dX7_isPlace_6 rfl rfl (Nat.le_of_ble_eq_true rfl) ?_
  refine rt_k ?_
  refine v_iret dX7_isPlace_9 rfl (by simp only [inO]; split <;> (try split) <;> decide) ?_
  exact ⟨rfl, rfl⟩

set_option maxRecDepth 20000 in
set_option maxHeartbeats 4000000 in
theorem c_X7_isCell {G : Cx} (d : Nat) {μ : Hp} {x : Int32}  : Ct G (d + 1) 0 0 M_X7_isCell [.int x] μ (Rt (some (.int (inO x 8))) μ) := by
  refine Ct.ofV (by decide +kernel) (Nat.le_of_ble_eq_true rfl) ?_
  refine v_ls (ls' := [(0, .int x)]) rfl ?_
  refine v_iload_n 0 dX7_isCell_0 rfl rfl ?_
  refine v_i2l dX7_isCell_1 ?_
  refine v_lconst (v := 0) dX7_isCell_2 (by first | rfl | decide) ?_
  refine v_ldc2 kc_X7_291 dX7_isCell_3 ?_
  refine v_callS (c_X7_inL d 7 8 7 (by decide) rfl rfl) cs_X7_95 dX7_isCell_6 rfl rfl (Nat.le_of_ble_eq_true rfl) ?_
  refine rt_k ?_
  refine v_iret dX7_isCell_9 rfl (by simp only [inO]; split <;> (try split) <;> decide) ?_
  exact ⟨rfl, rfl⟩

set_option maxRecDepth 20000 in
set_option maxHeartbeats 4000000 in
theorem bec_loop {G : Cx} (d : Nat) {μ : Hp} {n : Nat} {v : Int32} {f : Nat → Nat → Int64} {m un lr mr hr le at9 fa op tr sg hm hi : Int32} {co wh : Int64} (hn9 : n < 3) (h60 : μ 60 = some (modC m co wh un lr mr hr le at9 fa op tr sg hm hi)) : ∀ (m : Nat) (j : Nat) (g : Nat → Int64), j + m = 12 → (∀ x, g x = if 12 * n ≤ x ∧ x < 12 * n + j then 0 else lsF f x) → V G M_X7_becomes (d + 0) 0 0 (Rt none (up μ 70 (arJ 36 (lsF (rowU f n (fun _ => 0)))))) 9 [(3, .int (nI j)), (0, .ref 60), (1, .int (nI n)), (2, .int v)] [] (up μ 70 (arJ 36 g)) := by
  intro m
  induction m with
  | zero =>
    intro j g hj hg
    refine v_iload_n 0 dX7_becomes_9 rfl rfl ?_
    refine v_bipush (v := 12) dX7_becomes_10 (by first | rfl | decide) ?_
    refine v_icmp_ge (tgt := 33) dX7_becomes_12 (by decide) (fun hc12 => ?_) (fun hc12 => ?_)
    ·
      refine v_njJ (g := lsF (rowU f n (fun _ => 0))) (fun x hx => ?_) ?_
      · rw [hg x]
        show _ = (if x / 12 = n then (fun _ => (0 : Int64)) else f (x / 12)) (x % 12)
        by_cases e : x / 12 = n
        · rw [if_pos e, if_pos (by omega)]
        · rw [if_neg e, if_neg (by omega)]
          rfl
      refine v_vret dX7_becomes_33 rfl ?_
      exact ⟨rfl, rfl⟩
    · exact absurd ((nI_leI (a := 12) (by decide) (by omega)).mpr (by omega)) hc12
  | succ m ih =>
    intro j g hj hg
    refine v_iload_n 0 dX7_becomes_9 rfl rfl ?_
    refine v_bipush (v := 12) dX7_becomes_10 (by first | rfl | decide) ?_
    refine v_icmp_ge (tgt := 33) dX7_becomes_12 (by decide) (fun hc12 => ?_) (fun hc12 => ?_)
    · have := (nI_leI (a := 12) (by decide) (by omega)).mp hc12
      omega
    ·
      refine v_aload_n 1 dX7_becomes_15 rfl rfl ?_
      refine v_get fl_X7_42 dX7_becomes_16 (up_n (by decide) h60) rfl ?_
      refine v_bipush (v := 12) dX7_becomes_19 (by first | rfl | decide) ?_
      refine v_iload_n 2 dX7_becomes_21 rfl rfl ?_
      refine v_imul dX7_becomes_22 ?_
      refine v_iload_n 0 dX7_becomes_23 rfl rfl ?_
      refine v_iadd dX7_becomes_24 ?_
      refine v_lconst (v := 0) dX7_becomes_25 (by first | rfl | decide) ?_
      refine v_last dX7_becomes_26 (up_s _ _ _) (by rw [ix12]; exact nI_in' (by omega)) ?_
      refine v_hp (up_up _ _ _ _) ?_
      refine v_iinc (v := 1) 0 dX7_becomes_27 rfl rfl (by decide) (fun z e_z => ?_)
      refine v_ls (ls' := [(3, .int z), (0, .ref 60), (1, .int (nI n)), (2, .int v)]) rfl ?_
      rw [nI_1] at e_z
      subst e_z
      refine v_goto (tgt := 9) dX7_becomes_30 (by decide) ?_
      exact ih (j + 1) _ (by omega) (fun x => by
        rw [ix12, clamp (by omega)]
        show (if x = 12 * n + j then (0 : Int64) else g x) = _
        by_cases e : x = 12 * n + j
        · rw [if_pos e, if_pos (by omega)]
        · rw [if_neg e, hg x]
          by_cases e2 : 12 * n ≤ x ∧ x < 12 * n + j
          · rw [if_pos e2, if_pos (by omega)]
          · rw [if_neg e2, if_neg (by omega)])
      

set_option maxRecDepth 20000 in
set_option maxHeartbeats 4000000 in
theorem c_X7_becomes {G : Cx} (d : Nat) {μ : Hp} {n : Nat} {v : Int32} {f : Nat → Nat → Int64} {z : Nat → Int32} {m un lr mr hr le at9 fa op tr sg hm hi : Int32} {co wh : Int64} (hn9 : n < 3) (h60 : μ 60 = some (modC m co wh un lr mr hr le at9 fa op tr sg hm hi)) (h70 : μ 70 = some (arJ 36 (lsF f))) (h71 : μ 71 = some (arI 3 z)) : Ct G (d) 0 0 M_X7_becomes [.ref 60, .int (nI n), .int v] μ (Rt none (up (up μ 71 (arI 3 (upd z n v))) 70 (arJ 36 (lsF (rowU f n (fun _ => 0)))))) := by
  refine Ct.ofV (by decide +kernel) (Nat.le_of_ble_eq_true rfl) ?_
  refine v_ls (ls' := [(0, .ref 60), (1, .int (nI n)), (2, .int v)]) rfl ?_
  refine v_aload_n 0 dX7_becomes_0 rfl rfl ?_
  refine v_get fl_X7_45 dX7_becomes_1 h60 rfl ?_
  refine v_iload_n 1 dX7_becomes_4 rfl rfl ?_
  refine v_iload_n 2 dX7_becomes_5 rfl rfl ?_
  refine v_iast dX7_becomes_6 h71 (nI_in' hn9) ?_
  refine v_iconst (v := 0) dX7_becomes_7 (by first | rfl | decide) ?_
  refine v_istore_n dX7_becomes_8 rfl (by decide) (fun x3 e_x3 => ?_)
  refine v_ls (ls' := [(3, .int x3), (0, .ref 60), (1, .int (nI n)), (2, .int v)]) rfl ?_
  subst e_x3
  rw [clamp (by omega)]
  refine v_hp (up_id (up_n (by decide) h70)).symm ?_
  exact bec_loop d hn9 (up_n (by decide) h60) 12 0 (lsF f) (by omega) (fun x => by rw [if_neg (by omega)])
  

set_option maxRecDepth 20000 in
set_option maxHeartbeats 4000000 in
theorem c_X7_lays {G : Cx} (d : Nat) {μ : Hp} {n : Nat} {f : Nat → Nat → Int64} {z : Nat → Int32} {nw : Nat → Int64} {m un lr mr hr le at9 fa op tr sg hm hi : Int32} {co wh : Int64} (hn9 : n < 3) (h60 : μ 60 = some (modC m co wh un lr mr hr le at9 fa op tr sg hm hi)) (h70 : μ 70 = some (arJ 36 (lsF f))) (h71 : μ 71 = some (arI 3 z)) (h63 : μ 63 = some (arJ 5 nw)) : Ct G (d + 1) 0 0 M_X7_lays [.ref 60, .int (nI n)] μ (Rt (some (.int 1)) (up (up μ 71 (arI 3 (upd z n 5))) 70 (arJ 36 (lsF (rowU f n (fun j => if j < 5 then nw j else 0)))))) := by
  refine Ct.ofV (by decide +kernel) (Nat.le_of_ble_eq_true rfl) ?_
  refine v_ls (ls' := [(0, .ref 60), (1, .int (nI n))]) rfl ?_
  refine v_aload_n 0 dX7_lays_0 rfl rfl ?_
  refine v_iload_n 1 dX7_lays_1 rfl rfl ?_
  refine v_iconst (v := 5) dX7_lays_2 (by first | rfl | decide) ?_
  refine v_callV (c_X7_becomes d hn9 h60 h70 h71) cs_X7_271 dX7_lays_3 h60 rfl rfl (Nat.le_of_ble_eq_true rfl) ?_
  refine rt_k ?_
  refine v_aload_n 0 dX7_lays_6 rfl rfl ?_
  refine v_get fl_X7_21 dX7_lays_7 (up_n (by decide) (up_n (by decide) h60)) rfl ?_
  refine v_iconst (v := 0) dX7_lays_10 (by first | rfl | decide) ?_
  refine v_aload_n 0 dX7_lays_11 rfl rfl ?_
  refine v_get fl_X7_42 dX7_lays_12 (up_n (by decide) (up_n (by decide) h60)) rfl ?_
  refine v_bipush (v := 12) dX7_lays_15 (by first | rfl | decide) ?_
  refine v_iload_n 1 dX7_lays_17 rfl rfl ?_
  refine v_imul dX7_lays_18 ?_
  refine v_iconst (v := 5) dX7_lays_19 (by first | rfl | decide) ?_
  rw [m12]
  refine v_copyl cs_X7_140 dX7_lays_20 (up_n (by decide) (up_n (by decide) h63)) (up_s _ _ _) rfl rfl (by decide) (nI_pos (by omega)) (by decide) (by decide) (by rw [clamp (by omega)]; show 12 * n + 5 ≤ 36; omega) (fun i _ => rfl) (Nat.le_of_ble_eq_true rfl) ?_
  refine v_hp (up_up _ _ _ _) ?_
  refine v_njJ (g := lsF (rowU f n (fun j => if j < 5 then nw j else 0))) (fun x hx => ?_) ?_
  · rw [clamp (show 12 * n < 2 ^ 31 by omega)]
    show va_cpy nw _ 0 (12 * n) 5 x = (if x / 12 = n then (fun j => if j < 5 then nw j else 0) else f (x / 12)) (x % 12)
    unfold va_cpy
    by_cases e : x / 12 = n
    · rw [if_pos e]
      by_cases e2 : x % 12 < 5
      · rw [if_pos (by omega)]
        show _ = if x % 12 < 5 then nw (x % 12) else 0
        rw [if_pos e2]
        congr 1
        omega
      · rw [if_neg (by omega)]
        show _ = if x % 12 < 5 then nw (x % 12) else 0
        rw [if_neg e2]
        show (if x / 12 = n then (fun _ => (0 : Int64)) else f (x / 12)) (x % 12) = 0
        rw [if_pos e]
    · rw [if_neg e, if_neg (by omega)]
      show (if x / 12 = n then (fun _ => (0 : Int64)) else f (x / 12)) (x % 12) = f (x / 12) (x % 12)
      rw [if_neg e]
  refine v_iconst (v := 1) dX7_lays_23 (by first | rfl | decide) ?_
  refine v_iret dX7_lays_24 rfl (by first | rfl | decide | exact nar_b (by first | assumption | rfl)) ?_
  exact ⟨rfl, rfl⟩

set_option maxRecDepth 20000 in
set_option maxHeartbeats 4000000 in
theorem c_X7_list {G : Cx} (d : Nat) {μ : Hp} {σ : ST} {t : Int32} {x : Int32} (h : Mo σ μ) (hw : Wp (sP σ)) : Ct G (d + 2) 0 0 M_X7_list [.ref 60, .int t, .int x] μ (Pm ((rList σ t x).2) (.int ((rList σ t x).1)) μ) := by
  refine Ct.ofV (by decide +kernel) (Nat.le_of_ble_eq_true rfl) ?_
  refine v_ls (ls' := [(0, .ref 60), (1, .int t), (2, .int x)]) rfl ?_
  obtain ⟨co, wh, un, lr, mr, hr, at9, fa, op, sg, hm, p, tt, ro, og, tc, op9, sp, nw, se, le, mo, ot, h60, h61, h62, h63, h64, h65, h66, h67, h68, h69, h70, h71, h72, h73, h74, h75, h76, h77, h78, h79, h80, hmk, hpl, htp, ht60⟩ := id h
  have hl8 := hw.1
  refine v_iload_n 1 dX7_list_0 rfl rfl ?_
  refine v_callS (c_X7_isList d ) cs_X7_268 dX7_list_1 rfl rfl (Nat.le_of_ble_eq_true rfl) ?_
  refine rt_k ?_
  refine v_if_ne (tgt := 9) dX7_list_4 (by decide) (fun hc4 => ?_) (fun hc4 => ?_)
  ·
    obtain ⟨n, hn9, rfl⟩ := in_ix (n := 3) (by decide) hc4
    have hcn : (nI n).toNatClampNeg = n := clamp (by omega)
    refine v_iload_n 2 dX7_list_9 rfl rfl ?_
    refine v_bipush (v := 12) dX7_list_10 (by first | rfl | decide) ?_
    refine v_icmp_le (tgt := 18) dX7_list_12 (by decide) (fun hc12 => ?_) (fun hc12 => ?_)
    ·
      refine v_iload_n 2 dX7_list_18 rfl rfl ?_
      refine v_iconst (v := -1) dX7_list_19 (by first | rfl | decide) ?_
      refine v_icmp_ge (tgt := 26) dX7_list_20 (by decide) (fun hc20 => ?_) (fun hc20 => ?_)
      ·
        refine v_aload_n 0 dX7_list_26 rfl rfl ?_
        refine v_iload_n 1 dX7_list_27 rfl rfl ?_
        refine v_iload_n 2 dX7_list_28 rfl rfl ?_
        refine v_callV (c_X7_becomes (d + 1) hn9 h60 h70 h71) cs_X7_271 dX7_list_29 h60 rfl rfl (Nat.le_of_ble_eq_true rfl) ?_
        refine rt_k ?_
        refine v_iconst (v := 1) dX7_list_32 (by first | rfl | decide) ?_
        refine v_iret dX7_list_33 rfl (by first | rfl | decide | exact nar_b (by first | assumption | rfl)) ?_
        have hE : rList σ (nI n) x = (1, mkL σ n x (fun _ => 0)) := by
          have hg1 : ¬ 12 < x := Int32.not_lt.mpr hc12
          have hg2 : ¬ x < -1 := Int32.not_lt.mpr hc20
          simp only [rList, if_neg hc4, if_neg hg1, if_neg hg2, hcn]
        rw [hE]
        exact ⟨rfl, ⟨co, wh, un, lr, mr, hr, at9, fa, op, sg, hm, p, tt, ro, og, tc, op9, sp, nw, se, le, mo, ot, (by repeat (first | assumption | exact up_s _ _ _ | refine up_n (by omega) ?_)), (by repeat (first | assumption | exact up_s _ _ _ | refine up_n (by omega) ?_)), (by repeat (first | assumption | exact up_s _ _ _ | refine up_n (by omega) ?_)), (by repeat (first | assumption | exact up_s _ _ _ | refine up_n (by omega) ?_)), (by repeat (first | assumption | exact up_s _ _ _ | refine up_n (by omega) ?_)), (by repeat (first | assumption | exact up_s _ _ _ | refine up_n (by omega) ?_)), (by repeat (first | assumption | exact up_s _ _ _ | refine up_n (by omega) ?_)), (by repeat (first | assumption | exact up_s _ _ _ | refine up_n (by omega) ?_)), (by repeat (first | assumption | exact up_s _ _ _ | refine up_n (by omega) ?_)), (by repeat (first | assumption | exact up_s _ _ _ | refine up_n (by omega) ?_)), (by repeat (first | assumption | exact up_s _ _ _ | refine up_n (by omega) ?_)), (by repeat (first | assumption | exact up_s _ _ _ | refine up_n (by omega) ?_)), (by repeat (first | assumption | exact up_s _ _ _ | refine up_n (by omega) ?_)), (by repeat (first | assumption | exact up_s _ _ _ | refine up_n (by omega) ?_)), (by repeat (first | assumption | exact up_s _ _ _ | refine up_n (by omega) ?_)), (by repeat (first | assumption | exact up_s _ _ _ | refine up_n (by omega) ?_)), (by repeat (first | assumption | exact up_s _ _ _ | refine up_n (by omega) ?_)), (by repeat (first | assumption | exact up_s _ _ _ | refine up_n (by omega) ?_)), (by repeat (first | assumption | exact up_s _ _ _ | refine up_n (by omega) ?_)), (by repeat (first | assumption | exact up_s _ _ _ | refine up_n (by omega) ?_)), (by repeat (first | assumption | exact up_s _ _ _ | refine up_n (by omega) ?_)), (hmk.kept (fun i a b => by repeat (first | rfl | refine up_n (by omega) ?_))), hpl, htp, ht60⟩, fun i hi => by repeat (first | rfl | refine up_n (by omega) ?_)⟩
      ·
        refine v_bipush (v := -14) dX7_list_23 (by first | rfl | decide) ?_
        refine v_iret dX7_list_25 rfl (by first | rfl | decide | exact nar_b (by first | assumption | rfl)) ?_
        have hE : rList σ (nI n) x = (-14, σ) := by
          first
            | (simp only [rList, if_neg hc4, if_pos hc12, if_neg (Int32.not_lt.mpr hc12), if_neg hc20, if_pos (Int32.not_le.mp hc20)]; done)
            | (grind [rList]; done)
        rw [hE]
        exact ⟨rfl, h, Fp.rf μ⟩
    ·
      refine v_bipush (v := -2) dX7_list_15 (by first | rfl | decide) ?_
      refine v_iret dX7_list_17 rfl (by first | rfl | decide | exact nar_b (by first | assumption | rfl)) ?_
      have hE : rList σ (nI n) x = (-2, σ) := by
        first
          | (simp only [rList, if_neg hc4, if_neg hc12, if_pos (Int32.not_le.mp hc12)]; done)
          | (grind [rList]; done)
      rw [hE]
      exact ⟨rfl, h, Fp.rf μ⟩
  ·
    refine v_iconst (v := -1) dX7_list_7 (by first | rfl | decide) ?_
    refine v_iret dX7_list_8 rfl (by first | rfl | decide | exact nar_b (by first | assumption | rfl)) ?_
    have hE : rList σ t x = (-1, σ) := by
      first
        | (simp only [rList, if_pos hc4]; done)
        | (grind [rList]; done)
    rw [hE]
    exact ⟨rfl, h, Fp.rf μ⟩

set_option maxRecDepth 20000 in
set_option maxHeartbeats 4000000 in
theorem c_X7_put {G : Cx} (d : Nat) {μ : Hp} {σ : ST} {t : Int32} {x : Int32} {v : Int64} (h : Mo σ μ) (hw : Wp (sP σ)) (hz : Wz (sZ σ)) : Ct G (d + 2) 0 0 M_X7_put [.ref 60, .int t, .int x, .long v] μ (Pm ((rPut σ t x v).2) (.int ((rPut σ t x v).1)) μ) := by
  refine Ct.ofV (by decide +kernel) (Nat.le_of_ble_eq_true rfl) ?_
  refine v_ls (ls' := [(0, .ref 60), (1, .int t), (2, .int x), (3, .long v)]) rfl ?_
  obtain ⟨co, wh, un, lr, mr, hr, at9, fa, op, sg, hm, p, tt, ro, og, tc, op9, sp, nw, se, le, mo, ot, h60, h61, h62, h63, h64, h65, h66, h67, h68, h69, h70, h71, h72, h73, h74, h75, h76, h77, h78, h79, h80, hmk, hpl, htp, ht60⟩ := id h
  have hl8 := hw.1
  refine v_iload_n 1 dX7_put_0 rfl rfl ?_
  refine v_callS (c_X7_isList d ) cs_X7_268 dX7_put_1 rfl rfl (Nat.le_of_ble_eq_true rfl) ?_
  refine rt_k ?_
  refine v_if_ne (tgt := 9) dX7_put_4 (by decide) (fun hc4 => ?_) (fun hc4 => ?_)
  ·
    obtain ⟨n, hn9, rfl⟩ := in_ix (n := 3) (by decide) hc4
    have hcn : (nI n).toNatClampNeg = n := clamp (by omega)
    refine v_aload_n 0 dX7_put_9 rfl rfl ?_
    refine v_get fl_X7_45 dX7_put_10 h60 rfl ?_
    refine v_iload_n 1 dX7_put_13 rfl rfl ?_
    refine v_iald dX7_put_14 h71 (nI_in' hn9) ?_
    refine v_iconst (v := -1) dX7_put_15 (by first | rfl | decide) ?_
    refine v_icmp_ne (tgt := 22) dX7_put_16 (by decide) (fun hc16 => ?_) (fun hc16 => ?_)
    ·
      have hq1 : ¬ sZ σ n = -1 := by rw [hcn] at hc16; exact hc16
      refine v_iload_n 2 dX7_put_22 rfl rfl ?_
      refine v_i2l dX7_put_23 ?_
      refine v_lconst (v := 0) dX7_put_24 (by first | rfl | decide) ?_
      refine v_aload_n 0 dX7_put_25 rfl rfl ?_
      refine v_get fl_X7_45 dX7_put_26 h60 rfl ?_
      refine v_iload_n 1 dX7_put_29 rfl rfl ?_
      refine v_iald dX7_put_30 h71 (nI_in' hn9) ?_
      refine v_iconst (v := 1) dX7_put_31 (by first | rfl | decide) ?_
      refine v_isub dX7_put_32 ?_
      refine v_i2l dX7_put_33 ?_
      refine v_callS (c_X7_in (d + 1)) cs_X7_95 dX7_put_34 rfl rfl (Nat.le_of_ble_eq_true rfl) ?_
      refine rt_k ?_
      rw [hcn, fr_z (hz n hn9)]
      refine v_if_ne (tgt := 43) dX7_put_37 (by decide) (fun hc37 => ?_) (fun hc37 => ?_)
      ·
        obtain ⟨b, hb9, rfl⟩ : ∃ b, b < 12 ∧ x = nI b := by
          rcases hz n hn9 with e | ⟨k, hk, e⟩
          · rw [e] at hc37
            exfalso
            clear h hw h60 h61 h62 h63 h64 h65 h66 h67 h68 h69 h70 h71 h72 h73 h74 h75 h76 h77 h78 h79 h80 hmk hpl htp
            grind
          · rw [e] at hc37
            obtain ⟨b, hb, rfl⟩ := in_ix (by omega) hc37
            exact ⟨b, by omega, rfl⟩
        have hcb : (nI b).toNatClampNeg = b := clamp (by omega)
        refine v_aload_n 0 dX7_put_43 rfl rfl ?_
        refine v_get fl_X7_42 dX7_put_44 h60 rfl ?_
        refine v_bipush (v := 12) dX7_put_47 (by first | rfl | decide) ?_
        refine v_iload_n 1 dX7_put_49 rfl rfl ?_
        refine v_imul dX7_put_50 ?_
        refine v_iload_n 2 dX7_put_51 rfl rfl ?_
        refine v_iadd dX7_put_52 ?_
        refine v_lload_n 3 dX7_put_53 rfl rfl ?_
        rw [ix12]
        refine v_last dX7_put_54 h70 (nI_in' (by omega)) ?_
        refine v_iconst (v := 1) dX7_put_55 (by first | rfl | decide) ?_
        refine v_iret dX7_put_56 rfl (by first | rfl | decide | exact nar_b (by first | assumption | rfl)) ?_
        have hE : rPut σ (nI n) (nI b) v = (1, toL σ (rowU (sL σ) n (vp_updL (sL σ n) b v))) := by simp only [rPut, if_neg hc4, zAt, lAt, hcn, hcb, if_neg hq1, if_neg hc37]
        rw [hE, clamp (show 12 * n + b < 2 ^ 31 by omega), ls_upd _ hb9]
        exact ⟨rfl, ⟨co, wh, un, lr, mr, hr, at9, fa, op, sg, hm, p, tt, ro, og, tc, op9, sp, nw, se, le, mo, ot, (by repeat (first | assumption | exact up_s _ _ _ | refine up_n (by omega) ?_)), (by repeat (first | assumption | exact up_s _ _ _ | refine up_n (by omega) ?_)), (by repeat (first | assumption | exact up_s _ _ _ | refine up_n (by omega) ?_)), (by repeat (first | assumption | exact up_s _ _ _ | refine up_n (by omega) ?_)), (by repeat (first | assumption | exact up_s _ _ _ | refine up_n (by omega) ?_)), (by repeat (first | assumption | exact up_s _ _ _ | refine up_n (by omega) ?_)), (by repeat (first | assumption | exact up_s _ _ _ | refine up_n (by omega) ?_)), (by repeat (first | assumption | exact up_s _ _ _ | refine up_n (by omega) ?_)), (by repeat (first | assumption | exact up_s _ _ _ | refine up_n (by omega) ?_)), (by repeat (first | assumption | exact up_s _ _ _ | refine up_n (by omega) ?_)), (by repeat (first | assumption | exact up_s _ _ _ | refine up_n (by omega) ?_)), (by repeat (first | assumption | exact up_s _ _ _ | refine up_n (by omega) ?_)), (by repeat (first | assumption | exact up_s _ _ _ | refine up_n (by omega) ?_)), (by repeat (first | assumption | exact up_s _ _ _ | refine up_n (by omega) ?_)), (by repeat (first | assumption | exact up_s _ _ _ | refine up_n (by omega) ?_)), (by repeat (first | assumption | exact up_s _ _ _ | refine up_n (by omega) ?_)), (by repeat (first | assumption | exact up_s _ _ _ | refine up_n (by omega) ?_)), (by repeat (first | assumption | exact up_s _ _ _ | refine up_n (by omega) ?_)), (by repeat (first | assumption | exact up_s _ _ _ | refine up_n (by omega) ?_)), (by repeat (first | assumption | exact up_s _ _ _ | refine up_n (by omega) ?_)), (by repeat (first | assumption | exact up_s _ _ _ | refine up_n (by omega) ?_)), (hmk.kept (fun i a b => by repeat (first | rfl | refine up_n (by omega) ?_))), hpl, htp, ht60⟩, fun i hi => by repeat (first | rfl | refine up_n (by omega) ?_)⟩
      ·
        refine v_bipush (v := -13) dX7_put_40 (by first | rfl | decide) ?_
        refine v_iret dX7_put_42 rfl (by first | rfl | decide | exact nar_b (by first | assumption | rfl)) ?_
        have hE : rPut σ (nI n) x v = (-13, σ) := by simp only [rPut, if_neg hc4, zAt, hcn, if_neg hq1, if_pos hc37]
        rw [hE]
        exact ⟨rfl, h, Fp.rf μ⟩
    ·
      refine v_bipush (v := -11) dX7_put_19 (by first | rfl | decide) ?_
      refine v_iret dX7_put_21 rfl (by first | rfl | decide | exact nar_b (by first | assumption | rfl)) ?_
      rw [hcn] at hc16
      have hE : rPut σ (nI n) x v = (-11, σ) := by simp only [rPut, if_neg hc4, zAt, hcn, if_pos hc16]
      rw [hE]
      exact ⟨rfl, h, Fp.rf μ⟩
  ·
    refine v_iconst (v := -1) dX7_put_7 (by first | rfl | decide) ?_
    refine v_iret dX7_put_8 rfl (by first | rfl | decide | exact nar_b (by first | assumption | rfl)) ?_
    have hE : rPut σ t x v = (-1, σ) := by
      first
        | (simp only [rPut, if_pos hc4]; done)
        | (grind [rPut]; done)
    rw [hE]
    exact ⟨rfl, h, Fp.rf μ⟩

set_option maxRecDepth 20000 in
set_option maxHeartbeats 4000000 in
theorem c_X7_get {G : Cx} (d : Nat) {μ : Hp} {σ : ST} {t : Int32} {x : Int32} (h : Mo σ μ) (hw : Wp (sP σ)) (hz : Wz (sZ σ)) : Ct G (d + 2) 0 0 M_X7_get [.ref 60, .int t, .int x] μ (Pm (σ) (.long (rGet σ t x)) μ) := by
  refine Ct.ofV (by decide +kernel) (Nat.le_of_ble_eq_true rfl) ?_
  refine v_ls (ls' := [(0, .ref 60), (1, .int t), (2, .int x)]) rfl ?_
  obtain ⟨co, wh, un, lr, mr, hr, at9, fa, op, sg, hm, p, tt, ro, og, tc, op9, sp, nw, se, le, mo, ot, h60, h61, h62, h63, h64, h65, h66, h67, h68, h69, h70, h71, h72, h73, h74, h75, h76, h77, h78, h79, h80, hmk, hpl, htp, ht60⟩ := id h
  have hl8 := hw.1
  refine v_iload_n 1 dX7_get_0 rfl rfl ?_
  refine v_callS (c_X7_isList d ) cs_X7_268 dX7_get_1 rfl rfl (Nat.le_of_ble_eq_true rfl) ?_
  refine rt_k ?_
  refine v_if_eq (tgt := 39) dX7_get_4 (by decide) (fun hc4 => ?_) (fun hc4 => ?_)
  ·
    refine v_ldc2 kc_X7_193 dX7_get_39 ?_
    refine v_lret dX7_get_42 rfl ?_
    have hE : rGet σ t x = VD := by simp only [rGet, if_pos hc4]
    rw [hE]
    exact ⟨rfl, h, Fp.rf μ⟩
  ·
    obtain ⟨n, hn9, rfl⟩ := in_ix (n := 3) (by decide) hc4
    have hcn : (nI n).toNatClampNeg = n := clamp (by omega)
    refine v_iload_n 2 dX7_get_7 rfl rfl ?_
    refine v_i2l dX7_get_8 ?_
    refine v_lconst (v := 0) dX7_get_9 (by first | rfl | decide) ?_
    refine v_aload_n 0 dX7_get_10 rfl rfl ?_
    refine v_get fl_X7_45 dX7_get_11 h60 rfl ?_
    refine v_iload_n 1 dX7_get_14 rfl rfl ?_
    refine v_iald dX7_get_15 h71 (nI_in' hn9) ?_
    refine v_iconst (v := 1) dX7_get_16 (by first | rfl | decide) ?_
    refine v_isub dX7_get_17 ?_
    refine v_i2l dX7_get_18 ?_
    refine v_callS (c_X7_in (d + 1)) cs_X7_95 dX7_get_19 rfl rfl (Nat.le_of_ble_eq_true rfl) ?_
    refine rt_k ?_
    rw [hcn, fr_z (hz n hn9)]
    refine v_if_eq (tgt := 39) dX7_get_22 (by decide) (fun hc22 => ?_) (fun hc22 => ?_)
    ·
      refine v_ldc2 kc_X7_193 dX7_get_39 ?_
      refine v_lret dX7_get_42 rfl ?_
      have hE : rGet σ (nI n) x = VD := by simp only [rGet, if_neg hc4, zAt, hcn, if_pos hc22]
      rw [hE]
      exact ⟨rfl, h, Fp.rf μ⟩
    ·
      obtain ⟨b, hb9, rfl⟩ : ∃ b, b < 12 ∧ x = nI b := by
        rcases hz n hn9 with e | ⟨k, hk, e⟩
        · rw [e] at hc22
          exfalso
          clear h hw h60 h61 h62 h63 h64 h65 h66 h67 h68 h69 h70 h71 h72 h73 h74 h75 h76 h77 h78 h79 h80 hmk hpl htp
          grind
        · rw [e] at hc22
          obtain ⟨b, hb, rfl⟩ := in_ix (by omega) hc22
          exact ⟨b, by omega, rfl⟩
      have hcb : (nI b).toNatClampNeg = b := clamp (by omega)
      refine v_aload_n 0 dX7_get_25 rfl rfl ?_
      refine v_get fl_X7_42 dX7_get_26 h60 rfl ?_
      refine v_bipush (v := 12) dX7_get_29 (by first | rfl | decide) ?_
      refine v_iload_n 1 dX7_get_31 rfl rfl ?_
      refine v_imul dX7_get_32 ?_
      refine v_iload_n 2 dX7_get_33 rfl rfl ?_
      refine v_iadd dX7_get_34 ?_
      rw [ix12]
      refine v_lald dX7_get_35 h70 (nI_in' (by omega)) ?_
      refine v_goto (tgt := 42) dX7_get_36 (by decide) ?_
      refine v_lret dX7_get_42 rfl ?_
      have hE : rGet σ (nI n) (nI b) = sL σ n b := by simp only [rGet, if_neg hc4, zAt, lAt, hcn, hcb, if_neg hc22]
      rw [hE, clamp (show 12 * n + b < 2 ^ 31 by omega), ls_at _ hb9]
      exact ⟨rfl, h, Fp.rf μ⟩

