def hlr (g : Nat → Int32) (a : Nat) : Nat → Nat
  | 0 => 0
  | m + 1 => (if g a = -1 then 0 else 1) + hlr g (a + 1) m
theorem hlr_4 (f : Nat → Nat → Int32) (n : Nat) : hlr (rkF f) (4 * n) 4 = hldO (f n) 4 := by
  have h0 := rk_at f (n := n) (b := 0) (by decide)
  have h1 := rk_at f (n := n) (b := 1) (by decide)
  have h2 := rk_at f (n := n) (b := 2) (by decide)
  have h3 := rk_at f (n := n) (b := 3) (by decide)
  simp only [hlr, hldO]
  rw [show rkF f (4 * n) = f n 0 from h0, show rkF f (4 * n + 1) = f n 1 from h1, show rkF f (4 * n + 1 + 1) = f n 2 from h2, show rkF f (4 * n + 1 + 1 + 1) = f n 3 from h3]
  omega
theorem hlr_add (g : Nat → Int32) : ∀ (m k a : Nat), hlr g a (m + k) = hlr g a m + hlr g (a + m) k
  | 0, k, a => by rw [Nat.zero_add]; show _ = 0 + _; rw [Nat.zero_add]; rfl
  | m + 1, k, a => by
    rw [show m + 1 + k = (m + k) + 1 by omega]
    show _ + hlr g (a + 1) (m + k) = _ + hlr g (a + 1) m + _
    rw [hlr_add g m k (a + 1), show a + 1 + m = a + (m + 1) by omega]
    omega
theorem hlr_le (g : Nat → Int32) : ∀ (m a : Nat), hlr g a m ≤ m
  | 0, _ => Nat.le_refl _
  | m + 1, a => by
    have := hlr_le g m (a + 1)
    show (if g a = -1 then 0 else 1) + hlr g (a + 1) m ≤ _
    split <;> omega
set_option maxRecDepth 20000 in
set_option maxHeartbeats 4000000 in
theorem held_loop {G : Cx} (d : Nat) {μ : Hp} {a b : Nat} {g : Nat → Int32} {m un lr mr hr le at9 fa op tr sg hm hi : Int32} {co wh : Int64} (h60 : μ 60 = some (modC m co wh un lr mr hr le at9 fa op tr sg hm hi)) (h73 : μ 73 = some (arI 12 g)) (hb : b ≤ 12) : ∀ (m : Nat) (j k : Nat), j + m = b → V G M_X7_heldIn (d + 0) 0 0 (Rt (some (.int (nI (k + hlr g j m)))) μ) 5 [(4, .int (nI j)), (3, .int (nI k)), (0, .ref 60), (1, .int (nI a)), (2, .int (nI b))] [] (μ) := by
  intro m
  induction m with
  | zero =>
    intro j k hj
    refine v_iload 0 dX7_heldIn_5 rfl ?_
    refine v_iload_n 4 dX7_heldIn_7 rfl rfl ?_
    refine v_icmp_ge (tgt := 36) dX7_heldIn_8 (by decide) (fun hc8 => ?_) (fun hc8 => ?_)
    ·
      refine v_iload_n 1 dX7_heldIn_36 rfl rfl ?_
      refine v_iret dX7_heldIn_37 rfl (by first | rfl | decide | exact nar_b (by first | assumption | rfl)) ?_
      exact ⟨rfl, rfl⟩
    · exact absurd ((nI_leI (by omega) (by omega)).mpr (by omega)) hc8
  | succ m ih =>
    intro j k hj
    refine v_iload 0 dX7_heldIn_5 rfl ?_
    refine v_iload_n 4 dX7_heldIn_7 rfl rfl ?_
    refine v_icmp_ge (tgt := 36) dX7_heldIn_8 (by decide) (fun hc8 => ?_) (fun hc8 => ?_)
    · have := (nI_leI (by omega) (by omega)).mp hc8
      omega
    ·
      refine v_iload_n 1 dX7_heldIn_11 rfl rfl ?_
      refine v_aload_n 2 dX7_heldIn_12 rfl rfl ?_
      refine v_get fl_X7_52 dX7_heldIn_13 h60 rfl ?_
      refine v_iload 0 dX7_heldIn_16 rfl ?_
      refine v_iald dX7_heldIn_18 h73 (nI_in' (by omega)) ?_
      refine v_iconst (v := -1) dX7_heldIn_19 (by first | rfl | decide) ?_
      refine v_icmp_ne (tgt := 27) dX7_heldIn_20 (by decide) (fun hc20 => ?_) (fun hc20 => ?_)
      ·
        refine v_iconst (v := 1) dX7_heldIn_27 (by first | rfl | decide) ?_
        refine v_iadd dX7_heldIn_28 ?_
        refine v_istore_n dX7_heldIn_29 rfl (by decide) (fun y3 e_y3 => ?_)
        refine v_ls (ls' := [(3, .int y3), (4, .int (nI j)), (0, .ref 60), (1, .int (nI a)), (2, .int (nI b))]) rfl ?_
        refine v_iinc (v := 1) 1 dX7_heldIn_30 rfl rfl (by decide) (fun z e_z => ?_)
        refine v_ls (ls' := [(4, .int z), (3, .int y3), (0, .ref 60), (1, .int (nI a)), (2, .int (nI b))]) rfl ?_
        rw [nI_1] at e_z
        subst e_z
        refine v_goto (tgt := 5) dX7_heldIn_33 (by decide) ?_
        rw [clamp (by omega)] at hc20
        have hv : y3 = nI (k + (if g j = -1 then 0 else 1)) := by rw [e_y3, if_neg hc20]; exact nI_1 k
        clear e_y3
        subst hv
        have hq : k + hlr g j (m + 1) = k + (if g j = -1 then 0 else 1) + hlr g (j + 1) m := by
          show k + ((if g j = -1 then 0 else 1) + hlr g (j + 1) m) = _
          omega
        rw [hq]
        refine v_pick [0, 1, 2, 3, 4] rfl ?_
        exact ih (j + 1) _ (by omega)
        
      ·
        refine v_iconst (v := 0) dX7_heldIn_23 (by first | rfl | decide) ?_
        refine v_goto (tgt := 28) dX7_heldIn_24 (by decide) ?_
        refine v_iadd dX7_heldIn_28 ?_
        refine v_istore_n dX7_heldIn_29 rfl (by decide) (fun y3 e_y3 => ?_)
        refine v_ls (ls' := [(3, .int y3), (4, .int (nI j)), (0, .ref 60), (1, .int (nI a)), (2, .int (nI b))]) rfl ?_
        refine v_iinc (v := 1) 1 dX7_heldIn_30 rfl rfl (by decide) (fun z e_z => ?_)
        refine v_ls (ls' := [(4, .int z), (3, .int y3), (0, .ref 60), (1, .int (nI a)), (2, .int (nI b))]) rfl ?_
        rw [nI_1] at e_z
        subst e_z
        refine v_goto (tgt := 5) dX7_heldIn_33 (by decide) ?_
        rw [clamp (by omega)] at hc20
        have hv : y3 = nI (k + (if g j = -1 then 0 else 1)) := by rw [e_y3, if_pos hc20]; exact nI_add k 0
        clear e_y3
        subst hv
        have hq : k + hlr g j (m + 1) = k + (if g j = -1 then 0 else 1) + hlr g (j + 1) m := by
          show k + ((if g j = -1 then 0 else 1) + hlr g (j + 1) m) = _
          omega
        rw [hq]
        refine v_pick [0, 1, 2, 3, 4] rfl ?_
        exact ih (j + 1) _ (by omega)
        

set_option maxRecDepth 20000 in
set_option maxHeartbeats 4000000 in
theorem c_X7_heldIn {G : Cx} (d : Nat) {μ : Hp} {a b : Nat} {g : Nat → Int32} {m un lr mr hr le at9 fa op tr sg hm hi : Int32} {co wh : Int64} (h60 : μ 60 = some (modC m co wh un lr mr hr le at9 fa op tr sg hm hi)) (h73 : μ 73 = some (arI 12 g)) (hb : b ≤ 12) (hab : a ≤ b) : Ct G (d) 0 0 M_X7_heldIn [.ref 60, .int (nI a), .int (nI b)] μ (Rt (some (.int (nI (hlr g a (b - a))))) μ) := by
  refine Ct.ofV (by decide +kernel) (Nat.le_of_ble_eq_true rfl) ?_
  refine v_ls (ls' := [(0, .ref 60), (1, .int (nI a)), (2, .int (nI b))]) rfl ?_
  refine v_iconst (v := 0) dX7_heldIn_0 (by first | rfl | decide) ?_
  refine v_istore_n dX7_heldIn_1 rfl (by decide) (fun x3_1 e_x3_1 => ?_)
  refine v_ls (ls' := [(3, .int x3_1), (0, .ref 60), (1, .int (nI a)), (2, .int (nI b))]) rfl ?_
  subst e_x3_1
  refine v_iload_n 2 dX7_heldIn_2 rfl rfl ?_
  refine v_istore dX7_heldIn_3 (by decide) (fun x4 e_x4 => ?_)
  refine v_ls (ls' := [(4, .int x4), (3, .int (0)), (0, .ref 60), (1, .int (nI a)), (2, .int (nI b))]) rfl ?_
  subst e_x4
  have := held_loop (G := G) d (a := a) (μ := μ) h60 h73 hb (b - a) a 0 (by omega)
  rw [Nat.zero_add] at this
  exact this
  

set_option maxRecDepth 20000 in
set_option maxHeartbeats 4000000 in
theorem c_X7_copy {G : Cx} (d : Nat) {μ : Hp} {σ : ST} {r : Int32} {y : Int32} (h : Mo σ μ) (hw : Wp (sP σ)) : Ct G (d + 2) 0 0 M_X7_copy [.ref 60, .int r, .int y] μ (Pm ((rCopy σ r y).2) (.int ((rCopy σ r y).1)) μ) := by
  refine Ct.ofV (by decide +kernel) (Nat.le_of_ble_eq_true rfl) ?_
  refine v_ls (ls' := [(0, .ref 60), (1, .int r), (2, .int y)]) rfl ?_
  obtain ⟨co, wh, un, lr, mr, hr, at9, fa, op, sg, hm, p, tt, ro, og, tc, op9, sp, nw, se, le, mo, ot, h60, h61, h62, h63, h64, h65, h66, h67, h68, h69, h70, h71, h72, h73, h74, h75, h76, h77, h78, h79, h80, hmk, hpl, htp, ht60⟩ := id h
  have hl8 := hw.1
  refine v_iload_n 1 dX7_copy_0 rfl rfl ?_
  refine v_callS (c_X7_isRack d ) cs_X7_314 dX7_copy_1 rfl rfl (Nat.le_of_ble_eq_true rfl) ?_
  refine rt_k ?_
  refine v_if_eq (tgt := 14) dX7_copy_4 (by decide) (fun hc4 => ?_) (fun hc4 => ?_)
  ·
    refine v_iconst (v := -1) dX7_copy_14 (by first | rfl | decide) ?_
    refine v_iret dX7_copy_15 rfl (by first | rfl | decide | exact nar_b (by first | assumption | rfl)) ?_
    have hE : rCopy σ r y = (-1, σ) := by
      first
        | (simp only [rCopy, if_pos hc4]; done)
        | (grind [rCopy]; done)
    rw [hE]
    exact ⟨rfl, h, Fp.rf μ⟩
  ·
    refine v_iload_n 2 dX7_copy_7 rfl rfl ?_
    refine v_callS (c_X7_isRack d ) cs_X7_314 dX7_copy_8 rfl rfl (Nat.le_of_ble_eq_true rfl) ?_
    refine rt_k ?_
    refine v_if_ne (tgt := 16) dX7_copy_11 (by decide) (fun hc11 => ?_) (fun hc11 => ?_)
    ·
      obtain ⟨n, hn9, rfl⟩ := in_ix (n := 3) (by decide) hc4
      have hcn : (nI n).toNatClampNeg = n := clamp (by omega)
      obtain ⟨b, hb9, rfl⟩ := in_ix (n := 3) (by decide) hc11
      have hcb : (nI b).toNatClampNeg = b := clamp (by omega)
      refine v_aload_n 0 dX7_copy_16 rfl rfl ?_
      refine v_get fl_X7_52 dX7_copy_17 h60 rfl ?_
      refine v_iconst (v := 4) dX7_copy_20 (by first | rfl | decide) ?_
      refine v_iload_n 1 dX7_copy_21 rfl rfl ?_
      refine v_imul dX7_copy_22 ?_
      refine v_aload_n 0 dX7_copy_23 rfl rfl ?_
      refine v_get fl_X7_52 dX7_copy_24 h60 rfl ?_
      refine v_iconst (v := 4) dX7_copy_27 (by first | rfl | decide) ?_
      refine v_iload_n 2 dX7_copy_28 rfl rfl ?_
      refine v_imul dX7_copy_29 ?_
      refine v_iconst (v := 4) dX7_copy_30 (by first | rfl | decide) ?_
      rw [m4, m4]
      refine v_copyi cs_X7_140 dX7_copy_31 h73 h73 rfl rfl (nI_pos (by omega)) (nI_pos (by omega)) (by decide) (by rw [clamp (by omega)]; show 4 * n + 4 ≤ 12; omega) (by rw [clamp (by omega)]; show 4 * b + 4 ≤ 12; omega) (fun i _ => rfl) (Nat.le_of_ble_eq_true rfl) ?_
      refine v_niI (g := rkF (rowU (sR σ) b (sR σ n))) (fun x hx => ?_) ?_
      · rw [clamp (show 4 * n < 2 ^ 31 by omega), clamp (show 4 * b < 2 ^ 31 by omega)]
        show va_cpy (rkF (sR σ)) (rkF (sR σ)) (4 * n) (4 * b) 4 x = (if x / 4 = b then sR σ n else sR σ (x / 4)) (x % 4)
        unfold va_cpy
        by_cases e : x / 4 = b
        · rw [if_pos e, if_pos (by omega)]
          have := rk_at (sR σ) (n := n) (b := x % 4) (by omega)
          rw [← this]
          congr 1
          omega
        · rw [if_neg e, if_neg (by omega)]
          rfl
      refine v_aload_n 0 dX7_copy_34 rfl rfl ?_
      refine v_get fl_X7_55 dX7_copy_35 (up_n (by decide) h60) rfl ?_
      refine v_iload_n 2 dX7_copy_38 rfl rfl ?_
      refine v_aload_n 0 dX7_copy_39 rfl rfl ?_
      refine v_get fl_X7_55 dX7_copy_40 (up_n (by decide) h60) rfl ?_
      refine v_iload_n 1 dX7_copy_43 rfl rfl ?_
      refine v_iald dX7_copy_44 (up_n (by decide) h74) (nI_in' hn9) ?_
      refine v_iast dX7_copy_45 (up_n (by decide) h74) (nI_in' hb9) ?_
      refine v_aload_n 0 dX7_copy_46 rfl rfl ?_
      refine v_iconst (v := 4) dX7_copy_47 (by first | rfl | decide) ?_
      refine v_iload_n 2 dX7_copy_48 rfl rfl ?_
      refine v_imul dX7_copy_49 ?_
      refine v_iconst (v := 4) dX7_copy_50 (by first | rfl | decide) ?_
      refine v_iload_n 2 dX7_copy_51 rfl rfl ?_
      refine v_imul dX7_copy_52 ?_
      refine v_iconst (v := 4) dX7_copy_53 (by first | rfl | decide) ?_
      refine v_iadd dX7_copy_54 ?_
      rw [hcn, hcb, show (4 : Int32) * nI b + 4 = nI (4 * b + 4) from ix4 b 4, m4]
      refine v_callV (c_X7_heldIn (d + 1) (a := 4 * b) (b := 4 * b + 4) (up_n (by decide) (up_n (by decide) h60)) (up_n (by decide) (up_s _ _ _)) (by omega) (by omega)) cs_X7_323 dX7_copy_55 (up_n (by decide) (up_n (by decide) h60)) rfl rfl (Nat.le_of_ble_eq_true rfl) ?_
      refine rt_k ?_
      rw [show 4 * b + 4 - 4 * b = 4 by omega, hlr_4, show rowU (sR σ) b (sR σ n) b = sR σ n from if_pos rfl]
      refine v_iret dX7_copy_58 rfl (by first | rfl | decide | exact nar_b (by first | assumption | rfl)) ?_
      have hE : rCopy σ (nI n) (nI b) = (nI (hldO (sR σ n) 4), toK (toR σ (rowU (sR σ) b (sR σ n))) (upd (sK σ) b (sK σ n))) := by simp only [rCopy, kAt, if_neg hc4, if_neg hc11, hcn, hcb]
      rw [hE]
      exact ⟨rfl, ⟨co, wh, un, lr, mr, hr, at9, fa, op, sg, hm, p, tt, ro, og, tc, op9, sp, nw, se, le, mo, ot, (by repeat (first | assumption | exact up_s _ _ _ | refine up_n (by omega) ?_)), (by repeat (first | assumption | exact up_s _ _ _ | refine up_n (by omega) ?_)), (by repeat (first | assumption | exact up_s _ _ _ | refine up_n (by omega) ?_)), (by repeat (first | assumption | exact up_s _ _ _ | refine up_n (by omega) ?_)), (by repeat (first | assumption | exact up_s _ _ _ | refine up_n (by omega) ?_)), (by repeat (first | assumption | exact up_s _ _ _ | refine up_n (by omega) ?_)), (by repeat (first | assumption | exact up_s _ _ _ | refine up_n (by omega) ?_)), (by repeat (first | assumption | exact up_s _ _ _ | refine up_n (by omega) ?_)), (by repeat (first | assumption | exact up_s _ _ _ | refine up_n (by omega) ?_)), (by repeat (first | assumption | exact up_s _ _ _ | refine up_n (by omega) ?_)), (by repeat (first | assumption | exact up_s _ _ _ | refine up_n (by omega) ?_)), (by repeat (first | assumption | exact up_s _ _ _ | refine up_n (by omega) ?_)), (by repeat (first | assumption | exact up_s _ _ _ | refine up_n (by omega) ?_)), (by repeat (first | assumption | exact up_s _ _ _ | refine up_n (by omega) ?_)), (by repeat (first | assumption | exact up_s _ _ _ | refine up_n (by omega) ?_)), (by repeat (first | assumption | exact up_s _ _ _ | refine up_n (by omega) ?_)), (by repeat (first | assumption | exact up_s _ _ _ | refine up_n (by omega) ?_)), (by repeat (first | assumption | exact up_s _ _ _ | refine up_n (by omega) ?_)), (by repeat (first | assumption | exact up_s _ _ _ | refine up_n (by omega) ?_)), (by repeat (first | assumption | exact up_s _ _ _ | refine up_n (by omega) ?_)), (by repeat (first | assumption | exact up_s _ _ _ | refine up_n (by omega) ?_)), (hmk.kept (fun i a b => by repeat (first | rfl | refine up_n (by omega) ?_))), hpl, htp, ht60⟩, fun i hi => by repeat (first | rfl | refine up_n (by omega) ?_)⟩
    ·
      refine v_iconst (v := -1) dX7_copy_14 (by first | rfl | decide) ?_
      refine v_iret dX7_copy_15 rfl (by first | rfl | decide | exact nar_b (by first | assumption | rfl)) ?_
      have hE : rCopy σ r y = (-1, σ) := by
        first
          | (simp only [rCopy, if_neg hc4, if_pos hc11]; done)
          | (grind [rCopy]; done)
      rw [hE]
      exact ⟨rfl, h, Fp.rf μ⟩

set_option maxRecDepth 20000 in
set_option maxHeartbeats 4000000 in
theorem c_X7_tells {G : Cx} (d : Nat) {μ : Hp} {k : Nat} {f g : Nat → Int32} {x y : Int32} {m un lr mr hr le at9 fa op sg hm hi : Int32} {co wh : Int64} (h60 : μ 60 = some (modC m co wh un lr mr hr le at9 fa op (nI k) sg hm hi)) (h78 : μ 78 = some (arI 4 f)) (h79 : μ 79 = some (arI 4 g)) (hk : k < 4) : Ct G (d) 0 0 M_X7_tells [.ref 60, .int x, .int y] μ (Rt none (up (up (up μ 78 (arI 4 (upd f k x))) 79 (arI 4 (upd g k y))) 60 (modC m co wh un lr mr hr le at9 fa op (nI (k + 1)) sg hm hi))) := by
  refine Ct.ofV (by decide +kernel) (Nat.le_of_ble_eq_true rfl) ?_
  refine v_ls (ls' := [(0, .ref 60), (1, .int x), (2, .int y)]) rfl ?_
  refine v_aload_n 0 dX7_tells_0 rfl rfl ?_
  refine v_get fl_X7_67 dX7_tells_1 h60 rfl ?_
  refine v_aload_n 0 dX7_tells_4 rfl rfl ?_
  refine v_get fl_X7_217 dX7_tells_5 h60 rfl ?_
  refine v_iload_n 1 dX7_tells_8 rfl rfl ?_
  refine v_iast dX7_tells_9 h78 (nI_in' hk) ?_
  refine v_aload_n 0 dX7_tells_10 rfl rfl ?_
  refine v_get fl_X7_70 dX7_tells_11 (up_n (by decide) h60) rfl ?_
  refine v_aload_n 0 dX7_tells_14 rfl rfl ?_
  refine v_get fl_X7_217 dX7_tells_15 (up_n (by decide) h60) rfl ?_
  refine v_iload_n 2 dX7_tells_18 rfl rfl ?_
  refine v_iast dX7_tells_19 (up_n (by decide) h79) (nI_in' hk) ?_
  refine v_aload_n 0 dX7_tells_20 rfl rfl ?_
  refine v_dup dX7_tells_21 rfl ?_
  refine v_get fl_X7_217 dX7_tells_22 (up_n (by decide) (up_n (by decide) h60)) rfl ?_
  refine v_iconst (v := 1) dX7_tells_25 (by first | rfl | decide) ?_
  refine v_iadd dX7_tells_26 ?_
  refine v_put fp_X7_217 dX7_tells_27 (up_n (by decide) (up_n (by decide) h60)) (Nat.le_of_ble_eq_true rfl) (by first | rfl | decide) (by first | rfl | decide) ?_
  refine v_vret dX7_tells_30 rfl ?_
  exact ⟨rfl, by rw [clamp (by omega), nI_1]; rfl⟩

theorem fr_feed (x : Int32) : frO x.toInt64 1 127 = 0 ↔ x < 1 ∨ 127 < x := by
  show (if x.toInt64 < (1 : Int32).toInt64 then (0 : Int32) else if (127 : Int32).toInt64 < x.toInt64 then 0 else 1) = 0 ↔ _
  simp only [Int32.toInt64_lt]
  by_cases h1 : x < 1
  · simp [h1]
  · by_cases h2 : 127 < x
    · simp [h1, h2]
    · simp [h1, h2]
set_option maxRecDepth 20000 in
set_option maxHeartbeats 4000000 in
theorem c_X7_feed {G : Cx} (d : Nat) {μ : Hp} {σ : ST} {x : Int32} (h : Mo σ μ) (hw : Wp (sP σ)) : Ct G (d + 1) 0 0 M_X7_feed [.ref 60, .int x] μ (Pm ((rFeed σ x).2) (.int ((rFeed σ x).1)) μ) := by
  refine Ct.ofV (by decide +kernel) (Nat.le_of_ble_eq_true rfl) ?_
  refine v_ls (ls' := [(0, .ref 60), (1, .int x)]) rfl ?_
  obtain ⟨co, wh, un, lr, mr, hr, at9, fa, op, sg, hm, p, tt, ro, og, tc, op9, sp, nw, se, le, mo, ot, h60, h61, h62, h63, h64, h65, h66, h67, h68, h69, h70, h71, h72, h73, h74, h75, h76, h77, h78, h79, h80, hmk, hpl, htp, ht60⟩ := id h
  have hl8 := hw.1
  refine v_iload_n 1 dX7_feed_0 rfl rfl ?_
  refine v_i2l dX7_feed_1 ?_
  refine v_lconst (v := 1) dX7_feed_2 (by first | rfl | decide) ?_
  refine v_ldc2 kc_X7_326 dX7_feed_3 ?_
  refine v_callS (c_X7_in d) cs_X7_95 dX7_feed_6 rfl rfl (Nat.le_of_ble_eq_true rfl) ?_
  refine rt_k ?_
  refine v_if_ne (tgt := 15) dX7_feed_9 (by decide) (fun hc9 => ?_) (fun hc9 => ?_)
  ·
    have hq : ¬ (x < 1 ∨ 127 < x) := fun z => hc9 ((fr_feed x).mpr z)
    have h6 : nI (sT σ).length = 60 ↔ (sT σ).length = 60 := nI_eq (b := 60) (by omega) (by decide)
    refine v_aload_n 0 dX7_feed_15 rfl rfl ?_
    refine v_get fl_X7_328 dX7_feed_16 h60 rfl ?_
    refine v_bipush (v := 60) dX7_feed_19 (by first | rfl | decide) ?_
    refine v_icmp_ne (tgt := 27) dX7_feed_21 (by decide) (fun hc21 => ?_) (fun hc21 => ?_)
    ·
      have hq6 : ¬ (sT σ).length = 60 := fun z => hc21 (h6.mpr z)
      refine v_aload_n 0 dX7_feed_27 rfl rfl ?_
      refine v_get fl_X7_58 dX7_feed_28 h60 rfl ?_
      refine v_aload_n 0 dX7_feed_31 rfl rfl ?_
      refine v_get fl_X7_328 dX7_feed_32 h60 rfl ?_
      refine v_iload_n 1 dX7_feed_35 rfl rfl ?_
      refine v_iast dX7_feed_36 h75 (nI_in' (by omega)) ?_
      refine v_aload_n 0 dX7_feed_37 rfl rfl ?_
      refine v_dup dX7_feed_38 rfl ?_
      refine v_get fl_X7_328 dX7_feed_39 (up_n (by decide) h60) rfl ?_
      refine v_iconst (v := 1) dX7_feed_42 (by first | rfl | decide) ?_
      refine v_iadd dX7_feed_43 ?_
      refine v_put fp_X7_328 dX7_feed_44 (up_n (by decide) h60) (Nat.le_of_ble_eq_true rfl) (by first | rfl | decide) (by first | rfl | decide) ?_
      refine v_aload_n 0 dX7_feed_47 rfl rfl ?_
      refine v_get fl_X7_328 dX7_feed_48 (up_s _ _ _) rfl ?_
      refine v_iret dX7_feed_51 rfl (by first | rfl | decide | exact nar_b (by first | assumption | rfl)) ?_
      have hE : rFeed σ x = (nI ((sT σ).length + 1), toT σ (sT σ ++ [x])) := by simp only [rFeed, if_neg (fun z => hq (Or.inl z)), if_neg (fun z => hq (Or.inr z)), if_neg hq6]
      rw [hE]
      have hl2 : (sT σ ++ [x]).length = (sT σ).length + 1 := by rw [List.length_append]; rfl
      rw [clamp (by omega), nI_1]
      have hx : nI (sT (toT σ (sT σ ++ [x]))).length = nI ((sT σ).length + 1) := by show nI (sT σ ++ [x]).length = _; rw [hl2]
      exact ⟨rfl, ⟨co, wh, un, lr, mr, hr, at9, fa, op, sg, hm, p, (upd tt (sT σ).length x), ro, og, tc, op9, sp, nw, se, le, mo, ot, (by rw [hx]; exact up_s _ _ _), (by repeat (first | assumption | exact up_s _ _ _ | refine up_n (by omega) ?_)), (by repeat (first | assumption | exact up_s _ _ _ | refine up_n (by omega) ?_)), (by repeat (first | assumption | exact up_s _ _ _ | refine up_n (by omega) ?_)), (by repeat (first | assumption | exact up_s _ _ _ | refine up_n (by omega) ?_)), (by repeat (first | assumption | exact up_s _ _ _ | refine up_n (by omega) ?_)), (by repeat (first | assumption | exact up_s _ _ _ | refine up_n (by omega) ?_)), (by repeat (first | assumption | exact up_s _ _ _ | refine up_n (by omega) ?_)), (by repeat (first | assumption | exact up_s _ _ _ | refine up_n (by omega) ?_)), (by repeat (first | assumption | exact up_s _ _ _ | refine up_n (by omega) ?_)), (by repeat (first | assumption | exact up_s _ _ _ | refine up_n (by omega) ?_)), (by repeat (first | assumption | exact up_s _ _ _ | refine up_n (by omega) ?_)), (by repeat (first | assumption | exact up_s _ _ _ | refine up_n (by omega) ?_)), (by repeat (first | assumption | exact up_s _ _ _ | refine up_n (by omega) ?_)), (by repeat (first | assumption | exact up_s _ _ _ | refine up_n (by omega) ?_)), (by repeat (first | assumption | exact up_s _ _ _ | refine up_n (by omega) ?_)), (by repeat (first | assumption | exact up_s _ _ _ | refine up_n (by omega) ?_)), (by repeat (first | assumption | exact up_s _ _ _ | refine up_n (by omega) ?_)), (by repeat (first | assumption | exact up_s _ _ _ | refine up_n (by omega) ?_)), (by repeat (first | assumption | exact up_s _ _ _ | refine up_n (by omega) ?_)), (by repeat (first | assumption | exact up_s _ _ _ | refine up_n (by omega) ?_)), (hmk.kept (fun i a b => by repeat (first | rfl | refine up_n (by omega) ?_))), hpl, (htp.app x), (by show (sT σ ++ [x]).length ≤ 60; omega)⟩, fun i hi => by repeat (first | rfl | refine up_n (by omega) ?_)⟩
    ·
      refine v_bipush (v := -4) dX7_feed_24 (by first | rfl | decide) ?_
      refine v_iret dX7_feed_26 rfl (by first | rfl | decide | exact nar_b (by first | assumption | rfl)) ?_
      have hE : rFeed σ x = (-4, σ) := by simp only [rFeed, if_neg (fun z => hq (Or.inl z)), if_neg (fun z => hq (Or.inr z)), if_pos (h6.mp hc21)]
      rw [hE]
      exact ⟨rfl, h, Fp.rf μ⟩
  ·
    refine v_bipush (v := -2) dX7_feed_12 (by first | rfl | decide) ?_
    refine v_iret dX7_feed_14 rfl (by first | rfl | decide | exact nar_b (by first | assumption | rfl)) ?_
    have hq := (fr_feed x).mp hc9
    have hE : rFeed σ x = (-2, σ) := by
      unfold rFeed
      rcases hq with z | z
      · rw [if_pos z]
      · rw [if_pos z]; split <;> rfl
    rw [hE]
    exact ⟨rfl, h, Fp.rf μ⟩

set_option maxRecDepth 20000 in
set_option maxHeartbeats 4000000 in
theorem c_X7_wipe {G : Cx} (d : Nat) {μ : Hp} {σ : ST}  (h : Mo σ μ) (hw : Wp (sP σ)) : Ct G (d) 0 0 M_X7_wipe [.ref 60] μ (Pm ((rWipe σ).2) (.int ((rWipe σ).1)) μ) := by
  refine Ct.ofV (by decide +kernel) (Nat.le_of_ble_eq_true rfl) ?_
  refine v_ls (ls' := [(0, .ref 60)]) rfl ?_
  obtain ⟨co, wh, un, lr, mr, hr, at9, fa, op, sg, hm, p, tt, ro, og, tc, op9, sp, nw, se, le, mo, ot, h60, h61, h62, h63, h64, h65, h66, h67, h68, h69, h70, h71, h72, h73, h74, h75, h76, h77, h78, h79, h80, hmk, hpl, htp, ht60⟩ := id h
  have hl8 := hw.1
  refine v_aload_n 0 dX7_wipe_0 rfl rfl ?_
  refine v_get fl_X7_328 dX7_wipe_1 h60 rfl ?_
  refine v_istore_n dX7_wipe_4 rfl (by decide) (fun x1_1 e_x1_1 => ?_)
  refine v_ls (ls' := [(1, .int x1_1), (0, .ref 60)]) rfl ?_
  subst e_x1_1
  refine v_aload_n 1 dX7_wipe_5 rfl rfl ?_
  refine v_iconst (v := 0) dX7_wipe_6 (by first | rfl | decide) ?_
  refine v_put fp_X7_328 dX7_wipe_7 h60 (Nat.le_of_ble_eq_true rfl) (by first | rfl | decide) (by first | rfl | decide) ?_
  refine v_iload_n 0 dX7_wipe_10 rfl rfl ?_
  refine v_iret dX7_wipe_11 rfl (by first | rfl | decide | exact nar_b (by first | assumption | rfl)) ?_
  exact ⟨rfl, ⟨co, wh, un, lr, mr, hr, at9, fa, op, sg, hm, p, tt, ro, og, tc, op9, sp, nw, se, le, mo, ot, (up_s _ _ _), (by repeat (first | assumption | exact up_s _ _ _ | refine up_n (by omega) ?_)), (by repeat (first | assumption | exact up_s _ _ _ | refine up_n (by omega) ?_)), (by repeat (first | assumption | exact up_s _ _ _ | refine up_n (by omega) ?_)), (by repeat (first | assumption | exact up_s _ _ _ | refine up_n (by omega) ?_)), (by repeat (first | assumption | exact up_s _ _ _ | refine up_n (by omega) ?_)), (by repeat (first | assumption | exact up_s _ _ _ | refine up_n (by omega) ?_)), (by repeat (first | assumption | exact up_s _ _ _ | refine up_n (by omega) ?_)), (by repeat (first | assumption | exact up_s _ _ _ | refine up_n (by omega) ?_)), (by repeat (first | assumption | exact up_s _ _ _ | refine up_n (by omega) ?_)), (by repeat (first | assumption | exact up_s _ _ _ | refine up_n (by omega) ?_)), (by repeat (first | assumption | exact up_s _ _ _ | refine up_n (by omega) ?_)), (by repeat (first | assumption | exact up_s _ _ _ | refine up_n (by omega) ?_)), (by repeat (first | assumption | exact up_s _ _ _ | refine up_n (by omega) ?_)), (by repeat (first | assumption | exact up_s _ _ _ | refine up_n (by omega) ?_)), (by repeat (first | assumption | exact up_s _ _ _ | refine up_n (by omega) ?_)), (by repeat (first | assumption | exact up_s _ _ _ | refine up_n (by omega) ?_)), (by repeat (first | assumption | exact up_s _ _ _ | refine up_n (by omega) ?_)), (by repeat (first | assumption | exact up_s _ _ _ | refine up_n (by omega) ?_)), (by repeat (first | assumption | exact up_s _ _ _ | refine up_n (by omega) ?_)), (by repeat (first | assumption | exact up_s _ _ _ | refine up_n (by omega) ?_)), (hmk.kept (fun i a b => by repeat (first | rfl | refine up_n (by omega) ?_))), hpl, (fun j hj => absurd hj (Nat.not_lt_zero j)), (Nat.zero_le _)⟩, fun i hi => by repeat (first | rfl | refine up_n (by omega) ?_)⟩

set_option maxRecDepth 20000 in
set_option maxHeartbeats 4000000 in
theorem c_X7_why {G : Cx} (d : Nat) {μ : Hp} {σ : ST} {i : Int32} {w : Int32} (h : Mo σ μ) (hw : Wp (sP σ)) (hww : Ww (sW σ)) : Ct G (d + 1) 0 0 M_X7_why [.ref 60, .int i, .int w] μ (Pm (σ) (.int (rWhy σ i w)) μ) := by
  refine Ct.ofV (by decide +kernel) (Nat.le_of_ble_eq_true rfl) ?_
  refine v_ls (ls' := [(0, .ref 60), (1, .int i), (2, .int w)]) rfl ?_
  obtain ⟨co, wh, un, lr, mr, hr, at9, fa, op, sg, hm, p, tt, ro, og, tc, op9, sp, nw, se, le, mo, ot, h60, h61, h62, h63, h64, h65, h66, h67, h68, h69, h70, h71, h72, h73, h74, h75, h76, h77, h78, h79, h80, hmk, hpl, htp, ht60⟩ := id h
  have hl8 := hw.1
  refine v_iload_n 1 dX7_why_0 rfl rfl ?_
  refine v_if_lt (tgt := 14) dX7_why_1 (by decide) (fun hc1 => ?_) (fun hc1 => ?_)
  ·
    refine v_iconst (v := -1) dX7_why_14 (by first | rfl | decide) ?_
    refine v_iret dX7_why_15 rfl (by first | rfl | decide | exact nar_b (by first | assumption | rfl)) ?_
    have hE : rWhy σ i w = -1 := by
      first
        | (simp only [rWhy, if_pos hc1]; done)
        | (simp only [rWhy, if_neg hc1, if_pos hc11]; done)
    rw [hE]
    exact ⟨rfl, h, Fp.rf μ⟩
  ·
    refine v_iload_n 2 dX7_why_4 rfl rfl ?_
    refine v_i2l dX7_why_5 ?_
    refine v_lconst (v := 0) dX7_why_6 (by first | rfl | decide) ?_
    refine v_lconst (v := 1) dX7_why_7 (by first | rfl | decide) ?_
    refine v_callS (c_X7_inL d 1 2 1 (by decide) rfl rfl) cs_X7_95 dX7_why_8 rfl rfl (Nat.le_of_ble_eq_true rfl) ?_
    refine rt_k ?_
    refine v_if_ne (tgt := 16) dX7_why_11 (by decide) (fun hc11 => ?_) (fun hc11 => ?_)
    ·
      refine v_iload_n 1 dX7_why_16 rfl rfl ?_
      refine v_aload_n 0 dX7_why_17 rfl rfl ?_
      refine v_get fl_X7_217 dX7_why_18 h60 rfl ?_
      refine v_icmp_lt (tgt := 27) dX7_why_21 (by decide) (fun hc21 => ?_) (fun hc21 => ?_)
      ·
        have hbi : vp_in i 4 := by
          obtain ⟨k, hk, rfl⟩ := nI_of hc1
          have hww2 : (sW σ).1 ≤ 4 := hww
          have := (nI_ltI hk (by omega)).mp hc21
          exact nI_in' (by omega)
        refine v_iload_n 2 dX7_why_27 rfl rfl ?_
        refine v_if_ne (tgt := 40) dX7_why_28 (by decide) (fun hc28 => ?_) (fun hc28 => ?_)
        ·
          refine v_aload_n 0 dX7_why_40 rfl rfl ?_
          refine v_get fl_X7_70 dX7_why_41 h60 rfl ?_
          refine v_iload_n 1 dX7_why_44 rfl rfl ?_
          refine v_iald dX7_why_45 h79 (hbi) ?_
          refine v_iret dX7_why_46 rfl (by first | rfl | decide | exact nar_b (by first | assumption | rfl)) ?_
          exact ⟨by simp only [rWhy, if_neg hc1, if_neg hc11, if_neg (Int32.not_le.mpr hc21), if_neg hc28], h, Fp.rf μ⟩
        ·
          refine v_aload_n 0 dX7_why_31 rfl rfl ?_
          refine v_get fl_X7_67 dX7_why_32 h60 rfl ?_
          refine v_iload_n 1 dX7_why_35 rfl rfl ?_
          refine v_iald dX7_why_36 h78 (hbi) ?_
          refine v_goto (tgt := 46) dX7_why_37 (by decide) ?_
          refine v_iret dX7_why_46 rfl (by first | rfl | decide | exact nar_b (by first | assumption | rfl)) ?_
          exact ⟨by simp only [rWhy, if_neg hc1, if_neg hc11, if_neg (Int32.not_le.mpr hc21), if_pos hc28], h, Fp.rf μ⟩
      ·
        refine v_bipush (v := -5) dX7_why_24 (by first | rfl | decide) ?_
        refine v_iret dX7_why_26 rfl (by first | rfl | decide | exact nar_b (by first | assumption | rfl)) ?_
        have hE : rWhy σ i w = -5 := by simp only [rWhy, if_neg hc1, if_neg hc11, if_pos (Int32.not_lt.mp hc21)]
        rw [hE]
        exact ⟨rfl, h, Fp.rf μ⟩
    ·
      refine v_iconst (v := -1) dX7_why_14 (by first | rfl | decide) ?_
      refine v_iret dX7_why_15 rfl (by first | rfl | decide | exact nar_b (by first | assumption | rfl)) ?_
      have hE : rWhy σ i w = -1 := by
        first
          | (simp only [rWhy, if_pos hc1]; done)
          | (simp only [rWhy, if_neg hc1, if_pos hc11]; done)
      rw [hE]
      exact ⟨rfl, h, Fp.rf μ⟩

