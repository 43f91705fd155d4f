theorem Oq.kept {m le at9 fa op tr sg hm hi : Int32} {co wh : Int64} {c : OC} {μ μ' : Hp} (h : Oq m le at9 fa op tr sg hm hi co wh c μ) (hf : ∀ i, i = 60 ∨ i = 63 ∨ (65 ≤ i ∧ i ≤ 68) → μ' i = μ i) : Oq m le at9 fa op tr sg hm hi co wh c μ' := by
  obtain ⟨lr, mr, hr, s, t, x7, x8, nw, h60, h63, h65, h66, h67, h68, hs, hc⟩ := h
  exact ⟨lr, mr, hr, s, t, x7, x8, nw, (hf _ (by omega)).trans h60, (hf _ (by omega)).trans h63, (hf _ (by omega)).trans h65, (hf _ (by omega)).trans h66, (hf _ (by omega)).trans h67, (hf _ (by omega)).trans h68, hs, hc⟩
def Gp (l : List Int32) (le at9 fa op tr sg hm hi : Int32) (co wh : Int64) (c' : OC) (n : Nat) (ro : Nat → Int32) (μ : Hp) : Option Value → Hp → Prop := fun r μ' => r = none ∧ Oq (nI l.length) le at9 fa op tr sg hm hi co wh c' μ' ∧ (∃ ro', μ' 64 = some (arI 5 ro') ∧ ∀ k, k < n → ro' k = ro k) ∧ ∀ i, i < 60 ∨ i = 61 ∨ i = 62 ∨ 68 < i → μ' i = μ i
theorem row_app {l : List Int32} {ρ : List Nat} {ro : Nat → Int32} {j : Nat} (hro : ∀ k, k < ρ.length → ro k = nI (ρ.getD k 0) ∧ ρ.getD k 0 < l.length) (hj : j < l.length) (h5 : ρ.length < 5) : ∀ k, k < (ρ ++ [j]).length → upd ro (nI ρ.length).toNatClampNeg (nI j) k = nI ((ρ ++ [j]).getD k 0) ∧ (ρ ++ [j]).getD k 0 < l.length := by
  intro k hk
  rw [List.length_append, List.length_singleton] at hk
  rw [clamp (by omega)]
  by_cases e : k = ρ.length
  · subst e
    have e1 : (ρ ++ [j]).getD ρ.length 0 = j := by simp [List.getD]
    rw [e1]
    exact ⟨if_pos rfl, hj⟩
  · have e1 : (ρ ++ [j]).getD k 0 = ρ.getD k 0 := by simp [List.getD, List.getElem?_append_left (show k < ρ.length by omega)]
    rw [e1]
    exact ⟨(if_neg e).trans (hro k (by omega)).1, (hro k (by omega)).2⟩
set_option maxRecDepth 20000 in
set_option maxHeartbeats 4000000 in
theorem gor_rec {G : Cx} (d : Nat) {l : List Int32} {p : Nat → Int32} {L0 : LT} {le at9 fa op tr sg hm hi : Int32} {co wh : Int64} {r u : Nat} {ρ : List Nat} (h5 : l.length ≤ 5) (hu : u < 32) (hρ : ρ.length + (r + 1) = l.length) (IH : ∀ (ρ : List Nat) (u : Nat) (c : OC) (ro : Nat → Int32) (μ : Hp), ρ.length + r = l.length → u < 32 → Oq (nI l.length) le at9 fa op tr sg hm hi co wh c μ → c.1.length + (ordL l r u (rowD ρ 0) (rowL l ρ L0)).length ≤ 120 → μ 61 = some (mlg L0) → μ 62 = some (arI 8 p) → μ 64 = some (arI 5 ro) → (∀ k, k < ρ.length → ro k = nI (ρ.getD k 0) ∧ ρ.getD k 0 < l.length) → Ct G (d + r + 4) 0 0 M_X7_goesOrders [.ref 60, .int (nI ρ.length), .int (nI u)] μ (Gp l le at9 fa op tr sg hm hi co wh ((ordL l r u (rowD ρ 0) (rowL l ρ L0)).foldl meetO c) ρ.length ro μ)) : ∀ (k9 : Nat) (j : Nat) (c : OC) (ro : Nat → Int32) (μ : Hp), j + k9 = l.length → Oq (nI l.length) le at9 fa op tr sg hm hi co wh c μ → c.1.length + (ordT l r u (rowD ρ 0) (rowL l ρ L0) j).length ≤ 120 → μ 61 = some (mlg L0) → μ 62 = some (arI 8 p) → μ 64 = some (arI 5 ro) → (∀ k, k < ρ.length → ro k = nI (ρ.getD k 0) ∧ ρ.getD k 0 < l.length) → V G M_X7_goesOrders (d + r + 5) 0 0 (Gp l le at9 fa op tr sg hm hi co wh ((ordT l r u (rowD ρ 0) (rowL l ρ L0) j).foldl meetO c) ρ.length ro μ) 10 [(3, .int (nI j)), (0, .ref 60), (1, .int (nI ρ.length)), (2, .int (nI u))] [] (μ) := by
  intro k9
  induction k9 with
  | zero =>
    intro j c ro μ hj hq hn h61 h62 h64 hro
    obtain ⟨lr, mr, hr, s, t, x7, x8, nw, h60, h63, h65, h66, h67, h68, hs, hcc⟩ := id hq
    refine v_iload_n 0 dX7_goesOrders_10 rfl rfl ?_
    refine v_aload_n 1 dX7_goesOrders_11 rfl rfl ?_
    refine v_get fl_X7_91 dX7_goesOrders_12 h60 rfl ?_
    refine v_icmp_ge (tgt := 51) dX7_goesOrders_15 (by decide) (fun hc15 => ?_) (fun hc15 => ?_)
    ·
      refine v_vret dX7_goesOrders_51 rfl ?_
      rw [ordT_e (by omega)]
      exact ⟨rfl, hq, ⟨ro, h64, fun _ _ => rfl⟩, fun _ _ => rfl⟩
    · exact absurd ((nI_leI (by omega) (by omega)).mpr (by omega)) hc15
  | succ k9 ih =>
    intro j c ro μ hj hq hn h61 h62 h64 hro
    obtain ⟨lr, mr, hr, s, t, x7, x8, nw, h60, h63, h65, h66, h67, h68, hs, hcc⟩ := id hq
    refine v_iload_n 0 dX7_goesOrders_10 rfl rfl ?_
    refine v_aload_n 1 dX7_goesOrders_11 rfl rfl ?_
    refine v_get fl_X7_91 dX7_goesOrders_12 h60 rfl ?_
    refine v_icmp_ge (tgt := 51) dX7_goesOrders_15 (by decide) (fun hc15 => ?_) (fun hc15 => ?_)
    · have := (nI_leI (by omega) (by omega)).mp hc15
      omega
    ·
      refine v_iload_n 3 dX7_goesOrders_18 rfl rfl ?_
      refine v_iload_n 0 dX7_goesOrders_19 rfl rfl ?_
      refine v_ishr dX7_goesOrders_20 ?_
      refine v_iconst (v := 1) dX7_goesOrders_21 (by first | rfl | decide) ?_
      refine v_iand dX7_goesOrders_22 ?_
      refine v_if_ne (tgt := 45) dX7_goesOrders_23 (by decide) (fun hc23 => ?_) (fun hc23 => ?_)
      ·
        refine v_iinc (v := 1) 0 dX7_goesOrders_45 rfl rfl (by decide) (fun z e_z => ?_)
        refine v_ls (ls' := [(3, .int z), (0, .ref 60), (1, .int (nI ρ.length)), (2, .int (nI u))]) rfl ?_
        have hbit : u.testBit j = true := by
          cases hb9 : u.testBit j with
          | false => exact absurd ((bit_shr u hu j (by omega)).mpr hb9) hc23
          | true => rfl
        rw [nI_1] at e_z
        subst e_z
        refine v_goto (tgt := 10) dX7_goesOrders_48 (by decide) ?_
        refine v_post (ih (j + 1) c ro μ (by omega) hq (by rw [ordT_s (by omega), if_pos hbit] at hn; exact hn) h61 h62 h64 hro) ?_
        intro r2 m3 hm3
        rw [ordT_s (by omega), if_pos hbit]
        exact hm3
        
      ·
        have hbit : ¬ u.testBit j = true := by rw [(bit_shr u hu j (by omega)).mp hc23]; decide
        refine v_aload_n 1 dX7_goesOrders_26 rfl rfl ?_
        refine v_get fl_X7_24 dX7_goesOrders_27 h60 rfl ?_
        refine v_iload_n 2 dX7_goesOrders_30 rfl rfl ?_
        refine v_iload_n 0 dX7_goesOrders_31 rfl rfl ?_
        refine v_iast dX7_goesOrders_32 h64 (nI_in' (by omega)) ?_
        refine v_aload_n 1 dX7_goesOrders_33 rfl rfl ?_
        refine v_iload_n 2 dX7_goesOrders_34 rfl rfl ?_
        refine v_iconst (v := 1) dX7_goesOrders_35 (by first | rfl | decide) ?_
        refine v_iadd dX7_goesOrders_36 ?_
        refine v_iload_n 3 dX7_goesOrders_37 rfl rfl ?_
        refine v_iconst (v := 1) dX7_goesOrders_38 (by first | rfl | decide) ?_
        refine v_iload_n 0 dX7_goesOrders_39 rfl rfl ?_
        refine v_ishl dX7_goesOrders_40 ?_
        refine v_ior dX7_goesOrders_41 ?_
        refine v_callV (M' := M_X7_goesOrders) (avs := [.int (nI (ρ ++ [j]).length), .int (nI (u ||| 2 ^ j))]) (st := []) (IH (ρ ++ [j]) (u ||| 2 ^ j) c _ _ (by rw [List.length_append, List.length_singleton]; omega) (bit_or u hu j (by omega)).2 (hq.kept (fun i hi => up_n (by omega) rfl)) (by rw [rowD_app, rowL_app]; rw [ordT_s (by omega), if_neg hbit, List.length_append] at hn; omega) (up_n (by decide) h61) (up_n (by decide) h62) (up_s _ _ _) (row_app hro (by omega) (by omega))) cs_X7_242 dX7_goesOrders_42 (up_n (by decide) h60) rfl (by rw [← (bit_or u hu j (by omega)).1, List.length_append, List.length_singleton, ← nI_1]; rfl) (Nat.le_of_ble_eq_true rfl) ?_
        rintro _ m2 ⟨rfl, hq2, ⟨ro2, g64, hr2⟩, hf2⟩
        refine v_iinc (v := 1) 0 dX7_goesOrders_45 rfl rfl (by decide) (fun z e_z => ?_)
        refine v_ls (ls' := [(3, .int z), (0, .ref 60), (1, .int (nI ρ.length)), (2, .int (nI u))]) rfl ?_
        rw [nI_1] at e_z
        subst e_z
        refine v_goto (tgt := 10) dX7_goesOrders_48 (by decide) ?_
        rw [rowD_app, rowL_app] at hq2
        rw [List.length_append, List.length_singleton] at hr2
        have hro2 : ∀ k, k < ρ.length → ro2 k = ro k := fun k hk => (hr2 k (by omega)).trans (by rw [clamp (by omega)]; exact if_neg (by omega))
        refine v_post (ih (j + 1) _ ro2 m2 (by omega) hq2 (by rw [ordT_s (by omega), if_neg hbit, List.length_append] at hn; have := meet_len (ordL l r (u ||| 2 ^ j) (10 * rowD ρ 0 + nI j + 1) (passO (l.getD j 0) (rowL l ρ L0))) c; omega) ((hf2 61 (by omega)).trans (up_n (by decide) h61)) ((hf2 62 (by omega)).trans (up_n (by decide) h62)) g64 (fun k hk => by rw [hro2 k hk]; exact hro k hk)) ?_
        rintro r2 m3 ⟨k1, k2, ⟨ro3, k3, k4⟩, k5⟩
        rw [ordT_s (by omega), if_neg hbit, List.foldl_append]
        exact ⟨k1, k2, ⟨ro3, k3, fun k hk => (k4 k hk).trans (hro2 k hk)⟩, fun i hi => (k5 i hi).trans ((hf2 i hi).trans (up_n (by omega) rfl))⟩
        

set_option maxRecDepth 20000 in
set_option maxHeartbeats 4000000 in
theorem c_X7_goesOrders {G : Cx} (d : Nat) {l : List Int32} {p : Nat → Int32} {L0 : LT} {le at9 fa op tr sg hm hi : Int32} {co wh : Int64} (hpl : Pl l p) (hw : Wp l) (h5 : l.length ≤ 5) (he : Eb 20 L0) : ∀ (r : Nat) (ρ : List Nat) (u : Nat) (c : OC) (ro : Nat → Int32) (μ : Hp), ρ.length + r = l.length → u < 32 → Oq (nI l.length) le at9 fa op tr sg hm hi co wh c μ → c.1.length + (ordL l r u (rowD ρ 0) (rowL l ρ L0)).length ≤ 120 → μ 61 = some (mlg L0) → μ 62 = some (arI 8 p) → μ 64 = some (arI 5 ro) → (∀ k, k < ρ.length → ro k = nI (ρ.getD k 0) ∧ ρ.getD k 0 < l.length) → Ct G (d + r + 4) 0 0 M_X7_goesOrders [.ref 60, .int (nI ρ.length), .int (nI u)] μ (Gp l le at9 fa op tr sg hm hi co wh ((ordL l r u (rowD ρ 0) (rowL l ρ L0)).foldl meetO c) ρ.length ro μ) := by
  intro r
  induction r with
  | zero =>
    intro ρ u c ro μ hρ hu hq hn h61 h62 h64 hro
    obtain ⟨lr, mr, hr, s, t, x7, x8, nw, h60, h63, h65, h66, h67, h68, hs, hcc⟩ := id hq
    refine Ct.ofV (by decide +kernel) (Nat.le_of_ble_eq_true rfl) ?_
    refine v_ls (ls' := [(0, .ref 60), (1, .int (nI ρ.length)), (2, .int (nI u))]) rfl ?_
    refine v_iload_n 1 dX7_goesOrders_0 rfl rfl ?_
    refine v_aload_n 0 dX7_goesOrders_1 rfl rfl ?_
    refine v_get fl_X7_91 dX7_goesOrders_2 h60 rfl ?_
    refine v_icmp_ge (tgt := 52) dX7_goesOrders_5 (by decide) (fun hc5 => ?_) (fun hc5 => ?_)
    ·
      refine v_post (gor_base d hq (by simp [ordL] at hn; omega) h61 h62 h64 hpl hw h5 (by omega) hro he) ?_
      rintro r2 m3 ⟨k1, k2, k3⟩
      exact ⟨k1, k2, ⟨ro, (k3 64 (by omega)).trans h64, fun _ _ => rfl⟩, fun i hi => k3 i (by omega)⟩
    · exact absurd ((nI_leI (by omega) (by omega)).mpr (by omega)) hc5
  | succ r ih =>
    intro ρ u c ro μ hρ hu hq hn h61 h62 h64 hro
    obtain ⟨lr, mr, hr, s, t, x7, x8, nw, h60, h63, h65, h66, h67, h68, hs, hcc⟩ := id hq
    refine Ct.ofV (by decide +kernel) (Nat.le_of_ble_eq_true rfl) ?_
    refine v_ls (ls' := [(0, .ref 60), (1, .int (nI ρ.length)), (2, .int (nI u))]) rfl ?_
    refine v_iload_n 1 dX7_goesOrders_0 rfl rfl ?_
    refine v_aload_n 0 dX7_goesOrders_1 rfl rfl ?_
    refine v_get fl_X7_91 dX7_goesOrders_2 h60 rfl ?_
    refine v_icmp_ge (tgt := 52) dX7_goesOrders_5 (by decide) (fun hc5 => ?_) (fun hc5 => ?_)
    · have := (nI_leI (by omega) (by omega)).mp hc5
      omega
    ·
      refine v_iconst (v := 0) dX7_goesOrders_8 (by first | rfl | decide) ?_
      refine v_istore_n dX7_goesOrders_9 rfl (by decide) (fun x3 e_x3 => ?_)
      refine v_ls (ls' := [(3, .int x3), (0, .ref 60), (1, .int (nI ρ.length)), (2, .int (nI u))]) rfl ?_
      subst e_x3
      exact gor_rec d h5 hu hρ ih l.length 0 c ro μ (by omega) hq hn h61 h62 h64 hro
      

theorem meet_ne : ∀ (xs : List (LT × Int32)) (c : OC), ¬ c.1 = [] → ¬ (xs.foldl meetO c).1 = []
  | [], _, h => h
  | x :: r, c, _ => meet_ne r (meetO c x) (remO_ne _ _)
theorem ords_ne {l : List Int32} {L : LT} (h5 : l.length ≤ 5) : ¬ (ordersO l L).1 = [] := by
  have h1 := (cnt_ok l.length (by omega)).1
  rw [← ordL_len l l.length 0 0 L] at h1
  unfold ordersO
  cases hx : ordL l l.length 0 0 L with
  | nil => rw [hx] at h1; simp at h1
  | cons x r => exact meet_ne r _ (remO_ne _ _)
set_option maxRecDepth 20000 in
set_option maxHeartbeats 4000000 in
theorem c_X7_findsOrders {G : Cx} (d : Nat) {μ : Hp} {l : List Int32} {p ro og : Nat → Int32} {L0 : LT} {nw se le7 mo8 : Nat → Int64} {un lr mr hr le at9 fa op tr sg hm hi : Int32} {co wh : Int64} (h60 : μ 60 = some (modC (nI l.length) co wh un lr mr hr le at9 fa op tr sg hm hi)) (h61 : μ 61 = some (mlg L0)) (h62 : μ 62 = some (arI 8 p)) (h63 : μ 63 = some (arJ 5 nw)) (h64 : μ 64 = some (arI 5 ro)) (h65 : μ 65 = some (arJ 600 se)) (h66 : μ 66 = some (arI 120 og)) (h67 : μ 67 = some (arJ 5 le7)) (h68 : μ 68 = some (arJ 5 mo8)) (hpl : Pl l p) (hw : Wp l) (h5 : l.length ≤ 5) (he : Eb 20 L0) : Ct G (d + 10) 0 0 M_X7_findsOrders [.ref 60] μ (fun r μ' => r = none ∧ Oq (nI l.length) le at9 fa op tr sg hm hi co wh (ordersO l L0) μ' ∧ (∃ ro', μ' 64 = some (arI 5 ro')) ∧ ∀ i, i < 60 ∨ i = 61 ∨ i = 62 ∨ 68 < i → μ' i = μ i) := by
  refine Ct.ofV (by decide +kernel) (Nat.le_of_ble_eq_true rfl) ?_
  refine v_ls (ls' := [(0, .ref 60)]) rfl ?_
  refine v_aload_n 0 dX7_findsOrders_0 rfl rfl ?_
  refine v_iconst (v := 0) dX7_findsOrders_1 (by first | rfl | decide) ?_
  refine v_put fp_X7_235 dX7_findsOrders_2 h60 (Nat.le_of_ble_eq_true rfl) (by first | rfl | decide) (by first | rfl | decide) ?_
  refine v_aload_n 0 dX7_findsOrders_5 rfl rfl ?_
  refine v_iconst (v := 0) dX7_findsOrders_6 (by first | rfl | decide) ?_
  refine v_put fp_X7_248 dX7_findsOrders_7 (up_s _ _ _) (Nat.le_of_ble_eq_true rfl) (by first | rfl | decide) (by first | rfl | decide) ?_
  refine v_hp (up_up _ _ _ _) ?_
  refine v_aload_n 0 dX7_findsOrders_10 rfl rfl ?_
  refine v_iconst (v := 0) dX7_findsOrders_11 (by first | rfl | decide) ?_
  refine v_iconst (v := 0) dX7_findsOrders_12 (by first | rfl | decide) ?_
  refine v_callV (d := d + 9) (mc := 0) (ms := 0) (mc' := 0) (ms' := 0) (P' := Gp l le at9 fa op tr sg hm hi co wh ((ordL l l.length 0 0 L0).foldl meetO ([], (L0, 0), (L0, 0))) 0 ro (up μ 60 (modC (nI l.length) co wh 0 lr mr 0 le at9 fa op tr sg hm hi))) (M' := M_X7_goesOrders) (avs := [.int (nI 0), .int (nI 0)]) (st := []) (by
      have hgo := c_X7_goesOrders (G := G) (d + 5 - l.length) (L0 := L0) (le := le) (at9 := at9) (fa := fa) (op := op) (tr := tr) (sg := sg) (hm := hm) (hi := hi) (co := co) (wh := wh) hpl hw h5 he l.length [] 0 ([], (L0, 0), (L0, 0)) ro (up μ 60 (modC (nI l.length) co wh 0 lr mr 0 le at9 fa op tr sg hm hi)) (by simp) (by decide) ⟨lr, mr, 0, se, og, le7, mo8, nw, up_s _ _ _, up_n (by decide) h63, up_n (by decide) h65, up_n (by decide) h66, up_n (by decide) h67, up_n (by decide) h68, fun j _ _ hj => by simp at hj, Or.inl ⟨rfl, rfl⟩⟩ (by rw [ordL_len]; exact (by have := (cnt_ok l.length (by omega)).2; simpa using this)) (up_n (by decide) h61) (up_n (by decide) h62) (up_n (by decide) h64) (fun k hk => by simp at hk)
      rw [show d + 5 - l.length + l.length + 4 = d + 9 by omega] at hgo
      exact hgo) cs_X7_242 dX7_findsOrders_13 (up_s _ _ _) rfl rfl (Nat.le_of_ble_eq_true rfl) ?_
  rintro _ m2 ⟨rfl, hq2, ⟨ro2, g64, -⟩, hf2⟩
  refine v_vret dX7_findsOrders_16 rfl ?_
  exact ⟨rfl, hq2, ⟨ro2, g64⟩, fun i hi => (hf2 i hi).trans (up_n (by omega) rfl)⟩

theorem com_gt (w x : Int32) : (if x ≤ w then w else x) = maxO w x := by
  unfold maxO
  by_cases h : x ≤ w
  · rw [if_pos h, if_neg (Int32.not_lt.mpr h)]
  · rw [if_neg h, if_pos (Int32.not_le.mp h)]
set_option maxRecDepth 20000 in
set_option maxHeartbeats 4000000 in
theorem oc7_loop {G : Cx} (d : Nat) {μ : Hp} {w : Int32} {s : Nat → Int64} {t : Nat → Int32} {ls : List (LT × Nat)} {m lr mr hr le at9 fa op tr sg hm hi : Int32} {co wh : Int64} (h60 : μ 60 = some (modC m co wh (nI ls.length) lr mr hr le at9 fa op tr sg hm hi)) (h66 : μ 66 = some (arI 120 t)) (hs : Sn ls s t) (hlen : ls.length ≤ 120) : ∀ (k9 : Nat) (j : Nat) (v : Int32), j + k9 = ls.length → V G M_X7_order (d + 11) 0 0 (Rt (some (.int (comF v (ls.drop j)))) μ) 66 [(3, .int (nI j)), (2, .int v), (0, .ref 60), (1, .int w)] [] (μ) := by
  intro k9
  induction k9 with
  | zero =>
    intro j v hj
    refine v_iload_n 0 dX7_order_66 rfl rfl ?_
    refine v_aload_n 2 dX7_order_67 rfl rfl ?_
    refine v_get fl_X7_235 dX7_order_68 h60 rfl ?_
    refine v_icmp_ge (tgt := 101) dX7_order_71 (by decide) (fun hc71 => ?_) (fun hc71 => ?_)
    ·
      refine v_iload_n 1 dX7_order_101 rfl rfl ?_
      refine v_iret dX7_order_102 rfl (by first | rfl | decide | exact nar_b (by first | assumption | rfl)) ?_
      exact ⟨by rw [List.drop_of_length_le (by omega)]; rfl, rfl⟩
    · exact absurd ((nI_leI (by omega) (by omega)).mpr (by omega)) hc71
  | succ k9 ih =>
    intro j v hj
    refine v_iload_n 0 dX7_order_66 rfl rfl ?_
    refine v_aload_n 2 dX7_order_67 rfl rfl ?_
    refine v_get fl_X7_235 dX7_order_68 h60 rfl ?_
    refine v_icmp_ge (tgt := 101) dX7_order_71 (by decide) (fun hc71 => ?_) (fun hc71 => ?_)
    · have := (nI_leI (by omega) (by omega)).mp hc71
      omega
    ·
      refine v_aload_n 2 dX7_order_74 rfl rfl ?_
      refine v_get fl_X7_30 dX7_order_75 h60 rfl ?_
      refine v_iload_n 0 dX7_order_78 rfl rfl ?_
      refine v_iald dX7_order_79 h66 (nI_in' (by omega)) ?_
      refine v_iload_n 1 dX7_order_80 rfl rfl ?_
      refine v_icmp_le (tgt := 93) dX7_order_81 (by decide) (fun hc81 => ?_) (fun hc81 => ?_)
      ·
        refine v_iload_n 1 dX7_order_93 rfl rfl ?_
        refine v_istore_n dX7_order_94 rfl (by decide) (fun y2 e_y2 => ?_)
        refine v_ls (ls' := [(2, .int y2), (3, .int (nI j)), (0, .ref 60), (1, .int w)]) rfl ?_
        refine v_iinc (v := 1) 1 dX7_order_95 rfl rfl (by decide) (fun z e_z => ?_)
        refine v_ls (ls' := [(3, .int z), (2, .int y2), (0, .ref 60), (1, .int w)]) rfl ?_
        rw [nI_1] at e_z
        subst e_z
        refine v_goto (tgt := 66) dX7_order_98 (by decide) ?_
        have hjj : ls[j]? = some (ls[j].1, ls[j].2) := List.getElem?_eq_getElem (by omega)
        rw [clamp (by omega), (hs j _ _ hjj).2] at hc81
        have e2 : y2 = maxO v (nI ls[j].2) := by
          rw [← com_gt, if_pos hc81]
          first | exact e_y2 | exact e_y2.symm | (rw [e_y2, clamp (by omega), (hs j _ _ hjj).2]) | (rw [← e_y2, clamp (by omega), (hs j _ _ hjj).2])
        clear e_y2
        subst e2
        rw [show ls.drop j = ls[j] :: ls.drop (j + 1) from List.drop_eq_getElem_cons (by omega)]
        refine v_pick [0, 1, 2, 3] rfl ?_
        exact ih (j + 1) _ (by omega)
        
      ·
        refine v_aload_n 2 dX7_order_84 rfl rfl ?_
        refine v_get fl_X7_30 dX7_order_85 h60 rfl ?_
        refine v_iload_n 0 dX7_order_88 rfl rfl ?_
        refine v_iald dX7_order_89 h66 (nI_in' (by omega)) ?_
        refine v_goto (tgt := 94) dX7_order_90 (by decide) ?_
        refine v_istore_n dX7_order_94 rfl (by decide) (fun y2 e_y2 => ?_)
        refine v_ls (ls' := [(2, .int y2), (3, .int (nI j)), (0, .ref 60), (1, .int w)]) rfl ?_
        refine v_iinc (v := 1) 1 dX7_order_95 rfl rfl (by decide) (fun z e_z => ?_)
        refine v_ls (ls' := [(3, .int z), (2, .int y2), (0, .ref 60), (1, .int w)]) rfl ?_
        rw [nI_1] at e_z
        subst e_z
        refine v_goto (tgt := 66) dX7_order_98 (by decide) ?_
        have hjj : ls[j]? = some (ls[j].1, ls[j].2) := List.getElem?_eq_getElem (by omega)
        rw [clamp (by omega), (hs j _ _ hjj).2] at hc81
        have e2 : y2 = maxO v (nI ls[j].2) := by
          rw [← com_gt, if_neg hc81]
          first | exact e_y2 | exact e_y2.symm | (rw [e_y2, clamp (by omega), (hs j _ _ hjj).2]) | (rw [← e_y2, clamp (by omega), (hs j _ _ hjj).2])
        clear e_y2
        subst e2
        rw [show ls.drop j = ls[j] :: ls.drop (j + 1) from List.drop_eq_getElem_cons (by omega)]
        refine v_pick [0, 1, 2, 3] rfl ?_
        exact ih (j + 1) _ (by omega)
        

set_option maxRecDepth 20000 in
set_option maxHeartbeats 4000000 in
theorem c_X7_order {G : Cx} (d : Nat) {μ : Hp} {σ : ST} {w : Int32} (h : Mo σ μ) (hw : Wp (sP σ)) (he0 : Eb 20 (sM σ)) : Ct G (d + 11) 0 0 M_X7_order [.ref 60, .int w] μ (Pm (σ) (.int (rOrder σ w)) μ) := by
  refine Ct.ofV (by decide +kernel) (Nat.le_of_ble_eq_true rfl) ?_
  refine v_ls (ls' := [(0, .ref 60), (1, .int w)]) rfl ?_
  obtain ⟨co, wh, un, lr, mr, hr, at9, fa, op, sg, hm, p, tt, ro, og, tc, op9, sp, nw, se, le, mo, ot, h60, h61, h62, h63, h64, h65, h66, h67, h68, h69, h70, h71, h72, h73, h74, h75, h76, h77, h78, h79, h80, hmk, hpl, htp, ht60⟩ := id h
  have hl8 := hw.1
  refine v_iload_n 1 dX7_order_0 rfl rfl ?_
  refine v_i2l dX7_order_1 ?_
  refine v_lconst (v := 0) dX7_order_2 (by first | rfl | decide) ?_
  refine v_ldc2 kc_X7_160 dX7_order_3 ?_
  refine v_callS (c_X7_inL (d + 10) 3 4 3 (by decide) rfl rfl) cs_X7_95 dX7_order_6 rfl rfl (Nat.le_of_ble_eq_true rfl) ?_
  refine rt_k ?_
  refine v_if_ne (tgt := 14) dX7_order_9 (by decide) (fun hc9 => ?_) (fun hc9 => ?_)
  ·
    refine v_aload_n 0 dX7_order_14 rfl rfl ?_
    refine v_get fl_X7_91 dX7_order_15 h60 rfl ?_
    refine v_iconst (v := 5) dX7_order_18 (by first | rfl | decide) ?_
    refine v_icmp_le (tgt := 25) dX7_order_19 (by decide) (fun hc19 => ?_) (fun hc19 => ?_)
    ·
      have hl5 : (sP σ).length ≤ 5 := (nI_leI (b := 5) (by omega) (by decide)).mp hc19
      have hn5 : ¬ 5 < (sP σ).length := by omega
      have he20 : Eb 20 (sM σ) := he0
      refine v_aload_n 0 dX7_order_25 rfl rfl ?_
      refine v_callV (c_X7_findsOrders d h60 h61 h62 h63 h64 h65 h66 h67 h68 hpl hw hl5 he20) cs_X7_262 dX7_order_26 h60 rfl rfl (Nat.le_of_ble_eq_true rfl) ?_
      rintro _ m2 ⟨rfl, ⟨lr2, mr2, hr2, s2, t2, x72, x82, nw2, g60, g63, g65, g66, g67, g68, hs2, hc2⟩, ⟨ro2, g64⟩, hf2⟩
      obtain ⟨q1, q2, q3, q4, q5, q6, -, -⟩ := hc2.resolve_left (fun z => ords_ne hl5 z.1)
      have hlen2 := ords_len (L := sM σ) hl5
      generalize hO : ordersO (sP σ) (sM σ) = O at g60 hs2 q1 q3 q4 q5 q6 hlen2
      have hMo : Mo σ m2 := ⟨co, wh, _, lr2, mr2, hr2, at9, fa, op, sg, hm, p, tt, ro2, t2, tc, op9, sp, nw2, s2, x72, x82, ot, g60, ((hf2 61 (by omega)).trans h61), ((hf2 62 (by omega)).trans h62), g63, g64, g65, g66, g67, g68, ((hf2 69 (by omega)).trans h69), ((hf2 70 (by omega)).trans h70), ((hf2 71 (by omega)).trans h71), ((hf2 72 (by omega)).trans h72), ((hf2 73 (by omega)).trans h73), ((hf2 74 (by omega)).trans h74), ((hf2 75 (by omega)).trans h75), ((hf2 76 (by omega)).trans h76), ((hf2 77 (by omega)).trans h77), ((hf2 78 (by omega)).trans h78), ((hf2 79 (by omega)).trans h79), ((hf2 80 (by omega)).trans h80), (hmk.kept (fun i a b => hf2 i (by omega))), hpl, htp, ht60⟩
      have hFp : Fp m2 μ := fun i hi => hf2 i (by omega)
      refine v_iload_n 1 dX7_order_29 rfl rfl ?_
      refine v_iconst (v := 3) dX7_order_30 (by first | rfl | decide) ?_
      refine v_icmp_ge (tgt := 62) dX7_order_31 (by decide) (fun hc31 => ?_) (fun hc31 => ?_)
      ·
        refine v_iconst (v := 0) dX7_order_62 (by first | rfl | decide) ?_
        refine v_istore_n dX7_order_63 rfl (by decide) (fun x2_1 e_x2_1 => ?_)
        refine v_ls (ls' := [(2, .int x2_1), (0, .ref 60), (1, .int w)]) rfl ?_
        subst e_x2_1
        refine v_iconst (v := 0) dX7_order_64 (by first | rfl | decide) ?_
        refine v_istore_n dX7_order_65 rfl (by decide) (fun x3 e_x3 => ?_)
        refine v_ls (ls' := [(3, .int x3), (2, .int (0)), (0, .ref 60), (1, .int w)]) rfl ?_
        subst e_x3
        have hw3 : ¬ w = 0 ∧ ¬ w = 1 ∧ ¬ w = 2 := by
          refine ⟨?_, ?_, ?_⟩ <;> (rintro rfl; exact absurd hc31 (by decide))
        have hE : rOrder σ w = comO O := by simp only [rOrder, if_neg hc9, if_neg hn5, if_neg hw3.1, if_neg hw3.2.1, if_neg hw3.2.2, hO]
        rw [hE]
        refine v_post (oc7_loop d g60 g66 hs2 hlen2 O.1.length 0 0 (by omega)) ?_
        rintro _ _ ⟨rfl, rfl⟩
        exact ⟨by rw [List.drop_zero]; rfl, hMo, hFp⟩
        
      ·
        refine v_iload_n 1 dX7_order_34 rfl rfl ?_
        refine v_if_ne (tgt := 45) dX7_order_35 (by decide) (fun hc35 => ?_) (fun hc35 => ?_)
        ·
          refine v_iload_n 1 dX7_order_45 rfl rfl ?_
          refine v_iconst (v := 1) dX7_order_46 (by first | rfl | decide) ?_
          refine v_icmp_ne (tgt := 57) dX7_order_47 (by decide) (fun hc47 => ?_) (fun hc47 => ?_)
          ·
            refine v_aload_n 0 dX7_order_57 rfl rfl ?_
            refine v_get fl_X7_235 dX7_order_58 g60 rfl ?_
            refine v_iret dX7_order_61 rfl (by first | rfl | decide | exact nar_b (by first | assumption | rfl)) ?_
            have hw2 : w = 2 := by
              clear h hw h60 h61 h62 h63 h64 h65 h66 h67 h68 h69 h70 h71 h72 h73 h74 h75 h76 h77 h78 h79 h80 hmk hpl htp hMo hFp hf2 g60 g63 g64 g65 g66 g67 g68 hs2
              grind
            have hE : rOrder σ w = nI O.1.length := by simp only [rOrder, if_neg hc9, if_neg hn5, if_neg hc35, if_neg hc47, if_pos hw2, hO]
            rw [hE]
            exact ⟨rfl, hMo, hFp⟩
          ·
            refine v_aload_n 0 dX7_order_50 rfl rfl ?_
            refine v_get fl_X7_259 dX7_order_51 g60 rfl ?_
            refine v_goto (tgt := 61) dX7_order_54 (by decide) ?_
            refine v_iret dX7_order_61 rfl (by first | rfl | decide | exact nar_b (by first | assumption | rfl)) ?_
            have hE : rOrder σ w = O.2.2.2 := by simp only [rOrder, if_neg hc9, if_neg hn5, if_neg hc35, if_pos hc47, hO]
            rw [hE]
            exact ⟨by rw [q4], hMo, hFp⟩
        ·
          refine v_aload_n 0 dX7_order_38 rfl rfl ?_
          refine v_get fl_X7_256 dX7_order_39 g60 rfl ?_
          refine v_goto (tgt := 61) dX7_order_42 (by decide) ?_
          refine v_iret dX7_order_61 rfl (by first | rfl | decide | exact nar_b (by first | assumption | rfl)) ?_
          have hE : rOrder σ w = O.2.1.2 := by simp only [rOrder, if_neg hc9, if_neg hn5, if_pos hc35, hO]
          rw [hE]
          exact ⟨by rw [q3], hMo, hFp⟩
    ·
      refine v_bipush (v := -3) dX7_order_22 (by first | rfl | decide) ?_
      refine v_iret dX7_order_24 rfl (by first | rfl | decide | exact nar_b (by first | assumption | rfl)) ?_
      have hn5 : 5 < (sP σ).length := Nat.lt_of_not_le (fun z => hc19 ((nI_leI (b := 5) (by omega) (by decide)).mpr z))
      have hE : rOrder σ w = -3 := by simp only [rOrder, if_neg hc9, if_pos hn5]
      rw [hE]
      exact ⟨rfl, h, Fp.rf μ⟩
  ·
    refine v_iconst (v := -1) dX7_order_12 (by first | rfl | decide) ?_
    refine v_iret dX7_order_13 rfl (by first | rfl | decide | exact nar_b (by first | assumption | rfl)) ?_
    have hE : rOrder σ w = -1 := by
      first
        | (simp only [rOrder, if_pos hc9]; done)
        | (grind [rOrder]; done)
    rw [hE]
    exact ⟨rfl, h, Fp.rf μ⟩

set_option maxRecDepth 20000 in
set_option maxHeartbeats 4000000 in
theorem c_X7_orderLight {G : Cx} (d : Nat) {μ : Hp} {σ : ST} {g : Int32} {w : Int32} (h : Mo σ μ) (hw : Wp (sP σ)) (he0 : Eb 20 (sM σ)) : Ct G (d + 11) 0 0 M_X7_orderLight [.ref 60, .int g, .int w] μ (Pm (σ) (.long (rOrderL σ g w)) μ) := by
  refine Ct.ofV (by decide +kernel) (Nat.le_of_ble_eq_true rfl) ?_
  refine v_ls (ls' := [(0, .ref 60), (1, .int g), (2, .int w)]) rfl ?_
  obtain ⟨co, wh, un, lr, mr, hr, at9, fa, op, sg, hm, p, tt, ro, og, tc, op9, sp, nw, se, le, mo, ot, h60, h61, h62, h63, h64, h65, h66, h67, h68, h69, h70, h71, h72, h73, h74, h75, h76, h77, h78, h79, h80, hmk, hpl, htp, ht60⟩ := id h
  have hl8 := hw.1
  refine v_iload_n 1 dX7_orderLight_0 rfl rfl ?_
  refine v_i2l dX7_orderLight_1 ?_
  refine v_lconst (v := 0) dX7_orderLight_2 (by first | rfl | decide) ?_
  refine v_lconst (v := 1) dX7_orderLight_3 (by first | rfl | decide) ?_
  refine v_callS (c_X7_inL (d + 10) 1 2 1 (by decide) rfl rfl) cs_X7_95 dX7_orderLight_4 rfl rfl (Nat.le_of_ble_eq_true rfl) ?_
  refine rt_k ?_
  refine v_if_eq (tgt := 30) dX7_orderLight_7 (by decide) (fun hc7 => ?_) (fun hc7 => ?_)
  ·
    refine v_ldc2 kc_X7_193 dX7_orderLight_30 ?_
    refine v_lret dX7_orderLight_33 rfl ?_
    have hE : rOrderL σ g w = VD := by
      first
        | (simp only [rOrderL, if_pos hc7]; done)
        | (simp only [rOrderL, if_neg hc7, if_pos hc19]; done)
        | (have hn5 : 5 < (sP σ).length := Nat.lt_of_not_le (fun z => hc27 ((nI_leI (b := 5) (by omega) (by decide)).mpr z))
           simp only [rOrderL, if_neg hc7, if_neg hc19, if_pos hn5]; done)
    rw [hE]
    exact ⟨rfl, h, Fp.rf μ⟩
  ·
    refine v_iload_n 2 dX7_orderLight_10 rfl rfl ?_
    refine v_i2l dX7_orderLight_11 ?_
    refine v_lconst (v := 0) dX7_orderLight_12 (by first | rfl | decide) ?_
    refine v_ldc2 kc_X7_191 dX7_orderLight_13 ?_
    refine v_callS (c_X7_inL (d + 10) 4 5 4 (by decide) rfl rfl) cs_X7_95 dX7_orderLight_16 rfl rfl (Nat.le_of_ble_eq_true rfl) ?_
    refine rt_k ?_
    refine v_if_eq (tgt := 30) dX7_orderLight_19 (by decide) (fun hc19 => ?_) (fun hc19 => ?_)
    ·
      refine v_ldc2 kc_X7_193 dX7_orderLight_30 ?_
      refine v_lret dX7_orderLight_33 rfl ?_
      have hE : rOrderL σ g w = VD := by
        first
          | (simp only [rOrderL, if_pos hc7]; done)
          | (simp only [rOrderL, if_neg hc7, if_pos hc19]; done)
          | (have hn5 : 5 < (sP σ).length := Nat.lt_of_not_le (fun z => hc27 ((nI_leI (b := 5) (by omega) (by decide)).mpr z))
             simp only [rOrderL, if_neg hc7, if_neg hc19, if_pos hn5]; done)
      rw [hE]
      exact ⟨rfl, h, Fp.rf μ⟩
    ·
      refine v_aload_n 0 dX7_orderLight_22 rfl rfl ?_
      refine v_get fl_X7_91 dX7_orderLight_23 h60 rfl ?_
      refine v_iconst (v := 5) dX7_orderLight_26 (by first | rfl | decide) ?_
      refine v_icmp_le (tgt := 34) dX7_orderLight_27 (by decide) (fun hc27 => ?_) (fun hc27 => ?_)
      ·
        have hl5 : (sP σ).length ≤ 5 := (nI_leI (b := 5) (by omega) (by decide)).mp hc27
        have hn5 : ¬ 5 < (sP σ).length := by omega
        have he20 : Eb 20 (sM σ) := he0
        refine v_aload_n 0 dX7_orderLight_34 rfl rfl ?_
        refine v_callV (c_X7_findsOrders d h60 h61 h62 h63 h64 h65 h66 h67 h68 hpl hw hl5 he20) cs_X7_262 dX7_orderLight_35 h60 rfl rfl (Nat.le_of_ble_eq_true rfl) ?_
        rintro _ m2 ⟨rfl, ⟨lr2, mr2, hr2, s2, t2, x72, x82, nw2, g60, g63, g65, g66, g67, g68, hs2, hc2⟩, ⟨ro2, g64⟩, hf2⟩
        obtain ⟨q1, q2, q3, q4, q5, q6, -, -⟩ := hc2.resolve_left (fun z => ords_ne hl5 z.1)
        have hlen2 := ords_len (L := sM σ) hl5
        generalize hO : ordersO (sP σ) (sM σ) = O at g60 hs2 q1 q3 q4 q5 q6 hlen2
        have hMo : Mo σ m2 := ⟨co, wh, _, lr2, mr2, hr2, at9, fa, op, sg, hm, p, tt, ro2, t2, tc, op9, sp, nw2, s2, x72, x82, ot, g60, ((hf2 61 (by omega)).trans h61), ((hf2 62 (by omega)).trans h62), g63, g64, g65, g66, g67, g68, ((hf2 69 (by omega)).trans h69), ((hf2 70 (by omega)).trans h70), ((hf2 71 (by omega)).trans h71), ((hf2 72 (by omega)).trans h72), ((hf2 73 (by omega)).trans h73), ((hf2 74 (by omega)).trans h74), ((hf2 75 (by omega)).trans h75), ((hf2 76 (by omega)).trans h76), ((hf2 77 (by omega)).trans h77), ((hf2 78 (by omega)).trans h78), ((hf2 79 (by omega)).trans h79), ((hf2 80 (by omega)).trans h80), (hmk.kept (fun i a b => hf2 i (by omega))), hpl, htp, ht60⟩
        have hFp : Fp m2 μ := fun i hi => hf2 i (by omega)
        refine v_iload_n 1 dX7_orderLight_38 rfl rfl ?_
        refine v_if_ne (tgt := 51) dX7_orderLight_39 (by decide) (fun hc39 => ?_) (fun hc39 => ?_)
        ·
          refine v_aload_n 0 dX7_orderLight_51 rfl rfl ?_
          refine v_get fl_X7_36 dX7_orderLight_52 g60 rfl ?_
          refine v_iload_n 2 dX7_orderLight_55 rfl rfl ?_
          refine v_lald dX7_orderLight_56 g68 (in5 hc19) ?_
          refine v_lret dX7_orderLight_57 rfl ?_
          have hE : rOrderL σ g w = partO O.2.2.1 w := by simp only [rOrderL, if_neg hc7, if_neg hc19, if_neg hn5, if_neg hc39, hO]
          rw [hE, ← lv_part _ hc19]
          exact ⟨by rw [q6], hMo, hFp⟩
        ·
          refine v_aload_n 0 dX7_orderLight_42 rfl rfl ?_
          refine v_get fl_X7_33 dX7_orderLight_43 g60 rfl ?_
          refine v_iload_n 2 dX7_orderLight_46 rfl rfl ?_
          refine v_lald dX7_orderLight_47 g67 (in5 hc19) ?_
          refine v_goto (tgt := 57) dX7_orderLight_48 (by decide) ?_
          refine v_lret dX7_orderLight_57 rfl ?_
          have hE : rOrderL σ g w = partO O.2.1.1 w := by simp only [rOrderL, if_neg hc7, if_neg hc19, if_neg hn5, if_pos hc39, hO]
          rw [hE, ← lv_part _ hc19]
          exact ⟨by rw [q5], hMo, hFp⟩
      ·
        refine v_ldc2 kc_X7_193 dX7_orderLight_30 ?_
        refine v_lret dX7_orderLight_33 rfl ?_
        have hE : rOrderL σ g w = VD := by
          first
            | (simp only [rOrderL, if_pos hc7]; done)
            | (simp only [rOrderL, if_neg hc7, if_pos hc19]; done)
            | (have hn5 : 5 < (sP σ).length := Nat.lt_of_not_le (fun z => hc27 ((nI_leI (b := 5) (by omega) (by decide)).mpr z))
               simp only [rOrderL, if_neg hc7, if_neg hc19, if_pos hn5]; done)
        rw [hE]
        exact ⟨rfl, h, Fp.rf μ⟩

