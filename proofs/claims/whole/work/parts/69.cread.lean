set_option maxRecDepth 20000 in
set_option maxHeartbeats 4000000 in
theorem c_readsT {G : Cx} (d : Nat) {μ : Hp} {tp : List Int32} {t ops cd : Nat → Int32} {k9 p9 f9 : Int32} (hT : ∀ c ∈ tp, 0 < c ∧ c < 128) (h25 : μ 25 = some (redC (nI tp.length) k9 p9 f9)) (h26 : μ 26 = some (arI 60 t)) (h27 : μ 27 = some (arI 3 ops)) (h28 : μ 28 = some (arI 8 cd)) (hp : Pl tp t) (h60 : tp.length ≤ 60) : Ct G (d + 15) 0 0 M_X4_readsText [.ref 25] μ (RP tp (txtP tp) μ) := by
  refine Ct.ofV (by decide +kernel) (Nat.le_of_ble_eq_true rfl) ?_
  refine v_ls (ls' := [(0, .ref 25)]) rfl ?_
  refine v_aload_n 0 dX4_readsText_0 rfl rfl ?_
  refine v_iconst (v := 0) dX4_readsText_1 (by first | rfl | decide) ?_
  refine v_put fp_X4_21 dX4_readsText_2 h25 (Nat.le_of_ble_eq_true rfl) (by first | rfl | decide) (by first | rfl | decide) ?_
  refine v_aload_n 0 dX4_readsText_5 rfl rfl ?_
  refine v_iconst (v := 0) dX4_readsText_6 (by first | rfl | decide) ?_
  refine v_put fp_X4_25 dX4_readsText_7 (up_s _ _ _) (Nat.le_of_ble_eq_true rfl) (by first | rfl | decide) (by first | rfl | decide) ?_
  refine v_hp (up_up _ _ _ _) ?_
  refine v_aload_n 0 dX4_readsText_10 rfl rfl ?_
  refine v_iconst (v := 0) dX4_readsText_11 (by first | rfl | decide) ?_
  refine v_put fp_X4_28 dX4_readsText_12 (up_s _ _ _) (Nat.le_of_ble_eq_true rfl) (by first | rfl | decide) (by first | rfl | decide) ?_
  refine v_hp (up_up _ _ _ _) ?_
  refine v_aload_n 0 dX4_readsText_15 rfl rfl ?_
  refine v_callV (c_items d hT 3 (0, [], []) _ rfl ⟨t, ops, cd, by rw [up_s]; rfl, by repeat (first | assumption | exact up_s _ _ _ | refine up_n (by decide) ?_), by repeat (first | assumption | exact up_s _ _ _ | refine up_n (by decide) ?_), by repeat (first | assumption | exact up_s _ _ _ | refine up_n (by decide) ?_), hp, h60, Nat.zero_le _, fun j hj => absurd hj (Nat.not_lt_zero j), fun j _ hj => absurd hj (Nat.not_lt_zero j)⟩ (by show 0 + (60 - 0) * 4 ^ 3 ≤ 4000; decide)) cs_X4_31 dX4_readsText_16 (up_s _ _ _) rfl rfl (Nat.le_of_ble_eq_true rfl) ?_
  have hL : txtP tp = (match itmsP tp 3 (0, [], []) with
      | (false, s) => (false, s)
      | (true, s) => (decide (s.1 = tp.length), s)) := rfl
  rw [hL]
  generalize itmsP tp 3 (0, [], []) = x
  obtain ⟨b, s2⟩ := x
  rintro _ m1 ⟨rfl, hRd1, hfr1⟩
  obtain ⟨t1, ops1, cd1, g25, g26, g27, g28, hp1, -, hkl1, hop1, h81⟩ := id hRd1
  have hfr2 : ∀ i, i < 25 ∨ 28 < i → m1 i = μ i := fun i hi => (hfr1 i hi).trans (up_n (by omega) rfl)
  refine v_if_eq (tgt := 37) dX4_readsText_19 (by decide) (fun hc19 => ?_) (fun hc19 => ?_)
  ·
    refine v_iconst (v := 0) dX4_readsText_37 (by first | rfl | decide) ?_
    refine v_iret dX4_readsText_38 rfl (by decide) ?_
    obtain rfl : b = false := by cases b with
      | false => rfl
      | true => exact absurd hc19 (show ¬ (1 : Int32) = 0 by decide)
    exact ⟨rfl, hRd1, hfr2⟩
  ·
    obtain rfl : b = true := by cases b with
      | true => rfl
      | false => exact absurd rfl hc19
    refine v_aload_n 0 dX4_readsText_22 rfl rfl ?_
    refine v_get fl_X4_21 dX4_readsText_23 g25 rfl ?_
    refine v_aload_n 0 dX4_readsText_26 rfl rfl ?_
    refine v_get fl_X4_35 dX4_readsText_27 g25 rfl ?_
    refine v_icmp_ne (tgt := 37) dX4_readsText_30 (by decide) (fun hc30 => ?_) (fun hc30 => ?_)
    ·
      refine v_iconst (v := 0) dX4_readsText_37 (by first | rfl | decide) ?_
      refine v_iret dX4_readsText_38 rfl (by decide) ?_
      have hq : ¬ s2.1 = tp.length := fun z => hc30 (by rw [z])
      show RP tp (decide (s2.1 = tp.length), s2) μ _ _
      rw [decide_eq_false hq]
      exact ⟨rfl, hRd1, hfr2⟩
    ·
      refine v_iconst (v := 1) dX4_readsText_33 (by first | rfl | decide) ?_
      refine v_goto (tgt := 38) dX4_readsText_34 (by decide) ?_
      refine v_iret dX4_readsText_38 rfl (by decide) ?_
      have hkl1 : s2.1 ≤ tp.length := hkl1
      have hq : s2.1 = tp.length := (nI_eq (by omega) (by omega)).mp hc30
      show RP tp (decide (s2.1 = tp.length), s2) μ _ _
      rw [decide_eq_true hq]
      exact ⟨rfl, hRd1, hfr2⟩

theorem num_op (tp : List Int32) (kind an : Int32) (s : PS) : (filN tp kind an s).2.2.1 = s.2.1 := by
  unfold filN
  split
  · rfl
  · split <;> rfl
theorem fil_op (tp : List Int32) (kind : Int32) (s : PS) : (filP tp kind s).2.2.1 = s.2.1 := by
  unfold filP
  split
  · exact num_op _ _ _ _
  · split
    · rfl
    · split
      · exact num_op _ _ _ _
      · split
        · exact num_op _ _ _ _
        · rfl
theorem grp_op {tp : List Int32} {rec : PS → Bool × PS} {g : Nat} (hr : ∀ s, (rec s).2.2.1.length ≤ s.2.1.length + g) (s : PS) : (grpP tp rec s).2.2.1.length ≤ s.2.1.length + (g + 1) := by
  unfold grpP
  split
  · have h1 := hr (s.1 + 2, s.2.1 ++ [s.1 + 1], s.2.2)
    have e : (s.2.1 ++ [s.1 + 1]).length = s.2.1.length + 1 := by simp
    have h1 : (rec (s.1 + 2, s.2.1 ++ [s.1 + 1], s.2.2)).2.2.1.length ≤ (s.2.1 ++ [s.1 + 1]).length + g := h1
    split
    · rename_i s2 h2
      rw [h2] at h1
      have h1 : s2.2.1.length ≤ (s.2.1 ++ [s.1 + 1]).length + g := h1
      show s2.2.1.length ≤ _
      omega
    · rename_i s2 h2
      rw [h2] at h1
      have h1 : s2.2.1.length ≤ (s.2.1 ++ [s.1 + 1]).length + g := h1
      split
      · exact Nat.le_add_right _ _
      · show s2.2.1.length ≤ _
        omega
  · exact Nat.le_add_right _ _
theorem item_op {tp : List Int32} {rec : PS → Bool × PS} {g : Nat} (hr : ∀ g', g = g' + 1 → ∀ s, (rec s).2.2.1.length ≤ s.2.1.length + g') (s : PS) : (itemP tp g rec s).2.2.1.length ≤ s.2.1.length + g := by
  unfold itemP
  split
  · split
    · exact Nat.le_add_right _ _
    · split
      · exact Nat.le_add_right _ _
      · split
        · exact Nat.le_add_right _ _
        · rename_i hg
          obtain ⟨g', rfl⟩ : ∃ g', g = g' + 1 := ⟨g - 1, by omega⟩
          exact grp_op (hr g' rfl) s
  · rw [fil_op]
    exact Nat.le_add_right _ _
theorem itmsL_op {tp : List Int32} {rec : PS → Bool × PS} {g : Nat} (hr : ∀ g', g = g' + 1 → ∀ s, (rec s).2.2.1.length ≤ s.2.1.length + g') (hG : ∀ g', g = g' + 1 → ∀ s, Gd g' s (rec s)) : ∀ (m : Nat) (s : PS), (itmsL tp g rec m s).2.2.1.length ≤ s.2.1.length + g
  | 0, s => Nat.le_add_right _ _
  | m + 1, s => by
    have h1 := item_op (tp := tp) hr s
    have h2 := item_Gd (tp := tp) hG s
    unfold itmsL
    split
    · rename_i s1 h3
      rw [h3] at h1
      exact h1
    · rename_i s1 h3
      rw [h3] at h1 h2
      split
      · have h4 := itmsL_op (tp := tp) hr hG m (s1.1 + 1, s1.2)
        have h5 : s1.2.1 = s.2.1 := (h2.2.2.2 rfl).1
        have h4 : (itmsL tp g rec m (s1.1 + 1, s1.2)).2.2.1.length ≤ s1.2.1.length + g := h4
        rw [h5] at h4
        exact h4
      · exact h1
theorem itms_op (tp : List Int32) : ∀ (g : Nat) (s : PS), (itmsP tp g s).2.2.1.length ≤ s.2.1.length + g
  | 0, s => itmsL_op (fun g' h => by omega) (fun g' h => by omega) 60 s
  | g + 1, s => itmsL_op (fun g' h s => (show g = g' by omega) ▸ itms_op tp g s) (fun g' h s => (show g = g' by omega) ▸ itmsP_Gd tp g s) 60 s
theorem txt_ok (tp : List Int32) : (txtP tp).2.2.1.length ≤ 3 ∧ (txtP tp).2.2.2.length ≤ (txtP tp).2.1 * 64 := by
  have h1 := itms_op tp 3 (0, [], [])
  have h2 := (itmsP_Gd tp 3 (0, [], [])).2.1
  unfold txtP
  generalize itmsP tp 3 (0, [], []) = x at h1 h2
  obtain ⟨b, s⟩ := x
  have h1 : s.2.1.length ≤ 0 + 3 := h1
  have h2 : s.2.2.length ≤ 0 + (s.1 - 0) * 64 := h2
  cases b
  · exact ⟨by show s.2.1.length ≤ 3; omega, by show s.2.2.length ≤ s.1 * 64; omega⟩
  · exact ⟨by show s.2.1.length ≤ 3; omega, by show s.2.2.length ≤ s.1 * 64; omega⟩
set_option maxRecDepth 20000 in
set_option maxHeartbeats 4000000 in
theorem rd_loop {G : Cx} (d : Nat) {σ : ST} {μ0 : Hp} {y1 : Int32} {s : PS} {ops : Nat → Int32} (hw : Wp (sP σ)) (hop : ∀ j, j < s.2.1.length → ops j = nI (s.2.1.getD j 0)) (hl3 : s.2.1.length ≤ 3) : ∀ (k9 : Nat) (j : Nat) (w : Nat × (Nat → Int32) × (Nat → Int32)) (μ : Hp), j + k9 = s.2.1.length → w.1 = j → Cl (toW σ w) μ → Fo μ μ0 → μ 25 = some (redC 0 (nI s.1) (nI s.2.1.length) (nI s.2.2.length)) → μ 27 = some (arI 3 ops) → V G M_X6_read (d + 16) 0 0 (Po (toW σ (notW ((s.2.1.drop j).foldl (fun w k => notW w 2 (nI k)) w) 1 (nI s.1))) (.int (-100 - nI s.1)) μ0) 29 [(2, .int (nI j)), (1, .int y1), (0, .ref 0)] [] (μ) := by
  intro k9
  induction k9 with
  | zero =>
    intro j w μ hj hwj h hF h25b h27b
    obtain ⟨h0, ⟨p, h1, h2, h3, h4, h5, h6, h7, h8, h9, hpl⟩, ⟨bk, hbk, pk, k11, k12, k13, k14, k15, k16, k17, k18, k19, hpk⟩, ⟨h20, h21, h22, h23, h24⟩, ⟨tt, ops, cd, kk, pp, ff, h25, h26, h27, h28, htp, ht60⟩, ⟨h29, h30, h31⟩, ⟨⟨oc, hoc⟩, h37, h38, h39⟩, hsx, ⟨B0, B1, B2, h50, h51, h52⟩⟩ := id h
    have hl8 := hw.1
    refine v_iload_n 0 dX6_read_29 rfl rfl ?_
    refine v_aload_n 2 dX6_read_30 rfl rfl ?_
    refine v_get fl_X6_33 dX6_read_31 h0 rfl ?_
    refine v_get fl_X6_353 dX6_read_34 h25b rfl ?_
    refine v_icmp_ge (tgt := 63) dX6_read_37 (by decide) (fun hc37 => ?_) (fun hc37 => ?_)
    ·
      refine v_aload_n 2 dX6_read_63 rfl rfl ?_
      refine v_get fl_X6_40 dX6_read_64 h0 rfl ?_
      refine v_iconst (v := 1) dX6_read_67 (by first | rfl | decide) ?_
      refine v_aload_n 2 dX6_read_68 rfl rfl ?_
      refine v_get fl_X6_33 dX6_read_69 h0 rfl ?_
      refine v_get fl_X6_362 dX6_read_72 h25b rfl ?_
      refine v_callV (c_X5_note (d + 15) h29 h30 h31 (show w.1 < 4 by omega)) cs_X6_359 dX6_read_75 h29 rfl rfl (Nat.le_of_ble_eq_true rfl) ?_
      refine rt_k ?_
      refine v_bipush (v := -100) dX6_read_78 (by first | rfl | decide) ?_
      refine v_aload_n 2 dX6_read_80 rfl rfl ?_
      refine v_get fl_X6_33 dX6_read_81 (up_n (by decide) (up_n (by decide) (up_n (by decide) h0))) rfl ?_
      refine v_get fl_X6_362 dX6_read_84 (up_n (by decide) (up_n (by decide) (up_n (by decide) h25b))) rfl ?_
      refine v_isub dX6_read_87 ?_
      refine v_iret dX6_read_88 rfl (by first | rfl | decide | exact nar_b (by first | assumption | rfl)) ?_
      rw [List.drop_of_length_le (show s.2.1.length ≤ j by omega)]
      exact ⟨rfl, (Cl.note h (w.1 + 1) (upd w.2.1 w.1 1) (upd w.2.2 w.1 (nI s.1))), fun i hi => (show _ = μ i by repeat (first | rfl | refine up_n (by omega) ?_)).trans (hF i hi)⟩
    · exact absurd ((nI_leI (by omega) (by omega)).mpr (by omega)) hc37
  | succ k9 ih =>
    intro j w μ hj hwj h hF h25b h27b
    obtain ⟨h0, ⟨p, h1, h2, h3, h4, h5, h6, h7, h8, h9, hpl⟩, ⟨bk, hbk, pk, k11, k12, k13, k14, k15, k16, k17, k18, k19, hpk⟩, ⟨h20, h21, h22, h23, h24⟩, ⟨tt, ops, cd, kk, pp, ff, h25, h26, h27, h28, htp, ht60⟩, ⟨h29, h30, h31⟩, ⟨⟨oc, hoc⟩, h37, h38, h39⟩, hsx, ⟨B0, B1, B2, h50, h51, h52⟩⟩ := id h
    have hl8 := hw.1
    refine v_iload_n 0 dX6_read_29 rfl rfl ?_
    refine v_aload_n 2 dX6_read_30 rfl rfl ?_
    refine v_get fl_X6_33 dX6_read_31 h0 rfl ?_
    refine v_get fl_X6_353 dX6_read_34 h25b rfl ?_
    refine v_icmp_ge (tgt := 63) dX6_read_37 (by decide) (fun hc37 => ?_) (fun hc37 => ?_)
    · have := (nI_leI (by omega) (by omega)).mp hc37
      omega
    ·
      refine v_aload_n 2 dX6_read_40 rfl rfl ?_
      refine v_get fl_X6_40 dX6_read_41 h0 rfl ?_
      refine v_iconst (v := 2) dX6_read_44 (by first | rfl | decide) ?_
      refine v_aload_n 2 dX6_read_45 rfl rfl ?_
      refine v_get fl_X6_33 dX6_read_46 h0 rfl ?_
      refine v_get fl_X6_356 dX6_read_49 h25b rfl ?_
      refine v_iload_n 0 dX6_read_52 rfl rfl ?_
      refine v_iald dX6_read_53 h27b (nI_in' (by omega)) ?_
      rw [clamp (show j < 2 ^ 31 by omega), hop j (by omega)]
      refine v_callV (c_X5_note (d + 15) h29 h30 h31 (show w.1 < 4 by omega)) cs_X6_359 dX6_read_54 h29 rfl rfl (Nat.le_of_ble_eq_true rfl) ?_
      refine rt_k ?_
      refine v_iinc (v := 1) 0 dX6_read_57 rfl rfl (by decide) (fun z e_z => ?_)
      refine v_ls (ls' := [(2, .int z), (1, .int y1), (0, .ref 0)]) rfl ?_
      rw [nI_1] at e_z
      subst e_z
      refine v_goto (tgt := 29) dX6_read_60 (by decide) ?_
      rw [drop_n (show j < s.2.1.length by omega), List.foldl_cons]
      exact ih (j + 1) (notW w 2 (nI (s.2.1.getD j 0))) _ (by omega) (by show w.1 + 1 = j + 1; omega) (Cl.note h (w.1 + 1) (upd w.2.1 w.1 2) (upd w.2.2 w.1 (nI (s.2.1.getD j 0)))) (fun i hi => (show _ = μ i by repeat (first | rfl | refine up_n (by omega) ?_)).trans (hF i hi)) (up_n (by decide) (up_n (by decide) (up_n (by decide) h25b))) (up_n (by decide) (up_n (by decide) (up_n (by decide) h27b)))
      

set_option maxRecDepth 20000 in
set_option maxHeartbeats 4000000 in
theorem c_X6_read {G : Cx} (d : Nat) {μ : Hp} {σ : ST}  (h : Cl σ μ) (hw : Wp (sP σ)) (hT : ∀ c ∈ sT σ, 0 < c ∧ c < 128) : Ct G (d + 16) 0 0 M_X6_read [.ref 0] μ (Po ((rRead σ).2) (.int ((rRead σ).1)) μ) := by
  refine Ct.ofV (by decide +kernel) (Nat.le_of_ble_eq_true rfl) ?_
  refine v_ls (ls' := [(0, .ref 0)]) rfl ?_
  obtain ⟨h0, ⟨p, h1, h2, h3, h4, h5, h6, h7, h8, h9, hpl⟩, ⟨bk, hbk, pk, k11, k12, k13, k14, k15, k16, k17, k18, k19, hpk⟩, ⟨h20, h21, h22, h23, h24⟩, ⟨tt, ops, cd, kk, pp, ff, h25, h26, h27, h28, htp, ht60⟩, ⟨h29, h30, h31⟩, ⟨⟨oc, hoc⟩, h37, h38, h39⟩, hsx, ⟨B0, B1, B2, h50, h51, h52⟩⟩ := id h
  have hl8 := hw.1
  refine v_aload_n 0 dX6_read_0 rfl rfl ?_
  refine v_get fl_X6_33 dX6_read_1 h0 rfl ?_
  refine v_callV (c_readsT d hT h25 h26 h27 h28 htp ht60) cs_X6_349 dX6_read_4 h25 rfl rfl (Nat.le_of_ble_eq_true rfl) ?_
  obtain ⟨hx3, hx4⟩ := txt_ok (sT σ)
  generalize hx : txtP (sT σ) = x at hx3 hx4
  obtain ⟨b, s2⟩ := x
  rintro _ m2 ⟨rfl, hRd, hfr⟩
  obtain ⟨t1, ops1, cd1, g25, g26, g27, g28, hp1, -, hkl1, hop1, h81⟩ := id hRd
  have hx3 : s2.2.1.length ≤ 3 := hx3
  have hx4 : s2.2.2.length ≤ s2.1 * 64 := hx4
  have hkl1 : s2.1 ≤ (sT σ).length := hkl1
  have hop1 : ∀ j, j < s2.2.1.length → ops1 j = nI (s2.2.1.getD j 0) := hop1
  have h81 : C8 s2.2.2 cd1 := h81
  refine v_istore_n dX6_read_7 rfl (by decide) (fun y1 e_y1 => ?_)
  refine v_ls (ls' := [(1, .int y1), (0, .ref 0)]) rfl ?_
  refine v_aload_n 1 dX6_read_8 rfl rfl ?_
  refine v_get fl_X6_33 dX6_read_9 ((hfr 0 (by omega)).trans h0) rfl ?_
  refine v_iconst (v := 0) dX6_read_12 (by first | rfl | decide) ?_
  refine v_put fp_X6_343 dX6_read_13 g25 (Nat.le_of_ble_eq_true rfl) (by first | rfl | decide) (by first | rfl | decide) ?_
  have hX : Cl (toT σ []) (up m2 25 (redC 0 (nI s2.1) (nI s2.2.1.length) (nI s2.2.2.length))) := Cl.read h (fun i hi => (up_n (by omega) rfl).trans (hfr i hi)) ⟨t1, ops1, cd1, _, _, _, up_s _ _ _, up_n (by decide) g26, up_n (by decide) g27, up_n (by decide) g28, fun j hj => absurd hj (Nat.not_lt_zero j), Nat.zero_le _⟩
  refine v_iload_n 0 dX6_read_16 rfl rfl ?_
  refine v_if_ne (tgt := 89) dX6_read_17 (by decide) (fun hc17 => ?_) (fun hc17 => ?_)
  ·
    obtain rfl : b = true := by
      cases b with
      | true => rfl
      | false => exact absurd (e_y1.trans rfl) hc17
    refine v_aload_n 1 dX6_read_89 rfl rfl ?_
    refine v_get fl_X6_33 dX6_read_90 (up_n (by decide) ((hfr 0 (by omega)).trans h0)) rfl ?_
    refine v_get fl_X6_365 dX6_read_93 (up_s _ _ _) rfl ?_
    refine v_bipush (v := 8) dX6_read_96 (by first | rfl | decide) ?_
    refine v_icmp_le (tgt := 126) dX6_read_98 (by decide) (fun hc98 => ?_) (fun hc98 => ?_)
    ·
      have hn8 : s2.2.2.length ≤ 8 := (nI_leI (b := 8) (by omega) (by decide)).mp hc98
      have hE : rRead σ = (nI s2.2.2.length, toP (toT σ []) s2.2.2) := by unfold rRead; rw [hx]; exact if_neg (by omega)
      rw [hE]
      refine v_aload_n 1 dX6_read_126 rfl rfl ?_
      refine v_get fl_X6_33 dX6_read_127 (up_n (by decide) ((hfr 0 (by omega)).trans h0)) rfl ?_
      refine v_get fl_X6_368 dX6_read_130 (up_s _ _ _) rfl ?_
      refine v_iconst (v := 0) dX6_read_133 (by first | rfl | decide) ?_
      refine v_aload_n 1 dX6_read_134 rfl rfl ?_
      refine v_get fl_X6_12 dX6_read_135 (up_n (by decide) ((hfr 0 (by omega)).trans h0)) rfl ?_
      refine v_get fl_X6_118 dX6_read_138 (up_n (by decide) ((hfr 1 (by omega)).trans h1)) rfl ?_
      refine v_iconst (v := 0) dX6_read_141 (by first | rfl | decide) ?_
      refine v_bipush (v := 8) dX6_read_142 (by first | rfl | decide) ?_
      refine v_copyi cs_X6_371 dX6_read_144 (up_n (by decide) g28) (up_n (by decide) ((hfr 3 (by omega)).trans h3)) rfl rfl (by decide) (by decide) (by decide) (by decide) (by decide) (fun i _ => rfl) (Nat.le_of_ble_eq_true rfl) ?_
      skip
      refine v_aload_n 1 dX6_read_147 rfl rfl ?_
      refine v_get fl_X6_12 dX6_read_148 (up_n (by decide) (up_n (by decide) ((hfr 0 (by omega)).trans h0))) rfl ?_
      refine v_aload_n 1 dX6_read_151 rfl rfl ?_
      refine v_get fl_X6_33 dX6_read_152 (up_n (by decide) (up_n (by decide) ((hfr 0 (by omega)).trans h0))) rfl ?_
      refine v_get fl_X6_365 dX6_read_155 (up_n (by decide) (up_s _ _ _)) rfl ?_
      refine v_put fp_X6_140 dX6_read_158 (up_n (by decide) (up_n (by decide) ((hfr 1 (by omega)).trans h1))) (Nat.le_of_ble_eq_true rfl) (by first | rfl | decide) (by first | rfl | decide) ?_
      refine v_aload_n 1 dX6_read_161 rfl rfl ?_
      refine v_get fl_X6_12 dX6_read_162 (up_n (by decide) (up_n (by decide) (up_n (by decide) ((hfr 0 (by omega)).trans h0)))) rfl ?_
      refine v_get fl_X6_140 dX6_read_165 (up_s _ _ _) rfl ?_
      refine v_iret dX6_read_168 rfl (by first | rfl | decide | exact nar_b (by first | assumption | rfl)) ?_
      exact ⟨rfl, Cl.pile hX (fun j hj => by rw [show va_cpy cd1 p (Int32.toNatClampNeg 0) (Int32.toNatClampNeg 0) (Int32.toNatClampNeg 8) j = cd1 j from cpy_eq cd1 p 8 j (by omega), h81 j (by omega) hj, List.getD_eq_getElem?_getD, List.getElem?_eq_getElem hj]; rfl), (fun i hi => (show _ = m2 i by repeat (first | rfl | refine up_n (by omega) ?_)).trans (hfr i (by omega)))⟩
    ·
      have hn8 : 8 < s2.2.2.length := Nat.lt_of_not_le (fun z => hc98 ((nI_leI (b := 8) (by omega) (by decide)).mpr z))
      have hE : rRead σ = (-4, toW (toT σ []) (notW (0, (sW σ).2) 3 (nI s2.2.2.length))) := by unfold rRead; rw [hx]; exact if_pos hn8
      rw [hE]
      refine v_aload_n 1 dX6_read_101 rfl rfl ?_
      refine v_get fl_X6_40 dX6_read_102 (up_n (by decide) ((hfr 0 (by omega)).trans h0)) rfl ?_
      refine v_callV (c_X5_forget (d + 15) (up_n (by decide) ((hfr 29 (by omega)).trans h29))) cs_X6_352 dX6_read_105 (up_n (by decide) ((hfr 29 (by omega)).trans h29)) rfl rfl (Nat.le_of_ble_eq_true rfl) ?_
      refine rt_k ?_
      refine v_aload_n 1 dX6_read_108 rfl rfl ?_
      refine v_get fl_X6_40 dX6_read_109 (up_n (by decide) (up_n (by decide) ((hfr 0 (by omega)).trans h0))) rfl ?_
      refine v_iconst (v := 3) dX6_read_112 (by first | rfl | decide) ?_
      refine v_aload_n 1 dX6_read_113 rfl rfl ?_
      refine v_get fl_X6_33 dX6_read_114 (up_n (by decide) (up_n (by decide) ((hfr 0 (by omega)).trans h0))) rfl ?_
      refine v_get fl_X6_365 dX6_read_117 (up_n (by decide) (up_s _ _ _)) rfl ?_
      refine v_callV (c_X5_note (d + 15) (up_s _ _ _) (up_n (by decide) (up_n (by decide) ((hfr 30 (by omega)).trans h30))) (up_n (by decide) (up_n (by decide) ((hfr 31 (by omega)).trans h31))) (by decide)) cs_X6_359 dX6_read_120 (up_s _ _ _) rfl rfl (Nat.le_of_ble_eq_true rfl) ?_
      refine rt_k ?_
      refine v_bipush (v := -4) dX6_read_123 (by first | rfl | decide) ?_
      refine v_iret dX6_read_125 rfl (by first | rfl | decide | exact nar_b (by first | assumption | rfl)) ?_
      exact ⟨rfl, Cl.note (Cl.forget hX) 1 (upd (sW σ).2.1 0 3) (upd (sW σ).2.2 0 (nI s2.2.2.length)), (fun i hi => (show _ = m2 i by repeat (first | rfl | refine up_n (by omega) ?_)).trans (hfr i (by omega)))⟩
  ·
    obtain rfl : b = false := by
      cases b with
      | false => rfl
      | true => exact absurd (e_y1.symm.trans hc17) (show ¬ (1 : Int32) = 0 by decide)
    have hE : rRead σ = (-100 - nI s2.1, toW (toT σ []) (fltW (sW σ) s2)) := by unfold rRead; rw [hx]
    rw [hE]
    refine v_aload_n 1 dX6_read_20 rfl rfl ?_
    refine v_get fl_X6_40 dX6_read_21 (up_n (by decide) ((hfr 0 (by omega)).trans h0)) rfl ?_
    refine v_callV (c_X5_forget (d + 15) (up_n (by decide) ((hfr 29 (by omega)).trans h29))) cs_X6_352 dX6_read_24 (up_n (by decide) ((hfr 29 (by omega)).trans h29)) rfl rfl (Nat.le_of_ble_eq_true rfl) ?_
    refine rt_k ?_
    refine v_iconst (v := 0) dX6_read_27 (by first | rfl | decide) ?_
    refine v_istore_n dX6_read_28 rfl (by decide) (fun y2 e_y2 => ?_)
    refine v_ls (ls' := [(2, .int y2), (1, .int y1), (0, .ref 0)]) rfl ?_
    subst e_y2
    exact rd_loop (d + 0) (σ := toT σ []) (s := s2) hw hop1 hx3 s2.2.1.length 0 (0, (sW σ).2) _ (by omega) rfl (Cl.forget hX) (fun i hi => (show _ = m2 i by repeat (first | rfl | refine up_n (by omega) ?_)).trans (hfr i (by omega))) (up_n (by decide) (up_s _ _ _)) (up_n (by decide) (up_n (by decide) g27))
    

