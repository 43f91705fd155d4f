set_option maxRecDepth 20000 in
set_option maxHeartbeats 4000000 in
theorem c_X6_feed {G : Cx} (d : Nat) {μ : Hp} {σ : ST} {x : Int32} (h : Cl σ μ) (hw : Wp (sP σ)) : Ct G (d) 0 0 M_X6_feed [.ref 0, .int x] μ (Po ((rFeed σ x).2) (.int ((rFeed σ x).1)) μ) := by
  refine Ct.ofV (by decide +kernel) (Nat.le_of_ble_eq_true rfl) ?_
  refine v_ls (ls' := [(0, .ref 0), (1, .int x)]) rfl ?_
  obtain ⟨h0, ⟨p, h1, h2, h3, h4, h5, h6, h7, h8, h9, hpl⟩, ⟨bk, hbk, pk, k11, k12, k13, k14, k15, k16, k17, k18, k19, hpk⟩, ⟨h20, h21, h22, h23, h24⟩, ⟨tt, ops, cd, kk, pp, ff, h25, h26, h27, h28, htp, ht60⟩, ⟨h29, h30, h31⟩, ⟨⟨oc, hoc⟩, h37, h38, h39⟩, hsx, ⟨B0, B1, B2, h50, h51, h52⟩⟩ := id h
  have hl8 := hw.1
  refine v_iload_n 1 dX6_feed_0 rfl rfl ?_
  refine v_iconst (v := 1) dX6_feed_1 (by first | rfl | decide) ?_
  refine v_icmp_lt (tgt := 11) dX6_feed_2 (by decide) (fun hc2 => ?_) (fun hc2 => ?_)
  ·
    refine v_bipush (v := -2) dX6_feed_11 (by first | rfl | decide) ?_
    refine v_iret dX6_feed_13 rfl (by first | rfl | decide | exact nar_b (by first | assumption | rfl)) ?_
    have hE : rFeed σ x = (-2, σ) := by
      first | (simp only [rFeed, if_pos hc2, if_neg (Int32.not_le.mpr hc2)]; done) | grind [rFeed]
    rw [hE]
    exact ⟨rfl, h, Fo.rf μ⟩
  ·
    refine v_iload_n 1 dX6_feed_5 rfl rfl ?_
    refine v_bipush (v := 127) dX6_feed_6 (by first | rfl | decide) ?_
    refine v_icmp_le (tgt := 14) dX6_feed_8 (by decide) (fun hc8 => ?_) (fun hc8 => ?_)
    ·
      have hf : (nI (sT σ).length < 60) ↔ ¬ (sT σ).length = 60 := by
        rw [show (60 : Int32) = nI 60 from rfl, nI_ltI (by omega) (by decide)]
        omega
      refine v_aload_n 0 dX6_feed_14 rfl rfl ?_
      refine v_get fl_X6_33 dX6_feed_15 h0 rfl ?_
      refine v_get fl_X6_343 dX6_feed_18 h25 rfl ?_
      refine v_bipush (v := 60) dX6_feed_21 (by first | rfl | decide) ?_
      refine v_icmp_lt (tgt := 29) dX6_feed_23 (by decide) (fun hc23 => ?_) (fun hc23 => ?_)
      ·
        have hq := hf.mp hc23
        refine v_aload_n 0 dX6_feed_29 rfl rfl ?_
        refine v_get fl_X6_33 dX6_feed_30 h0 rfl ?_
        refine v_get fl_X6_346 dX6_feed_33 h25 rfl ?_
        refine v_aload_n 0 dX6_feed_36 rfl rfl ?_
        refine v_get fl_X6_33 dX6_feed_37 h0 rfl ?_
        refine v_get fl_X6_343 dX6_feed_40 h25 rfl ?_
        refine v_iload_n 1 dX6_feed_43 rfl rfl ?_
        refine v_iast dX6_feed_44 h26 (nI_in' (by omega)) ?_
        refine v_aload_n 0 dX6_feed_45 rfl rfl ?_
        refine v_get fl_X6_33 dX6_feed_46 (up_n (by decide) h0) rfl ?_
        refine v_dup dX6_feed_49 rfl ?_
        refine v_get fl_X6_343 dX6_feed_50 (up_n (by decide) h25) rfl ?_
        refine v_iconst (v := 1) dX6_feed_53 (by first | rfl | decide) ?_
        refine v_iadd dX6_feed_54 ?_
        refine v_put fp_X6_343 dX6_feed_55 (up_n (by decide) h25) (Nat.le_of_ble_eq_true rfl) (by first | rfl | decide) (by first | rfl | decide) ?_
        refine v_aload_n 0 dX6_feed_58 rfl rfl ?_
        refine v_get fl_X6_33 dX6_feed_59 (up_n (by decide) (up_n (by decide) h0)) rfl ?_
        refine v_get fl_X6_343 dX6_feed_62 (up_s _ _ _) rfl ?_
        refine v_iret dX6_feed_65 rfl (by first | rfl | decide | exact nar_b (by first | assumption | rfl)) ?_
        have hE : rFeed σ x = (nI ((sT σ).length + 1), toT σ (sT σ ++ [x])) := by simp only [rFeed, if_neg hc2, if_pos (Int32.not_lt.mp hc2), if_pos hc8, if_neg (Int32.not_lt.mpr hc8), if_pos hc23, if_neg (Int32.not_le.mpr hc23), if_neg hq]
        rw [hE]
        have hl2 : (sT σ ++ [x]).length = (sT σ).length + 1 := by rw [List.length_append]; rfl
        refine ⟨by rw [nI_1], ?_, fun i hi => by repeat (first | rfl | refine up_n (by omega) ?_)⟩
        rw [clamp (by omega), nI_1]
        have := h.feed (k := kk) (p := pp) (f := ff) (htp.app x) (by omega)
        rw [hl2] at this
        exact this
      ·
        refine v_bipush (v := -4) dX6_feed_26 (by first | rfl | decide) ?_
        refine v_iret dX6_feed_28 rfl (by first | rfl | decide | exact nar_b (by first | assumption | rfl)) ?_
        have hq : (sT σ).length = 60 := by
          by_cases e : (sT σ).length = 60
          · exact e
          · exact absurd (hf.mpr e) hc23
        have hE : rFeed σ x = (-4, σ) := by
          first | (simp only [rFeed, if_neg hc2, if_pos (Int32.not_lt.mp hc2), if_pos hc8, if_neg (Int32.not_lt.mpr hc8), if_neg hc23, if_pos (Int32.not_lt.mp hc23), if_pos hq]; done) | grind [rFeed]
        rw [hE]
        exact ⟨rfl, h, Fo.rf μ⟩
    ·
      refine v_bipush (v := -2) dX6_feed_11 (by first | rfl | decide) ?_
      refine v_iret dX6_feed_13 rfl (by first | rfl | decide | exact nar_b (by first | assumption | rfl)) ?_
      have hE : rFeed σ x = (-2, σ) := by
        first | (simp only [rFeed, if_neg hc2, if_pos (Int32.not_lt.mp hc2), if_neg hc8, if_pos (Int32.not_le.mp hc8)]; done) | grind [rFeed]
      rw [hE]
      exact ⟨rfl, h, Fo.rf μ⟩

set_option maxRecDepth 20000 in
set_option maxHeartbeats 4000000 in
theorem c_X6_wipe {G : Cx} (d : Nat) {μ : Hp} {σ : ST}  (h : Cl σ μ) (hw : Wp (sP σ)) : Ct G (d) 0 0 M_X6_wipe [.ref 0] μ (Po ((rWipe σ).2) (.int ((rWipe σ).1)) μ) := by
  refine Ct.ofV (by decide +kernel) (Nat.le_of_ble_eq_true rfl) ?_
  refine v_ls (ls' := [(0, .ref 0)]) rfl ?_
  obtain ⟨h0, ⟨p, h1, h2, h3, h4, h5, h6, h7, h8, h9, hpl⟩, ⟨bk, hbk, pk, k11, k12, k13, k14, k15, k16, k17, k18, k19, hpk⟩, ⟨h20, h21, h22, h23, h24⟩, ⟨tt, ops, cd, kk, pp, ff, h25, h26, h27, h28, htp, ht60⟩, ⟨h29, h30, h31⟩, ⟨⟨oc, hoc⟩, h37, h38, h39⟩, hsx, ⟨B0, B1, B2, h50, h51, h52⟩⟩ := id h
  have hl8 := hw.1
  refine v_aload_n 0 dX6_wipe_0 rfl rfl ?_
  refine v_get fl_X6_33 dX6_wipe_1 h0 rfl ?_
  refine v_get fl_X6_343 dX6_wipe_4 h25 rfl ?_
  refine v_istore_n dX6_wipe_7 rfl (by decide) (fun x1_1 e_x1_1 => ?_)
  refine v_ls (ls' := [(1, .int x1_1), (0, .ref 0)]) rfl ?_
  subst e_x1_1
  refine v_aload_n 1 dX6_wipe_8 rfl rfl ?_
  refine v_get fl_X6_33 dX6_wipe_9 h0 rfl ?_
  refine v_iconst (v := 0) dX6_wipe_12 (by first | rfl | decide) ?_
  refine v_put fp_X6_343 dX6_wipe_13 h25 (Nat.le_of_ble_eq_true rfl) (by first | rfl | decide) (by first | rfl | decide) ?_
  refine v_iload_n 0 dX6_wipe_16 rfl rfl ?_
  refine v_iret dX6_wipe_17 rfl (by first | rfl | decide | exact nar_b (by first | assumption | rfl)) ?_
  exact ⟨rfl, h.wipe, fun i hi => by repeat (first | rfl | refine up_n (by omega) ?_)⟩

/-- TROUBLES: no more than four -/
def Ww (w : Nat × (Nat → Int32) × (Nat → Int32)) : Prop := w.1 ≤ 4
set_option maxRecDepth 20000 in
set_option maxHeartbeats 4000000 in
theorem c_X6_why {G : Cx} (d : Nat) {μ : Hp} {σ : ST} {i : Int32} {w : Int32} (h : Cl σ μ) (hw : Wp (sP σ)) (hww : Ww (sW σ)) : Ct G (d) 0 0 M_X6_why [.ref 0, .int i, .int w] μ (Rt (some (.int (rWhy σ i w))) μ) := by
  refine Ct.ofV (by decide +kernel) (Nat.le_of_ble_eq_true rfl) ?_
  refine v_ls (ls' := [(0, .ref 0), (1, .int i), (2, .int w)]) rfl ?_
  obtain ⟨h0, ⟨p, h1, h2, h3, h4, h5, h6, h7, h8, h9, hpl⟩, ⟨bk, hbk, pk, k11, k12, k13, k14, k15, k16, k17, k18, k19, hpk⟩, ⟨h20, h21, h22, h23, h24⟩, ⟨tt, ops, cd, kk, pp, ff, h25, h26, h27, h28, htp, ht60⟩, ⟨h29, h30, h31⟩, ⟨⟨oc, hoc⟩, h37, h38, h39⟩, hsx, ⟨B0, B1, B2, h50, h51, h52⟩⟩ := id h
  have hl8 := hw.1
  have hww : (sW σ).1 ≤ 4 := hww
  refine v_iload_n 1 dX6_why_0 rfl rfl ?_
  refine v_if_lt (tgt := 13) dX6_why_1 (by decide) (fun hc1 => ?_) (fun hc1 => ?_)
  ·
    refine v_iconst (v := -1) dX6_why_13 (by first | rfl | decide) ?_
    refine v_iret dX6_why_14 rfl (by first | rfl | decide | exact nar_b (by first | assumption | rfl)) ?_
    exact ⟨by simp only [rWhy]; grind, rfl⟩
  ·
    refine v_iload_n 2 dX6_why_4 rfl rfl ?_
    refine v_if_lt (tgt := 13) dX6_why_5 (by decide) (fun hc5 => ?_) (fun hc5 => ?_)
    ·
      refine v_iconst (v := -1) dX6_why_13 (by first | rfl | decide) ?_
      refine v_iret dX6_why_14 rfl (by first | rfl | decide | exact nar_b (by first | assumption | rfl)) ?_
      exact ⟨by simp only [rWhy]; grind, rfl⟩
    ·
      refine v_iload_n 2 dX6_why_8 rfl rfl ?_
      refine v_iconst (v := 1) dX6_why_9 (by first | rfl | decide) ?_
      refine v_icmp_le (tgt := 15) dX6_why_10 (by decide) (fun hc10 => ?_) (fun hc10 => ?_)
      ·
        refine v_iload_n 1 dX6_why_15 rfl rfl ?_
        refine v_aload_n 0 dX6_why_16 rfl rfl ?_
        refine v_get fl_X6_40 dX6_why_17 h0 rfl ?_
        refine v_get fl_X6_377 dX6_why_20 h29 rfl ?_
        refine v_icmp_lt (tgt := 29) dX6_why_23 (by decide) (fun hc23 => ?_) (fun hc23 => ?_)
        ·
          have hw1 : ¬ inO w 2 = 0 := by grind
          have hbi : vp_in i 4 := by
            obtain ⟨k, hk, rfl⟩ := nI_of hc1
            have := (nI_ltI hk (by omega)).mp hc23
            exact nI_in' (by omega)
          refine v_iload_n 2 dX6_why_29 rfl rfl ?_
          refine v_if_ne (tgt := 45) dX6_why_30 (by decide) (fun hc30 => ?_) (fun hc30 => ?_)
          ·
            refine v_aload_n 0 dX6_why_45 rfl rfl ?_
            refine v_get fl_X6_40 dX6_why_46 h0 rfl ?_
            refine v_get fl_X6_381 dX6_why_49 h29 rfl ?_
            refine v_iload_n 1 dX6_why_52 rfl rfl ?_
            refine v_iald dX6_why_53 h31 (hbi) ?_
            refine v_iret dX6_why_54 rfl (by first | rfl | decide | exact nar_b (by first | assumption | rfl)) ?_
            exact ⟨by simp only [rWhy, if_neg hc1, if_neg hw1, if_neg (Int32.not_le.mpr hc23), if_neg hc30], rfl⟩
          ·
            refine v_aload_n 0 dX6_why_33 rfl rfl ?_
            refine v_get fl_X6_40 dX6_why_34 h0 rfl ?_
            refine v_get fl_X6_378 dX6_why_37 h29 rfl ?_
            refine v_iload_n 1 dX6_why_40 rfl rfl ?_
            refine v_iald dX6_why_41 h30 (hbi) ?_
            refine v_goto (tgt := 54) dX6_why_42 (by decide) ?_
            refine v_iret dX6_why_54 rfl (by first | rfl | decide | exact nar_b (by first | assumption | rfl)) ?_
            exact ⟨by simp only [rWhy, if_neg hc1, if_neg hw1, if_neg (Int32.not_le.mpr hc23), if_pos hc30], rfl⟩
        ·
          refine v_bipush (v := -5) dX6_why_26 (by first | rfl | decide) ?_
          refine v_iret dX6_why_28 rfl (by first | rfl | decide | exact nar_b (by first | assumption | rfl)) ?_
          have hw1 : ¬ inO w 2 = 0 := by grind
          exact ⟨by simp only [rWhy, if_neg hc1, if_neg hw1, if_pos (Int32.not_lt.mp hc23)], rfl⟩
      ·
        refine v_iconst (v := -1) dX6_why_13 (by first | rfl | decide) ?_
        refine v_iret dX6_why_14 rfl (by first | rfl | decide | exact nar_b (by first | assumption | rfl)) ?_
        exact ⟨by simp only [rWhy]; grind, rfl⟩

theorem cpy_eq {A : Type} (f g : Nat → A) (n : Nat) : ∀ j, j < n → va_cpy f g 0 0 n j = f j := fun j hj => by
  unfold va_cpy
  rw [if_pos ⟨Nat.zero_le _, by omega⟩]
  congr 1
  omega
set_option maxRecDepth 20000 in
set_option maxHeartbeats 4000000 in
theorem c_X6_image {G : Cx} (d : Nat) {μ : Hp} {σ : ST}  (h : Cl σ μ) (hw : Wp (sP σ)) : Ct G (d + 3) 0 0 M_X6_image [.ref 0] μ (Po ((rImage σ).2) (.int ((rImage σ).1)) μ) := by
  refine Ct.ofV (by decide +kernel) (Nat.le_of_ble_eq_true rfl) ?_
  refine v_ls (ls' := [(0, .ref 0)]) rfl ?_
  obtain ⟨h0, ⟨p, h1, h2, h3, h4, h5, h6, h7, h8, h9, hpl⟩, ⟨bk, hbk, pk, k11, k12, k13, k14, k15, k16, k17, k18, k19, hpk⟩, ⟨h20, h21, h22, h23, h24⟩, ⟨tt, ops, cd, kk, pp, ff, h25, h26, h27, h28, htp, ht60⟩, ⟨h29, h30, h31⟩, ⟨⟨oc, hoc⟩, h37, h38, h39⟩, hsx, ⟨B0, B1, B2, h50, h51, h52⟩⟩ := id h
  have hl8 := hw.1
  refine v_aload_n 0 dX6_image_0 rfl rfl ?_
  refine v_get fl_X6_18 dX6_image_1 h0 rfl ?_
  refine v_aload_n 0 dX6_image_4 rfl rfl ?_
  refine v_get fl_X6_12 dX6_image_5 h0 rfl ?_
  refine v_callV (c_X0_takeFrom_11_1 d k11 k12 k13 k14 k15 k16 k17 k18 k19 h1 h2 h3 h4 h5 h6 h7 h8 h9) cs_X6_393 dX6_image_8 k11 rfl rfl (Nat.le_of_ble_eq_true rfl) ?_
  refine rt_k ?_
  refine v_nF (a := 14) (by repeat (first | exact up_s _ _ _ | refine up_n (by decide) ?_)) (cpy_eq _ _ _) ?_
  refine v_nI (a := 19) (by repeat (first | exact up_s _ _ _ | refine up_n (by decide) ?_)) (cpy_eq _ _ _) ?_
  refine v_nI (a := 16) (by repeat (first | exact up_s _ _ _ | refine up_n (by decide) ?_)) (cpy_eq _ _ _) ?_
  refine v_nI (a := 17) (by repeat (first | exact up_s _ _ _ | refine up_n (by decide) ?_)) (cpy_eq _ _ _) ?_
  refine v_nI (a := 18) (by repeat (first | exact up_s _ _ _ | refine up_n (by decide) ?_)) (cpy_eq _ _ _) ?_
  refine v_hp (μ' := (up (up (up (up (up (up (up (up μ 12 (ligL (sB σ).1)) 11 (benC 12 13 (nI (sB σ).2.1.length) 14 15 19)) 13 (arI 8 (va_cpy p pk 0 0 8))) 14 (arF 8 (sB σ).2.2.1)) 19 (arI 3 (sB σ).2.2.2.2)) 16 (arI 4 ((sB σ).2.2.2.1 0))) 17 (arI 4 ((sB σ).2.2.2.1 1))) 18 (arI 4 ((sB σ).2.2.2.1 2)))) (by
    funext i
    by_cases e1 : i = 14
    · subst e1; rfl
    by_cases e2 : i = 19
    · subst e2; rfl
    by_cases e3 : i = 16
    · subst e3; rfl
    by_cases e4 : i = 17
    · subst e4; rfl
    by_cases e5 : i = 18
    · subst e5; rfl
    simp only [up, if_neg e1, if_neg e2, if_neg e3, if_neg e4, if_neg e5]) ?_
  refine v_aload_n 0 dX6_image_11 rfl rfl ?_
  refine v_iconst (v := 1) dX6_image_12 (by first | rfl | decide) ?_
  refine v_put fp_X6_396 dX6_image_13 (up_n (by decide) (up_n (by decide) (up_n (by decide) (up_n (by decide) (up_n (by decide) (up_n (by decide) (up_n (by decide) (up_n (by decide) h0)))))))) (Nat.le_of_ble_eq_true rfl) (by first | rfl | decide) (by first | rfl | decide) ?_
  refine v_aload_n 0 dX6_image_16 rfl rfl ?_
  refine v_get fl_X6_12 dX6_image_17 (up_s _ _ _) rfl ?_
  refine v_get fl_X6_140 dX6_image_20 (up_n (by decide) (up_n (by decide) (up_n (by decide) (up_n (by decide) (up_n (by decide) (up_n (by decide) (up_n (by decide) (up_n (by decide) (up_n (by decide) h1))))))))) rfl ?_
  refine v_iret dX6_image_23 rfl (by first | rfl | decide | exact nar_b (by first | assumption | rfl)) ?_
  have hpc : Pl (sB σ).2.1 (va_cpy p pk 0 0 8) := fun j hj => by
    rw [cpy_eq _ _ _ j (by have : j < (sP σ).length := hj; omega)]
    exact hpl j hj
  exact ⟨rfl, h.image hpc, fun i hi => by repeat (first | rfl | refine up_n (by omega) ?_)⟩

set_option maxRecDepth 20000 in
set_option maxHeartbeats 4000000 in
theorem c_X6_undo {G : Cx} (d : Nat) {μ : Hp} {σ : ST}  (h : Cl σ μ) (hw : Wp (sP σ)) (hk8 : ∀ b, sI σ = some b → b.2.1.length ≤ 8) : Ct G (d + 3) 0 0 M_X6_undo [.ref 0] μ (Po ((rUndo σ).2) (.int ((rUndo σ).1)) μ) := by
  refine Ct.ofV (by decide +kernel) (Nat.le_of_ble_eq_true rfl) ?_
  refine v_ls (ls' := [(0, .ref 0)]) rfl ?_
  obtain ⟨h0, ⟨p, h1, h2, h3, h4, h5, h6, h7, h8, h9, hpl⟩, ⟨bk, hbk, pk, k11, k12, k13, k14, k15, k16, k17, k18, k19, hpk⟩, ⟨h20, h21, h22, h23, h24⟩, ⟨tt, ops, cd, kk, pp, ff, h25, h26, h27, h28, htp, ht60⟩, ⟨h29, h30, h31⟩, ⟨⟨oc, hoc⟩, h37, h38, h39⟩, hsx, ⟨B0, B1, B2, h50, h51, h52⟩⟩ := id h
  have hl8 := hw.1
  refine v_aload_n 0 dX6_undo_0 rfl rfl ?_
  refine v_get fl_X6_396 dX6_undo_1 h0 rfl ?_
  refine v_if_ne (tgt := 10) dX6_undo_4 (by decide) (fun hc4 => ?_) (fun hc4 => ?_)
  ·
    obtain ⟨b9, hi9⟩ : ∃ b, sI σ = some b := by
      cases hi8 : sI σ with
      | none => rw [hi8] at hc4; exact absurd rfl hc4
      | some b => exact ⟨b, rfl⟩
    obtain rfl := hbk b9 hi9
    have hE : rUndo σ = (nI bk.2.1.length, toB σ bk) := by
      unfold rUndo
      rw [hi9]
    rw [hE]
    refine v_aload_n 0 dX6_undo_10 rfl rfl ?_
    refine v_get fl_X6_12 dX6_undo_11 h0 rfl ?_
    refine v_aload_n 0 dX6_undo_14 rfl rfl ?_
    refine v_get fl_X6_18 dX6_undo_15 h0 rfl ?_
    refine v_callV (c_X0_takeFrom_1_11 d h1 h2 h3 h4 h5 h6 h7 h8 h9 k11 k12 k13 k14 k15 k16 k17 k18 k19) cs_X6_393 dX6_undo_18 h1 rfl rfl (Nat.le_of_ble_eq_true rfl) ?_
    refine rt_k ?_
    refine v_nF (a := 4) (by repeat (first | exact up_s _ _ _ | refine up_n (by decide) ?_)) (cpy_eq _ _ _) ?_
    refine v_nI (a := 9) (by repeat (first | exact up_s _ _ _ | refine up_n (by decide) ?_)) (cpy_eq _ _ _) ?_
    refine v_nI (a := 6) (by repeat (first | exact up_s _ _ _ | refine up_n (by decide) ?_)) (cpy_eq _ _ _) ?_
    refine v_nI (a := 7) (by repeat (first | exact up_s _ _ _ | refine up_n (by decide) ?_)) (cpy_eq _ _ _) ?_
    refine v_nI (a := 8) (by repeat (first | exact up_s _ _ _ | refine up_n (by decide) ?_)) (cpy_eq _ _ _) ?_
    refine v_hp (μ' := (up (up (up (up (up (up (up (up μ 2 (ligL bk.1)) 1 (benC 2 3 (nI bk.2.1.length) 4 5 9)) 3 (arI 8 (va_cpy pk p 0 0 8))) 4 (arF 8 bk.2.2.1)) 9 (arI 3 bk.2.2.2.2)) 6 (arI 4 (bk.2.2.2.1 0))) 7 (arI 4 (bk.2.2.2.1 1))) 8 (arI 4 (bk.2.2.2.1 2)))) (by
      funext i
      by_cases e1 : i = 4
      · subst e1; rfl
      by_cases e2 : i = 9
      · subst e2; rfl
      by_cases e3 : i = 6
      · subst e3; rfl
      by_cases e4 : i = 7
      · subst e4; rfl
      by_cases e5 : i = 8
      · subst e5; rfl
      simp only [up, if_neg e1, if_neg e2, if_neg e3, if_neg e4, if_neg e5]) ?_
    refine v_aload_n 0 dX6_undo_21 rfl rfl ?_
    refine v_get fl_X6_12 dX6_undo_22 (up_n (by decide) (up_n (by decide) (up_n (by decide) (up_n (by decide) (up_n (by decide) (up_n (by decide) (up_n (by decide) (up_n (by decide) h0)))))))) rfl ?_
    refine v_get fl_X6_140 dX6_undo_25 (up_n (by decide) (up_n (by decide) (up_n (by decide) (up_n (by decide) (up_n (by decide) (up_n (by decide) (up_s _ _ _))))))) rfl ?_
    refine v_iret dX6_undo_28 rfl (by first | rfl | decide | exact nar_b (by first | assumption | rfl)) ?_
    have hpc : Pl bk.2.1 (va_cpy pk p 0 0 8) := fun j hj => by
      rw [cpy_eq _ _ _ j (by have := hk8 bk hi9; omega)]
      exact hpk j hj
    exact ⟨rfl, h.undo hpc, fun i hi => by repeat (first | rfl | refine up_n (by omega) ?_)⟩
  ·
    refine v_bipush (v := -3) dX6_undo_7 (by first | rfl | decide) ?_
    refine v_iret dX6_undo_9 rfl (by first | rfl | decide | exact nar_b (by first | assumption | rfl)) ?_
    have hE : rUndo σ = (-3, σ) := by
      unfold rUndo
      cases hi9 : sI σ with
      | none => rfl
      | some b => rw [hi9] at hc4; exact absurd hc4 (show ¬ (1 : Int32) = 0 by decide)
    rw [hE]
    exact ⟨rfl, h, Fo.rf μ⟩

set_option maxRecDepth 20000 in
set_option maxHeartbeats 4000000 in
theorem c_X6_count {G : Cx} (d : Nat) {μ : Hp} {σ : ST} {w : Int32} (h : Cl σ μ) (hw : Wp (sP σ)) : Ct G (d + 1) 0 0 M_X6_count [.ref 0, .int w] μ (Rt (some (.int (rCount σ w))) μ) := by
  refine Ct.ofV (by decide +kernel) (Nat.le_of_ble_eq_true rfl) ?_
  refine v_ls (ls' := [(0, .ref 0), (1, .int w)]) rfl ?_
  obtain ⟨h0, ⟨p, h1, h2, h3, h4, h5, h6, h7, h8, h9, hpl⟩, ⟨bk, hbk, pk, k11, k12, k13, k14, k15, k16, k17, k18, k19, hpk⟩, ⟨h20, h21, h22, h23, h24⟩, ⟨tt, ops, cd, kk, pp, ff, h25, h26, h27, h28, htp, ht60⟩, ⟨h29, h30, h31⟩, ⟨⟨oc, hoc⟩, h37, h38, h39⟩, hsx, ⟨B0, B1, B2, h50, h51, h52⟩⟩ := id h
  have hl8 := hw.1
  refine v_iload_n 1 dX6_count_0 rfl rfl ?_
  by_cases cl1 : (w).toInt < 0
  · refine v_tableOut (tgt := 95) dX6_count_1 (Or.inl cl1) (by decide) ?_
    have cs1_0 : ¬ w = 0 := sw_lo cl1 (by decide)
    have cs1_1 : ¬ w = 1 := sw_lo cl1 (by decide)
    have cs1_2 : ¬ w = 2 := sw_lo cl1 (by decide)
    have cs1_3 : ¬ w = 3 := sw_lo cl1 (by decide)
    have cs1_4 : ¬ w = 4 := sw_lo cl1 (by decide)
    refine v_iconst (v := -1) dX6_count_95 (by first | rfl | decide) ?_
    refine v_iret dX6_count_96 rfl (by first | rfl | decide | exact nar_b (by first | assumption | rfl)) ?_
    exact ⟨by simp only [rCount, if_neg cs1_0, if_neg cs1_1, if_neg cs1_2, if_neg cs1_3, if_neg cs1_4], rfl⟩
  by_cases ch1 : 4 < (w).toInt
  · refine v_tableOut (tgt := 95) dX6_count_1 (Or.inr ch1) (by decide) ?_
    have cs1_0 : ¬ w = 0 := sw_hi ch1 (by decide)
    have cs1_1 : ¬ w = 1 := sw_hi ch1 (by decide)
    have cs1_2 : ¬ w = 2 := sw_hi ch1 (by decide)
    have cs1_3 : ¬ w = 3 := sw_hi ch1 (by decide)
    have cs1_4 : ¬ w = 4 := sw_hi ch1 (by decide)
    refine v_iconst (v := -1) dX6_count_95 (by first | rfl | decide) ?_
    refine v_iret dX6_count_96 rfl (by first | rfl | decide | exact nar_b (by first | assumption | rfl)) ?_
    exact ⟨by simp only [rCount, if_neg cs1_0, if_neg cs1_1, if_neg cs1_2, if_neg cs1_3, if_neg cs1_4], rfl⟩
  by_cases cs1_0 : w = 0
  · refine v_tableIn (off := 35) (tgt := 36) dX6_count_1 cl1 ch1 (by rw [cs1_0]; rfl) (by decide) ?_
    refine v_aload_n 0 dX6_count_36 rfl rfl ?_
    refine v_get fl_X6_12 dX6_count_37 h0 rfl ?_
    refine v_get fl_X6_140 dX6_count_40 h1 rfl ?_
    refine v_iret dX6_count_43 rfl (by first | rfl | decide | exact nar_b (by first | assumption | rfl)) ?_
    exact ⟨by simp only [rCount, if_pos cs1_0], rfl⟩
  by_cases cs1_1 : w = 1
  · refine v_tableIn (off := 43) (tgt := 44) dX6_count_1 cl1 ch1 (by rw [cs1_1]; rfl) (by decide) ?_
    refine v_aload_n 0 dX6_count_44 rfl rfl ?_
    refine v_get fl_X6_33 dX6_count_45 h0 rfl ?_
    refine v_get fl_X6_343 dX6_count_48 h25 rfl ?_
    refine v_iret dX6_count_51 rfl (by first | rfl | decide | exact nar_b (by first | assumption | rfl)) ?_
    exact ⟨by simp only [rCount, if_neg cs1_0, if_pos cs1_1], rfl⟩
  by_cases cs1_2 : w = 2
  · refine v_tableIn (off := 51) (tgt := 52) dX6_count_1 cl1 ch1 (by rw [cs1_2]; rfl) (by decide) ?_
    refine v_aload_n 0 dX6_count_52 rfl rfl ?_
    refine v_get fl_X6_40 dX6_count_53 h0 rfl ?_
    refine v_get fl_X6_377 dX6_count_56 h29 rfl ?_
    refine v_iret dX6_count_59 rfl (by first | rfl | decide | exact nar_b (by first | assumption | rfl)) ?_
    exact ⟨by simp only [rCount, if_neg cs1_0, if_neg cs1_1, if_pos cs1_2], rfl⟩
  by_cases cs1_3 : w = 3
  · refine v_tableIn (off := 59) (tgt := 60) dX6_count_1 cl1 ch1 (by rw [cs1_3]; rfl) (by decide) ?_
    refine v_aload_n 0 dX6_count_60 rfl rfl ?_
    refine v_get fl_X6_12 dX6_count_61 h0 rfl ?_
    refine v_iconst (v := 0) dX6_count_64 (by first | rfl | decide) ?_
    refine v_callV (c_X0_racked d (rk := 0) h1 h5 h6 (by decide)) cs_X6_340 dX6_count_65 h1 rfl rfl (Nat.le_of_ble_eq_true rfl) ?_
    refine rt_k ?_
    refine v_aload_n 0 dX6_count_68 rfl rfl ?_
    refine v_get fl_X6_12 dX6_count_69 h0 rfl ?_
    refine v_iconst (v := 1) dX6_count_72 (by first | rfl | decide) ?_
    refine v_callV (c_X0_racked d (rk := 1) h1 h5 h7 (by decide)) cs_X6_340 dX6_count_73 h1 rfl rfl (Nat.le_of_ble_eq_true rfl) ?_
    refine rt_k ?_
    refine v_iadd dX6_count_76 ?_
    refine v_aload_n 0 dX6_count_77 rfl rfl ?_
    refine v_get fl_X6_12 dX6_count_78 h0 rfl ?_
    refine v_iconst (v := 2) dX6_count_81 (by first | rfl | decide) ?_
    refine v_callV (c_X0_racked d (rk := 2) h1 h5 h8 (by decide)) cs_X6_340 dX6_count_82 h1 rfl rfl (Nat.le_of_ble_eq_true rfl) ?_
    refine rt_k ?_
    refine v_iadd dX6_count_85 ?_
    refine v_iret dX6_count_86 rfl (by first | rfl | decide | exact nar_b (by first | assumption | rfl)) ?_
    exact ⟨by simp only [rCount, if_neg cs1_0, if_neg cs1_1, if_neg cs1_2, if_pos cs1_3], rfl⟩
  by_cases cs1_4 : w = 4
  · refine v_tableIn (off := 86) (tgt := 87) dX6_count_1 cl1 ch1 (by rw [cs1_4]; rfl) (by decide) ?_
    refine v_aload_n 0 dX6_count_87 rfl rfl ?_
    refine v_get fl_X6_12 dX6_count_88 h0 rfl ?_
    refine v_callV (c_X0_litCells d h1 h4) cs_X6_400 dX6_count_91 h1 rfl rfl (Nat.le_of_ble_eq_true rfl) ?_
    refine rt_k ?_
    refine v_iret dX6_count_94 rfl (by first | rfl | decide | exact nar_b (by first | assumption | rfl)) ?_
    exact ⟨by simp only [rCount, if_neg cs1_0, if_neg cs1_1, if_neg cs1_2, if_neg cs1_3, if_pos cs1_4], rfl⟩
  exfalso
  have q1_0 := lv_neT (a := 0) cs1_0 (by decide)
  have q1_1 := lv_neT (a := 1) cs1_1 (by decide)
  have q1_2 := lv_neT (a := 2) cs1_2 (by decide)
  have q1_3 := lv_neT (a := 3) cs1_3 (by decide)
  have q1_4 := lv_neT (a := 4) cs1_4 (by decide)
  omega

