theorem i2c_7 {x : Int32} (h1 : 0 < x) (h2 : x < 128) : (x.toUInt32 % 65536).toInt32 = x := by
  obtain ⟨j, hj, rfl⟩ := nI_of (x := x) (fun z => by rw [Int32.lt_iff_toInt_lt] at *; omega)
  have hj2 : j < 128 := (nI_ltI (b := 128) hj (by decide)).mp h2
  rw [pk_char, pk_tn (by omega)]
  congr 1
  omega
theorem i2b_7 {x : Int32} (h1 : 0 < x) (h2 : x < 128) : x.toInt8.toInt32 = x := by
  have h3 : 0 < x.toInt := by rw [Int32.lt_iff_toInt_lt] at h1; exact h1
  have h4 : x.toInt < 128 := by rw [Int32.lt_iff_toInt_lt] at h2; exact h2
  apply Int32.toInt_inj.mp
  rw [Int8.toInt_toInt32, Int32.toInt_toInt8]
  exact Int.bmod_eq_of_le (by simp; omega) (by simp; omega)
theorem tape_nx {tp : List Int32} (hT : ∀ c ∈ tp, 0 < c ∧ c < 128) {k : Nat} (h : ¬ nxP tp k = 0) : 0 < nxP tp k ∧ nxP tp k < 128 := by
  have hk := nx_lt h
  apply hT
  rw [nxP, List.getD_eq_getElem?_getD, List.getElem?_eq_getElem hk]
  exact List.getElem_mem _
theorem ix_0 : ixP 0 = -1 := by decide
theorem ix_nn {c : Int32} (h : 0 ≤ ixP c) : ¬ c = 0 := fun z => by rw [z, ix_0] at h; exact absurd h (by decide)
set_option maxRecDepth 20000 in
set_option maxHeartbeats 4000000 in
theorem c_X4_readsItem {G : Cx} (d : Nat) {μ : Hp} {s : PS} {tp : List Int32} {rec : PS → Bool × PS} {g : Nat} (hT : ∀ c ∈ tp, 0 < c ∧ c < 128) (HG : ∀ g', g = g' + 1 → ∀ (s : PS) (μ : Hp), s.2.1.length + g = 3 → Rd tp s μ → Bu g s → ¬ nxP tp s.1 < 50 → ¬ 52 < nxP tp s.1 → Ct G (d + 3) 0 0 M_X4_readsGroup [.ref 25] μ (RP tp (grpP tp rec s) μ)) (hr : Rd tp s μ) (hb : Bu g s) (hd3 : s.2.1.length + g = 3) : Ct G (d + 4) 0 0 M_X4_readsItem [.ref 25] μ (RP tp (itemP tp g rec s) μ) := by
  refine Ct.ofV (by decide +kernel) (Nat.le_of_ble_eq_true rfl) ?_
  refine v_ls (ls' := [(0, .ref 25)]) rfl ?_
  obtain ⟨t, ops, cd, h25, h26, h27, h28, hp, h60, hkl, hop, h8⟩ := id hr
  refine v_aload_n 0 dX4_readsItem_0 rfl rfl ?_
  refine v_callV (c_X4_next (d + 3) h25 h26 hp h60 (by omega)) cs_X4_38 dX4_readsItem_1 h25 rfl rfl (Nat.le_of_ble_eq_true rfl) ?_
  refine rt_k ?_
  refine v_if_ne (tgt := 11) dX4_readsItem_4 (by decide) (fun hc4 => ?_) (fun hc4 => ?_)
  ·
    refine v_ldcS (fun _ _ _ h => h.2.2.2.1) dX4_readsItem_11 ?_
    refine v_aload_n 0 dX4_readsItem_13 rfl rfl ?_
    refine v_callV (c_X4_next (d + 3) h25 h26 hp h60 (by omega)) cs_X4_38 dX4_readsItem_14 h25 rfl rfl (Nat.le_of_ble_eq_true rfl) ?_
    refine rt_k ?_
    obtain ⟨hx1, hx2⟩ := tape_nx hT hc4
    refine v_i2c dX4_readsItem_17 ?_
    rw [i2c_7 hx1 hx2]
    refine v_callR (c_J0_indexOf_0f7a4 d (i2b_7 hx1 hx2) (fun z => absurd hx1 (Int32.not_lt.mpr (Int32.le_of_lt z))) (fun z => absurd (Int32.lt_trans z hx2) (by decide))) cs_X4_51 dX4_readsItem_18 rfl rfl (Nat.le_of_ble_eq_true rfl) ?_
    refine rt_k ?_
    refine v_istore_n dX4_readsItem_21 rfl (by decide) (fun x1 e_x1 => ?_)
    refine v_ls (ls' := [(1, .int x1), (0, .ref 25)]) rfl ?_
    subst e_x1
    refine v_iload_n 0 dX4_readsItem_22 rfl rfl ?_
    refine v_if_lt (tgt := 42) dX4_readsItem_23 (by decide) (fun hc23 => ?_) (fun hc23 => ?_)
    ·
      refine v_aload_n 1 dX4_readsItem_42 rfl rfl ?_
      refine v_callV (c_X4_next (d + 3) h25 h26 hp h60 (by omega)) cs_X4_38 dX4_readsItem_43 h25 rfl rfl (Nat.le_of_ble_eq_true rfl) ?_
      refine rt_k ?_
      refine v_bipush (v := 50) dX4_readsItem_46 (by first | rfl | decide) ?_
      refine v_icmp_lt (tgt := 79) dX4_readsItem_48 (by decide) (fun hc48 => ?_) (fun hc48 => ?_)
      ·
        refine v_iconst (v := 0) dX4_readsItem_79 (by first | rfl | decide) ?_
        refine v_iret dX4_readsItem_80 rfl (by first | rfl | decide | exact nar_b (by first | assumption | rfl)) ?_
        have hng : ixP (nxP tp s.1) < 0 := hc23
        have hF : itemP tp g rec s = (false, s) := by simp only [itemP, if_pos hng, if_pos hc48]
        rw [hF]
        exact ⟨rfl, ⟨t, ops, cd, h25, h26, h27, h28, hp, h60, hkl, hop, h8⟩, fun i hi => rfl⟩
      ·
        refine v_aload_n 1 dX4_readsItem_51 rfl rfl ?_
        refine v_callV (c_X4_next (d + 3) h25 h26 hp h60 (by omega)) cs_X4_38 dX4_readsItem_52 h25 rfl rfl (Nat.le_of_ble_eq_true rfl) ?_
        refine rt_k ?_
        refine v_bipush (v := 52) dX4_readsItem_55 (by first | rfl | decide) ?_
        refine v_icmp_gt (tgt := 79) dX4_readsItem_57 (by decide) (fun hc57 => ?_) (fun hc57 => ?_)
        ·
          refine v_iconst (v := 0) dX4_readsItem_79 (by first | rfl | decide) ?_
          refine v_iret dX4_readsItem_80 rfl (by first | rfl | decide | exact nar_b (by first | assumption | rfl)) ?_
          have hng : ixP (nxP tp s.1) < 0 := hc23
          have hF : itemP tp g rec s = (false, s) := by simp only [itemP, if_pos hng, if_neg hc48, if_pos hc57]
          rw [hF]
          exact ⟨rfl, ⟨t, ops, cd, h25, h26, h27, h28, hp, h60, hkl, hop, h8⟩, fun i hi => rfl⟩
        ·
          refine v_aload_n 1 dX4_readsItem_60 rfl rfl ?_
          refine v_get fl_X4_25 dX4_readsItem_61 h25 rfl ?_
          refine v_iconst (v := 3) dX4_readsItem_64 (by first | rfl | decide) ?_
          refine v_icmp_ge (tgt := 79) dX4_readsItem_65 (by decide) (fun hc65 => ?_) (fun hc65 => ?_)
          ·
            refine v_iconst (v := 0) dX4_readsItem_79 (by first | rfl | decide) ?_
            refine v_iret dX4_readsItem_80 rfl (by first | rfl | decide | exact nar_b (by first | assumption | rfl)) ?_
            have hng : ixP (nxP tp s.1) < 0 := hc23
            have hg0 : g = 0 := by have := (nI_leI (a := 3) (by decide) (by omega)).mp hc65; omega
            have hF : itemP tp g rec s = (false, s) := by simp only [itemP, if_pos hng, if_neg hc48, if_neg hc57, if_pos hg0]
            rw [hF]
            exact ⟨rfl, ⟨t, ops, cd, h25, h26, h27, h28, hp, h60, hkl, hop, h8⟩, fun i hi => rfl⟩
          ·
            refine v_aload_n 1 dX4_readsItem_68 rfl rfl ?_
            have hg0 : ¬ g = 0 := fun z => hc65 ((nI_leI (a := 3) (by decide) (by omega)).mpr (by omega))
            obtain ⟨g2, hg2⟩ : ∃ g2, g = g2 + 1 := ⟨g - 1, by omega⟩
            refine v_callV (HG g2 hg2 s μ hd3 hr hb hc48 hc57) cs_X4_61 dX4_readsItem_69 h25 rfl rfl (Nat.le_of_ble_eq_true rfl) ?_
            rintro _ m2 ⟨rfl, hq2, hq3⟩
            refine v_if_eq (tgt := 79) dX4_readsItem_72 (by decide) (fun hc72 => ?_) (fun hc72 => ?_)
            ·
              refine v_iconst (v := 0) dX4_readsItem_79 (by first | rfl | decide) ?_
              refine v_iret dX4_readsItem_80 rfl (by decide) ?_
              have hng : ixP (nxP tp s.1) < 0 := hc23
              have hF : itemP tp g rec s = grpP tp rec s := by simp only [itemP, if_pos hng, if_neg hc48, if_neg hc57, if_neg hg0]
              rw [hF]
              revert hq2 hq3 hc72
              generalize grpP tp rec s = y
              intro hq2 hq3 hc72
              obtain ⟨b, s2⟩ := y
              cases b with
              | true => first | exact ⟨rfl, hq2, hq3⟩ | exact absurd hc72 (show ¬ (1 : Int32) = 0 by decide)
              | false => first | exact ⟨rfl, hq2, hq3⟩ | exact absurd rfl hc72
            ·
              refine v_iconst (v := 1) dX4_readsItem_75 (by first | rfl | decide) ?_
              refine v_goto (tgt := 80) dX4_readsItem_76 (by decide) ?_
              refine v_iret dX4_readsItem_80 rfl (by decide) ?_
              have hng : ixP (nxP tp s.1) < 0 := hc23
              have hF : itemP tp g rec s = grpP tp rec s := by simp only [itemP, if_pos hng, if_neg hc48, if_neg hc57, if_neg hg0]
              rw [hF]
              revert hq2 hq3 hc72
              generalize grpP tp rec s = y
              intro hq2 hq3 hc72
              obtain ⟨b, s2⟩ := y
              cases b with
              | true => first | exact ⟨rfl, hq2, hq3⟩ | exact absurd hc72 (show ¬ (1 : Int32) = 0 by decide)
              | false => first | exact ⟨rfl, hq2, hq3⟩ | exact absurd rfl hc72
    ·
      have hnn : ¬ ixP (nxP tp s.1) < 0 := hc23
      have hl1 := nx_lt (tp := tp) (k := s.1) (ix_nn (Int32.not_lt.mp hnn))
      refine v_aload_n 1 dX4_readsItem_26 rfl rfl ?_
      refine v_dup dX4_readsItem_27 rfl ?_
      refine v_get fl_X4_21 dX4_readsItem_28 h25 rfl ?_
      refine v_iconst (v := 1) dX4_readsItem_31 (by first | rfl | decide) ?_
      refine v_iadd dX4_readsItem_32 ?_
      refine v_put fp_X4_21 dX4_readsItem_33 h25 (Nat.le_of_ble_eq_true rfl) (by first | rfl | decide) (by first | rfl | decide) ?_
      refine v_aload_n 1 dX4_readsItem_36 rfl rfl ?_
      refine v_iload_n 0 dX4_readsItem_37 rfl rfl ?_
      refine v_callV (c_X4_readsFilter (d + 0) (s := (s.1 + 1, s.2)) (kind := ixP (nxP tp s.1)) ⟨t, ops, cd, by rw [up_s, nI_1]; rfl, by repeat (first | assumption | exact up_s _ _ _ | refine up_n (by decide) ?_), by repeat (first | assumption | exact up_s _ _ _ | refine up_n (by decide) ?_), by repeat (first | assumption | exact up_s _ _ _ | refine up_n (by decide) ?_), hp, h60, hl1, hop, h8⟩ (by have := hb.len; show s.2.2.length < _; omega)) cs_X4_57 dX4_readsItem_38 (up_s _ _ _) rfl rfl (Nat.le_of_ble_eq_true rfl) ?_
      rintro _ m2 ⟨rfl, hq2, hq3⟩
      refine v_iret dX4_readsItem_41 rfl (by split <;> decide) ?_
      have hF : itemP tp g rec s = filP tp (ixP (nxP tp s.1)) (s.1 + 1, s.2) := by simp only [itemP, if_neg hnn]
      rw [hF]
      exact ⟨rfl, hq2, fun i hi => (hq3 i hi).trans (up_n (by omega) rfl)⟩
  ·
    refine v_iconst (v := -1) dX4_readsItem_7 (by first | rfl | decide) ?_
    refine v_goto (tgt := 21) dX4_readsItem_8 (by decide) ?_
    refine v_istore_n dX4_readsItem_21 rfl (by decide) (fun x1 e_x1 => ?_)
    refine v_ls (ls' := [(1, .int x1), (0, .ref 25)]) rfl ?_
    subst e_x1
    have hix : ixP (nxP tp s.1) = -1 := by rw [hc4]; exact ix_0
    refine v_iload_n 0 dX4_readsItem_22 rfl rfl ?_
    refine v_if_lt (tgt := 42) dX4_readsItem_23 (by decide) (fun hc23 => ?_) (fun hc23 => ?_)
    ·
      refine v_aload_n 1 dX4_readsItem_42 rfl rfl ?_
      refine v_callV (c_X4_next (d + 3) h25 h26 hp h60 (by omega)) cs_X4_38 dX4_readsItem_43 h25 rfl rfl (Nat.le_of_ble_eq_true rfl) ?_
      refine rt_k ?_
      refine v_bipush (v := 50) dX4_readsItem_46 (by first | rfl | decide) ?_
      refine v_icmp_lt (tgt := 79) dX4_readsItem_48 (by decide) (fun hc48 => ?_) (fun hc48 => ?_)
      ·
        refine v_iconst (v := 0) dX4_readsItem_79 (by first | rfl | decide) ?_
        refine v_iret dX4_readsItem_80 rfl (by first | rfl | decide | exact nar_b (by first | assumption | rfl)) ?_
        have hng : ixP (nxP tp s.1) < 0 := by rw [hix]; decide
        have hF : itemP tp g rec s = (false, s) := by simp only [itemP, if_pos hng, if_pos hc48]
        rw [hF]
        exact ⟨rfl, ⟨t, ops, cd, h25, h26, h27, h28, hp, h60, hkl, hop, h8⟩, fun i hi => rfl⟩
      ·
        refine v_aload_n 1 dX4_readsItem_51 rfl rfl ?_
        refine v_callV (c_X4_next (d + 3) h25 h26 hp h60 (by omega)) cs_X4_38 dX4_readsItem_52 h25 rfl rfl (Nat.le_of_ble_eq_true rfl) ?_
        refine rt_k ?_
        refine v_bipush (v := 52) dX4_readsItem_55 (by first | rfl | decide) ?_
        refine v_icmp_gt (tgt := 79) dX4_readsItem_57 (by decide) (fun hc57 => ?_) (fun hc57 => ?_)
        ·
          refine v_iconst (v := 0) dX4_readsItem_79 (by first | rfl | decide) ?_
          refine v_iret dX4_readsItem_80 rfl (by first | rfl | decide | exact nar_b (by first | assumption | rfl)) ?_
          have hng : ixP (nxP tp s.1) < 0 := by rw [hix]; decide
          have hF : itemP tp g rec s = (false, s) := by simp only [itemP, if_pos hng, if_neg hc48, if_pos hc57]
          rw [hF]
          exact ⟨rfl, ⟨t, ops, cd, h25, h26, h27, h28, hp, h60, hkl, hop, h8⟩, fun i hi => rfl⟩
        ·
          refine v_aload_n 1 dX4_readsItem_60 rfl rfl ?_
          refine v_get fl_X4_25 dX4_readsItem_61 h25 rfl ?_
          refine v_iconst (v := 3) dX4_readsItem_64 (by first | rfl | decide) ?_
          refine v_icmp_ge (tgt := 79) dX4_readsItem_65 (by decide) (fun hc65 => ?_) (fun hc65 => ?_)
          ·
            refine v_iconst (v := 0) dX4_readsItem_79 (by first | rfl | decide) ?_
            refine v_iret dX4_readsItem_80 rfl (by first | rfl | decide | exact nar_b (by first | assumption | rfl)) ?_
            have hng : ixP (nxP tp s.1) < 0 := by rw [hix]; decide
            have hg0 : g = 0 := by have := (nI_leI (a := 3) (by decide) (by omega)).mp hc65; omega
            have hF : itemP tp g rec s = (false, s) := by simp only [itemP, if_pos hng, if_neg hc48, if_neg hc57, if_pos hg0]
            rw [hF]
            exact ⟨rfl, ⟨t, ops, cd, h25, h26, h27, h28, hp, h60, hkl, hop, h8⟩, fun i hi => rfl⟩
          ·
            refine v_aload_n 1 dX4_readsItem_68 rfl rfl ?_
            have hg0 : ¬ g = 0 := fun z => hc65 ((nI_leI (a := 3) (by decide) (by omega)).mpr (by omega))
            obtain ⟨g2, hg2⟩ : ∃ g2, g = g2 + 1 := ⟨g - 1, by omega⟩
            refine v_callV (HG g2 hg2 s μ hd3 hr hb hc48 hc57) cs_X4_61 dX4_readsItem_69 h25 rfl rfl (Nat.le_of_ble_eq_true rfl) ?_
            rintro _ m2 ⟨rfl, hq2, hq3⟩
            refine v_if_eq (tgt := 79) dX4_readsItem_72 (by decide) (fun hc72 => ?_) (fun hc72 => ?_)
            ·
              refine v_iconst (v := 0) dX4_readsItem_79 (by first | rfl | decide) ?_
              refine v_iret dX4_readsItem_80 rfl (by decide) ?_
              have hng : ixP (nxP tp s.1) < 0 := by rw [hix]; decide
              have hF : itemP tp g rec s = grpP tp rec s := by simp only [itemP, if_pos hng, if_neg hc48, if_neg hc57, if_neg hg0]
              rw [hF]
              revert hq2 hq3 hc72
              generalize grpP tp rec s = y
              intro hq2 hq3 hc72
              obtain ⟨b, s2⟩ := y
              cases b with
              | true => first | exact ⟨rfl, hq2, hq3⟩ | exact absurd hc72 (show ¬ (1 : Int32) = 0 by decide)
              | false => first | exact ⟨rfl, hq2, hq3⟩ | exact absurd rfl hc72
            ·
              refine v_iconst (v := 1) dX4_readsItem_75 (by first | rfl | decide) ?_
              refine v_goto (tgt := 80) dX4_readsItem_76 (by decide) ?_
              refine v_iret dX4_readsItem_80 rfl (by decide) ?_
              have hng : ixP (nxP tp s.1) < 0 := by rw [hix]; decide
              have hF : itemP tp g rec s = grpP tp rec s := by simp only [itemP, if_pos hng, if_neg hc48, if_neg hc57, if_neg hg0]
              rw [hF]
              revert hq2 hq3 hc72
              generalize grpP tp rec s = y
              intro hq2 hq3 hc72
              obtain ⟨b, s2⟩ := y
              cases b with
              | true => first | exact ⟨rfl, hq2, hq3⟩ | exact absurd hc72 (show ¬ (1 : Int32) = 0 by decide)
              | false => first | exact ⟨rfl, hq2, hq3⟩ | exact absurd rfl hc72
    · exact absurd (by decide) hc23

set_option maxRecDepth 20000 in
set_option maxHeartbeats 4000000 in
theorem items_loop {G : Cx} (d : Nat) {tp : List Int32} {rec : PS → Bool × PS} {g : Nat} (HI : ∀ (s : PS) (μ : Hp), s.2.1.length + g = 3 → Rd tp s μ → Bu g s → Ct G (d + 4) 0 0 M_X4_readsItem [.ref 25] μ (RP tp (itemP tp g rec s) μ)) (hGd : ∀ g', g = g' + 1 → ∀ s, Gd g' s (rec s)) : ∀ (m : Nat) (j : Nat) (s : PS) (μ : Hp), j + m = 60 → s.2.1.length + g = 3 → Rd tp s μ → Bu g s → V G M_X4_readsItems (d + 5) 0 0 (RP tp (itmsL tp g rec m s) μ) 2 [(1, .int (nI j)), (0, .ref 25)] [] (μ) := by
  intro m
  induction m with
  | zero =>
    intro j s μ hj hd3 hr hb
    obtain ⟨t, ops, cd, h25, h26, h27, h28, hp, h60, hkl, hop, h8⟩ := id hr
    refine v_iload_n 0 dX4_readsItems_2 rfl rfl ?_
    refine v_bipush (v := 60) dX4_readsItems_3 (by first | rfl | decide) ?_
    refine v_icmp_ge (tgt := 34) dX4_readsItems_5 (by decide) (fun hc5 => ?_) (fun hc5 => ?_)
    ·
      refine v_iconst (v := 0) dX4_readsItems_34 (by first | rfl | decide) ?_
      refine v_iret dX4_readsItems_35 rfl (by first | rfl | decide | exact nar_b (by first | assumption | rfl)) ?_
      exact ⟨rfl, hr, fun i hi => rfl⟩
    · exact absurd ((nI_leI (a := 60) (by decide) (by omega)).mpr (by omega)) hc5
  | succ m ih =>
    intro j s μ hj hd3 hr hb
    obtain ⟨t, ops, cd, h25, h26, h27, h28, hp, h60, hkl, hop, h8⟩ := id hr
    refine v_iload_n 0 dX4_readsItems_2 rfl rfl ?_
    refine v_bipush (v := 60) dX4_readsItems_3 (by first | rfl | decide) ?_
    refine v_icmp_ge (tgt := 34) dX4_readsItems_5 (by decide) (fun hc5 => ?_) (fun hc5 => ?_)
    · have := (nI_leI (a := 60) (by decide) (by omega)).mp hc5
      omega
    ·
      refine v_aload_n 1 dX4_readsItems_8 rfl rfl ?_
      refine v_callV (HI s μ hd3 hr hb) cs_X4_42 dX4_readsItems_9 h25 rfl rfl (Nat.le_of_ble_eq_true rfl) ?_
      have hg := item_Gd (tp := tp) hGd s
      have hL : itmsL tp g rec (m + 1) s = (match itemP tp g rec s with
          | (false, s1) => (false, s1)
          | (true, s1) => if nxP tp s1.1 = 59 then itmsL tp g rec m (s1.1 + 1, s1.2) else (true, s1)) := rfl
      rw [hL]
      revert hg
      generalize itemP tp g rec s = x
      obtain ⟨b, s2⟩ := x
      intro hg
      rintro _ m1 ⟨rfl, hRd1, hfr1⟩
      obtain ⟨t1, ops1, cd1, g25, g26, g27, g28, hp1, -, hkl1, hop1, h81⟩ := id hRd1
      refine v_if_ne (tgt := 17) dX4_readsItems_12 (by decide) (fun hc12 => ?_) (fun hc12 => ?_)
      ·
        obtain rfl : b = true := by cases b with
          | true => rfl
          | false => exact absurd rfl hc12
        obtain ⟨e1, e2, e3⟩ := hg.2.2.2 rfl
        have e1 : s2.2.1 = s.2.1 := e1
        refine v_aload_n 1 dX4_readsItems_17 rfl rfl ?_
        refine v_bipush (v := 59) dX4_readsItems_18 (by first | rfl | decide) ?_
        refine v_callV (c_X4_takes (d + 3) g25 g26 hp1 h60 (by omega)) cs_X4_45 dX4_readsItems_20 g25 rfl rfl (Nat.le_of_ble_eq_true rfl) ?_
        refine rt_k ?_
        refine v_if_ne (tgt := 28) dX4_readsItems_23 (by decide) (fun hc23 => ?_) (fun hc23 => ?_)
        ·
          have hg2 : nxP tp s2.1 = 59 := by
            by_cases z : nxP tp s2.1 = 59
            · exact z
            · exact absurd (if_neg z) hc23
          have hl2 := nx_lt (tp := tp) (k := s2.1) (by rw [hg2]; decide)
          rw [if_pos hg2]
          refine v_iinc (v := 1) 0 dX4_readsItems_28 rfl rfl (by decide) (fun z e_z => ?_)
          refine v_ls (ls' := [(1, .int z), (0, .ref 25)]) rfl ?_
          rw [nI_1] at e_z
          subst e_z
          refine v_goto (tgt := 2) dX4_readsItems_31 (by decide) ?_
          show V _ _ _ _ _ (RP tp (if nxP tp s2.1 = 59 then _ else _) μ) _ _ _ _
          rw [if_pos hg2]
          have hRd2 : Rd tp (s2.1 + 1, s2.2) (up m1 25 (redC (nI tp.length) (nI (s2.1 + 1)) (nI s2.2.1.length) (nI s2.2.2.length))) := ⟨t1, ops1, cd1, by rw [up_s], by repeat (first | assumption | exact up_s _ _ _ | refine up_n (by decide) ?_), by repeat (first | assumption | exact up_s _ _ _ | refine up_n (by decide) ?_), by repeat (first | assumption | exact up_s _ _ _ | refine up_n (by decide) ?_), hp1, h60, hl2, hop1, h81⟩
          have hb2 : Bu g (s2.1 + 1, s2.2) := hb.after ⟨by have := hg.1; show s.1 ≤ s2.1 + 1; have : s.1 ≤ s2.1 := hg.1; omega, by
            have q1 : s2.2.2.length ≤ s.2.2.length + (s2.1 - s.1) * 4 ^ g := hg.2.1
            have q2 : (s2.1 - s.1) * 4 ^ g ≤ (s2.1 + 1 - s.1) * 4 ^ g := Nat.mul_le_mul_right _ (by omega)
            show s2.2.2.length ≤ s.2.2.length + (s2.1 + 1 - s.1) * 4 ^ g
            omega⟩ (by show s2.1 + 1 ≤ 60; omega)
          refine v_post (ih (j + 1) (s2.1 + 1, s2.2) _ (by omega) (by show s2.2.1.length + g = 3; rw [e1]; exact hd3) hRd2 hb2) ?_
          rintro r3 m3 ⟨q1, q2, q3⟩
          exact ⟨q1, q2, fun i hi => (q3 i hi).trans ((up_n (by omega) rfl).trans (hfr1 i hi))⟩
          
        ·
          refine v_iconst (v := 1) dX4_readsItems_26 (by first | rfl | decide) ?_
          refine v_iret dX4_readsItems_27 rfl (by first | rfl | decide | exact nar_b (by first | assumption | rfl)) ?_
          have hg2 : ¬ nxP tp s2.1 = 59 := fun z => by rw [if_pos z] at hc23; exact absurd hc23 (by decide)
          rw [if_neg hg2]
          show RP tp (if nxP tp s2.1 = 59 then _ else _) μ _ _
          rw [if_neg hg2]
          exact ⟨rfl, ⟨t1, ops1, cd1, by rw [up_s], by repeat (first | assumption | exact up_s _ _ _ | refine up_n (by decide) ?_), by repeat (first | assumption | exact up_s _ _ _ | refine up_n (by decide) ?_), by repeat (first | assumption | exact up_s _ _ _ | refine up_n (by decide) ?_), hp1, h60, hkl1, hop1, h81⟩, fun i hi => (up_n (by omega) rfl).trans (hfr1 i hi)⟩
      ·
        refine v_iconst (v := 0) dX4_readsItems_15 (by first | rfl | decide) ?_
        refine v_iret dX4_readsItems_16 rfl (by first | rfl | decide | exact nar_b (by first | assumption | rfl)) ?_
        obtain rfl : b = false := by cases b with
          | false => rfl
          | true => exact absurd hc12 (show ¬ (1 : Int32) = 0 by decide)
        exact ⟨rfl, hRd1, hfr1⟩

set_option maxRecDepth 20000 in
set_option maxHeartbeats 4000000 in
theorem c_X4_readsItems {G : Cx} (d : Nat) {μ : Hp} {s : PS} {tp : List Int32} {rec : PS → Bool × PS} {g : Nat} (HI : ∀ (s : PS) (μ : Hp), s.2.1.length + g = 3 → Rd tp s μ → Bu g s → Ct G (d + 4) 0 0 M_X4_readsItem [.ref 25] μ (RP tp (itemP tp g rec s) μ)) (hGd : ∀ g', g = g' + 1 → ∀ s, Gd g' s (rec s)) (hr : Rd tp s μ) (hb : Bu g s) (hd3 : s.2.1.length + g = 3) : Ct G (d + 5) 0 0 M_X4_readsItems [.ref 25] μ (RP tp (itmsL tp g rec 60 s) μ) := by
  refine Ct.ofV (by decide +kernel) (Nat.le_of_ble_eq_true rfl) ?_
  refine v_ls (ls' := [(0, .ref 25)]) rfl ?_
  obtain ⟨t, ops, cd, h25, h26, h27, h28, hp, h60, hkl, hop, h8⟩ := id hr
  refine v_iconst (v := 0) dX4_readsItems_0 (by first | rfl | decide) ?_
  refine v_istore_n dX4_readsItems_1 rfl (by decide) (fun x1 e_x1 => ?_)
  refine v_ls (ls' := [(1, .int x1), (0, .ref 25)]) rfl ?_
  subst e_x1
  exact items_loop d HI hGd 60 0 s μ (by omega) hd3 hr hb
  

set_option maxRecDepth 20000 in
set_option maxHeartbeats 4000000 in
theorem c_items {G : Cx} (d : Nat) {tp : List Int32} (hT : ∀ c ∈ tp, 0 < c ∧ c < 128) : ∀ (g : Nat) (s : PS) (μ : Hp), s.2.1.length + g = 3 → Rd tp s μ → Bu g s → Ct G (d + 3 * g + 5) 0 0 M_X4_readsItems [.ref 25] μ (RP tp (itmsP tp g s) μ)
  | 0, s, μ, hd3, hr, hb => c_X4_readsItems (d + 3 * 0) (fun s μ hd3 hr hb => c_X4_readsItem (d + 3 * 0) hT (fun g' h => by omega) hr hb hd3) (fun g' h => by omega) hr hb hd3
  | g + 1, s, μ, hd3, hr, hb => c_X4_readsItems (d + 3 * (g + 1)) (fun s μ hd3 hr hb => c_X4_readsItem (d + 3 * (g + 1)) hT (fun g' h s μ hd3 hr hb hn1 hn2 => by
      obtain rfl : g = g' := by omega
      exact c_X4_readsGroup (d + 3 * (g + 1)) (fun s μ hd3 hr hb => by
        have := c_items (d := d) (G := G) hT g s μ hd3 hr hb
        rw [show d + 3 * g + 5 = d + 3 * (g + 1) + 2 by omega] at this
        exact this) (itmsP_Gd tp g) hr hb hd3 hn1 hn2) hr hb hd3) (fun g' h => by
      obtain rfl : g = g' := by omega
      exact itmsP_Gd tp g) hr hb hd3
/-- the whole TEXT -/
def txtP (tp : List Int32) : Bool × PS := match itmsP tp 3 (0, [], []) with
  | (false, s) => (false, s)
  | (true, s) => (decide (s.1 = tp.length), s)
set_option maxRecDepth 20000 in
set_option maxHeartbeats 4000000 in
theorem c_X4_readsText {G : Cx} (d : Nat) {μ : Hp} {s : PS} {tp : List Int32} (hT : ∀ c ∈ tp, 0 < c ∧ c < 128) (hr : Rd tp s μ) : Ct G (d + 15) 0 0 M_X4_readsText [.ref 25] μ (RP tp (txtP tp) μ) := by
  refine Ct.ofV (by decide +kernel) (Nat.le_of_ble_eq_true rfl) ?_
  refine v_ls (ls' := [(0, .ref 25)]) rfl ?_
  obtain ⟨t, ops, cd, h25, h26, h27, h28, hp, h60, hkl, hop, h8⟩ := id hr
  refine v_aload_n 0 dX4_readsText_0 rfl rfl ?_
  refine v_iconst (v := 0) dX4_readsText_1 (by first | rfl | decide) ?_
  refine v_put fp_X4_21 dX4_readsText_2 h25 (Nat.le_of_ble_eq_true rfl) (by first | rfl | decide) (by first | rfl | decide) ?_
  refine v_aload_n 0 dX4_readsText_5 rfl rfl ?_
  refine v_iconst (v := 0) dX4_readsText_6 (by first | rfl | decide) ?_
  refine v_put fp_X4_25 dX4_readsText_7 (up_s _ _ _) (Nat.le_of_ble_eq_true rfl) (by first | rfl | decide) (by first | rfl | decide) ?_
  refine v_hp (up_up _ _ _ _) ?_
  refine v_aload_n 0 dX4_readsText_10 rfl rfl ?_
  refine v_iconst (v := 0) dX4_readsText_11 (by first | rfl | decide) ?_
  refine v_put fp_X4_28 dX4_readsText_12 (up_s _ _ _) (Nat.le_of_ble_eq_true rfl) (by first | rfl | decide) (by first | rfl | decide) ?_
  refine v_hp (up_up _ _ _ _) ?_
  refine v_aload_n 0 dX4_readsText_15 rfl rfl ?_
  refine v_callV (c_items d hT 3 (0, [], []) _ rfl ⟨t, ops, cd, by rw [up_s]; rfl, by repeat (first | assumption | exact up_s _ _ _ | refine up_n (by decide) ?_), by repeat (first | assumption | exact up_s _ _ _ | refine up_n (by decide) ?_), by repeat (first | assumption | exact up_s _ _ _ | refine up_n (by decide) ?_), hp, h60, Nat.zero_le _, fun j hj => absurd hj (Nat.not_lt_zero j), fun j _ hj => absurd hj (Nat.not_lt_zero j)⟩ (by show 0 + (60 - 0) * 4 ^ 3 ≤ 4000; decide)) cs_X4_31 dX4_readsText_16 (up_s _ _ _) rfl rfl (Nat.le_of_ble_eq_true rfl) ?_
  have hL : txtP tp = (match itmsP tp 3 (0, [], []) with
      | (false, s) => (false, s)
      | (true, s) => (decide (s.1 = tp.length), s)) := rfl
  rw [hL]
  generalize itmsP tp 3 (0, [], []) = x
  obtain ⟨b, s2⟩ := x
  rintro _ m1 ⟨rfl, hRd1, hfr1⟩
  obtain ⟨t1, ops1, cd1, g25, g26, g27, g28, hp1, -, hkl1, hop1, h81⟩ := id hRd1
  have hfr2 : ∀ i, i < 25 ∨ 28 < i → m1 i = μ i := fun i hi => (hfr1 i hi).trans (up_n (by omega) rfl)
  refine v_if_eq (tgt := 37) dX4_readsText_19 (by decide) (fun hc19 => ?_) (fun hc19 => ?_)
  ·
    refine v_iconst (v := 0) dX4_readsText_37 (by first | rfl | decide) ?_
    refine v_iret dX4_readsText_38 rfl (by decide) ?_
    obtain rfl : b = false := by cases b with
      | false => rfl
      | true => exact absurd hc19 (show ¬ (1 : Int32) = 0 by decide)
    exact ⟨rfl, hRd1, hfr2⟩
  ·
    obtain rfl : b = true := by cases b with
      | true => rfl
      | false => exact absurd rfl hc19
    refine v_aload_n 0 dX4_readsText_22 rfl rfl ?_
    refine v_get fl_X4_21 dX4_readsText_23 g25 rfl ?_
    refine v_aload_n 0 dX4_readsText_26 rfl rfl ?_
    refine v_get fl_X4_35 dX4_readsText_27 g25 rfl ?_
    refine v_icmp_ne (tgt := 37) dX4_readsText_30 (by decide) (fun hc30 => ?_) (fun hc30 => ?_)
    ·
      refine v_iconst (v := 0) dX4_readsText_37 (by first | rfl | decide) ?_
      refine v_iret dX4_readsText_38 rfl (by decide) ?_
      have hq : ¬ s2.1 = tp.length := fun z => hc30 (by rw [z])
      show RP tp (decide (s2.1 = tp.length), s2) μ _ _
      rw [decide_eq_false hq]
      exact ⟨rfl, hRd1, hfr2⟩
    ·
      refine v_iconst (v := 1) dX4_readsText_33 (by first | rfl | decide) ?_
      refine v_goto (tgt := 38) dX4_readsText_34 (by decide) ?_
      refine v_iret dX4_readsText_38 rfl (by decide) ?_
      have hkl1 : s2.1 ≤ tp.length := hkl1
      have hq : s2.1 = tp.length := (nI_eq (by omega) (by omega)).mp hc30
      show RP tp (decide (s2.1 = tp.length), s2) μ _ _
      rw [decide_eq_true hq]
      exact ⟨rfl, hRd1, hfr2⟩

