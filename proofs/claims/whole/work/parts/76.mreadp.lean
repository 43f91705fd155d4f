set_option maxRecDepth 20000 in
set_option maxHeartbeats 4000000 in
theorem mr_loop {G : Cx} (d : Nat) {y1 : Int32} {s : PS} {ops : Nat → Int32} {m un lr mr hr le at9 sg hm hi : Int32} {co wh : Int64} (hop : ∀ j, j < s.2.1.length → ops j = nI (s.2.1.getD j 0)) (hl3 : s.2.1.length ≤ 3) : ∀ (k9 : Nat) (j : Nat) (w : Nat × (Nat → Int32) × (Nat → Int32)) (μ : Hp), j + k9 = s.2.1.length → w.1 = j → μ 60 = some (modC m co wh un lr mr hr le at9 (nI s.1) (nI s.2.1.length) (nI w.1) sg hm hi) → μ 76 = some (arI 3 ops) → μ 78 = some (arI 4 w.2.1) → μ 79 = some (arI 4 w.2.2) → V G M_X7_read (d + 1) 0 0 (fun r μ' => r = some (.int (-100 - nI s.1)) ∧ μ' 60 = some (modC m co wh un lr mr hr le at9 (nI s.1) (nI s.2.1.length) (nI (notW ((s.2.1.drop j).foldl (fun w k => notW w 2 (nI k)) w) 1 (nI s.1)).1) sg hm hi) ∧ μ' 78 = some (arI 4 (notW ((s.2.1.drop j).foldl (fun w k => notW w 2 (nI k)) w) 1 (nI s.1)).2.1) ∧ μ' 79 = some (arI 4 (notW ((s.2.1.drop j).foldl (fun w k => notW w 2 (nI k)) w) 1 (nI s.1)).2.2) ∧ ∀ i, i ≠ 60 → i ≠ 78 → i ≠ 79 → μ' i = μ i) 66 [(2, .int (nI j)), (1, .int y1), (0, .ref 60)] [] (μ) := by
  intro k9
  induction k9 with
  | zero =>
    intro j w μ hj hwj h60 h76 h78 h79
    refine v_iload_n 0 dX7_read_66 rfl rfl ?_
    refine v_aload_n 2 dX7_read_67 rfl rfl ?_
    refine v_get fl_X7_356 dX7_read_68 h60 rfl ?_
    refine v_icmp_ge (tgt := 91) dX7_read_71 (by decide) (fun hc71 => ?_) (fun hc71 => ?_)
    ·
      refine v_aload_n 2 dX7_read_91 rfl rfl ?_
      refine v_iconst (v := 1) dX7_read_92 (by first | rfl | decide) ?_
      refine v_aload_n 2 dX7_read_93 rfl rfl ?_
      refine v_get fl_X7_338 dX7_read_94 h60 rfl ?_
      refine v_callV (c_X7_tells d h60 h78 h79 (show w.1 < 4 by omega)) cs_X7_220 dX7_read_97 h60 rfl rfl (Nat.le_of_ble_eq_true rfl) ?_
      refine rt_k ?_
      refine v_bipush (v := -100) dX7_read_100 (by first | rfl | decide) ?_
      refine v_aload_n 2 dX7_read_102 rfl rfl ?_
      refine v_get fl_X7_338 dX7_read_103 (up_s _ _ _) rfl ?_
      refine v_isub dX7_read_106 ?_
      refine v_iret dX7_read_107 rfl (by first | rfl | decide | exact nar_b (by first | assumption | rfl)) ?_
      rw [List.drop_of_length_le (show s.2.1.length ≤ j by omega)]
      exact ⟨rfl, (up_s _ _ _), (up_n (by decide) (up_n (by decide) (up_s _ _ _))), (up_n (by decide) (up_s _ _ _)), fun i a b c => by repeat (first | rfl | refine up_n (by assumption) ?_)⟩
    · exact absurd ((nI_leI (by omega) (by omega)).mpr (by omega)) hc71
  | succ k9 ih =>
    intro j w μ hj hwj h60 h76 h78 h79
    refine v_iload_n 0 dX7_read_66 rfl rfl ?_
    refine v_aload_n 2 dX7_read_67 rfl rfl ?_
    refine v_get fl_X7_356 dX7_read_68 h60 rfl ?_
    refine v_icmp_ge (tgt := 91) dX7_read_71 (by decide) (fun hc71 => ?_) (fun hc71 => ?_)
    · have := (nI_leI (by omega) (by omega)).mp hc71
      omega
    ·
      refine v_aload_n 2 dX7_read_74 rfl rfl ?_
      refine v_iconst (v := 2) dX7_read_75 (by first | rfl | decide) ?_
      refine v_aload_n 2 dX7_read_76 rfl rfl ?_
      refine v_get fl_X7_61 dX7_read_77 h60 rfl ?_
      refine v_iload_n 0 dX7_read_80 rfl rfl ?_
      refine v_iald dX7_read_81 h76 (nI_in' (by omega)) ?_
      rw [clamp (show j < 2 ^ 31 by omega), hop j (by omega)]
      refine v_callV (c_X7_tells d h60 h78 h79 (show w.1 < 4 by omega)) cs_X7_220 dX7_read_82 h60 rfl rfl (Nat.le_of_ble_eq_true rfl) ?_
      refine rt_k ?_
      refine v_iinc (v := 1) 0 dX7_read_85 rfl rfl (by decide) (fun z e_z => ?_)
      refine v_ls (ls' := [(2, .int z), (1, .int y1), (0, .ref 60)]) rfl ?_
      rw [nI_1] at e_z
      subst e_z
      refine v_goto (tgt := 66) dX7_read_88 (by decide) ?_
      rw [drop_n (show j < s.2.1.length by omega), List.foldl_cons]
      refine v_post (ih (j + 1) (notW w 2 (nI (s.2.1.getD j 0))) _ (by omega) (by show w.1 + 1 = j + 1; omega) (up_s _ _ _) (up_n (by decide) (up_n (by decide) (up_n (by decide) h76))) (up_n (by decide) (up_n (by decide) (up_s _ _ _))) (up_n (by decide) (up_s _ _ _))) ?_
      rintro r9 m9 ⟨q1, q2, q3, q4, q5⟩
      exact ⟨q1, q2, q3, q4, fun i a b c => (q5 i a b c).trans (by repeat (first | rfl | refine up_n (by assumption) ?_))⟩
      

set_option maxRecDepth 20000 in
set_option maxHeartbeats 4000000 in
theorem c_X7_read {G : Cx} (d : Nat) {μ : Hp} {σ : ST}  (h : Mo σ μ) (hw : Wp (sP σ)) (hT : ∀ c ∈ sT σ, 0 < c ∧ c < 128) : Ct G (d + 12) 0 0 M_X7_read [.ref 60] μ (Pm ((rRead σ).2) (.int ((rRead σ).1)) μ) := by
  refine Ct.ofV (by decide +kernel) (Nat.le_of_ble_eq_true rfl) ?_
  refine v_ls (ls' := [(0, .ref 60)]) rfl ?_
  obtain ⟨co, wh, un, lr, mr, hr, at9, fa, op, sg, hm, p, tt, ro, og, tc, op9, sp, nw, se, le, mo, ot, h60, h61, h62, h63, h64, h65, h66, h67, h68, h69, h70, h71, h72, h73, h74, h75, h76, h77, h78, h79, h80, hmk, hpl, htp, ht60⟩ := id h
  have hl8 := hw.1
  refine v_aload_n 0 dX7_read_0 rfl rfl ?_
  refine v_iconst (v := 0) dX7_read_1 (by first | rfl | decide) ?_
  refine v_put fp_X7_331 dX7_read_2 h60 (Nat.le_of_ble_eq_true rfl) (by first | rfl | decide) (by first | rfl | decide) ?_
  refine v_aload_n 0 dX7_read_5 rfl rfl ?_
  refine v_iconst (v := 0) dX7_read_6 (by first | rfl | decide) ?_
  refine v_put fp_X7_356 dX7_read_7 (up_s _ _ _) (Nat.le_of_ble_eq_true rfl) (by first | rfl | decide) (by first | rfl | decide) ?_
  refine v_hp (up_up _ _ _ _) ?_
  refine v_aload_n 0 dX7_read_10 rfl rfl ?_
  refine v_iconst (v := -1) dX7_read_11 (by first | rfl | decide) ?_
  refine v_put fp_X7_338 dX7_read_12 (up_s _ _ _) (Nat.le_of_ble_eq_true rfl) (by first | rfl | decide) (by first | rfl | decide) ?_
  refine v_hp (up_up _ _ _ _) ?_
  refine v_aload_n 0 dX7_read_15 rfl rfl ?_
  refine v_iconst (v := 0) dX7_read_16 (by first | rfl | decide) ?_
  refine v_callV (d := d + 11) (mc := 0) (ms := 0) (mc' := 0) (ms' := 0) (M' := M_X7_textTold) (avs := [.int (nI 0)]) (st := []) (c_texts d (tp := sT σ) (m := nI (sP σ).length) (un := un) (lr := lr) (mr := mr) (hr := hr) (tr := nI (sW σ).1) (sg := sg) (hm := hm) (hi := hiO (sI σ)) (co := co) (wh := wh) hT 3 (0, [], []) _ rfl ⟨tt, op9, tc, by rw [up_s]; rfl, up_n (by decide) h75, up_n (by decide) h76, up_n (by decide) h77, htp, ht60, Nat.zero_le _, fun j hj => absurd hj (Nat.not_lt_zero j), fun j _ hj => absurd hj (Nat.not_lt_zero j)⟩ (by show 0 + (60 - 0) * 4 ^ 3 ≤ 4000; decide)) cs_X7_362 dX7_read_17 (up_s _ _ _) rfl rfl (Nat.le_of_ble_eq_true rfl) ?_
  have hTx : txtP (sT σ) = (match itmsP (sT σ) 3 (0, [], []) with
      | (false, s) => (false, s)
      | (true, s) => (decide (s.1 = (sT σ).length), s)) := rfl
  obtain ⟨hx3, hx4⟩ := txt_ok (sT σ)
  rw [hTx] at hx3 hx4
  rintro _ m2 ⟨v1, rfl, ht2, hf2, hfr2⟩
  generalize itmsP (sT σ) 3 (0, [], []) = x at ht2 hf2 hx3 hx4 hTx
  obtain ⟨b2, s2⟩ := x
  have hfr3 : ∀ i, i ≠ 60 → i ≠ 76 → i ≠ 77 → m2 i = μ i := fun i a b c => (hfr2 i a b c).trans (up_n a rfl)
  by_cases hb2 : b2 = true
  ·
    subst hb2
    obtain ⟨ev1, t2, ops2, tc2, g60, g75, g76, g77, hp2, -, hk2, hop2, h82⟩ := ht2 rfl
    have ev1 : v1 = nI s2.2.2.length := ev1
    have hx3 : s2.2.1.length ≤ 3 := hx3
    have hx4 : s2.2.2.length ≤ s2.1 * 64 := hx4
    have hk2 : s2.1 ≤ (sT σ).length := hk2
    have hop2 : ∀ j, j < s2.2.1.length → ops2 j = nI (s2.2.1.getD j 0) := hop2
    have h82 : C8 s2.2.2 tc2 := h82
    have hTx : txtP (sT σ) = (decide (s2.1 = (sT σ).length), s2) := hTx
    refine v_istore_n dX7_read_20 rfl (by decide) (fun y1 e_y1 => ?_)
    refine v_ls (ls' := [(1, .int y1), (0, .ref 60)]) rfl ?_
    refine v_aload_n 1 dX7_read_21 rfl rfl ?_
    refine v_get fl_X7_338 dX7_read_22 g60 rfl ?_
    refine v_if_ge (tgt := 47) dX7_read_25 (by decide) (fun hc25 => ?_) (fun hc25 => ?_)
    · exact absurd hc25 (by decide)
    ·
      refine v_aload_n 1 dX7_read_28 rfl rfl ?_
      refine v_get fl_X7_331 dX7_read_29 g60 rfl ?_
      refine v_aload_n 1 dX7_read_32 rfl rfl ?_
      refine v_get fl_X7_328 dX7_read_33 g60 rfl ?_
      refine v_icmp_ge (tgt := 47) dX7_read_36 (by decide) (fun hc36 => ?_) (fun hc36 => ?_)
      ·
        have hTx : txtP (sT σ) = (true, s2) := by
          rw [hTx, decide_eq_true (show s2.1 = (sT σ).length by have h36 : nI (sT σ).length ≤ nI s2.1 := hc36; have := (nI_leI (by omega) (by omega)).mp h36; omega)]
        refine v_aload_n 1 dX7_read_47 rfl rfl ?_
        refine v_iconst (v := 0) dX7_read_48 (by first | rfl | decide) ?_
        refine v_put fp_X7_328 dX7_read_49 g60 (Nat.le_of_ble_eq_true rfl) (by first | rfl | decide) (by first | rfl | decide) ?_
        refine v_aload_n 1 dX7_read_52 rfl rfl ?_
        refine v_get fl_X7_338 dX7_read_53 (up_s _ _ _) rfl ?_
        refine v_if_lt (tgt := 108) dX7_read_56 (by decide) (fun hc56 => ?_) (fun hc56 => ?_)
        ·
          refine v_iload_n 0 dX7_read_108 rfl rfl ?_
          refine v_bipush (v := 8) dX7_read_109 (by first | rfl | decide) ?_
          have ey1 : y1 = nI s2.2.2.length := e_y1.trans ev1
          refine v_icmp_le (tgt := 128) dX7_read_111 (by decide) (fun hc111 => ?_) (fun hc111 => ?_)
          ·
            have hn8 : s2.2.2.length ≤ 8 := by rw [ey1] at hc111; exact (nI_leI (b := 8) (by omega) (by decide)).mp hc111
            have hE : rRead σ = (nI s2.2.2.length, toP (toT σ []) s2.2.2) := by unfold rRead; rw [hTx]; exact if_neg (by omega)
            rw [hE]
            refine v_aload_n 1 dX7_read_128 rfl rfl ?_
            refine v_get fl_X7_64 dX7_read_129 (up_s _ _ _) rfl ?_
            refine v_iconst (v := 0) dX7_read_132 (by first | rfl | decide) ?_
            refine v_aload_n 1 dX7_read_133 rfl rfl ?_
            refine v_get fl_X7_17 dX7_read_134 (up_s _ _ _) rfl ?_
            refine v_iconst (v := 0) dX7_read_137 (by first | rfl | decide) ?_
            refine v_iload_n 0 dX7_read_138 rfl rfl ?_
            rw [ey1]
            refine v_copyi cs_X7_140 dX7_read_139 (up_n (by decide) g77) (up_n (by decide) ((hfr3 62 (by decide) (by decide) (by decide)).trans h62)) rfl rfl (by decide) (by decide) (nn0 (by omega)) (by rw [clamp (show s2.2.2.length < 2 ^ 31 by omega)]; show 0 + s2.2.2.length ≤ 8; omega) (by rw [clamp (show s2.2.2.length < 2 ^ 31 by omega)]; show 0 + s2.2.2.length ≤ 8; omega) (fun i _ => rfl) (Nat.le_of_ble_eq_true rfl) ?_
            rw [clamp (show s2.2.2.length < 2 ^ 31 by omega)]
            refine v_aload_n 1 dX7_read_142 rfl rfl ?_
            refine v_iload_n 0 dX7_read_143 rfl rfl ?_
            refine v_put fp_X7_91 dX7_read_144 (up_n (by decide) (up_s _ _ _)) (Nat.le_of_ble_eq_true rfl) (by first | rfl | decide) (by first | rfl | decide) ?_
            refine v_iload_n 0 dX7_read_147 rfl rfl ?_
            refine v_iret dX7_read_148 rfl (by first | rfl | decide | exact nar_b (by first | assumption | rfl)) ?_
            exact ⟨rfl, ⟨co, wh, un, lr, mr, hr, _, _, _, sg, hm, _, t2, ro, og, tc2, ops2, sp, nw, se, le, mo, ot, (up_s _ _ _), (up_n (by decide) (up_n (by decide) (up_n (by decide) ((hfr3 61 (by decide) (by decide) (by decide)).trans h61)))), (up_n (by decide) (up_s _ _ _)), (up_n (by decide) (up_n (by decide) (up_n (by decide) ((hfr3 63 (by decide) (by decide) (by decide)).trans h63)))), (up_n (by decide) (up_n (by decide) (up_n (by decide) ((hfr3 64 (by decide) (by decide) (by decide)).trans h64)))), (up_n (by decide) (up_n (by decide) (up_n (by decide) ((hfr3 65 (by decide) (by decide) (by decide)).trans h65)))), (up_n (by decide) (up_n (by decide) (up_n (by decide) ((hfr3 66 (by decide) (by decide) (by decide)).trans h66)))), (up_n (by decide) (up_n (by decide) (up_n (by decide) ((hfr3 67 (by decide) (by decide) (by decide)).trans h67)))), (up_n (by decide) (up_n (by decide) (up_n (by decide) ((hfr3 68 (by decide) (by decide) (by decide)).trans h68)))), (up_n (by decide) (up_n (by decide) (up_n (by decide) ((hfr3 69 (by decide) (by decide) (by decide)).trans h69)))), (up_n (by decide) (up_n (by decide) (up_n (by decide) ((hfr3 70 (by decide) (by decide) (by decide)).trans h70)))), (up_n (by decide) (up_n (by decide) (up_n (by decide) ((hfr3 71 (by decide) (by decide) (by decide)).trans h71)))), (up_n (by decide) (up_n (by decide) (up_n (by decide) ((hfr3 72 (by decide) (by decide) (by decide)).trans h72)))), (up_n (by decide) (up_n (by decide) (up_n (by decide) ((hfr3 73 (by decide) (by decide) (by decide)).trans h73)))), (up_n (by decide) (up_n (by decide) (up_n (by decide) ((hfr3 74 (by decide) (by decide) (by decide)).trans h74)))), (up_n (by decide) (up_n (by decide) (up_n (by decide) g75))), (up_n (by decide) (up_n (by decide) (up_n (by decide) g76))), (up_n (by decide) (up_n (by decide) (up_n (by decide) g77))), (up_n (by decide) (up_n (by decide) (up_n (by decide) ((hfr3 78 (by decide) (by decide) (by decide)).trans h78)))), (up_n (by decide) (up_n (by decide) (up_n (by decide) ((hfr3 79 (by decide) (by decide) (by decide)).trans h79)))), (up_n (by decide) (up_n (by decide) (up_n (by decide) ((hfr3 80 (by decide) (by decide) (by decide)).trans h80)))), (hmk.kept (fun i a b => (show _ = m2 i by repeat (first | rfl | refine up_n (by omega) ?_)).trans (hfr3 i (by omega) (by omega) (by omega)))), (fun j hj => by rw [show va_cpy tc2 p (Int32.toNatClampNeg 0) (Int32.toNatClampNeg 0) s2.2.2.length j = tc2 j from cpy_eq tc2 p _ j hj, h82 j (by have : j < s2.2.2.length := hj; omega) hj, List.getD_eq_getElem?_getD, List.getElem?_eq_getElem hj]; rfl), (fun j hj => absurd hj (Nat.not_lt_zero j)), Nat.zero_le _⟩, (fun i hi => (show _ = m2 i by repeat (first | rfl | refine up_n (by omega) ?_)).trans (hfr3 i (by omega) (by omega) (by omega)))⟩
          ·
            have hn8 : 8 < s2.2.2.length := Nat.lt_of_not_le (fun z => hc111 (by rw [ey1]; exact (nI_leI (b := 8) (by omega) (by decide)).mpr z))
            have hE : rRead σ = (-4, toW (toT σ []) (notW (0, (sW σ).2) 3 (nI s2.2.2.length))) := by unfold rRead; rw [hTx]; exact if_pos hn8
            rw [hE, ey1]
            refine v_aload_n 1 dX7_read_114 rfl rfl ?_
            refine v_iconst (v := 0) dX7_read_115 (by first | rfl | decide) ?_
            refine v_put fp_X7_217 dX7_read_116 (up_s _ _ _) (Nat.le_of_ble_eq_true rfl) (by first | rfl | decide) (by first | rfl | decide) ?_
            refine v_hp (up_up _ _ _ _) ?_
            refine v_aload_n 1 dX7_read_119 rfl rfl ?_
            refine v_iconst (v := 3) dX7_read_120 (by first | rfl | decide) ?_
            refine v_iload_n 0 dX7_read_121 rfl rfl ?_
            refine v_callV (c_X7_tells (d + 11) (up_s _ _ _) (up_n (by decide) ((hfr3 78 (by decide) (by decide) (by decide)).trans h78)) (up_n (by decide) ((hfr3 79 (by decide) (by decide) (by decide)).trans h79)) (show 0 < 4 by decide)) cs_X7_220 dX7_read_122 (up_s _ _ _) rfl rfl (Nat.le_of_ble_eq_true rfl) ?_
            refine rt_k ?_
            refine v_bipush (v := -4) dX7_read_125 (by first | rfl | decide) ?_
            refine v_iret dX7_read_127 rfl (by first | rfl | decide | exact nar_b (by first | assumption | rfl)) ?_
            exact ⟨rfl, ⟨co, wh, un, lr, mr, hr, _, _, _, sg, hm, p, t2, ro, og, tc2, ops2, sp, nw, se, le, mo, ot, (up_s _ _ _), (up_n (by decide) (up_n (by decide) (up_n (by decide) (up_n (by decide) ((hfr3 61 (by decide) (by decide) (by decide)).trans h61))))), (up_n (by decide) (up_n (by decide) (up_n (by decide) (up_n (by decide) ((hfr3 62 (by decide) (by decide) (by decide)).trans h62))))), (up_n (by decide) (up_n (by decide) (up_n (by decide) (up_n (by decide) ((hfr3 63 (by decide) (by decide) (by decide)).trans h63))))), (up_n (by decide) (up_n (by decide) (up_n (by decide) (up_n (by decide) ((hfr3 64 (by decide) (by decide) (by decide)).trans h64))))), (up_n (by decide) (up_n (by decide) (up_n (by decide) (up_n (by decide) ((hfr3 65 (by decide) (by decide) (by decide)).trans h65))))), (up_n (by decide) (up_n (by decide) (up_n (by decide) (up_n (by decide) ((hfr3 66 (by decide) (by decide) (by decide)).trans h66))))), (up_n (by decide) (up_n (by decide) (up_n (by decide) (up_n (by decide) ((hfr3 67 (by decide) (by decide) (by decide)).trans h67))))), (up_n (by decide) (up_n (by decide) (up_n (by decide) (up_n (by decide) ((hfr3 68 (by decide) (by decide) (by decide)).trans h68))))), (up_n (by decide) (up_n (by decide) (up_n (by decide) (up_n (by decide) ((hfr3 69 (by decide) (by decide) (by decide)).trans h69))))), (up_n (by decide) (up_n (by decide) (up_n (by decide) (up_n (by decide) ((hfr3 70 (by decide) (by decide) (by decide)).trans h70))))), (up_n (by decide) (up_n (by decide) (up_n (by decide) (up_n (by decide) ((hfr3 71 (by decide) (by decide) (by decide)).trans h71))))), (up_n (by decide) (up_n (by decide) (up_n (by decide) (up_n (by decide) ((hfr3 72 (by decide) (by decide) (by decide)).trans h72))))), (up_n (by decide) (up_n (by decide) (up_n (by decide) (up_n (by decide) ((hfr3 73 (by decide) (by decide) (by decide)).trans h73))))), (up_n (by decide) (up_n (by decide) (up_n (by decide) (up_n (by decide) ((hfr3 74 (by decide) (by decide) (by decide)).trans h74))))), (up_n (by decide) (up_n (by decide) (up_n (by decide) (up_n (by decide) g75)))), (up_n (by decide) (up_n (by decide) (up_n (by decide) (up_n (by decide) g76)))), (up_n (by decide) (up_n (by decide) (up_n (by decide) (up_n (by decide) g77)))), (up_n (by decide) (up_n (by decide) (up_s _ _ _))), (up_n (by decide) (up_s _ _ _)), (up_n (by decide) (up_n (by decide) (up_n (by decide) (up_n (by decide) ((hfr3 80 (by decide) (by decide) (by decide)).trans h80))))), (hmk.kept (fun i a b => (show _ = m2 i by repeat (first | rfl | refine up_n (by omega) ?_)).trans (hfr3 i (by omega) (by omega) (by omega)))), hpl, (fun j hj => absurd hj (Nat.not_lt_zero j)), Nat.zero_le _⟩, (fun i hi => (show _ = m2 i by repeat (first | rfl | refine up_n (by omega) ?_)).trans (hfr3 i (by omega) (by omega) (by omega)))⟩
        · exact absurd (by decide) hc56
      ·
        refine v_aload_n 1 dX7_read_39 rfl rfl ?_
        refine v_aload_n 1 dX7_read_40 rfl rfl ?_
        refine v_get fl_X7_331 dX7_read_41 g60 rfl ?_
        refine v_callV (c_X7_faulty (d + 11) g60) cs_X7_344 dX7_read_44 g60 rfl rfl (Nat.le_of_ble_eq_true rfl) ?_
        refine rt_k ?_
        rw [if_pos (show (-1 : Int32) < 0 by decide)]
        have hTx : txtP (sT σ) = (false, s2) := by
          rw [hTx, decide_eq_false (fun z => hc36 (show nI (sT σ).length ≤ nI s2.1 from (nI_leI (by omega) (by omega)).mpr (by omega)))]
        refine v_aload_n 1 dX7_read_47 rfl rfl ?_
        refine v_iconst (v := 0) dX7_read_48 (by first | rfl | decide) ?_
        refine v_put fp_X7_328 dX7_read_49 (up_s _ _ _) (Nat.le_of_ble_eq_true rfl) (by first | rfl | decide) (by first | rfl | decide) ?_
        refine v_hp (up_up _ _ _ _) ?_
        refine v_aload_n 1 dX7_read_52 rfl rfl ?_
        refine v_get fl_X7_338 dX7_read_53 (up_s _ _ _) rfl ?_
        refine v_if_lt (tgt := 108) dX7_read_56 (by decide) (fun hc56 => ?_) (fun hc56 => ?_)
        · exact absurd hc56 (nn0 (by omega))
        ·
          refine v_aload_n 1 dX7_read_59 rfl rfl ?_
          refine v_iconst (v := 0) dX7_read_60 (by first | rfl | decide) ?_
          refine v_put fp_X7_217 dX7_read_61 (up_s _ _ _) (Nat.le_of_ble_eq_true rfl) (by first | rfl | decide) (by first | rfl | decide) ?_
          refine v_hp (up_up _ _ _ _) ?_
          refine v_iconst (v := 0) dX7_read_64 (by first | rfl | decide) ?_
          refine v_istore_n dX7_read_65 rfl (by decide) (fun y2 e_y2 => ?_)
          refine v_ls (ls' := [(2, .int y2), (1, .int y1), (0, .ref 60)]) rfl ?_
          subst e_y2
          have hE : rRead σ = (-100 - nI s2.1, toW (toT σ []) (fltW (sW σ) s2)) := by unfold rRead; rw [hTx]
          rw [hE]
          refine v_post (mr_loop (d + 11) (s := s2) hop2 hx3 s2.2.1.length 0 (0, (sW σ).2) _ (by omega) rfl (up_s _ _ _) (up_n (by decide) g76) (up_n (by decide) ((hfr3 78 (by decide) (by decide) (by decide)).trans h78)) (up_n (by decide) ((hfr3 79 (by decide) (by decide) (by decide)).trans h79))) ?_
          rintro r9 m9 ⟨q1, q2, q3, q4, q5⟩
          rw [List.drop_zero] at q2 q3 q4
          exact ⟨q1, ⟨co, wh, un, lr, mr, hr, _, _, _, sg, hm, p, t2, ro, og, tc2, ops2, sp, nw, se, le, mo, ot, q2, ((q5 61 (by decide) (by decide) (by decide)).trans (up_n (by decide) ((hfr3 61 (by decide) (by decide) (by decide)).trans h61))), ((q5 62 (by decide) (by decide) (by decide)).trans (up_n (by decide) ((hfr3 62 (by decide) (by decide) (by decide)).trans h62))), ((q5 63 (by decide) (by decide) (by decide)).trans (up_n (by decide) ((hfr3 63 (by decide) (by decide) (by decide)).trans h63))), ((q5 64 (by decide) (by decide) (by decide)).trans (up_n (by decide) ((hfr3 64 (by decide) (by decide) (by decide)).trans h64))), ((q5 65 (by decide) (by decide) (by decide)).trans (up_n (by decide) ((hfr3 65 (by decide) (by decide) (by decide)).trans h65))), ((q5 66 (by decide) (by decide) (by decide)).trans (up_n (by decide) ((hfr3 66 (by decide) (by decide) (by decide)).trans h66))), ((q5 67 (by decide) (by decide) (by decide)).trans (up_n (by decide) ((hfr3 67 (by decide) (by decide) (by decide)).trans h67))), ((q5 68 (by decide) (by decide) (by decide)).trans (up_n (by decide) ((hfr3 68 (by decide) (by decide) (by decide)).trans h68))), ((q5 69 (by decide) (by decide) (by decide)).trans (up_n (by decide) ((hfr3 69 (by decide) (by decide) (by decide)).trans h69))), ((q5 70 (by decide) (by decide) (by decide)).trans (up_n (by decide) ((hfr3 70 (by decide) (by decide) (by decide)).trans h70))), ((q5 71 (by decide) (by decide) (by decide)).trans (up_n (by decide) ((hfr3 71 (by decide) (by decide) (by decide)).trans h71))), ((q5 72 (by decide) (by decide) (by decide)).trans (up_n (by decide) ((hfr3 72 (by decide) (by decide) (by decide)).trans h72))), ((q5 73 (by decide) (by decide) (by decide)).trans (up_n (by decide) ((hfr3 73 (by decide) (by decide) (by decide)).trans h73))), ((q5 74 (by decide) (by decide) (by decide)).trans (up_n (by decide) ((hfr3 74 (by decide) (by decide) (by decide)).trans h74))), ((q5 75 (by decide) (by decide) (by decide)).trans (up_n (by decide) g75)), ((q5 76 (by decide) (by decide) (by decide)).trans (up_n (by decide) g76)), ((q5 77 (by decide) (by decide) (by decide)).trans (up_n (by decide) g77)), q3, q4, ((q5 80 (by decide) (by decide) (by decide)).trans (up_n (by decide) ((hfr3 80 (by decide) (by decide) (by decide)).trans h80))), (hmk.kept (fun i a b => (q5 i (by omega) (by omega) (by omega)).trans ((show _ = m2 i by repeat (first | rfl | refine up_n (by omega) ?_)).trans (hfr3 i (by omega) (by omega) (by omega))))), hpl, (fun j hj => absurd hj (Nat.not_lt_zero j)), Nat.zero_le _⟩, fun i hi => (q5 i (by omega) (by omega) (by omega)).trans ((show _ = m2 i by repeat (first | rfl | refine up_n (by omega) ?_)).trans (hfr3 i (by omega) (by omega) (by omega)))⟩
          
  ·
    obtain rfl : b2 = false := by
      cases b2 with
      | true => exact absurd rfl hb2
      | false => rfl
    obtain ⟨t2, ops2, tc2, at2, g60, g75, g76, g77, -, hk2, hop2⟩ := hf2 rfl
    have hx3 : s2.2.1.length ≤ 3 := hx3
    have hk2 : s2.1 ≤ (sT σ).length := hk2
    have hop2 : ∀ j, j < s2.2.1.length → ops2 j = nI (s2.2.1.getD j 0) := hop2
    have hTx : txtP (sT σ) = (false, s2) := hTx
    refine v_istore_n dX7_read_20 rfl (by decide) (fun y1 e_y1 => ?_)
    refine v_ls (ls' := [(1, .int y1), (0, .ref 60)]) rfl ?_
    refine v_aload_n 1 dX7_read_21 rfl rfl ?_
    refine v_get fl_X7_338 dX7_read_22 g60 rfl ?_
    refine v_if_ge (tgt := 47) dX7_read_25 (by decide) (fun hc25 => ?_) (fun hc25 => ?_)
    ·
      refine v_aload_n 1 dX7_read_47 rfl rfl ?_
      refine v_iconst (v := 0) dX7_read_48 (by first | rfl | decide) ?_
      refine v_put fp_X7_328 dX7_read_49 g60 (Nat.le_of_ble_eq_true rfl) (by first | rfl | decide) (by first | rfl | decide) ?_
      refine v_aload_n 1 dX7_read_52 rfl rfl ?_
      refine v_get fl_X7_338 dX7_read_53 (up_s _ _ _) rfl ?_
      refine v_if_lt (tgt := 108) dX7_read_56 (by decide) (fun hc56 => ?_) (fun hc56 => ?_)
      · exact absurd hc56 (nn0 (by omega))
      ·
        refine v_aload_n 1 dX7_read_59 rfl rfl ?_
        refine v_iconst (v := 0) dX7_read_60 (by first | rfl | decide) ?_
        refine v_put fp_X7_217 dX7_read_61 (up_s _ _ _) (Nat.le_of_ble_eq_true rfl) (by first | rfl | decide) (by first | rfl | decide) ?_
        refine v_hp (up_up _ _ _ _) ?_
        refine v_iconst (v := 0) dX7_read_64 (by first | rfl | decide) ?_
        refine v_istore_n dX7_read_65 rfl (by decide) (fun y2 e_y2 => ?_)
        refine v_ls (ls' := [(2, .int y2), (1, .int y1), (0, .ref 60)]) rfl ?_
        subst e_y2
        have hE : rRead σ = (-100 - nI s2.1, toW (toT σ []) (fltW (sW σ) s2)) := by unfold rRead; rw [hTx]
        rw [hE]
        refine v_post (mr_loop (d + 11) (s := s2) hop2 hx3 s2.2.1.length 0 (0, (sW σ).2) _ (by omega) rfl (up_s _ _ _) (up_n (by decide) g76) (up_n (by decide) ((hfr3 78 (by decide) (by decide) (by decide)).trans h78)) (up_n (by decide) ((hfr3 79 (by decide) (by decide) (by decide)).trans h79))) ?_
        rintro r9 m9 ⟨q1, q2, q3, q4, q5⟩
        rw [List.drop_zero] at q2 q3 q4
        exact ⟨q1, ⟨co, wh, un, lr, mr, hr, _, _, _, sg, hm, p, t2, ro, og, tc2, ops2, sp, nw, se, le, mo, ot, q2, ((q5 61 (by decide) (by decide) (by decide)).trans (up_n (by decide) ((hfr3 61 (by decide) (by decide) (by decide)).trans h61))), ((q5 62 (by decide) (by decide) (by decide)).trans (up_n (by decide) ((hfr3 62 (by decide) (by decide) (by decide)).trans h62))), ((q5 63 (by decide) (by decide) (by decide)).trans (up_n (by decide) ((hfr3 63 (by decide) (by decide) (by decide)).trans h63))), ((q5 64 (by decide) (by decide) (by decide)).trans (up_n (by decide) ((hfr3 64 (by decide) (by decide) (by decide)).trans h64))), ((q5 65 (by decide) (by decide) (by decide)).trans (up_n (by decide) ((hfr3 65 (by decide) (by decide) (by decide)).trans h65))), ((q5 66 (by decide) (by decide) (by decide)).trans (up_n (by decide) ((hfr3 66 (by decide) (by decide) (by decide)).trans h66))), ((q5 67 (by decide) (by decide) (by decide)).trans (up_n (by decide) ((hfr3 67 (by decide) (by decide) (by decide)).trans h67))), ((q5 68 (by decide) (by decide) (by decide)).trans (up_n (by decide) ((hfr3 68 (by decide) (by decide) (by decide)).trans h68))), ((q5 69 (by decide) (by decide) (by decide)).trans (up_n (by decide) ((hfr3 69 (by decide) (by decide) (by decide)).trans h69))), ((q5 70 (by decide) (by decide) (by decide)).trans (up_n (by decide) ((hfr3 70 (by decide) (by decide) (by decide)).trans h70))), ((q5 71 (by decide) (by decide) (by decide)).trans (up_n (by decide) ((hfr3 71 (by decide) (by decide) (by decide)).trans h71))), ((q5 72 (by decide) (by decide) (by decide)).trans (up_n (by decide) ((hfr3 72 (by decide) (by decide) (by decide)).trans h72))), ((q5 73 (by decide) (by decide) (by decide)).trans (up_n (by decide) ((hfr3 73 (by decide) (by decide) (by decide)).trans h73))), ((q5 74 (by decide) (by decide) (by decide)).trans (up_n (by decide) ((hfr3 74 (by decide) (by decide) (by decide)).trans h74))), ((q5 75 (by decide) (by decide) (by decide)).trans (up_n (by decide) g75)), ((q5 76 (by decide) (by decide) (by decide)).trans (up_n (by decide) g76)), ((q5 77 (by decide) (by decide) (by decide)).trans (up_n (by decide) g77)), q3, q4, ((q5 80 (by decide) (by decide) (by decide)).trans (up_n (by decide) ((hfr3 80 (by decide) (by decide) (by decide)).trans h80))), (hmk.kept (fun i a b => (q5 i (by omega) (by omega) (by omega)).trans ((show _ = m2 i by repeat (first | rfl | refine up_n (by omega) ?_)).trans (hfr3 i (by omega) (by omega) (by omega))))), hpl, (fun j hj => absurd hj (Nat.not_lt_zero j)), Nat.zero_le _⟩, fun i hi => (q5 i (by omega) (by omega) (by omega)).trans ((show _ = m2 i by repeat (first | rfl | refine up_n (by omega) ?_)).trans (hfr3 i (by omega) (by omega) (by omega)))⟩
        
    · exact absurd (Int32.not_lt.mp (nn0 (by omega))) hc25

