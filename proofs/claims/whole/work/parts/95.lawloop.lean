theorem lim_iff {L m : Nat} (h : L ≤ 2560) (hm : m ≤ 100000) : nI L - 5 < nI m ↔ L < m + 5 := by
  rw [Int32.lt_iff_toInt_lt, show (5 : Int32) = nI 5 from rfl, pk_sub_toInt (by omega) (by decide), nI_toInt (by omega)]
  omega
set_option maxRecDepth 20000 in
set_option maxHeartbeats 4000000 in
theorem law_loop {G : Cx} {P : Option Value → Hp → Prop} (hP : ∀ μ, P (some (.int 1)) μ) (hL2 : cL G ≤ 2560) : ∀ (k n : Nat) (σ : ST) (μ : Hp), cL G ≤ 5 * n + 5 * k + 4 → 5 * n ≤ cL G → Cl σ μ → Mo σ μ → Ws n σ → V G M_L_law 17 (41 * k) (2870 * k) P 18 (lawL n) [] μ := by
  intro k
  induction k with
  | zero =>
    intro n σ μ hk hn5 h h9 hs
    refine v_iload_n 0 dL_law_18 rfl rfl ?_
    refine v_aload_n 3 dL_law_19 rfl rfl ?_
    refine v_rolen (ro_script G) dL_law_20 ?_
    refine v_iconst (v := 5) dL_law_21 (by first | rfl | decide) ?_
    refine v_isub dL_law_22 ?_
    refine v_icmp_gt (tgt := 1759) dL_law_23 (by decide) (fun hc => ?_) (fun hc => ?_)
    · refine v_iconst (v := 1) dL_law_1759 (by first | rfl | decide) ?_
      exact v_iret dL_law_1760 rfl rfl (hP μ)
    · exact absurd ((lim_iff hL2 (by omega)).mpr (by omega)) hc
  | succ k ih =>
    intro n σ μ hk hn5 h h9 hs
    refine v_bud (mc1 := 41 * k + 41) (ms1 := 2870 * k + 2870) (by omega) (by omega) ?_
    refine v_iload_n 0 dL_law_18 rfl rfl ?_
    refine v_aload_n 3 dL_law_19 rfl rfl ?_
    refine v_rolen (ro_script G) dL_law_20 ?_
    refine v_iconst (v := 5) dL_law_21 (by first | rfl | decide) ?_
    refine v_isub dL_law_22 ?_
    refine v_icmp_gt (tgt := 1759) dL_law_23 (by decide) (fun hc => ?_) (fun hc => ?_)
    · refine v_iconst (v := 1) dL_law_1759 (by first | rfl | decide) ?_
      exact v_iret dL_law_1760 rfl rfl (hP μ)
    · have hL : 5 * n + 5 ≤ cL G := Nat.not_lt.mp (fun z => hc ((lim_iff hL2 (by omega)).mpr z))
      have hn : n < 8192 := by omega
      have nx : Nx G P n k := fun σ' μ' a b c => by
        refine v_iinc (v := 5) 0 dL_law_1753 rfl rfl (by decide) (fun z e_z => ?_)
        obtain rfl : z = nI (5 * (n + 1)) := by rw [e_z, show (5 : Int32) = nI 5 from rfl, nI_add]; rfl
        refine v_ls (ls' := lawL (n + 1)) rfl ?_
        refine v_goto (tgt := 18) dL_law_1756 (by decide) ?_
        exact ih (n + 1) σ' μ' (by omega) (by omega) a b c
      have nx0 : V G M_L_law 17 (41 * k + 41) (2870 * k + 2870) P 1753 (lawL n) [] μ := v_bud (mc1 := 41 * k) (ms1 := 2870 * k) (by omega) (by omega) (nx σ μ h h9 (hs.mono (Nat.le_succ n)))
      refine v_aload_n 3 dL_law_26 rfl rfl ?_
      refine v_iload_n 0 dL_law_27 rfl rfl ?_
      refine v_roi (ro_script G) dL_law_28 (nI_in' (k := 5 * n) (by omega) (by omega)) (by omega) ?_
      refine v_bipush (v := 63) dL_law_29 (by first | rfl | decide) ?_
      refine v_iand dL_law_31 ?_
      refine v_topi (fun w e_w => ?_)
      clear e_w
      by_cases cl : w.toInt < 0
      · exact v_tableOut (tgt := 1753) dL_law_32 (Or.inl cl) (by decide) nx0
      by_cases ch : 48 < w.toInt
      · exact v_tableOut (tgt := 1753) dL_law_32 (Or.inr ch) (by decide) nx0
      by_cases cs0 : w = 0
      · exact v_tableIn (off := 212) (tgt := 244) dL_law_32 cl ch (by rw [cs0]; rfl) (by decide) (law_lamp hL hL2 hn h h9 hs nx)
      by_cases cs1 : w = 1
      · exact v_tableIn (off := 265) (tgt := 297) dL_law_32 cl ch (by rw [cs1]; rfl) (by decide) (law_add hL hL2 hn h h9 hs nx)
      by_cases cs2 : w = 2
      · exact v_tableIn (off := 308) (tgt := 340) dL_law_32 cl ch (by rw [cs2]; rfl) (by decide) (law_change hL hL2 hn h h9 hs nx)
      by_cases cs3 : w = 3
      · exact v_tableIn (off := 351) (tgt := 383) dL_law_32 cl ch (by rw [cs3]; rfl) (by decide) (law_turn hL hL2 hn h h9 hs nx)
      by_cases cs4 : w = 4
      · exact v_tableIn (off := 384) (tgt := 416) dL_law_32 cl ch (by rw [cs4]; rfl) (by decide) (law_move hL hL2 hn h h9 hs nx)
      by_cases cs5 : w = 5
      · exact v_tableIn (off := 417) (tgt := 449) dL_law_32 cl ch (by rw [cs5]; rfl) (by decide) (law_cut hL hL2 hn h h9 hs nx)
      by_cases cs6 : w = 6
      · exact v_tableIn (off := 440) (tgt := 472) dL_law_32 cl ch (by rw [cs6]; rfl) (by decide) (law_clear hL hL2 hn h h9 hs nx)
      by_cases cs7 : w = 7
      · exact v_tableIn (off := 453) (tgt := 485) dL_law_32 cl ch (by rw [cs7]; rfl) (by decide) (law_of hL hL2 hn h h9 hs nx)
      by_cases cs8 : w = 8
      · exact v_tableIn (off := 486) (tgt := 518) dL_law_32 cl ch (by rw [cs8]; rfl) (by decide) (law_isUnder hL hL2 hn h h9 hs nx)
      by_cases cs9 : w = 9
      · exact v_tableIn (off := 519) (tgt := 551) dL_law_32 cl ch (by rw [cs9]; rfl) (by decide) (law_light hL hL2 hn h h9 hs nx)
      by_cases cs10 : w = 10
      · exact v_tableIn (off := 553) (tgt := 585) dL_law_32 cl ch (by rw [cs10]; rfl) (by decide) (law_left hL hL2 hn h h9 hs nx)
      by_cases cs11 : w = 11
      · exact v_tableIn (off := 587) (tgt := 619) dL_law_32 cl ch (by rw [cs11]; rfl) (by decide) (law_degree hL hL2 hn h h9 hs nx)
      by_cases cs12 : w = 12
      · exact v_tableIn (off := 621) (tgt := 653) dL_law_32 cl ch (by rw [cs12]; rfl) (by decide) (law_sort hL hL2 hn h h9 hs nx)
      by_cases cs13 : w = 13
      · exact v_tableIn (off := 644) (tgt := 676) dL_law_32 cl ch (by rw [cs13]; rfl) (by decide) (law_order hL hL2 hn h h9 hs nx)
      by_cases cs14 : w = 14
      · exact v_tableIn (off := 667) (tgt := 699) dL_law_32 cl ch (by rw [cs14]; rfl) (by decide) (law_orderLight hL hL2 hn h h9 hs nx)
      by_cases cs15 : w = 15
      · exact v_tableIn (off := 701) (tgt := 733) dL_law_32 cl ch (by rw [cs15]; rfl) (by decide) (law_matrix hL hL2 hn h h9 hs nx)
      by_cases cs16 : w = 16
      · exact v_tableIn (off := 745) (tgt := 777) dL_law_32 cl ch (by rw [cs16]; rfl) (by decide) (law_trade hL hL2 hn h h9 hs nx)
      by_cases cs17 : w = 17
      · exact v_tableIn (off := 778) (tgt := 810) dL_law_32 cl ch (by rw [cs17]; rfl) (by decide) (law_angle hL hL2 hn h h9 hs nx)
      by_cases cs18 : w = 18
      · exact v_tableIn (off := 811) (tgt := 843) dL_law_32 cl ch (by rw [cs18]; rfl) (by decide) (law_without hL hL2 hn h h9 hs nx)
      by_cases cs19 : w = 19
      · exact v_tableIn (off := 845) (tgt := 877) dL_law_32 cl ch (by rw [cs19]; rfl) (by decide) (law_darkens hL hL2 hn h h9 hs nx)
      by_cases cs20 : w = 20
      · exact v_tableIn (off := 858) (tgt := 890) dL_law_32 cl ch (by rw [cs20]; rfl) (by decide) (law_crossed hL hL2 hn h h9 hs nx)
      by_cases cs21 : w = 21
      · exact v_tableIn (off := 881) (tgt := 913) dL_law_32 cl ch (by rw [cs21]; rfl) (by decide) (law_tally hL hL2 hn h h9 hs nx)
      by_cases cs22 : w = 22
      · exact v_tableIn (off := 904) (tgt := 936) dL_law_32 cl ch (by rw [cs22]; rfl) (by decide) (law_list hL hL2 hn h h9 hs nx)
      by_cases cs23 : w = 23
      · exact v_tableIn (off := 937) (tgt := 969) dL_law_32 cl ch (by rw [cs23]; rfl) (by decide) (law_put hL hL2 hn h h9 hs nx)
      by_cases cs24 : w = 24
      · exact v_tableIn (off := 1010) (tgt := 1042) dL_law_32 cl ch (by rw [cs24]; rfl) (by decide) (law_get hL hL2 hn h h9 hs nx)
      by_cases cs25 : w = 25
      · exact v_tableIn (off := 1044) (tgt := 1076) dL_law_32 cl ch (by rw [cs25]; rfl) (by decide) (law_lay hL hL2 hn h h9 hs nx)
      by_cases cs26 : w = 26
      · exact v_tableIn (off := 1077) (tgt := 1109) dL_law_32 cl ch (by rw [cs26]; rfl) (by decide) (law_readings hL hL2 hn h h9 hs nx)
      by_cases cs27 : w = 27
      · exact v_tableIn (off := 1100) (tgt := 1132) dL_law_32 cl ch (by rw [cs27]; rfl) (by decide) (law_refound hL hL2 hn h h9 hs nx)
      by_cases cs28 : w = 28
      · exact v_tableIn (off := 1134) (tgt := 1166) dL_law_32 cl ch (by rw [cs28]; rfl) (by decide) (law_through hL hL2 hn h h9 hs nx)
      by_cases cs29 : w = 29
      · exact v_tableIn (off := 1168) (tgt := 1200) dL_law_32 cl ch (by rw [cs29]; rfl) (by decide) (law_before hL hL2 hn h h9 hs nx)
      by_cases cs30 : w = 30
      · exact v_tableIn (off := 1202) (tgt := 1234) dL_law_32 cl ch (by rw [cs30]; rfl) (by decide) (law_found hL hL2 hn h h9 hs nx)
      by_cases cs31 : w = 31
      · exact v_tableIn (off := 1245) (tgt := 1277) dL_law_32 cl ch (by rw [cs31]; rfl) (by decide) (law_meter hL hL2 hn h h9 hs nx)
      by_cases cs32 : w = 32
      · exact v_tableIn (off := 1279) (tgt := 1311) dL_law_32 cl ch (by rw [cs32]; rfl) (by decide) (law_expose hL hL2 hn h h9 hs nx)
      by_cases cs33 : w = 33
      · exact v_tableIn (off := 1302) (tgt := 1334) dL_law_32 cl ch (by rw [cs33]; rfl) (by decide) (law_dim hL hL2 hn h h9 hs nx)
      by_cases cs34 : w = 34
      · exact v_tableIn (off := 1335) (tgt := 1367) dL_law_32 cl ch (by rw [cs34]; rfl) (by decide) (law_film hL hL2 hn h h9 hs nx)
      by_cases cs35 : w = 35
      · exact v_tableIn (off := 1368) (tgt := 1400) dL_law_32 cl ch (by rw [cs35]; rfl) (by decide) (law_sumFilm hL hL2 hn h h9 hs nx)
      by_cases cs36 : w = 36
      · exact v_tableIn (off := 1392) (tgt := 1424) dL_law_32 cl ch (by rw [cs36]; rfl) (by decide) (law_store hL hL2 hn h h9 hs nx)
      by_cases cs37 : w = 37
      · exact v_tableIn (off := 1435) (tgt := 1467) dL_law_32 cl ch (by rw [cs37]; rfl) (by decide) (law_empty hL hL2 hn h h9 hs nx)
      by_cases cs38 : w = 38
      · exact v_tableIn (off := 1468) (tgt := 1500) dL_law_32 cl ch (by rw [cs38]; rfl) (by decide) (law_fetch hL hL2 hn h h9 hs nx)
      by_cases cs39 : w = 39
      · exact v_tableIn (off := 1501) (tgt := 1533) dL_law_32 cl ch (by rw [cs39]; rfl) (by decide) (law_rack hL hL2 hn h h9 hs nx)
      by_cases cs40 : w = 40
      · exact v_tableIn (off := 1534) (tgt := 1566) dL_law_32 cl ch (by rw [cs40]; rfl) (by decide) (law_copy hL hL2 hn h h9 hs nx)
      by_cases cs41 : w = 41
      · exact v_tableIn (off := 1567) (tgt := 1599) dL_law_32 cl ch (by rw [cs41]; rfl) (by decide) (law_feed hL hL2 hn h h9 hs nx)
      by_cases cs42 : w = 42
      · exact v_tableIn (off := 1590) (tgt := 1622) dL_law_32 cl ch (by rw [cs42]; rfl) (by decide) (law_wipe hL hL2 hn h h9 hs nx)
      by_cases cs43 : w = 43
      · exact v_tableIn (off := 1603) (tgt := 1635) dL_law_32 cl ch (by rw [cs43]; rfl) (by decide) (law_read hL hL2 hn h h9 hs nx)
      by_cases cs44 : w = 44
      · exact v_tableIn (off := 1616) (tgt := 1648) dL_law_32 cl ch (by rw [cs44]; rfl) (by decide) (law_why hL hL2 hn h h9 hs nx)
      by_cases cs45 : w = 45
      · exact v_tableIn (off := 1649) (tgt := 1681) dL_law_32 cl ch (by rw [cs45]; rfl) (by decide) (law_spelled hL hL2 hn h h9 hs nx)
      by_cases cs46 : w = 46
      · exact v_tableIn (off := 1672) (tgt := 1704) dL_law_32 cl ch (by rw [cs46]; rfl) (by decide) (law_image hL hL2 hn h h9 hs nx)
      by_cases cs47 : w = 47
      · exact v_tableIn (off := 1685) (tgt := 1717) dL_law_32 cl ch (by rw [cs47]; rfl) (by decide) (law_undo hL hL2 hn h h9 hs nx)
      by_cases cs48 : w = 48
      · exact v_tableIn (off := 1698) (tgt := 1730) dL_law_32 cl ch (by rw [cs48]; rfl) (by decide) (law_count hL hL2 hn h h9 hs nx)
      exfalso
      have q0 := lv_neT (a := 0) cs0 (by decide)
      have q1 := lv_neT (a := 1) cs1 (by decide)
      have q2 := lv_neT (a := 2) cs2 (by decide)
      have q3 := lv_neT (a := 3) cs3 (by decide)
      have q4 := lv_neT (a := 4) cs4 (by decide)
      have q5 := lv_neT (a := 5) cs5 (by decide)
      have q6 := lv_neT (a := 6) cs6 (by decide)
      have q7 := lv_neT (a := 7) cs7 (by decide)
      have q8 := lv_neT (a := 8) cs8 (by decide)
      have q9 := lv_neT (a := 9) cs9 (by decide)
      have q10 := lv_neT (a := 10) cs10 (by decide)
      have q11 := lv_neT (a := 11) cs11 (by decide)
      have q12 := lv_neT (a := 12) cs12 (by decide)
      have q13 := lv_neT (a := 13) cs13 (by decide)
      have q14 := lv_neT (a := 14) cs14 (by decide)
      have q15 := lv_neT (a := 15) cs15 (by decide)
      have q16 := lv_neT (a := 16) cs16 (by decide)
      have q17 := lv_neT (a := 17) cs17 (by decide)
      have q18 := lv_neT (a := 18) cs18 (by decide)
      have q19 := lv_neT (a := 19) cs19 (by decide)
      have q20 := lv_neT (a := 20) cs20 (by decide)
      have q21 := lv_neT (a := 21) cs21 (by decide)
      have q22 := lv_neT (a := 22) cs22 (by decide)
      have q23 := lv_neT (a := 23) cs23 (by decide)
      have q24 := lv_neT (a := 24) cs24 (by decide)
      have q25 := lv_neT (a := 25) cs25 (by decide)
      have q26 := lv_neT (a := 26) cs26 (by decide)
      have q27 := lv_neT (a := 27) cs27 (by decide)
      have q28 := lv_neT (a := 28) cs28 (by decide)
      have q29 := lv_neT (a := 29) cs29 (by decide)
      have q30 := lv_neT (a := 30) cs30 (by decide)
      have q31 := lv_neT (a := 31) cs31 (by decide)
      have q32 := lv_neT (a := 32) cs32 (by decide)
      have q33 := lv_neT (a := 33) cs33 (by decide)
      have q34 := lv_neT (a := 34) cs34 (by decide)
      have q35 := lv_neT (a := 35) cs35 (by decide)
      have q36 := lv_neT (a := 36) cs36 (by decide)
      have q37 := lv_neT (a := 37) cs37 (by decide)
      have q38 := lv_neT (a := 38) cs38 (by decide)
      have q39 := lv_neT (a := 39) cs39 (by decide)
      have q40 := lv_neT (a := 40) cs40 (by decide)
      have q41 := lv_neT (a := 41) cs41 (by decide)
      have q42 := lv_neT (a := 42) cs42 (by decide)
      have q43 := lv_neT (a := 43) cs43 (by decide)
      have q44 := lv_neT (a := 44) cs44 (by decide)
      have q45 := lv_neT (a := 45) cs45 (by decide)
      have q46 := lv_neT (a := 46) cs46 (by decide)
      have q47 := lv_neT (a := 47) cs47 (by decide)
      have q48 := lv_neT (a := 48) cs48 (by decide)
      omega
set_option maxRecDepth 20000 in
set_option maxHeartbeats 4000000 in
theorem law_body {G : Cx} {P : Option Value → Hp → Prop} (hP : ∀ μ, P (some (.int 1)) μ) (hL2 : cL G ≤ 2560) : V G M_L_law 17 21067 1471506 P 0 [(0, .ref 1000)] [] (fun _ => none) := by
  refine v_new_X6 (mc := 21066) (ms := 1471493) 0 ck_L_7 dL_law_0 rfl (by decide) ?_
  refine v_dup dL_law_3 rfl ?_
  refine v_bud (mc1 := 21018 + 48) (ms1 := 1470463 + 1030) (by decide) (by decide) ?_
  refine v_callI (c_X6_init 13 (up_s _ _ _) (fun k a b => up_n (by omega) rfl)) cs_L_9 dL_law_4 rfl rfl (Nat.le_of_ble_eq_true rfl) ?_
  rintro _ m1 ⟨rfl, h1, f1⟩
  refine v_astore_n dL_law_7 rfl (by decide) (fun z_ ez_ => ?_)
  subst ez_
  refine v_ls (ls' := [(1, .ref 0), (0, .ref 1000)]) rfl ?_
  refine v_new_X7 (mc := 21017) (ms := 1470423) 60 ck_L_10 dL_law_8 ((f1 60 (by decide)).trans (up_n (by decide) rfl)) (by decide) ?_
  refine v_dup dL_law_11 rfl ?_
  refine v_bud (mc1 := 20992 + 25) (ms1 := 1469440 + 983) (by decide) (by decide) ?_
  refine v_callI (c_X7_init 15 (up_s _ _ _) (fun k a b => up_n (by omega) ((f1 k (by omega)).trans (up_n (by omega) rfl)))) cs_L_12 dL_law_12 rfl rfl (Nat.le_of_ble_eq_true rfl) ?_
  rintro _ m2 ⟨rfl, h2, f2⟩
  refine v_astore_n dL_law_15 rfl (by decide) (fun z_ ez_ => ?_)
  subst ez_
  refine v_ls (ls' := [(2, .ref 60), (1, .ref 0), (0, .ref 1000)]) rfl ?_
  refine v_iconst (v := 0) dL_law_16 (by first | rfl | decide) ?_
  refine v_istore_n dL_law_17 rfl (by decide) (fun z e_z => ?_)
  obtain rfl : z = nI (5 * 0) := e_z
  refine v_ls (ls' := lawL 0) rfl ?_
  refine v_bud (mc1 := 41 * 512) (ms1 := 2870 * 512) (by decide) (by decide) ?_
  exact law_loop hP hL2 512 0 st0 m2 (by omega) (by omega) (h1.fp (fun i hi => (f2 i hi).trans (up_n (by omega) rfl))) h2 ws_st0

