theorem angL_s (σ : ST) (i n : Nat) : angL σ i (n + 1) = angL σ i n ++ [(inst σ i (angC ((sP σ).getD i 0) n), nI n)] := by
  unfold angL
  rw [List.range_succ, List.map_append]
  rfl
theorem ang_any (σ : ST) (i : Nat) (a b : LT × Int32) : (angL σ i 4).foldl meetO ([], a, b) = angO σ i := by
  have h : ∃ x xs, angL σ i 4 = x :: xs := ⟨_, _, rfl⟩
  obtain ⟨x, xs, hx⟩ := h
  unfold angO
  rw [hx, List.foldl_cons, List.foldl_cons, meet_0, meet_0]
theorem angL_len (σ : ST) (i n : Nat) : (angL σ i n).length = n := by
  unfold angL
  rw [List.length_map, List.length_range]
theorem Oc.zero {c : OC} {μ : Hp} (h : Oc c μ) : Oc ([], c.2) (up μ 32 (outC c.2.1.2 c.2.2.2 0)) := by
  obtain ⟨s, t, h1, h2, h3, h4, h5, h6⟩ := h
  exact ⟨s, t, up_s _ _ _, up_n (by decide) h2, up_n (by decide) h3, up_n (by decide) h4, up_n (by decide) h5, fun j L k hj => by simp at hj⟩
set_option maxRecDepth 20000 in
set_option maxHeartbeats 4000000 in
theorem ang_loop {G : Cx} (d : Nat) {σ : ST} {μ0 : Hp} (hw : Wp (sP σ)) {n : Nat} {w : Int32} {a0 b0 : LT × Int32} (hn9 : n < (sP σ).length) (hin : ¬ inO (nI n) (sN σ) = 0) (hw3 : ¬ inO w 3 = 0) : ∀ (m : Nat) (j : Nat) (μ : Hp), j + m = 4 → Cl σ μ → Fo μ μ0 → μ 51 = some (ligL (behO σ n)) → Oc ((angL σ n j).foldl meetO ([], a0, b0)) μ → V G M_X6_angle (d + 5) 0 0 (Po σ (.int (rAngle σ (nI n) w)) μ0) 47 [(3, .int (nI j)), (0, .ref 0), (1, .int (nI n)), (2, .int w)] [] (μ) := by
  intro m
  induction m with
  | zero =>
    intro j μ hj h hF h51b hocb
    obtain ⟨h0, ⟨p, h1, h2, h3, h4, h5, h6, h7, h8, h9, hpl⟩, ⟨bk, hbk, pk, k11, k12, k13, k14, k15, k16, k17, k18, k19, hpk⟩, ⟨h20, h21, h22, h23, h24⟩, ⟨tt, ops, cd, kk, pp, ff, h25, h26, h27, h28, htp, ht60⟩, ⟨h29, h30, h31⟩, ⟨⟨oc, hoc⟩, h37, h38, h39⟩, hsx, ⟨B0, B1, B2, h50, h51, h52⟩⟩ := id h
    have hl8 := hw.1
    obtain ⟨s9, t9, g32, g33, g34, g35, g36, hsn⟩ := id hocb
    have hlen := meet_len (angL σ n j) ([], a0, b0)
    rw [angL_len] at hlen
    have hlen : ((angL σ n j).foldl meetO ([], a0, b0)).1.length ≤ 0 + j := hlen
    refine v_iload_n 0 dX6_angle_47 rfl rfl ?_
    refine v_iconst (v := 4) dX6_angle_48 (by first | rfl | decide) ?_
    refine v_icmp_ge (tgt := 88) dX6_angle_49 (by decide) (fun hc49 => ?_) (fun hc49 => ?_)
    ·
      obtain rfl : j = 4 := by omega
      have hang := ang_any σ n a0 b0
      refine v_iload_n 3 dX6_angle_88 rfl rfl ?_
      refine v_if_ne (tgt := 100) dX6_angle_89 (by decide) (fun hc89 => ?_) (fun hc89 => ?_)
      ·
        refine v_iload_n 3 dX6_angle_100 rfl rfl ?_
        refine v_iconst (v := 1) dX6_angle_101 (by first | rfl | decide) ?_
        refine v_icmp_ne (tgt := 115) dX6_angle_102 (by decide) (fun hc102 => ?_) (fun hc102 => ?_)
        ·
          refine v_aload_n 1 dX6_angle_115 rfl rfl ?_
          refine v_get fl_X6_47 dX6_angle_116 h0 rfl ?_
          refine v_get fl_X6_226 dX6_angle_119 g32 rfl ?_
          refine v_iret dX6_angle_122 rfl (by first | rfl | decide | exact nar_b (by first | assumption | rfl)) ?_
          have hE : rAngle σ (nI n) w = nI ((angL σ n 4).foldl meetO ([], a0, b0)).1.length := by
            simp only [rAngle, if_neg hin, if_neg hw3, clamp (show n < 2 ^ 31 by omega), if_neg hc89, if_neg hc102, ← hang]
          rw [hE]
          exact ⟨rfl, h, hF⟩
        ·
          refine v_aload_n 1 dX6_angle_105 rfl rfl ?_
          refine v_get fl_X6_47 dX6_angle_106 h0 rfl ?_
          refine v_get fl_X6_220 dX6_angle_109 g32 rfl ?_
          refine v_goto (tgt := 122) dX6_angle_112 (by decide) ?_
          refine v_iret dX6_angle_122 rfl (by first | rfl | decide | exact nar_b (by first | assumption | rfl)) ?_
          have hE : rAngle σ (nI n) w = ((angL σ n 4).foldl meetO ([], a0, b0)).2.1.2 := by
            simp only [rAngle, if_neg hin, if_neg hw3, clamp (show n < 2 ^ 31 by omega), if_neg hc89, if_pos hc102, ← hang]
          rw [hE]
          exact ⟨rfl, h, hF⟩
      ·
        refine v_aload_n 1 dX6_angle_92 rfl rfl ?_
        refine v_get fl_X6_47 dX6_angle_93 h0 rfl ?_
        refine v_get fl_X6_223 dX6_angle_96 g32 rfl ?_
        refine v_iret dX6_angle_99 rfl (by first | rfl | decide | exact nar_b (by first | assumption | rfl)) ?_
        have hE : rAngle σ (nI n) w = ((angL σ n 4).foldl meetO ([], a0, b0)).2.2.2 := by
          simp only [rAngle, if_neg hin, if_neg hw3, clamp (show n < 2 ^ 31 by omega), if_pos hc89, ← hang]
        rw [hE]
        exact ⟨rfl, h, hF⟩
    · exact absurd ((nI_leI (a := 4) (by decide) (by omega)).mpr (by omega)) hc49
  | succ m ih =>
    intro j μ hj h hF h51b hocb
    obtain ⟨h0, ⟨p, h1, h2, h3, h4, h5, h6, h7, h8, h9, hpl⟩, ⟨bk, hbk, pk, k11, k12, k13, k14, k15, k16, k17, k18, k19, hpk⟩, ⟨h20, h21, h22, h23, h24⟩, ⟨tt, ops, cd, kk, pp, ff, h25, h26, h27, h28, htp, ht60⟩, ⟨h29, h30, h31⟩, ⟨⟨oc, hoc⟩, h37, h38, h39⟩, hsx, ⟨B0, B1, B2, h50, h51, h52⟩⟩ := id h
    have hl8 := hw.1
    obtain ⟨s9, t9, g32, g33, g34, g35, g36, hsn⟩ := id hocb
    have hlen := meet_len (angL σ n j) ([], a0, b0)
    rw [angL_len] at hlen
    have hlen : ((angL σ n j).foldl meetO ([], a0, b0)).1.length ≤ 0 + j := hlen
    refine v_iload_n 0 dX6_angle_47 rfl rfl ?_
    refine v_iconst (v := 4) dX6_angle_48 (by first | rfl | decide) ?_
    refine v_icmp_ge (tgt := 88) dX6_angle_49 (by decide) (fun hc49 => ?_) (fun hc49 => ?_)
    · have := (nI_leI (a := 4) (by decide) (by omega)).mp hc49
      omega
    ·
      refine v_aload_n 1 dX6_angle_52 rfl rfl ?_
      refine v_iload_n 2 dX6_angle_53 rfl rfl ?_
      refine v_aload_n 1 dX6_angle_54 rfl rfl ?_
      refine v_get fl_X6_12 dX6_angle_55 h0 rfl ?_
      refine v_get fl_X6_118 dX6_angle_58 h1 rfl ?_
      refine v_iload_n 2 dX6_angle_61 rfl rfl ?_
      refine v_iald dX6_angle_62 h3 (nI_in' (by omega)) ?_
      refine v_iload_n 0 dX6_angle_63 rfl rfl ?_
      rw [clamp (show n < 2 ^ 31 by omega), ← getD_at hpl hn9]
      refine v_callS (c_X6_withAngle (d + 3) ) cs_X6_129 dX6_angle_64 rfl rfl (Nat.le_of_ble_eq_true rfl) ?_
      refine rt_k ?_
      refine v_callV (c_X6_shineOn d h0 h1 h3 hpl hl8 h50 h51b (by omega)) cs_X6_262 dX6_angle_67 h0 rfl rfl (Nat.le_of_ble_eq_true rfl) ?_
      refine rt_k ?_
      refine v_aload_n 1 dX6_angle_70 rfl rfl ?_
      refine v_get fl_X6_47 dX6_angle_71 (up_n (by decide) h0) rfl ?_
      refine v_aload_n 1 dX6_angle_74 rfl rfl ?_
      refine v_get fl_X6_68 dX6_angle_75 (up_n (by decide) h0) rfl ?_
      refine v_iload_n 0 dX6_angle_78 rfl rfl ?_
      refine v_callV (c_X3_meet (d + 1) (hocb.kept (fun i a b => up_n (by omega) rfl)) (up_s _ _ _) (by omega) (by omega)) cs_X6_265 dX6_angle_79 (up_n (by decide) g32) rfl rfl (Nat.le_of_ble_eq_true rfl) ?_
      rintro _ m2 ⟨rfl, hoc2, hfr2⟩
      refine v_iinc (v := 1) 0 dX6_angle_82 rfl rfl (by decide) (fun z e_z => ?_)
      refine v_ls (ls' := [(3, .int z), (0, .ref 0), (1, .int (nI n)), (2, .int w)]) rfl ?_
      rw [nI_1] at e_z
      subst e_z
      refine v_goto (tgt := 47) dX6_angle_85 (by decide) ?_
      have hC2 : Cl σ m2 := (h.beam _).scratch (fun i hi => hfr2 i (by omega)) ⟨⟨_, hoc2⟩, (hfr2 37 (by omega)).trans (up_n (by decide) h37), (hfr2 38 (by omega)).trans (up_n (by decide) h38), fun x hx => by
        obtain ⟨K, hK⟩ := h39 x hx
        exact ⟨K, (hfr2 _ (by omega)).trans (up_n (by omega) hK)⟩⟩
      refine ih (j + 1) m2 (by omega) hC2 (fun i hi => (hfr2 i (by omega)).trans ((up_n (by omega) rfl).trans (hF i hi))) ((hfr2 51 (by omega)).trans (up_n (by decide) h51b)) ?_
      rw [angL_s, List.foldl_append]
      exact hoc2
      

set_option maxRecDepth 20000 in
set_option maxHeartbeats 4000000 in
theorem c_X6_angle {G : Cx} (d : Nat) {μ : Hp} {σ : ST} {i : Int32} {w : Int32} (h : Cl σ μ) (hw : Wp (sP σ)) : Ct G (d + 5) 0 0 M_X6_angle [.ref 0, .int i, .int w] μ (Po (σ) (.int (rAngle σ i w)) μ) := by
  refine Ct.ofV (by decide +kernel) (Nat.le_of_ble_eq_true rfl) ?_
  refine v_ls (ls' := [(0, .ref 0), (1, .int i), (2, .int w)]) rfl ?_
  obtain ⟨h0, ⟨p, h1, h2, h3, h4, h5, h6, h7, h8, h9, hpl⟩, ⟨bk, hbk, pk, k11, k12, k13, k14, k15, k16, k17, k18, k19, hpk⟩, ⟨h20, h21, h22, h23, h24⟩, ⟨tt, ops, cd, kk, pp, ff, h25, h26, h27, h28, htp, ht60⟩, ⟨h29, h30, h31⟩, ⟨⟨oc, hoc⟩, h37, h38, h39⟩, hsx, ⟨B0, B1, B2, h50, h51, h52⟩⟩ := id h
  have hl8 := hw.1
  refine v_aload_n 0 dX6_angle_0 rfl rfl ?_
  refine v_get fl_X6_12 dX6_angle_1 h0 rfl ?_
  refine v_iload_n 1 dX6_angle_4 rfl rfl ?_
  refine v_callV (c_X0_has (d + 4) h1) cs_X6_111 dX6_angle_5 h1 rfl rfl (Nat.le_of_ble_eq_true rfl) ?_
  refine rt_k ?_
  refine v_if_eq (tgt := 20) dX6_angle_8 (by decide) (fun hc8 => ?_) (fun hc8 => ?_)
  ·
    refine v_iconst (v := -1) dX6_angle_20 (by first | rfl | decide) ?_
    refine v_iret dX6_angle_21 rfl (by first | rfl | decide | exact nar_b (by first | assumption | rfl)) ?_
    have hE : rAngle σ i w = -1 := by
      first
        | (simp only [rAngle, if_pos hc8]; done)
        | (simp only [rAngle, if_neg hc8, if_pos (in_b1 (n := 3) hc12)]; done)
        | (simp only [rAngle, if_neg hc8, if_pos (show inO w 3 = 0 from in_b2 (n := 2) (by decide) hc17)]; done)
    rw [hE]
    exact ⟨rfl, h, Fo.rf μ⟩
  ·
    refine v_iload_n 2 dX6_angle_11 rfl rfl ?_
    refine v_if_lt (tgt := 20) dX6_angle_12 (by decide) (fun hc12 => ?_) (fun hc12 => ?_)
    ·
      refine v_iconst (v := -1) dX6_angle_20 (by first | rfl | decide) ?_
      refine v_iret dX6_angle_21 rfl (by first | rfl | decide | exact nar_b (by first | assumption | rfl)) ?_
      have hE : rAngle σ i w = -1 := by
        first
          | (simp only [rAngle, if_pos hc8]; done)
          | (simp only [rAngle, if_neg hc8, if_pos (in_b1 (n := 3) hc12)]; done)
          | (simp only [rAngle, if_neg hc8, if_pos (show inO w 3 = 0 from in_b2 (n := 2) (by decide) hc17)]; done)
      rw [hE]
      exact ⟨rfl, h, Fo.rf μ⟩
    ·
      refine v_iload_n 2 dX6_angle_15 rfl rfl ?_
      refine v_iconst (v := 2) dX6_angle_16 (by first | rfl | decide) ?_
      refine v_icmp_le (tgt := 22) dX6_angle_17 (by decide) (fun hc17 => ?_) (fun hc17 => ?_)
      ·
        obtain ⟨n, hn9, rfl⟩ := in_ix (by omega) hc8
        refine v_aload_n 0 dX6_angle_22 rfl rfl ?_
        refine v_iload_n 1 dX6_angle_23 rfl rfl ?_
        refine v_callV (c_X6_shineBehind d h0 h1 h2 h3 hpl hl8 h50 (by omega)) cs_X6_176 dX6_angle_24 h0 rfl rfl (Nat.le_of_ble_eq_true rfl) ?_
        refine rt_k ?_
        refine v_aload_n 0 dX6_angle_27 rfl rfl ?_
        refine v_get fl_X6_72 dX6_angle_28 (up_n (by decide) h0) rfl ?_
        refine v_aload_n 0 dX6_angle_31 rfl rfl ?_
        refine v_get fl_X6_68 dX6_angle_32 (up_n (by decide) h0) rfl ?_
        refine v_callV (c_X1_takeFrom (d + 3) (up_n (by decide) h51) (up_s _ _ _)) cs_X6_89 dX6_angle_35 (up_n (by decide) h51) rfl rfl (Nat.le_of_ble_eq_true rfl) ?_
        refine rt_k ?_
        refine v_aload_n 0 dX6_angle_38 rfl rfl ?_
        refine v_get fl_X6_47 dX6_angle_39 (up_n (by decide) (up_n (by decide) h0)) rfl ?_
        obtain ⟨s9, t9, g32, g33, g34, g35, g36, hsn⟩ := id hoc
        refine v_callV (c_X3_forget (d + 4) (up_n (by decide) (up_n (by decide) g32))) cs_X6_259 dX6_angle_42 (up_n (by decide) (up_n (by decide) g32)) rfl rfl (Nat.le_of_ble_eq_true rfl) ?_
        refine rt_k ?_
        refine v_iconst (v := 0) dX6_angle_45 (by first | rfl | decide) ?_
        refine v_istore_n dX6_angle_46 rfl (by decide) (fun x3 e_x3 => ?_)
        refine v_ls (ls' := [(3, .int x3), (0, .ref 0), (1, .int (nI n)), (2, .int w)]) rfl ?_
        subst e_x3
        have hC2 : Cl σ (up (up (up μ 50 (ligL (behO σ n))) 51 (ligL (behO σ n))) 32 (outC oc.2.1.2 oc.2.2.2 0)) := ((h.beam _).aside _).scratch (fun i hi => up_n (by omega) rfl) ⟨⟨_, Oc.zero (hoc.kept (fun i a b => (up_n (by omega) (up_n (by omega) rfl))))⟩, up_n (by decide) (up_n (by decide) (up_n (by decide) h37)), up_n (by decide) (up_n (by decide) (up_n (by decide) h38)), fun x hx => by
          obtain ⟨K, hK⟩ := h39 x hx
          exact ⟨K, up_n (by omega) (up_n (by omega) (up_n (by omega) hK))⟩⟩
        exact ang_loop d hw hn9 hc8 (in_ok (n := 2) (by decide) hc12 hc17) 4 0 _ (by omega) hC2 (fun i hi => by repeat (first | rfl | refine up_n (by omega) ?_)) (up_n (by decide) (up_s _ _ _)) (Oc.zero (hoc.kept (fun i a b => (up_n (by omega) (up_n (by omega) rfl)))))
        
      ·
        refine v_iconst (v := -1) dX6_angle_20 (by first | rfl | decide) ?_
        refine v_iret dX6_angle_21 rfl (by first | rfl | decide | exact nar_b (by first | assumption | rfl)) ?_
        have hE : rAngle σ i w = -1 := by
          first
            | (simp only [rAngle, if_pos hc8]; done)
            | (simp only [rAngle, if_neg hc8, if_pos (in_b1 (n := 3) hc12)]; done)
            | (simp only [rAngle, if_neg hc8, if_pos (show inO w 3 = 0 from in_b2 (n := 2) (by decide) hc17)]; done)
        rw [hE]
        exact ⟨rfl, h, Fo.rf μ⟩

