theorem div17 (r : Nat) (h : r < 68) : nI r / 17 = nI (r / 17) := pk_div (d := 17) (by omega) (by decide) (by decide)
theorem rem17 (r : Nat) (h : r < 68) : nI r - nI r / 17 * 17 = nI (r % 17) := pk_rem (d := 17) (by omega) (by decide) (by decide)
theorem fndR_le (σ : ST) (i : Nat) (T : LT) (k : Nat) : ∀ (m r : Nat) (x : Nat × Int32 × Int32), (fndR σ i T k x r m).1 ≤ x.1 + m
  | 0, _, _ => Nat.le_refl _
  | m + 1, r, x => by
    have h := fndR_le σ i T k m (r + 1) (fndS σ i T x k r)
    have h2 : (fndS σ i T x k r).1 ≤ x.1 + 1 := by
      unfold fndS
      split
      · exact Nat.le_refl _
      · exact Nat.le_succ _
    show (fndR σ i T k (fndS σ i T x k r) (r + 1) m).1 ≤ _
    omega
def pkF (w : Int32) (X : Nat × Int32 × Int32) : Int32 := if w = 0 then nI X.1 else if w = 1 then X.2.1 else X.2.2
set_option maxRecDepth 20000 in
set_option maxHeartbeats 4000000 in
theorem fnd_in {G : Cx} (d : Nat) {σ : ST} {μ0 : Hp} (hw : Wp (sP σ)) {n k : Nat} {w t : Int32} {T : LT} (hn9 : n < (sP σ).length) (hk9 : k < 7) : ∀ (m : Nat) (j x1 : Nat) (x2 x3 : Int32) (μ : Hp), j + m = 68 → x1 + m ≤ 10000 → Cl σ μ → Fo μ μ0 → μ 51 = some (ligL (behO σ n)) → μ 52 = some (ligL T) → (∀ μ2, Cl σ μ2 → Fo μ2 μ0 → μ2 51 = some (ligL (behO σ n)) → μ2 52 = some (ligL T) → V G M_X6_found (d + 5) 0 0 (Po σ (.int (pkF w (fndO σ n T))) μ0) 167 [(8, .int (nI 68)), (7, .int (nI k)), (6, .int (fndR σ n T k (x1, x2, x3) j m).2.1), (5, .int (fndR σ n T k (x1, x2, x3) j m).2.2), (4, .int (nI (fndR σ n T k (x1, x2, x3) j m).1)), (0, .ref 0), (1, .int t), (2, .int (nI n)), (3, .int w)] [] μ2) → V G M_X6_found (d + 5) 0 0 (Po σ (.int (pkF w (fndO σ n T))) μ0) 90 [(8, .int (nI j)), (7, .int (nI k)), (6, .int x2), (5, .int x3), (4, .int (nI x1)), (0, .ref 0), (1, .int t), (2, .int (nI n)), (3, .int w)] [] (μ) := by
  intro m
  induction m with
  | zero =>
    intro j x1 x2 x3 μ hj hx h hF h51b h52b HK
    obtain ⟨h0, ⟨p, h1, h2, h3, h4, h5, h6, h7, h8, h9, hpl⟩, ⟨bk, hbk, pk, k11, k12, k13, k14, k15, k16, k17, k18, k19, hpk⟩, ⟨h20, h21, h22, h23, h24⟩, ⟨tt, ops, cd, kk, pp, ff, h25, h26, h27, h28, htp, ht60⟩, ⟨h29, h30, h31⟩, ⟨⟨oc, hoc⟩, h37, h38, h39⟩, hsx, ⟨B0, B1, B2, h50, h51, h52⟩⟩ := id h
    have hl8 := hw.1
    refine v_iload 0 dX6_found_90 rfl ?_
    refine v_bipush (v := 68) dX6_found_92 (by first | rfl | decide) ?_
    refine v_icmp_ge (tgt := 167) dX6_found_94 (by decide) (fun hc94 => ?_) (fun hc94 => ?_)
    ·
      obtain rfl : j = 68 := by omega
      exact HK μ h hF h51b h52b
    · exact absurd ((nI_leI (a := 68) (by decide) (by omega)).mpr (by omega)) hc94
  | succ m ih =>
    intro j x1 x2 x3 μ hj hx h hF h51b h52b HK
    obtain ⟨h0, ⟨p, h1, h2, h3, h4, h5, h6, h7, h8, h9, hpl⟩, ⟨bk, hbk, pk, k11, k12, k13, k14, k15, k16, k17, k18, k19, hpk⟩, ⟨h20, h21, h22, h23, h24⟩, ⟨tt, ops, cd, kk, pp, ff, h25, h26, h27, h28, htp, ht60⟩, ⟨h29, h30, h31⟩, ⟨⟨oc, hoc⟩, h37, h38, h39⟩, hsx, ⟨B0, B1, B2, h50, h51, h52⟩⟩ := id h
    have hl8 := hw.1
    refine v_iload 0 dX6_found_90 rfl ?_
    refine v_bipush (v := 68) dX6_found_92 (by first | rfl | decide) ?_
    refine v_icmp_ge (tgt := 167) dX6_found_94 (by decide) (fun hc94 => ?_) (fun hc94 => ?_)
    · have := (nI_leI (a := 68) (by decide) (by omega)).mp hc94
      omega
    ·
      refine v_iload 1 dX6_found_97 rfl ?_
      refine v_iload 0 dX6_found_99 rfl ?_
      refine v_bipush (v := 17) dX6_found_101 (by first | rfl | decide) ?_
      refine v_idiv dX6_found_103 (by decide) ?_
      refine v_iload 0 dX6_found_104 rfl ?_
      refine v_bipush (v := 17) dX6_found_106 (by first | rfl | decide) ?_
      refine v_irem dX6_found_108 (by decide) ?_
      rw [div17 j (by omega), show nI j - nI (j / 17) * 17 = nI (j % 17) by rw [← div17 j (by omega)]; exact rem17 j (by omega)]
      refine v_callS (c_X6_codeOf (d + 4) ) cs_X6_103 dX6_found_109 rfl rfl (Nat.le_of_ble_eq_true rfl) ?_
      refine rt_k ?_
      refine v_istore dX6_found_112 (by decide) (fun y9 e_y9 => ?_)
      refine v_ls (ls' := [(9, .int y9), (8, .int (nI j)), (7, .int (nI k)), (6, .int x2), (5, .int x3), (4, .int (nI x1)), (0, .ref 0), (1, .int t), (2, .int (nI n)), (3, .int w)]) rfl ?_
      subst e_y9
      refine v_aload_n 6 dX6_found_114 rfl rfl ?_
      refine v_iload_n 8 dX6_found_115 rfl rfl ?_
      refine v_iload 0 dX6_found_116 rfl ?_
      refine v_callV (c_X6_shineOn d h0 h1 h3 hpl hl8 h50 h51b (by omega)) cs_X6_262 dX6_found_118 h0 rfl rfl (Nat.le_of_ble_eq_true rfl) ?_
      refine rt_k ?_
      refine v_aload_n 6 dX6_found_121 rfl rfl ?_
      refine v_get fl_X6_68 dX6_found_122 (up_n (by decide) h0) rfl ?_
      refine v_aload_n 6 dX6_found_125 rfl rfl ?_
      refine v_get fl_X6_75 dX6_found_126 (up_n (by decide) h0) rfl ?_
      refine v_callV (c_X1_isLike (d + 4) (up_s _ _ _) (up_n (by decide) h52b)) cs_X6_255 dX6_found_129 (up_s _ _ _) rfl rfl (Nat.le_of_ble_eq_true rfl) ?_
      refine rt_k ?_
      refine v_if_eq (tgt := 161) dX6_found_132 (by decide) (fun hc132 => ?_) (fun hc132 => ?_)
      ·
        refine v_iinc (v := 1) 1 dX6_found_161 rfl rfl (by decide) (fun z e_z => ?_)
        refine v_ls (ls' := [(8, .int z), (9, _), (7, .int (nI k)), (6, .int x2), (5, .int x3), (4, .int (nI x1)), (0, .ref 0), (1, .int t), (2, .int (nI n)), (3, .int w)]) rfl ?_
        rw [nI_1] at e_z
        subst e_z
        refine v_goto (tgt := 90) dX6_found_164 (by decide) ?_
        have hlk : ¬ inst σ n (fndC k j) = T := (like_iff _ _).mp hc132
        have hcr : fndR σ n T k (x1, x2, x3) j (m + 1) = fndR σ n T k (x1, x2, x3) (j + 1) m := by
          show fndR σ n T k (fndS σ n T (x1, x2, x3) k j) (j + 1) m = _
          rw [show fndS σ n T (x1, x2, x3) k j = (x1, x2, x3) from if_neg hlk]
        refine v_pick [0, 2, 3, 4, 5, 6, 7, 8, 9] rfl ?_
        refine ih (j + 1) x1 x2 x3 _ (by omega) (by omega) (h.beam _) (hF.up (by decide) _) (up_n (by decide) h51b) (up_n (by decide) h52b) ?_
        intro μ2 q1 q2 q3 q4
        have := HK μ2 q1 q2 q3 q4
        rw [hcr] at this
        exact this
        
      ·
        refine v_iload 5 dX6_found_135 rfl ?_
        refine v_if_ne (tgt := 145) dX6_found_137 (by decide) (fun hc137 => ?_) (fun hc137 => ?_)
        ·
          refine v_iload 3 dX6_found_145 rfl ?_
          refine v_istore dX6_found_147 (by decide) (fun y6 e_y6 => ?_)
          refine v_ls (ls' := [(6, .int y6), (9, _), (8, .int (nI j)), (7, .int (nI k)), (5, .int x3), (4, .int (nI x1)), (0, .ref 0), (1, .int t), (2, .int (nI n)), (3, .int w)]) rfl ?_
          refine v_iload 4 dX6_found_149 rfl ?_
          refine v_iconst (v := 1) dX6_found_151 (by first | rfl | decide) ?_
          refine v_iload 3 dX6_found_152 rfl ?_
          refine v_ishl dX6_found_154 ?_
          refine v_ior dX6_found_155 ?_
          refine v_istore dX6_found_156 (by decide) (fun y5 e_y5 => ?_)
          refine v_ls (ls' := [(5, .int y5), (6, .int y6), (9, _), (8, .int (nI j)), (7, .int (nI k)), (4, .int (nI x1)), (0, .ref 0), (1, .int t), (2, .int (nI n)), (3, .int w)]) rfl ?_
          refine v_iinc (v := 1) 5 dX6_found_158 rfl rfl (by decide) (fun y4 e_y4 => ?_)
          refine v_ls (ls' := [(4, .int y4), (5, .int y5), (6, .int y6), (9, _), (8, .int (nI j)), (7, .int (nI k)), (0, .ref 0), (1, .int t), (2, .int (nI n)), (3, .int w)]) rfl ?_
          refine v_iinc (v := 1) 4 dX6_found_161 rfl rfl (by decide) (fun z e_z => ?_)
          refine v_ls (ls' := [(8, .int z), (4, .int y4), (5, .int y5), (6, .int y6), (9, _), (7, .int (nI k)), (0, .ref 0), (1, .int t), (2, .int (nI n)), (3, .int w)]) rfl ?_
          rw [nI_1] at e_z
          subst e_z
          refine v_goto (tgt := 90) dX6_found_164 (by decide) ?_
          have hlk : inst σ n (fndC k j) = T := by
            by_cases q : inst σ n (fndC k j) = T
            · exact q
            · exact absurd ((like_iff _ _).mpr q) hc132
          have hx0 : ¬ x1 = 0 := fun z => hc137 (by rw [z]; rfl)
          have hcr : fndR σ n T k (x1, x2, x3) j (m + 1) = fndR σ n T k (x1 + 1, y6, y5) (j + 1) m := by
            show fndR σ n T k (fndS σ n T (x1, x2, x3) k j) (j + 1) m = _
            rw [show fndS σ n T (x1, x2, x3) k j = (x1 + 1, y6, y5) from by simp only [fndS, if_pos hlk, if_neg hx0, e_y6, e_y5]]
          rw [nI_1] at e_y4
          subst e_y4
          refine v_pick [0, 5, 3, 2, 1, 6, 7, 8, 9] rfl ?_
          refine ih (j + 1) (x1 + 1) y6 y5 _ (by omega) (by omega) (h.beam _) (hF.up (by decide) _) (up_n (by decide) h51b) (up_n (by decide) h52b) ?_
          intro μ2 q1 q2 q3 q4
          have := HK μ2 q1 q2 q3 q4
          rw [hcr] at this
          exact this
          
        ·
          refine v_iload 0 dX6_found_140 rfl ?_
          refine v_goto (tgt := 147) dX6_found_142 (by decide) ?_
          refine v_istore dX6_found_147 (by decide) (fun y6 e_y6 => ?_)
          refine v_ls (ls' := [(6, .int y6), (9, _), (8, .int (nI j)), (7, .int (nI k)), (5, .int x3), (4, .int (nI x1)), (0, .ref 0), (1, .int t), (2, .int (nI n)), (3, .int w)]) rfl ?_
          refine v_iload 4 dX6_found_149 rfl ?_
          refine v_iconst (v := 1) dX6_found_151 (by first | rfl | decide) ?_
          refine v_iload 3 dX6_found_152 rfl ?_
          refine v_ishl dX6_found_154 ?_
          refine v_ior dX6_found_155 ?_
          refine v_istore dX6_found_156 (by decide) (fun y5 e_y5 => ?_)
          refine v_ls (ls' := [(5, .int y5), (6, .int y6), (9, _), (8, .int (nI j)), (7, .int (nI k)), (4, .int (nI x1)), (0, .ref 0), (1, .int t), (2, .int (nI n)), (3, .int w)]) rfl ?_
          refine v_iinc (v := 1) 5 dX6_found_158 rfl rfl (by decide) (fun y4 e_y4 => ?_)
          refine v_ls (ls' := [(4, .int y4), (5, .int y5), (6, .int y6), (9, _), (8, .int (nI j)), (7, .int (nI k)), (0, .ref 0), (1, .int t), (2, .int (nI n)), (3, .int w)]) rfl ?_
          refine v_iinc (v := 1) 4 dX6_found_161 rfl rfl (by decide) (fun z e_z => ?_)
          refine v_ls (ls' := [(8, .int z), (4, .int y4), (5, .int y5), (6, .int y6), (9, _), (7, .int (nI k)), (0, .ref 0), (1, .int t), (2, .int (nI n)), (3, .int w)]) rfl ?_
          rw [nI_1] at e_z
          subst e_z
          refine v_goto (tgt := 90) dX6_found_164 (by decide) ?_
          have hlk : inst σ n (fndC k j) = T := by
            by_cases q : inst σ n (fndC k j) = T
            · exact q
            · exact absurd ((like_iff _ _).mpr q) hc132
          have hx0 : x1 = 0 := (nI_eq (b := 0) (by omega) (by decide)).mp hc137
          have hcr : fndR σ n T k (x1, x2, x3) j (m + 1) = fndR σ n T k (x1 + 1, y6, y5) (j + 1) m := by
            show fndR σ n T k (fndS σ n T (x1, x2, x3) k j) (j + 1) m = _
            rw [show fndS σ n T (x1, x2, x3) k j = (x1 + 1, y6, y5) from by simp only [fndS, if_pos hlk, if_pos hx0, e_y6, e_y5]]
          rw [nI_1] at e_y4
          subst e_y4
          refine v_pick [0, 5, 3, 2, 1, 6, 7, 8, 9] rfl ?_
          refine ih (j + 1) (x1 + 1) y6 y5 _ (by omega) (by omega) (h.beam _) (hF.up (by decide) _) (up_n (by decide) h51b) (up_n (by decide) h52b) ?_
          intro μ2 q1 q2 q3 q4
          have := HK μ2 q1 q2 q3 q4
          rw [hcr] at this
          exact this
          

set_option maxRecDepth 20000 in
set_option maxHeartbeats 4000000 in
theorem fnd_out {G : Cx} (d : Nat) {σ : ST} {μ0 : Hp} (hw : Wp (sP σ)) {n : Nat} {w t : Int32} {T : LT} (hn9 : n < (sP σ).length) : ∀ (m : Nat) (k x1 : Nat) (x2 x3 : Int32) (μ : Hp), k + m = 7 → x1 + 100 * m ≤ 5000 → Cl σ μ → Fo μ μ0 → μ 51 = some (ligL (behO σ n)) → μ 52 = some (ligL T) → fndO σ n T = fndK σ n T (x1, x2, x3) k m → V G M_X6_found (d + 5) 0 0 (Po σ (.int (pkF w (fndO σ n T))) μ0) 80 [(7, .int (nI k)), (6, .int x2), (5, .int x3), (4, .int (nI x1)), (0, .ref 0), (1, .int t), (2, .int (nI n)), (3, .int w)] [] (μ) := by
  intro m
  induction m with
  | zero =>
    intro k x1 x2 x3 μ hj hx h hF h51b h52b hcr
    obtain ⟨h0, ⟨p, h1, h2, h3, h4, h5, h6, h7, h8, h9, hpl⟩, ⟨bk, hbk, pk, k11, k12, k13, k14, k15, k16, k17, k18, k19, hpk⟩, ⟨h20, h21, h22, h23, h24⟩, ⟨tt, ops, cd, kk, pp, ff, h25, h26, h27, h28, htp, ht60⟩, ⟨h29, h30, h31⟩, ⟨⟨oc, hoc⟩, h37, h38, h39⟩, hsx, ⟨B0, B1, B2, h50, h51, h52⟩⟩ := id h
    have hl8 := hw.1
    refine v_iload 0 dX6_found_80 rfl ?_
    refine v_bipush (v := 7) dX6_found_82 (by first | rfl | decide) ?_
    refine v_icmp_ge (tgt := 173) dX6_found_84 (by decide) (fun hc84 => ?_) (fun hc84 => ?_)
    ·
      refine v_iload_n 7 dX6_found_173 rfl rfl ?_
      refine v_if_ne (tgt := 180) dX6_found_174 (by decide) (fun hc174 => ?_) (fun hc174 => ?_)
      ·
        refine v_iload_n 7 dX6_found_180 rfl rfl ?_
        refine v_iconst (v := 1) dX6_found_181 (by first | rfl | decide) ?_
        refine v_icmp_ne (tgt := 190) dX6_found_182 (by decide) (fun hc182 => ?_) (fun hc182 => ?_)
        ·
          refine v_iload 2 dX6_found_190 rfl ?_
          refine v_iret dX6_found_192 rfl (by first | rfl | decide | exact nar_b (by first | assumption | rfl)) ?_
          have hE : pkF w (fndO σ n T) = x3 := by
            rw [hcr]
            simp only [pkF, fndK, if_neg hc174, if_neg hc182]
          rw [hE]
          exact ⟨rfl, h, hF⟩
        ·
          refine v_iload 1 dX6_found_185 rfl ?_
          refine v_goto (tgt := 192) dX6_found_187 (by decide) ?_
          refine v_iret dX6_found_192 rfl (by first | rfl | decide | exact nar_b (by first | assumption | rfl)) ?_
          have hE : pkF w (fndO σ n T) = x2 := by
            rw [hcr]
            simp only [pkF, fndK, if_neg hc174, if_pos hc182]
          rw [hE]
          exact ⟨rfl, h, hF⟩
      ·
        refine v_iload 3 dX6_found_177 rfl ?_
        refine v_iret dX6_found_179 rfl (by first | rfl | decide | exact nar_b (by first | assumption | rfl)) ?_
        have hE : pkF w (fndO σ n T) = nI x1 := by
          rw [hcr]
          simp only [pkF, fndK, if_pos hc174]
        rw [hE]
        exact ⟨rfl, h, hF⟩
    · exact absurd ((nI_leI (a := 7) (by decide) (by omega)).mpr (by omega)) hc84
  | succ m ih =>
    intro k x1 x2 x3 μ hj hx h hF h51b h52b hcr
    obtain ⟨h0, ⟨p, h1, h2, h3, h4, h5, h6, h7, h8, h9, hpl⟩, ⟨bk, hbk, pk, k11, k12, k13, k14, k15, k16, k17, k18, k19, hpk⟩, ⟨h20, h21, h22, h23, h24⟩, ⟨tt, ops, cd, kk, pp, ff, h25, h26, h27, h28, htp, ht60⟩, ⟨h29, h30, h31⟩, ⟨⟨oc, hoc⟩, h37, h38, h39⟩, hsx, ⟨B0, B1, B2, h50, h51, h52⟩⟩ := id h
    have hl8 := hw.1
    refine v_iload 0 dX6_found_80 rfl ?_
    refine v_bipush (v := 7) dX6_found_82 (by first | rfl | decide) ?_
    refine v_icmp_ge (tgt := 173) dX6_found_84 (by decide) (fun hc84 => ?_) (fun hc84 => ?_)
    · have := (nI_leI (a := 7) (by decide) (by omega)).mp hc84
      omega
    ·
      refine v_iconst (v := 0) dX6_found_87 (by first | rfl | decide) ?_
      refine v_istore dX6_found_88 (by decide) (fun x8 e_x8 => ?_)
      refine v_ls (ls' := [(8, .int x8), (7, .int (nI k)), (6, .int x2), (5, .int x3), (4, .int (nI x1)), (0, .ref 0), (1, .int t), (2, .int (nI n)), (3, .int w)]) rfl ?_
      subst e_x8
      refine fnd_in d hw hn9 (show k < 7 by omega) 68 0 x1 x2 x3 μ (by omega) (by omega) h hF h51b h52b ?_
      intro μ2 q1 q2 q3 q4
      have hle := fndR_le σ n T k 68 0 (x1, x2, x3)
      have hle : (fndR σ n T k (x1, x2, x3) 0 68).1 ≤ x1 + 68 := hle
      generalize hX : fndR σ n T k (x1, x2, x3) 0 68 = X at hle ⊢
      refine v_iinc (v := 1) 1 dX6_found_167 rfl rfl (by decide) (fun z e_z => ?_)
      rw [nI_1] at e_z
      subst e_z
      refine v_goto (tgt := 80) dX6_found_170 (by decide) ?_
      refine v_pick [0, 2, 3, 4, 5, 6, 7, 8] rfl ?_
      refine ih (k + 1) X.1 X.2.1 X.2.2 μ2 (by omega) (by omega) q1 q2 q3 q4 ?_
      rw [hcr, ← hX]
      rfl
      

set_option maxRecDepth 20000 in
set_option maxHeartbeats 4000000 in
theorem c_X6_found {G : Cx} (d : Nat) {μ : Hp} {σ : ST} {t : Int32} {i : Int32} {w : Int32} (h : Cl σ μ) (hw : Wp (sP σ)) (hz : Wz (sZ σ)) : Ct G (d + 5) 0 0 M_X6_found [.ref 0, .int t, .int i, .int w] μ (Po (σ) (.int (rFound σ t i w)) μ) := by
  refine Ct.ofV (by decide +kernel) (Nat.le_of_ble_eq_true rfl) ?_
  refine v_ls (ls' := [(0, .ref 0), (1, .int t), (2, .int i), (3, .int w)]) rfl ?_
  obtain ⟨h0, ⟨p, h1, h2, h3, h4, h5, h6, h7, h8, h9, hpl⟩, ⟨bk, hbk, pk, k11, k12, k13, k14, k15, k16, k17, k18, k19, hpk⟩, ⟨h20, h21, h22, h23, h24⟩, ⟨tt, ops, cd, kk, pp, ff, h25, h26, h27, h28, htp, ht60⟩, ⟨h29, h30, h31⟩, ⟨⟨oc, hoc⟩, h37, h38, h39⟩, hsx, ⟨B0, B1, B2, h50, h51, h52⟩⟩ := id h
  have hl8 := hw.1
  refine v_iload_n 1 dX6_found_0 rfl rfl ?_
  refine v_callS (c_X6_isList (d + 4) ) cs_X6_276 dX6_found_1 rfl rfl (Nat.le_of_ble_eq_true rfl) ?_
  refine rt_k ?_
  refine v_if_eq (tgt := 27) dX6_found_4 (by decide) (fun hc4 => ?_) (fun hc4 => ?_)
  ·
    refine v_iconst (v := -1) dX6_found_27 (by first | rfl | decide) ?_
    refine v_iret dX6_found_28 rfl (by first | rfl | decide | exact nar_b (by first | assumption | rfl)) ?_
    have hE : rFound σ t i w = -1 := by
      first
        | (simp only [rFound, if_pos hc4]; done)
        | (simp only [rFound, if_neg hc4, if_pos hc15]; done)
        | (simp only [rFound, if_neg hc4, if_neg hc15, if_pos (in_b1 (n := 3) hc19)]; done)
        | (simp only [rFound, if_neg hc4, if_neg hc15, if_pos (show inO w 3 = 0 from in_b2 (n := 2) (by decide) hc24)]; done)
    rw [hE]
    exact ⟨rfl, h, Fo.rf μ⟩
  ·
    refine v_aload_n 0 dX6_found_7 rfl rfl ?_
    refine v_get fl_X6_12 dX6_found_8 h0 rfl ?_
    refine v_iload_n 2 dX6_found_11 rfl rfl ?_
    refine v_callV (c_X0_has (d + 4) h1) cs_X6_111 dX6_found_12 h1 rfl rfl (Nat.le_of_ble_eq_true rfl) ?_
    refine rt_k ?_
    refine v_if_eq (tgt := 27) dX6_found_15 (by decide) (fun hc15 => ?_) (fun hc15 => ?_)
    ·
      refine v_iconst (v := -1) dX6_found_27 (by first | rfl | decide) ?_
      refine v_iret dX6_found_28 rfl (by first | rfl | decide | exact nar_b (by first | assumption | rfl)) ?_
      have hE : rFound σ t i w = -1 := by
        first
          | (simp only [rFound, if_pos hc4]; done)
          | (simp only [rFound, if_neg hc4, if_pos hc15]; done)
          | (simp only [rFound, if_neg hc4, if_neg hc15, if_pos (in_b1 (n := 3) hc19)]; done)
          | (simp only [rFound, if_neg hc4, if_neg hc15, if_pos (show inO w 3 = 0 from in_b2 (n := 2) (by decide) hc24)]; done)
      rw [hE]
      exact ⟨rfl, h, Fo.rf μ⟩
    ·
      refine v_iload_n 3 dX6_found_18 rfl rfl ?_
      refine v_if_lt (tgt := 27) dX6_found_19 (by decide) (fun hc19 => ?_) (fun hc19 => ?_)
      ·
        refine v_iconst (v := -1) dX6_found_27 (by first | rfl | decide) ?_
        refine v_iret dX6_found_28 rfl (by first | rfl | decide | exact nar_b (by first | assumption | rfl)) ?_
        have hE : rFound σ t i w = -1 := by
          first
            | (simp only [rFound, if_pos hc4]; done)
            | (simp only [rFound, if_neg hc4, if_pos hc15]; done)
            | (simp only [rFound, if_neg hc4, if_neg hc15, if_pos (in_b1 (n := 3) hc19)]; done)
            | (simp only [rFound, if_neg hc4, if_neg hc15, if_pos (show inO w 3 = 0 from in_b2 (n := 2) (by decide) hc24)]; done)
        rw [hE]
        exact ⟨rfl, h, Fo.rf μ⟩
      ·
        refine v_iload_n 3 dX6_found_22 rfl rfl ?_
        refine v_iconst (v := 2) dX6_found_23 (by first | rfl | decide) ?_
        refine v_icmp_le (tgt := 29) dX6_found_24 (by decide) (fun hc24 => ?_) (fun hc24 => ?_)
        ·
          have hw3 : ¬ inO w 3 = 0 := in_ok (n := 2) (by decide) hc19 hc24
          obtain ⟨b, hb9, rfl⟩ := in_ix (by omega) hc15
          have hcb : (nI b).toNatClampNeg = b := clamp (by omega)
          obtain ⟨n, hn9, rfl⟩ := in_ix (n := 3) (by decide) hc4
          have hrw : μ (21 + n) = some (arJ 12 (sL σ n)) := Lx.row ⟨h20, h21, h22, h23, h24⟩ hn9
          have hcn : (nI n).toNatClampNeg = n := clamp (by omega)
          have hzn : zAt σ (nI n) = sZ σ n := by show sZ σ (nI n).toNatClampNeg = _; rw [hcn]
          refine v_aload_n 0 dX6_found_29 rfl rfl ?_
          refine v_iload_n 1 dX6_found_30 rfl rfl ?_
          refine v_callV (c_X6_isMissing (d + 4) hn9 hz h0 h24) cs_X6_282 dX6_found_31 h0 rfl rfl (Nat.le_of_ble_eq_true rfl) ?_
          refine rt_k ?_
          refine v_if_eq (tgt := 40) dX6_found_34 (by decide) (fun hc34 => ?_) (fun hc34 => ?_)
          ·
            have hq : ¬ sZ σ n = -1 := fun q => by rw [if_pos q] at hc34; exact absurd hc34 (by decide)
            refine v_aload_n 0 dX6_found_40 rfl rfl ?_
            refine v_iload_n 1 dX6_found_41 rfl rfl ?_
            refine v_callV (c_X6_tellLight (d + 2) hn9 h0 h20 h24 hrw h52) cs_X6_291 dX6_found_42 h0 rfl rfl (Nat.le_of_ble_eq_true rfl) ?_
            rintro _ _ ⟨rfl, K9, rfl, hK9⟩
            refine v_if_ne (tgt := 51) dX6_found_45 (by decide) (fun hc45 => ?_) (fun hc45 => ?_)
            ·
              obtain rfl := hK9 hc45
              refine v_aload_n 0 dX6_found_51 rfl rfl ?_
              refine v_iload_n 2 dX6_found_52 rfl rfl ?_
              refine v_callV (c_X6_shineBehind d (up_n (by decide) h0) (up_n (by decide) h1) (up_n (by decide) h2) (up_n (by decide) h3) hpl hl8 (up_n (by decide) h50) (by omega)) cs_X6_176 dX6_found_53 (up_n (by decide) h0) rfl rfl (Nat.le_of_ble_eq_true rfl) ?_
              refine rt_k ?_
              refine v_aload_n 0 dX6_found_56 rfl rfl ?_
              refine v_get fl_X6_72 dX6_found_57 (up_n (by decide) (up_n (by decide) h0)) rfl ?_
              refine v_aload_n 0 dX6_found_60 rfl rfl ?_
              refine v_get fl_X6_68 dX6_found_61 (up_n (by decide) (up_n (by decide) h0)) rfl ?_
              refine v_callV (c_X1_takeFrom (d + 3) (up_n (by decide) (up_n (by decide) h51)) (up_s _ _ _)) cs_X6_89 dX6_found_64 (up_n (by decide) (up_n (by decide) h51)) rfl rfl (Nat.le_of_ble_eq_true rfl) ?_
              refine rt_k ?_
              refine v_iconst (v := 0) dX6_found_67 (by first | rfl | decide) ?_
              refine v_istore dX6_found_68 (by decide) (fun x4_1 e_x4_1 => ?_)
              refine v_ls (ls' := [(4, .int x4_1), (0, .ref 0), (1, .int (nI n)), (2, .int (nI b)), (3, .int w)]) rfl ?_
              subst e_x4_1
              refine v_iconst (v := 0) dX6_found_70 (by first | rfl | decide) ?_
              refine v_istore dX6_found_71 (by decide) (fun x5_1 e_x5_1 => ?_)
              refine v_ls (ls' := [(5, .int x5_1), (4, .int (0)), (0, .ref 0), (1, .int (nI n)), (2, .int (nI b)), (3, .int w)]) rfl ?_
              subst e_x5_1
              refine v_bipush (v := -5) dX6_found_73 (by first | rfl | decide) ?_
              refine v_istore dX6_found_75 (by decide) (fun x6_1 e_x6_1 => ?_)
              refine v_ls (ls' := [(6, .int x6_1), (5, .int (0)), (4, .int (0)), (0, .ref 0), (1, .int (nI n)), (2, .int (nI b)), (3, .int w)]) rfl ?_
              subst e_x6_1
              refine v_iconst (v := 0) dX6_found_77 (by first | rfl | decide) ?_
              refine v_istore dX6_found_78 (by decide) (fun x7 e_x7 => ?_)
              refine v_ls (ls' := [(7, .int x7), (6, .int (-5)), (5, .int (0)), (4, .int (0)), (0, .ref 0), (1, .int (nI n)), (2, .int (nI b)), (3, .int w)]) rfl ?_
              subst e_x7
              have hE : rFound σ (nI n) (nI b) w = pkF w (fndO σ b (telO (sL σ n))) := by simp only [rFound, if_neg hc4, if_neg hc15, if_neg hw3, hzn, if_neg hq, tls_eq hn9, if_neg hc45, pkF, hcb, lAt, hcn]
              rw [hE]
              exact fnd_out d hw hb9 7 0 0 (-5) 0 _ (by omega) (by omega) (((h.told _).beam _).aside _) (fun i hi => by repeat (first | rfl | refine up_n (by omega) ?_)) (up_s _ _ _) (up_n (by decide) (up_n (by decide) (up_s _ _ _))) rfl
              
            ·
              refine v_bipush (v := -2) dX6_found_48 (by first | rfl | decide) ?_
              refine v_iret dX6_found_50 rfl (by first | rfl | decide | exact nar_b (by first | assumption | rfl)) ?_
              have hE : rFound σ (nI n) (nI b) w = -2 := by simp only [rFound, if_neg hc4, if_neg hc15, if_neg hw3, hzn, if_neg hq, tls_eq hn9, if_pos hc45]
              rw [hE]
              exact ⟨rfl, h.told _, fun i hi => by repeat (first | rfl | refine up_n (by omega) ?_)⟩
          ·
            refine v_bipush (v := -11) dX6_found_37 (by first | rfl | decide) ?_
            refine v_iret dX6_found_39 rfl (by first | rfl | decide | exact nar_b (by first | assumption | rfl)) ?_
            have hq : sZ σ n = -1 := by
              by_cases q : sZ σ n = -1
              · exact q
              · exact absurd (if_neg q) hc34
            have hE : rFound σ (nI n) (nI b) w = -11 := by simp only [rFound, if_neg hc4, if_neg hc15, if_neg hw3, hzn, if_pos hq]
            rw [hE]
            exact ⟨rfl, h, Fo.rf μ⟩
        ·
          refine v_iconst (v := -1) dX6_found_27 (by first | rfl | decide) ?_
          refine v_iret dX6_found_28 rfl (by first | rfl | decide | exact nar_b (by first | assumption | rfl)) ?_
          have hE : rFound σ t i w = -1 := by
            first
              | (simp only [rFound, if_pos hc4]; done)
              | (simp only [rFound, if_neg hc4, if_pos hc15]; done)
              | (simp only [rFound, if_neg hc4, if_neg hc15, if_pos (in_b1 (n := 3) hc19)]; done)
              | (simp only [rFound, if_neg hc4, if_neg hc15, if_pos (show inO w 3 = 0 from in_b2 (n := 2) (by decide) hc24)]; done)
          rw [hE]
          exact ⟨rfl, h, Fo.rf μ⟩

