theorem fnd_vc {k j : Nat} (hk : k < 7) (hj : j < 68) : Vc (fndC k j) := Vc.mk hk (by omega) (by omega)
set_option maxRecDepth 20000 in
set_option maxHeartbeats 4000000 in
theorem fnd7_in {G : Cx} (d : Nat) {σ : ST} {μ0 : Hp} (hw : Wp (sP σ)) (heb : Eb 100 (sM σ)) {n : Nat} {w t : Int32} {T : LT} (hn9 : n < (sP σ).length) {co wh : Int64} {un lr mr hr at9 fa op sg hm : Int32} {p tt ro og tc op9 sp : Nat → Int32} {se le mo : Nat → Int64} (k60 : μ0 60 = some (modC (nI (sP σ).length) co wh un lr mr hr (nI (sT σ).length) at9 fa op (nI (sW σ).1) sg hm (hiO (sI σ)))) (k61 : μ0 61 = some (mlg (sM σ))) (k64 : μ0 64 = some (arI 5 ro)) (k65 : μ0 65 = some (arJ 600 se)) (k66 : μ0 66 = some (arI 120 og)) (k67 : μ0 67 = some (arJ 5 le)) (k68 : μ0 68 = some (arJ 5 mo)) (k70 : μ0 70 = some (arJ 36 (lsF (sL σ)))) (k71 : μ0 71 = some (arI 3 (sZ σ))) (k72 : μ0 72 = some (arF 8 (sF σ))) (k73 : μ0 73 = some (arI 12 (rkF (sR σ)))) (k74 : μ0 74 = some (arI 3 (sK σ))) (k75 : μ0 75 = some (arI 60 tt)) (k76 : μ0 76 = some (arI 3 op9)) (k77 : μ0 77 = some (arI 8 tc)) (k78 : μ0 78 = some (arI 4 (sW σ).2.1)) (k79 : μ0 79 = some (arI 4 (sW σ).2.2)) (k80 : μ0 80 = some (arI 48 sp)) (hmk : MK (sI σ) hm μ0) (hpl : Pl (sP σ) p) (htp : Pl (sT σ) tt) (ht60 : (sT σ).length ≤ 60) {k : Nat} (hk9 : k < 7) : ∀ (k9 : Nat) (j x1 : Nat) (x2 x3 : Int32) (q : Nat → Int32) (μ : Hp), j + k9 = 68 → x1 + k9 ≤ 10000 → μ 62 = some (arI 8 q) → (∀ j, j ≠ n → q j = p j) → (∃ nw, μ 63 = some (arJ 5 nw)) → μ 69 = some (mlg T) → (∀ i, i ≠ 62 → i ≠ 63 → i ≠ 69 → μ i = μ0 i) → (∀ μ2 q2, μ2 62 = some (arI 8 q2) → (∀ j, j ≠ n → q2 j = p j) → (∃ nw, μ2 63 = some (arJ 5 nw)) → μ2 69 = some (mlg T) → (∀ i, i ≠ 62 → i ≠ 63 → i ≠ 69 → μ2 i = μ0 i) → V G M_X7_found (d + 5) 0 0 (Pm σ (.int (pkF w (fndO σ n T))) μ0) 186 [(9, .int (nI 68)), (8, .int (nI k)), (7, .int (fndR σ n T k (x1, x2, x3) j k9).2.2), (6, .int (fndR σ n T k (x1, x2, x3) j k9).2.1), (5, .int (nI (fndR σ n T k (x1, x2, x3) j k9).1)), (4, .int ((sP σ).getD n 0)), (0, .ref 60), (1, .int t), (2, .int (nI n)), (3, .int w)] [] μ2) → V G M_X7_found (d + 5) 0 0 (Pm σ (.int (pkF w (fndO σ n T))) μ0) 98 [(9, .int (nI j)), (8, .int (nI k)), (7, .int x3), (6, .int x2), (5, .int (nI x1)), (4, .int ((sP σ).getD n 0)), (0, .ref 60), (1, .int t), (2, .int (nI n)), (3, .int w)] [] (μ) := by
  intro k9
  induction k9 with
  | zero =>
    intro j x1 x2 x3 q μ hj hx h62 hq hnw h69 hf HK
    obtain ⟨nw, h63⟩ := id hnw
    have h60 := (hf 60 (by decide) (by decide) (by decide)).trans k60
    have h61 := (hf 61 (by decide) (by decide) (by decide)).trans k61
    have hl8 := hw.1
    refine v_iload 0 dX7_found_98 rfl ?_
    refine v_bipush (v := 68) dX7_found_100 (by first | rfl | decide) ?_
    refine v_icmp_ge (tgt := 186) dX7_found_102 (by decide) (fun hc102 => ?_) (fun hc102 => ?_)
    ·
      obtain rfl : j = 68 := by omega
      exact HK μ q h62 hq hnw h69 hf
    · exact absurd ((nI_leI (a := 68) (by decide) (by omega)).mpr (by omega)) hc102
  | succ k9 ih =>
    intro j x1 x2 x3 q μ hj hx h62 hq hnw h69 hf HK
    obtain ⟨nw, h63⟩ := id hnw
    have h60 := (hf 60 (by decide) (by decide) (by decide)).trans k60
    have h61 := (hf 61 (by decide) (by decide) (by decide)).trans k61
    have hl8 := hw.1
    refine v_iload 0 dX7_found_98 rfl ?_
    refine v_bipush (v := 68) dX7_found_100 (by first | rfl | decide) ?_
    refine v_icmp_ge (tgt := 186) dX7_found_102 (by decide) (fun hc102 => ?_) (fun hc102 => ?_)
    · have := (nI_leI (a := 68) (by decide) (by omega)).mp hc102
      omega
    ·
      refine v_aload_n 6 dX7_found_105 rfl rfl ?_
      refine v_get fl_X7_17 dX7_found_106 h60 rfl ?_
      refine v_iload_n 8 dX7_found_109 rfl rfl ?_
      refine v_iload 1 dX7_found_110 rfl ?_
      refine v_iload 0 dX7_found_112 rfl ?_
      refine v_bipush (v := 17) dX7_found_114 (by first | rfl | decide) ?_
      refine v_idiv dX7_found_116 (by decide) ?_
      refine v_iload 0 dX7_found_117 rfl ?_
      refine v_bipush (v := 17) dX7_found_119 (by first | rfl | decide) ?_
      refine v_irem dX7_found_121 (by decide) ?_
      rw [div17 j (by omega), show nI j - nI (j / 17) * 17 = nI (j % 17) by rw [← div17 j (by omega)]; exact rem17 j (by omega)]
      refine v_callS (c_X7_codeOf (d + 4) ) cs_X7_162 dX7_found_122 rfl rfl (Nat.le_of_ble_eq_true rfl) ?_
      refine rt_k ?_
      refine v_iast dX7_found_125 h62 (nI_in' (by omega)) ?_
      rw [clamp (show n < 2 ^ 31 by omega)]
      refine v_aload_n 6 dX7_found_126 rfl rfl ?_
      refine v_aload_n 6 dX7_found_127 rfl rfl ?_
      refine v_get fl_X7_91 dX7_found_128 (up_n (by decide) h60) rfl ?_
      refine v_callV (c_X7_behind d (up_n (by decide) h60) (up_s _ _ _) (hpl.set2 hq (fndC k j)) (by rw [List.length_set]; exact hl8) (set_vc hw.2 (fnd_vc hk9 (by omega))) (by rw [List.length_set]; exact Nat.le_refl _) (up_n (by decide) h61) (up_n (by decide) h63) heb) cs_X7_195 dX7_found_131 (up_n (by decide) h60) rfl rfl (Nat.le_of_ble_eq_true rfl) ?_
      refine rt_k ?_
      rw [set_inst hn9]
      refine v_aload_n 6 dX7_found_134 rfl rfl ?_
      refine v_get fl_X7_21 dX7_found_135 (up_n (by decide) (up_n (by decide) h60)) rfl ?_
      refine v_iconst (v := 0) dX7_found_138 (by first | rfl | decide) ?_
      refine v_aload_n 6 dX7_found_139 rfl rfl ?_
      refine v_get fl_X7_39 dX7_found_140 (up_n (by decide) (up_n (by decide) h60)) rfl ?_
      refine v_iconst (v := 0) dX7_found_143 (by first | rfl | decide) ?_
      refine v_callS (c_X7_areAlike (d + 4) (I := 0) (J := 0) (up_s _ _ _) (up_n (by decide) (up_n (by decide) h69)) (by decide) (by decide) (by decide) (by decide)) cs_X7_238 dX7_found_144 rfl rfl (Nat.le_of_ble_eq_true rfl) ?_
      refine rt_k ?_
      refine v_if_eq (tgt := 180) dX7_found_147 (by decide) (fun hc147 => ?_) (fun hc147 => ?_)
      ·
        refine v_iinc (v := 1) 0 dX7_found_180 rfl rfl (by decide) (fun z e_z => ?_)
        refine v_ls (ls' := [(9, .int z), (8, .int (nI k)), (7, .int x3), (6, .int x2), (5, .int (nI x1)), (4, .int ((sP σ).getD n 0)), (0, .ref 60), (1, .int t), (2, .int (nI n)), (3, .int w)]) rfl ?_
        rw [nI_1] at e_z
        subst e_z
        refine v_goto (tgt := 98) dX7_found_183 (by decide) ?_
        have hlk : ¬ inst σ n (fndC k j) = T := lv_inj.mp hc147
        have hcr : fndR σ n T k (x1, x2, x3) j (k9 + 1) = fndR σ n T k (x1, x2, x3) (j + 1) k9 := by
          show fndR σ n T k (fndS σ n T (x1, x2, x3) k j) (j + 1) k9 = _
          rw [show fndS σ n T (x1, x2, x3) k j = (x1, x2, x3) from if_neg hlk]
        refine v_pick [0, 1, 2, 3, 4, 5, 6, 7, 8, 9] rfl ?_
        refine ih (j + 1) x1 x2 x3 _ _ (by omega) (by omega) (up_n (by decide) (up_s _ _ _)) (upd_o hq) ⟨_, (up_s _ _ _)⟩ (up_n (by decide) (up_n (by decide) h69)) (fun i a b c => (up_n b (up_n a rfl)).trans (hf i a b c)) ?_
        intro μ2 q2 r1 r2 r3 r4 r5
        have := HK μ2 q2 r1 r2 r3 r4 r5
        rw [hcr] at this
        exact this
        
      ·
        refine v_iload 4 dX7_found_150 rfl ?_
        refine v_if_ne (tgt := 164) dX7_found_152 (by decide) (fun hc152 => ?_) (fun hc152 => ?_)
        ·
          refine v_iload 3 dX7_found_164 rfl ?_
          refine v_istore dX7_found_166 (by decide) (fun y6 e_y6 => ?_)
          refine v_ls (ls' := [(6, .int y6), (9, .int (nI j)), (8, .int (nI k)), (7, .int x3), (5, .int (nI x1)), (4, .int ((sP σ).getD n 0)), (0, .ref 60), (1, .int t), (2, .int (nI n)), (3, .int w)]) rfl ?_
          refine v_iinc (v := 1) 4 dX7_found_168 rfl rfl (by decide) (fun y5 e_y5 => ?_)
          refine v_ls (ls' := [(5, .int y5), (6, .int y6), (9, .int (nI j)), (8, .int (nI k)), (7, .int x3), (4, .int ((sP σ).getD n 0)), (0, .ref 60), (1, .int t), (2, .int (nI n)), (3, .int w)]) rfl ?_
          refine v_iload 4 dX7_found_171 rfl ?_
          refine v_iconst (v := 1) dX7_found_173 (by first | rfl | decide) ?_
          refine v_iload 3 dX7_found_174 rfl ?_
          refine v_ishl dX7_found_176 ?_
          refine v_ior dX7_found_177 ?_
          refine v_istore dX7_found_178 (by decide) (fun y7 e_y7 => ?_)
          refine v_ls (ls' := [(7, .int y7), (5, .int y5), (6, .int y6), (9, .int (nI j)), (8, .int (nI k)), (4, .int ((sP σ).getD n 0)), (0, .ref 60), (1, .int t), (2, .int (nI n)), (3, .int w)]) rfl ?_
          refine v_iinc (v := 1) 3 dX7_found_180 rfl rfl (by decide) (fun z e_z => ?_)
          refine v_ls (ls' := [(9, .int z), (7, .int y7), (5, .int y5), (6, .int y6), (8, .int (nI k)), (4, .int ((sP σ).getD n 0)), (0, .ref 60), (1, .int t), (2, .int (nI n)), (3, .int w)]) rfl ?_
          rw [nI_1] at e_z
          subst e_z
          refine v_goto (tgt := 98) dX7_found_183 (by decide) ?_
          have hlk : inst σ n (fndC k j) = T := by
            by_cases q : inst σ n (fndC k j) = T
            · exact q
            · exact absurd (lv_inj.mpr q) hc147
          have hx0 : ¬ x1 = 0 := fun z => hc152 (by rw [z]; rfl)
          have e6 : y6 = x2 := e_y6
          clear e_y6
          have hcr : fndR σ n T k (x1, x2, x3) j (k9 + 1) = fndR σ n T k (x1 + 1, y6, y7) (j + 1) k9 := by
            show fndR σ n T k (fndS σ n T (x1, x2, x3) k j) (j + 1) k9 = _
            rw [show fndS σ n T (x1, x2, x3) k j = (x1 + 1, y6, y7) from by simp only [fndS, if_pos hlk, if_neg hx0, e6, e_y7]]
          rw [nI_1] at e_y5
          subst e_y5
          refine v_pick [0, 4, 1, 3, 2, 5, 6, 7, 8, 9] rfl ?_
          refine ih (j + 1) (x1 + 1) y6 y7 _ _ (by omega) (by omega) (up_n (by decide) (up_s _ _ _)) (upd_o hq) ⟨_, (up_s _ _ _)⟩ (up_n (by decide) (up_n (by decide) h69)) (fun i a b c => (up_n b (up_n a rfl)).trans (hf i a b c)) ?_
          intro μ2 q2 r1 r2 r3 r4 r5
          have := HK μ2 q2 r1 r2 r3 r4 r5
          rw [hcr] at this
          exact this
          
        ·
          refine v_aload_n 6 dX7_found_155 rfl rfl ?_
          refine v_get fl_X7_17 dX7_found_156 (up_n (by decide) (up_n (by decide) h60)) rfl ?_
          refine v_iload_n 8 dX7_found_159 rfl rfl ?_
          refine v_iald dX7_found_160 (up_n (by decide) (up_s _ _ _)) (nI_in' (by omega)) ?_
          refine v_goto (tgt := 166) dX7_found_161 (by decide) ?_
          refine v_istore dX7_found_166 (by decide) (fun y6 e_y6 => ?_)
          refine v_ls (ls' := [(6, .int y6), (9, .int (nI j)), (8, .int (nI k)), (7, .int x3), (5, .int (nI x1)), (4, .int ((sP σ).getD n 0)), (0, .ref 60), (1, .int t), (2, .int (nI n)), (3, .int w)]) rfl ?_
          refine v_iinc (v := 1) 4 dX7_found_168 rfl rfl (by decide) (fun y5 e_y5 => ?_)
          refine v_ls (ls' := [(5, .int y5), (6, .int y6), (9, .int (nI j)), (8, .int (nI k)), (7, .int x3), (4, .int ((sP σ).getD n 0)), (0, .ref 60), (1, .int t), (2, .int (nI n)), (3, .int w)]) rfl ?_
          refine v_iload 4 dX7_found_171 rfl ?_
          refine v_iconst (v := 1) dX7_found_173 (by first | rfl | decide) ?_
          refine v_iload 3 dX7_found_174 rfl ?_
          refine v_ishl dX7_found_176 ?_
          refine v_ior dX7_found_177 ?_
          refine v_istore dX7_found_178 (by decide) (fun y7 e_y7 => ?_)
          refine v_ls (ls' := [(7, .int y7), (5, .int y5), (6, .int y6), (9, .int (nI j)), (8, .int (nI k)), (4, .int ((sP σ).getD n 0)), (0, .ref 60), (1, .int t), (2, .int (nI n)), (3, .int w)]) rfl ?_
          refine v_iinc (v := 1) 3 dX7_found_180 rfl rfl (by decide) (fun z e_z => ?_)
          refine v_ls (ls' := [(9, .int z), (7, .int y7), (5, .int y5), (6, .int y6), (8, .int (nI k)), (4, .int ((sP σ).getD n 0)), (0, .ref 60), (1, .int t), (2, .int (nI n)), (3, .int w)]) rfl ?_
          rw [nI_1] at e_z
          subst e_z
          refine v_goto (tgt := 98) dX7_found_183 (by decide) ?_
          have hlk : inst σ n (fndC k j) = T := by
            by_cases q : inst σ n (fndC k j) = T
            · exact q
            · exact absurd (lv_inj.mpr q) hc147
          have hx0 : x1 = 0 := (nI_eq (b := 0) (by omega) (by decide)).mp hc152
          have e6 : y6 = fndC k j := by
            rw [e_y6, clamp (show n < 2 ^ 31 by omega)]
            exact if_pos rfl
          clear e_y6
          have hcr : fndR σ n T k (x1, x2, x3) j (k9 + 1) = fndR σ n T k (x1 + 1, y6, y7) (j + 1) k9 := by
            show fndR σ n T k (fndS σ n T (x1, x2, x3) k j) (j + 1) k9 = _
            rw [show fndS σ n T (x1, x2, x3) k j = (x1 + 1, y6, y7) from by simp only [fndS, if_pos hlk, if_pos hx0, e6, e_y7]]
          rw [nI_1] at e_y5
          subst e_y5
          refine v_pick [0, 4, 1, 3, 2, 5, 6, 7, 8, 9] rfl ?_
          refine ih (j + 1) (x1 + 1) y6 y7 _ _ (by omega) (by omega) (up_n (by decide) (up_s _ _ _)) (upd_o hq) ⟨_, (up_s _ _ _)⟩ (up_n (by decide) (up_n (by decide) h69)) (fun i a b c => (up_n b (up_n a rfl)).trans (hf i a b c)) ?_
          intro μ2 q2 r1 r2 r3 r4 r5
          have := HK μ2 q2 r1 r2 r3 r4 r5
          rw [hcr] at this
          exact this
          

set_option maxRecDepth 20000 in
set_option maxHeartbeats 4000000 in
theorem fnd7_out {G : Cx} (d : Nat) {σ : ST} {μ0 : Hp} (hw : Wp (sP σ)) (heb : Eb 100 (sM σ)) {n : Nat} {w t : Int32} {T : LT} (hn9 : n < (sP σ).length) {co wh : Int64} {un lr mr hr at9 fa op sg hm : Int32} {p tt ro og tc op9 sp : Nat → Int32} {se le mo : Nat → Int64} (k60 : μ0 60 = some (modC (nI (sP σ).length) co wh un lr mr hr (nI (sT σ).length) at9 fa op (nI (sW σ).1) sg hm (hiO (sI σ)))) (k61 : μ0 61 = some (mlg (sM σ))) (k64 : μ0 64 = some (arI 5 ro)) (k65 : μ0 65 = some (arJ 600 se)) (k66 : μ0 66 = some (arI 120 og)) (k67 : μ0 67 = some (arJ 5 le)) (k68 : μ0 68 = some (arJ 5 mo)) (k70 : μ0 70 = some (arJ 36 (lsF (sL σ)))) (k71 : μ0 71 = some (arI 3 (sZ σ))) (k72 : μ0 72 = some (arF 8 (sF σ))) (k73 : μ0 73 = some (arI 12 (rkF (sR σ)))) (k74 : μ0 74 = some (arI 3 (sK σ))) (k75 : μ0 75 = some (arI 60 tt)) (k76 : μ0 76 = some (arI 3 op9)) (k77 : μ0 77 = some (arI 8 tc)) (k78 : μ0 78 = some (arI 4 (sW σ).2.1)) (k79 : μ0 79 = some (arI 4 (sW σ).2.2)) (k80 : μ0 80 = some (arI 48 sp)) (hmk : MK (sI σ) hm μ0) (hpl : Pl (sP σ) p) (htp : Pl (sT σ) tt) (ht60 : (sT σ).length ≤ 60) : ∀ (k9 : Nat) (k x1 : Nat) (x2 x3 : Int32) (q : Nat → Int32) (μ : Hp), k + k9 = 7 → x1 + 100 * k9 ≤ 5000 → μ 62 = some (arI 8 q) → (∀ j, j ≠ n → q j = p j) → (∃ nw, μ 63 = some (arJ 5 nw)) → μ 69 = some (mlg T) → (∀ i, i ≠ 62 → i ≠ 63 → i ≠ 69 → μ i = μ0 i) → fndO σ n T = fndK σ n T (x1, x2, x3) k k9 → V G M_X7_found (d + 5) 0 0 (Pm σ (.int (pkF w (fndO σ n T))) μ0) 88 [(8, .int (nI k)), (7, .int x3), (6, .int x2), (5, .int (nI x1)), (4, .int ((sP σ).getD n 0)), (0, .ref 60), (1, .int t), (2, .int (nI n)), (3, .int w)] [] (μ) := by
  intro k9
  induction k9 with
  | zero =>
    intro k x1 x2 x3 q μ hj hx h62 hq hnw h69 hf hcr
    obtain ⟨nw, h63⟩ := id hnw
    have h60 := (hf 60 (by decide) (by decide) (by decide)).trans k60
    have h61 := (hf 61 (by decide) (by decide) (by decide)).trans k61
    have hl8 := hw.1
    refine v_iload 0 dX7_found_88 rfl ?_
    refine v_bipush (v := 7) dX7_found_90 (by first | rfl | decide) ?_
    refine v_icmp_ge (tgt := 192) dX7_found_92 (by decide) (fun hc92 => ?_) (fun hc92 => ?_)
    ·
      refine v_aload_n 5 dX7_found_192 rfl rfl ?_
      refine v_get fl_X7_17 dX7_found_193 h60 rfl ?_
      refine v_iload_n 7 dX7_found_196 rfl rfl ?_
      refine v_iload 4 dX7_found_197 rfl ?_
      refine v_iast dX7_found_199 h62 (nI_in' (by omega)) ?_
      rw [clamp (show n < 2 ^ 31 by omega)]
      refine v_iload_n 8 dX7_found_200 rfl rfl ?_
      refine v_if_ne (tgt := 209) dX7_found_201 (by decide) (fun hc201 => ?_) (fun hc201 => ?_)
      ·
        refine v_iload_n 8 dX7_found_209 rfl rfl ?_
        refine v_iconst (v := 1) dX7_found_210 (by first | rfl | decide) ?_
        refine v_icmp_ne (tgt := 219) dX7_found_211 (by decide) (fun hc211 => ?_) (fun hc211 => ?_)
        ·
          refine v_iload 1 dX7_found_219 rfl ?_
          refine v_iret dX7_found_221 rfl (by first | rfl | decide | exact nar_b (by first | assumption | rfl)) ?_
          have hE : pkF w (fndO σ n T) = x3 := by
            rw [hcr]
            simp only [pkF, fndK, if_neg hc201, if_neg hc211]
          rw [hE]
          exact ⟨rfl, ⟨co, wh, un, lr, mr, hr, at9, fa, op, sg, hm, _, tt, ro, og, tc, op9, sp, nw, se, le, mo, _, (up_n (by decide) h60), (up_n (by decide) h61), (up_s _ _ _), (up_n (by decide) h63), (up_n (by decide) ((hf 64 (by decide) (by decide) (by decide)).trans k64)), (up_n (by decide) ((hf 65 (by decide) (by decide) (by decide)).trans k65)), (up_n (by decide) ((hf 66 (by decide) (by decide) (by decide)).trans k66)), (up_n (by decide) ((hf 67 (by decide) (by decide) (by decide)).trans k67)), (up_n (by decide) ((hf 68 (by decide) (by decide) (by decide)).trans k68)), (up_n (by decide) h69), (up_n (by decide) ((hf 70 (by decide) (by decide) (by decide)).trans k70)), (up_n (by decide) ((hf 71 (by decide) (by decide) (by decide)).trans k71)), (up_n (by decide) ((hf 72 (by decide) (by decide) (by decide)).trans k72)), (up_n (by decide) ((hf 73 (by decide) (by decide) (by decide)).trans k73)), (up_n (by decide) ((hf 74 (by decide) (by decide) (by decide)).trans k74)), (up_n (by decide) ((hf 75 (by decide) (by decide) (by decide)).trans k75)), (up_n (by decide) ((hf 76 (by decide) (by decide) (by decide)).trans k76)), (up_n (by decide) ((hf 77 (by decide) (by decide) (by decide)).trans k77)), (up_n (by decide) ((hf 78 (by decide) (by decide) (by decide)).trans k78)), (up_n (by decide) ((hf 79 (by decide) (by decide) (by decide)).trans k79)), (up_n (by decide) ((hf 80 (by decide) (by decide) (by decide)).trans k80)), (hmk.kept (fun i a b => (up_n (by omega) rfl).trans (hf i (by omega) (by omega) (by omega)))), (hpl.back hq hn9), htp, ht60⟩, fun i hi => (up_n (by omega) rfl).trans (hf i (by omega) (by omega) (by omega))⟩
        ·
          refine v_iload 2 dX7_found_214 rfl ?_
          refine v_goto (tgt := 221) dX7_found_216 (by decide) ?_
          refine v_iret dX7_found_221 rfl (by first | rfl | decide | exact nar_b (by first | assumption | rfl)) ?_
          have hE : pkF w (fndO σ n T) = x2 := by
            rw [hcr]
            simp only [pkF, fndK, if_neg hc201, if_pos hc211]
          rw [hE]
          exact ⟨rfl, ⟨co, wh, un, lr, mr, hr, at9, fa, op, sg, hm, _, tt, ro, og, tc, op9, sp, nw, se, le, mo, _, (up_n (by decide) h60), (up_n (by decide) h61), (up_s _ _ _), (up_n (by decide) h63), (up_n (by decide) ((hf 64 (by decide) (by decide) (by decide)).trans k64)), (up_n (by decide) ((hf 65 (by decide) (by decide) (by decide)).trans k65)), (up_n (by decide) ((hf 66 (by decide) (by decide) (by decide)).trans k66)), (up_n (by decide) ((hf 67 (by decide) (by decide) (by decide)).trans k67)), (up_n (by decide) ((hf 68 (by decide) (by decide) (by decide)).trans k68)), (up_n (by decide) h69), (up_n (by decide) ((hf 70 (by decide) (by decide) (by decide)).trans k70)), (up_n (by decide) ((hf 71 (by decide) (by decide) (by decide)).trans k71)), (up_n (by decide) ((hf 72 (by decide) (by decide) (by decide)).trans k72)), (up_n (by decide) ((hf 73 (by decide) (by decide) (by decide)).trans k73)), (up_n (by decide) ((hf 74 (by decide) (by decide) (by decide)).trans k74)), (up_n (by decide) ((hf 75 (by decide) (by decide) (by decide)).trans k75)), (up_n (by decide) ((hf 76 (by decide) (by decide) (by decide)).trans k76)), (up_n (by decide) ((hf 77 (by decide) (by decide) (by decide)).trans k77)), (up_n (by decide) ((hf 78 (by decide) (by decide) (by decide)).trans k78)), (up_n (by decide) ((hf 79 (by decide) (by decide) (by decide)).trans k79)), (up_n (by decide) ((hf 80 (by decide) (by decide) (by decide)).trans k80)), (hmk.kept (fun i a b => (up_n (by omega) rfl).trans (hf i (by omega) (by omega) (by omega)))), (hpl.back hq hn9), htp, ht60⟩, fun i hi => (up_n (by omega) rfl).trans (hf i (by omega) (by omega) (by omega))⟩
      ·
        refine v_iload 3 dX7_found_204 rfl ?_
        refine v_goto (tgt := 221) dX7_found_206 (by decide) ?_
        refine v_iret dX7_found_221 rfl (by first | rfl | decide | exact nar_b (by first | assumption | rfl)) ?_
        have hE : pkF w (fndO σ n T) = nI x1 := by
          rw [hcr]
          simp only [pkF, fndK, if_pos hc201]
        rw [hE]
        exact ⟨rfl, ⟨co, wh, un, lr, mr, hr, at9, fa, op, sg, hm, _, tt, ro, og, tc, op9, sp, nw, se, le, mo, _, (up_n (by decide) h60), (up_n (by decide) h61), (up_s _ _ _), (up_n (by decide) h63), (up_n (by decide) ((hf 64 (by decide) (by decide) (by decide)).trans k64)), (up_n (by decide) ((hf 65 (by decide) (by decide) (by decide)).trans k65)), (up_n (by decide) ((hf 66 (by decide) (by decide) (by decide)).trans k66)), (up_n (by decide) ((hf 67 (by decide) (by decide) (by decide)).trans k67)), (up_n (by decide) ((hf 68 (by decide) (by decide) (by decide)).trans k68)), (up_n (by decide) h69), (up_n (by decide) ((hf 70 (by decide) (by decide) (by decide)).trans k70)), (up_n (by decide) ((hf 71 (by decide) (by decide) (by decide)).trans k71)), (up_n (by decide) ((hf 72 (by decide) (by decide) (by decide)).trans k72)), (up_n (by decide) ((hf 73 (by decide) (by decide) (by decide)).trans k73)), (up_n (by decide) ((hf 74 (by decide) (by decide) (by decide)).trans k74)), (up_n (by decide) ((hf 75 (by decide) (by decide) (by decide)).trans k75)), (up_n (by decide) ((hf 76 (by decide) (by decide) (by decide)).trans k76)), (up_n (by decide) ((hf 77 (by decide) (by decide) (by decide)).trans k77)), (up_n (by decide) ((hf 78 (by decide) (by decide) (by decide)).trans k78)), (up_n (by decide) ((hf 79 (by decide) (by decide) (by decide)).trans k79)), (up_n (by decide) ((hf 80 (by decide) (by decide) (by decide)).trans k80)), (hmk.kept (fun i a b => (up_n (by omega) rfl).trans (hf i (by omega) (by omega) (by omega)))), (hpl.back hq hn9), htp, ht60⟩, fun i hi => (up_n (by omega) rfl).trans (hf i (by omega) (by omega) (by omega))⟩
    · exact absurd ((nI_leI (a := 7) (by decide) (by omega)).mpr (by omega)) hc92
  | succ k9 ih =>
    intro k x1 x2 x3 q μ hj hx h62 hq hnw h69 hf hcr
    obtain ⟨nw, h63⟩ := id hnw
    have h60 := (hf 60 (by decide) (by decide) (by decide)).trans k60
    have h61 := (hf 61 (by decide) (by decide) (by decide)).trans k61
    have hl8 := hw.1
    refine v_iload 0 dX7_found_88 rfl ?_
    refine v_bipush (v := 7) dX7_found_90 (by first | rfl | decide) ?_
    refine v_icmp_ge (tgt := 192) dX7_found_92 (by decide) (fun hc92 => ?_) (fun hc92 => ?_)
    · have := (nI_leI (a := 7) (by decide) (by omega)).mp hc92
      omega
    ·
      refine v_iconst (v := 0) dX7_found_95 (by first | rfl | decide) ?_
      refine v_istore dX7_found_96 (by decide) (fun x9 e_x9 => ?_)
      refine v_ls (ls' := [(9, .int x9), (8, .int (nI k)), (7, .int x3), (6, .int x2), (5, .int (nI x1)), (4, .int ((sP σ).getD n 0)), (0, .ref 60), (1, .int t), (2, .int (nI n)), (3, .int w)]) rfl ?_
      subst e_x9
      refine fnd7_in d hw heb hn9 k60 k61 k64 k65 k66 k67 k68 k70 k71 k72 k73 k74 k75 k76 k77 k78 k79 k80 hmk hpl htp ht60 (show k < 7 by omega) 68 0 x1 x2 x3 q μ (by omega) (by omega) h62 hq hnw h69 hf ?_
      intro μ2 q2 r1 r2 r3 r4 r5
      have hle : (fndR σ n T k (x1, x2, x3) 0 68).1 ≤ x1 + 68 := fndR_le σ n T k 68 0 (x1, x2, x3)
      generalize hX : fndR σ n T k (x1, x2, x3) 0 68 = X at hle ⊢
      refine v_iinc (v := 1) 1 dX7_found_186 rfl rfl (by decide) (fun z e_z => ?_)
      rw [nI_1] at e_z
      subst e_z
      refine v_goto (tgt := 88) dX7_found_189 (by decide) ?_
      refine v_pick [0, 2, 3, 4, 5, 6, 7, 8, 9] rfl ?_
      refine ih (k + 1) X.1 X.2.1 X.2.2 q2 μ2 (by omega) (by omega) r1 r2 r3 r4 r5 ?_
      rw [hcr, ← hX]
      rfl
      

set_option maxRecDepth 20000 in
set_option maxHeartbeats 4000000 in
theorem c_X7_found {G : Cx} (d : Nat) {μ : Hp} {σ : ST} {t : Int32} {i : Int32} {w : Int32} (h : Mo σ μ) (hw : Wp (sP σ)) (heb : Eb 100 (sM σ)) : Ct G (d + 5) 0 0 M_X7_found [.ref 60, .int t, .int i, .int w] μ (Pm (σ) (.int (rFound σ t i w)) μ) := by
  refine Ct.ofV (by decide +kernel) (Nat.le_of_ble_eq_true rfl) ?_
  refine v_ls (ls' := [(0, .ref 60), (1, .int t), (2, .int i), (3, .int w)]) rfl ?_
  obtain ⟨co, wh, un, lr, mr, hr, at9, fa, op, sg, hm, p, tt, ro, og, tc, op9, sp, nw, se, le, mo, ot, h60, h61, h62, h63, h64, h65, h66, h67, h68, h69, h70, h71, h72, h73, h74, h75, h76, h77, h78, h79, h80, hmk, hpl, htp, ht60⟩ := id h
  have hl8 := hw.1
  refine v_iload_n 1 dX7_found_0 rfl rfl ?_
  refine v_callS (c_X7_isList (d + 3) ) cs_X7_268 dX7_found_1 rfl rfl (Nat.le_of_ble_eq_true rfl) ?_
  refine rt_k ?_
  refine v_if_eq (tgt := 27) dX7_found_4 (by decide) (fun hc4 => ?_) (fun hc4 => ?_)
  ·
    refine v_iconst (v := -1) dX7_found_27 (by first | rfl | decide) ?_
    refine v_iret dX7_found_28 rfl (by first | rfl | decide | exact nar_b (by first | assumption | rfl)) ?_
    have hE : rFound σ t i w = -1 := by
      first
        | (simp only [rFound, if_pos hc4]; done)
        | (grind [rFound]; done)
    rw [hE]
    exact ⟨rfl, h, Fp.rf μ⟩
  ·
    refine v_aload_n 0 dX7_found_7 rfl rfl ?_
    refine v_iload_n 2 dX7_found_8 rfl rfl ?_
    refine v_callV (c_X7_isFilter (d + 3) h60 (by omega)) cs_X7_169 dX7_found_9 h60 rfl rfl (Nat.le_of_ble_eq_true rfl) ?_
    refine rt_k ?_
    refine v_if_eq (tgt := 27) dX7_found_12 (by decide) (fun hc12 => ?_) (fun hc12 => ?_)
    ·
      refine v_iconst (v := -1) dX7_found_27 (by first | rfl | decide) ?_
      refine v_iret dX7_found_28 rfl (by first | rfl | decide | exact nar_b (by first | assumption | rfl)) ?_
      have hE : rFound σ t i w = -1 := by
        first
          | (simp only [rFound, if_neg hc4, if_pos hc12]; done)
          | (grind [rFound]; done)
      rw [hE]
      exact ⟨rfl, h, Fp.rf μ⟩
    ·
      refine v_iload_n 3 dX7_found_15 rfl rfl ?_
      refine v_i2l dX7_found_16 ?_
      refine v_lconst (v := 0) dX7_found_17 (by first | rfl | decide) ?_
      refine v_ldc2 kc_X7_99 dX7_found_18 ?_
      refine v_callS (c_X7_inL (d + 4) 2 3 2 (by decide) rfl rfl) cs_X7_95 dX7_found_21 rfl rfl (Nat.le_of_ble_eq_true rfl) ?_
      refine rt_k ?_
      refine v_if_ne (tgt := 29) dX7_found_24 (by decide) (fun hc24 => ?_) (fun hc24 => ?_)
      ·
        obtain ⟨n, hn9, rfl⟩ := in_ix (by omega) hc12
        have hcn : (nI n).toNatClampNeg = n := clamp (by omega)
        obtain ⟨a, ha9, rfl⟩ := in_ix (n := 3) (by decide) hc4
        have hca : (nI a).toNatClampNeg = a := clamp (by omega)
        have hza : zAt σ (nI a) = sZ σ a := by show sZ σ (nI a).toNatClampNeg = _; rw [hca]
        refine v_aload_n 0 dX7_found_29 rfl rfl ?_
        refine v_get fl_X7_45 dX7_found_30 h60 rfl ?_
        refine v_iload_n 1 dX7_found_33 rfl rfl ?_
        refine v_iald dX7_found_34 h71 (nI_in' (by omega)) ?_
        refine v_iconst (v := -1) dX7_found_35 (by first | rfl | decide) ?_
        rw [hca]
        refine v_icmp_ne (tgt := 42) dX7_found_36 (by decide) (fun hc36 => ?_) (fun hc36 => ?_)
        ·
          refine v_aload_n 0 dX7_found_42 rfl rfl ?_
          refine v_iload_n 1 dX7_found_43 rfl rfl ?_
          refine v_callV (c_X7_tellsLight (d + 1) h60 h63 h70 h71) cs_X7_284 dX7_found_44 h60 rfl rfl (Nat.le_of_ble_eq_true rfl) ?_
          rintro _ _ ⟨rfl, g9, rfl, hg9⟩
          refine v_if_ne (tgt := 53) dX7_found_47 (by decide) (fun hc47 => ?_) (fun hc47 => ?_)
          ·
            obtain rfl := hg9 hc47
            obtain ⟨-, q2, q3⟩ := tt_ok hc47
            refine v_aload_n 0 dX7_found_53 rfl rfl ?_
            refine v_get fl_X7_21 dX7_found_54 (up_n (by decide) h60) rfl ?_
            refine v_iconst (v := 0) dX7_found_57 (by first | rfl | decide) ?_
            refine v_aload_n 0 dX7_found_58 rfl rfl ?_
            refine v_get fl_X7_39 dX7_found_59 (up_n (by decide) h60) rfl ?_
            refine v_iconst (v := 0) dX7_found_62 (by first | rfl | decide) ?_
            refine v_iconst (v := 5) dX7_found_63 (by first | rfl | decide) ?_
            refine v_copyl cs_X7_140 dX7_found_64 (up_s _ _ _) (up_n (by decide) h69) rfl rfl (by decide) (by decide) (by decide) (by decide) (by decide) (fun i _ => rfl) (Nat.le_of_ble_eq_true rfl) ?_
            refine v_njJ (g := lvO (telO (sL σ (nI a).toNatClampNeg))) (cpy_eq _ _ _) ?_
            refine v_aload_n 0 dX7_found_67 rfl rfl ?_
            refine v_get fl_X7_17 dX7_found_68 (up_n (by decide) (up_n (by decide) h60)) rfl ?_
            refine v_iload_n 2 dX7_found_71 rfl rfl ?_
            refine v_iald dX7_found_72 (up_n (by decide) (up_n (by decide) h62)) (nI_in' (by omega)) ?_
            refine v_istore dX7_found_73 (by decide) (fun y4 e_y4 => ?_)
            refine v_ls (ls' := [(4, .int y4), (0, .ref 60), (1, .int (nI a)), (2, .int (nI n)), (3, .int w)]) rfl ?_
            rw [hcn, ← getD_at hpl hn9] at e_y4
            subst e_y4
            refine v_iconst (v := 0) dX7_found_75 (by first | rfl | decide) ?_
            refine v_istore dX7_found_76 (by decide) (fun y5 e_y5 => ?_)
            refine v_ls (ls' := [(5, .int y5), (4, .int ((sP σ).getD n 0)), (0, .ref 60), (1, .int (nI a)), (2, .int (nI n)), (3, .int w)]) rfl ?_
            subst e_y5
            refine v_bipush (v := -5) dX7_found_78 (by first | rfl | decide) ?_
            refine v_istore dX7_found_80 (by decide) (fun y6 e_y6 => ?_)
            refine v_ls (ls' := [(6, .int y6), (5, .int (0)), (4, .int ((sP σ).getD n 0)), (0, .ref 60), (1, .int (nI a)), (2, .int (nI n)), (3, .int w)]) rfl ?_
            subst e_y6
            refine v_iconst (v := 0) dX7_found_82 (by first | rfl | decide) ?_
            refine v_istore dX7_found_83 (by decide) (fun y7 e_y7 => ?_)
            refine v_ls (ls' := [(7, .int y7), (6, .int (-5)), (5, .int (0)), (4, .int ((sP σ).getD n 0)), (0, .ref 60), (1, .int (nI a)), (2, .int (nI n)), (3, .int w)]) rfl ?_
            subst e_y7
            refine v_iconst (v := 0) dX7_found_85 (by first | rfl | decide) ?_
            refine v_istore dX7_found_86 (by decide) (fun y8 e_y8 => ?_)
            refine v_ls (ls' := [(8, .int y8), (7, .int (0)), (6, .int (-5)), (5, .int (0)), (4, .int ((sP σ).getD n 0)), (0, .ref 60), (1, .int (nI a)), (2, .int (nI n)), (3, .int w)]) rfl ?_
            subst e_y8
            have hE : rFound σ (nI a) (nI n) w = pkF w (fndO σ n (telO (sL σ (nI a).toNatClampNeg))) := by simp only [rFound, if_neg hc4, if_neg hc12, if_neg hc24, hza, if_neg hc36, if_neg q2, pkF, hcn, lAt]
            rw [hE]
            exact fnd7_out d hw heb hn9 h60 h61 h64 h65 h66 h67 h68 h70 h71 h72 h73 h74 h75 h76 h77 h78 h79 h80 hmk hpl htp ht60 7 0 0 (-5) 0 p _ (by omega) (by omega) (up_n (by decide) (up_n (by decide) h62)) (fun _ _ => rfl) ⟨_, up_n (by decide) (up_s _ _ _)⟩ (up_s _ _ _) (fun i a b c => up_n c (up_n b rfl)) rfl
            
          ·
            refine v_bipush (v := -2) dX7_found_50 (by first | rfl | decide) ?_
            refine v_iret dX7_found_52 rfl (by first | rfl | decide | exact nar_b (by first | assumption | rfl)) ?_
            have hE : rFound σ (nI a) (nI n) w = -2 := by
              rw [tt_tls hc4] at hc47
              simp only [rFound, if_neg hc4, if_neg hc12, if_neg hc24, hza, if_neg hc36, if_pos hc47]
            rw [hE]
            exact ⟨rfl, h.now _, fun i hi => by repeat (first | rfl | refine up_n (by omega) ?_)⟩
        ·
          refine v_bipush (v := -11) dX7_found_39 (by first | rfl | decide) ?_
          refine v_iret dX7_found_41 rfl (by first | rfl | decide | exact nar_b (by first | assumption | rfl)) ?_
          have hE : rFound σ (nI a) (nI n) w = -11 := by simp only [rFound, if_neg hc4, if_neg hc12, if_neg hc24, hza, if_pos hc36]
          rw [hE]
          exact ⟨rfl, h, Fp.rf μ⟩
      ·
        refine v_iconst (v := -1) dX7_found_27 (by first | rfl | decide) ?_
        refine v_iret dX7_found_28 rfl (by first | rfl | decide | exact nar_b (by first | assumption | rfl)) ?_
        have hE : rFound σ t i w = -1 := by
          first
            | (simp only [rFound, if_neg hc4, if_neg hc12, if_pos hc24]; done)
            | (grind [rFound]; done)
        rw [hE]
        exact ⟨rfl, h, Fp.rf μ⟩

