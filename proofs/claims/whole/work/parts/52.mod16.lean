theorem cnt_take {l : List Int32} (c : Int32) {j : Nat} (h : j < l.length) : cntO c (l.take (j + 1)) = cntO c (l.take j) + (if l.getD j 0 = c then 1 else 0) := by
  have e : l.getD j 0 = l[j] := by simp [List.getD, List.getElem?_eq_getElem h]
  rw [List.take_succ_eq_append_getElem h, e]
  unfold cntO
  rw [List.filter_append, List.length_append]
  by_cases q : l[j] = c
  · simp [q]
  · simp [q]
def fsT (l : List Int32) (i j : Nat) : Int32 := if cntO (l.getD i 0) (l.take (min j i)) = 0 then 1 else 0
theorem fsT_z (l : List Int32) (i : Nat) : fsT l i 0 = 1 := by
  unfold fsT
  rw [Nat.zero_min]
  rfl
theorem fsT_l (l : List Int32) {i : Nat} (h : i < l.length) : fsT l i l.length = if cntO (l.getD i 0) (l.take i) = 0 then 1 else 0 := by
  unfold fsT
  rw [Nat.min_eq_right (by omega)]
theorem fsT_s {l : List Int32} (i : Nat) {j : Nat} (h : j < l.length) : fsT l i (j + 1) = if fsT l i j = 0 then 0 else if i ≤ j then 1 else if l.getD j 0 = l.getD i 0 then 0 else 1 := by
  unfold fsT
  by_cases q : i ≤ j
  · rw [Nat.min_eq_right (show i ≤ j + 1 by omega), Nat.min_eq_right q, if_pos q]
    by_cases z : cntO (l.getD i 0) (l.take i) = 0
    · rw [if_pos z, if_neg (by decide)]
    · rw [if_neg z, if_pos rfl]
  · rw [Nat.min_eq_left (show j + 1 ≤ i by omega), Nat.min_eq_left (show j ≤ i by omega), if_neg q, cnt_take _ h]
    by_cases z : cntO (l.getD i 0) (l.take j) = 0
    · rw [if_pos z, if_neg (show ¬ (1 : Int32) = 0 by decide), z]
      by_cases y : l.getD j 0 = l.getD i 0
      · rw [if_pos y, if_pos y]; rfl
      · rw [if_neg y, if_neg y]; rfl
    · rw [if_neg z, if_pos rfl, if_neg (by omega)]
set_option maxRecDepth 20000 in
set_option maxHeartbeats 4000000 in
theorem ta7_in {G : Cx} (d : Nat) {σ : ST} {μ0 : Hp} (hw : Wp (sP σ)) {i x1 : Nat} {x2 : Int32} {x3 : Nat} {w : Int32} {μ : Hp} (h : Mo σ μ) (hi9 : i < (sP σ).length) (hx1 : x1 ≤ 8 + i) (hx3 : x3 ≤ 8) : ∀ (m : Nat) (j n : Nat) (f : Int32), j + m = (sP σ).length → n ≤ j → n = cntO ((sP σ).getD i 0) ((sP σ).take j) → f = fsT (sP σ) i j → V G M_X7_tally (d + 1) 0 0 (Pm σ (.int (rTally σ w)) μ0) 25 [(5, .int (nI (i + 1))), (4, .int (nI (taS (sP σ) (x1, x2, x3) i).2.2)), (3, .int (taS (sP σ) (x1, x2, x3) i).2.1), (2, .int (nI (taS (sP σ) (x1, x2, x3) i).1)), (0, .ref 60), (1, .int w)] [] μ → V G M_X7_tally (d + 1) 0 0 (Pm σ (.int (rTally σ w)) μ0) 43 [(8, .int (nI j)), (7, .int f), (6, .int (nI n)), (5, .int (nI i)), (4, .int (nI x3)), (3, .int x2), (2, .int (nI x1)), (0, .ref 60), (1, .int w)] [] (μ) := by
  intro m
  induction m with
  | zero =>
    intro j n f hj hn en ef HK
    obtain ⟨co, wh, un, lr, mr, hr, at9, fa, op, sg, hm, p, tt, ro, og, tc, op9, sp, nw, se, le, mo, ot, h60, h61, h62, h63, h64, h65, h66, h67, h68, h69, h70, h71, h72, h73, h74, h75, h76, h77, h78, h79, h80, hmk, hpl, htp, ht60⟩ := id h
    have hl8 := hw.1
    refine v_iload 0 dX7_tally_43 rfl ?_
    refine v_aload_n 7 dX7_tally_45 rfl rfl ?_
    refine v_get fl_X7_91 dX7_tally_46 h60 rfl ?_
    refine v_icmp_ge (tgt := 121) dX7_tally_49 (by decide) (fun hc49 => ?_) (fun hc49 => ?_)
    ·
      refine v_iload_n 6 dX7_tally_121 rfl rfl ?_
      refine v_iload 1 dX7_tally_122 rfl ?_
      refine v_if_eq (tgt := 131) dX7_tally_124 (by decide) (fun hc124 => ?_) (fun hc124 => ?_)
      ·
        refine v_iconst (v := 0) dX7_tally_131 (by first | rfl | decide) ?_
        refine v_iadd dX7_tally_132 ?_
        refine v_istore_n dX7_tally_133 rfl (by decide) (fun y2 e_y2 => ?_)
        refine v_ls (ls' := [(2, .int y2), (8, .int (nI j)), (7, .int f), (6, .int (nI n)), (5, .int (nI i)), (4, .int (nI x3)), (3, .int x2), (0, .ref 60), (1, .int w)]) rfl ?_
        refine v_iload 3 dX7_tally_134 rfl ?_
        refine v_iload 5 dX7_tally_136 rfl ?_
        refine v_icmp_le (tgt := 153) dX7_tally_138 (by decide) (fun hc138 => ?_) (fun hc138 => ?_)
        ·
          refine v_iinc (v := 1) 4 dX7_tally_153 rfl rfl (by decide) (fun z e_z => ?_)
          refine v_ls (ls' := [(5, .int z), (2, .int y2), (8, .int (nI j)), (7, .int f), (6, .int (nI n)), (4, .int (nI x3)), (3, .int x2), (0, .ref 60), (1, .int w)]) rfl ?_
          rw [nI_1] at e_z
          subst e_z
          refine v_goto (tgt := 25) dX7_tally_156 (by decide) ?_
          obtain rfl : j = (sP σ).length := by omega
          rw [List.take_length] at en
          rw [fsT_l _ hi9] at ef
          have hk1 : ¬ cntO ((sP σ).getD i 0) ((sP σ).take i) = 0 := fun z => by
            rw [if_pos z, hc124] at ef
            exact absurd ef (by decide)
          have hk2 : ¬ x3 < cntO ((sP σ).getD i 0) (sP σ) := by rw [← en]; intro z; exact absurd ((nI_leI (by omega) (by omega)).mp hc138) (by omega)
          have e2 : y2 = nI (x1 + 0) := by
            first
            | (rw [e_y2]; exact nI_add _ _)
            | (rw [← e_y2]; exact nI_add _ _)
          subst e2
          have hX : taS (sP σ) (x1, x2, x3) i = (x1 + 0, x2, x3) := by simp only [taS, if_neg hk1, if_neg hk2, Nat.add_zero]
          rw [hX] at HK
          refine v_pick [0, 5, 6, 1, 7, 8] rfl ?_
          exact HK
          
        ·
          refine v_aload_n 7 dX7_tally_141 rfl rfl ?_
          refine v_get fl_X7_17 dX7_tally_142 h60 rfl ?_
          refine v_iload 4 dX7_tally_145 rfl ?_
          refine v_iald dX7_tally_147 h62 (nI_in' (by omega)) ?_
          refine v_istore_n dX7_tally_148 rfl (by decide) (fun y3 e_y3 => ?_)
          refine v_ls (ls' := [(3, .int y3), (2, .int y2), (8, .int (nI j)), (7, .int f), (6, .int (nI n)), (5, .int (nI i)), (4, .int (nI x3)), (0, .ref 60), (1, .int w)]) rfl ?_
          refine v_iload 4 dX7_tally_149 rfl ?_
          refine v_istore dX7_tally_151 (by decide) (fun y4 e_y4 => ?_)
          refine v_ls (ls' := [(4, .int y4), (3, .int y3), (2, .int y2), (8, .int (nI j)), (7, .int f), (6, .int (nI n)), (5, .int (nI i)), (0, .ref 60), (1, .int w)]) rfl ?_
          refine v_iinc (v := 1) 6 dX7_tally_153 rfl rfl (by decide) (fun z e_z => ?_)
          refine v_ls (ls' := [(5, .int z), (4, .int y4), (3, .int y3), (2, .int y2), (8, .int (nI j)), (7, .int f), (6, .int (nI n)), (0, .ref 60), (1, .int w)]) rfl ?_
          rw [nI_1] at e_z
          subst e_z
          refine v_goto (tgt := 25) dX7_tally_156 (by decide) ?_
          obtain rfl : j = (sP σ).length := by omega
          rw [List.take_length] at en
          rw [fsT_l _ hi9] at ef
          have hk1 : ¬ cntO ((sP σ).getD i 0) ((sP σ).take i) = 0 := fun z => by
            rw [if_pos z, hc124] at ef
            exact absurd ef (by decide)
          have hk2 : x3 < cntO ((sP σ).getD i 0) (sP σ) := by rw [← en]; exact Nat.lt_of_not_le (fun z => hc138 ((nI_leI (by omega) (by omega)).mpr z))
          have e2 : y2 = nI (x1 + 0) := by
            first
            | (rw [e_y2]; exact nI_add _ _)
            | (rw [← e_y2]; exact nI_add _ _)
          subst e2
          rw [clamp (by omega), ← getD_at hpl hi9] at e_y3
          subst e_y4 e_y3
          have hX : taS (sP σ) (x1, x2, x3) i = (x1 + 0, (sP σ).getD i 0, n) := by simp only [taS, if_neg hk1, if_pos hk2, en, Nat.add_zero]
          rw [hX] at HK
          refine v_pick [0, 1, 2, 3, 7, 8] rfl ?_
          exact HK
          
      ·
        refine v_iconst (v := 1) dX7_tally_127 (by first | rfl | decide) ?_
        refine v_goto (tgt := 132) dX7_tally_128 (by decide) ?_
        refine v_iadd dX7_tally_132 ?_
        refine v_istore_n dX7_tally_133 rfl (by decide) (fun y2 e_y2 => ?_)
        refine v_ls (ls' := [(2, .int y2), (8, .int (nI j)), (7, .int f), (6, .int (nI n)), (5, .int (nI i)), (4, .int (nI x3)), (3, .int x2), (0, .ref 60), (1, .int w)]) rfl ?_
        refine v_iload 3 dX7_tally_134 rfl ?_
        refine v_iload 5 dX7_tally_136 rfl ?_
        refine v_icmp_le (tgt := 153) dX7_tally_138 (by decide) (fun hc138 => ?_) (fun hc138 => ?_)
        ·
          refine v_iinc (v := 1) 4 dX7_tally_153 rfl rfl (by decide) (fun z e_z => ?_)
          refine v_ls (ls' := [(5, .int z), (2, .int y2), (8, .int (nI j)), (7, .int f), (6, .int (nI n)), (4, .int (nI x3)), (3, .int x2), (0, .ref 60), (1, .int w)]) rfl ?_
          rw [nI_1] at e_z
          subst e_z
          refine v_goto (tgt := 25) dX7_tally_156 (by decide) ?_
          obtain rfl : j = (sP σ).length := by omega
          rw [List.take_length] at en
          rw [fsT_l _ hi9] at ef
          have hk1 : cntO ((sP σ).getD i 0) ((sP σ).take i) = 0 := by
            by_cases z : cntO ((sP σ).getD i 0) ((sP σ).take i) = 0
            · exact z
            · rw [if_neg z] at ef; exact absurd ef hc124
          have hk2 : ¬ x3 < cntO ((sP σ).getD i 0) (sP σ) := by rw [← en]; intro z; exact absurd ((nI_leI (by omega) (by omega)).mp hc138) (by omega)
          have e2 : y2 = nI (x1 + 1) := by
            first
            | (rw [e_y2]; exact nI_add _ _)
            | (rw [← e_y2]; exact nI_add _ _)
          subst e2
          have hX : taS (sP σ) (x1, x2, x3) i = (x1 + 1, x2, x3) := by simp only [taS, if_pos hk1, if_neg hk2]
          rw [hX] at HK
          refine v_pick [0, 5, 6, 1, 7, 8] rfl ?_
          exact HK
          
        ·
          refine v_aload_n 7 dX7_tally_141 rfl rfl ?_
          refine v_get fl_X7_17 dX7_tally_142 h60 rfl ?_
          refine v_iload 4 dX7_tally_145 rfl ?_
          refine v_iald dX7_tally_147 h62 (nI_in' (by omega)) ?_
          refine v_istore_n dX7_tally_148 rfl (by decide) (fun y3 e_y3 => ?_)
          refine v_ls (ls' := [(3, .int y3), (2, .int y2), (8, .int (nI j)), (7, .int f), (6, .int (nI n)), (5, .int (nI i)), (4, .int (nI x3)), (0, .ref 60), (1, .int w)]) rfl ?_
          refine v_iload 4 dX7_tally_149 rfl ?_
          refine v_istore dX7_tally_151 (by decide) (fun y4 e_y4 => ?_)
          refine v_ls (ls' := [(4, .int y4), (3, .int y3), (2, .int y2), (8, .int (nI j)), (7, .int f), (6, .int (nI n)), (5, .int (nI i)), (0, .ref 60), (1, .int w)]) rfl ?_
          refine v_iinc (v := 1) 6 dX7_tally_153 rfl rfl (by decide) (fun z e_z => ?_)
          refine v_ls (ls' := [(5, .int z), (4, .int y4), (3, .int y3), (2, .int y2), (8, .int (nI j)), (7, .int f), (6, .int (nI n)), (0, .ref 60), (1, .int w)]) rfl ?_
          rw [nI_1] at e_z
          subst e_z
          refine v_goto (tgt := 25) dX7_tally_156 (by decide) ?_
          obtain rfl : j = (sP σ).length := by omega
          rw [List.take_length] at en
          rw [fsT_l _ hi9] at ef
          have hk1 : cntO ((sP σ).getD i 0) ((sP σ).take i) = 0 := by
            by_cases z : cntO ((sP σ).getD i 0) ((sP σ).take i) = 0
            · exact z
            · rw [if_neg z] at ef; exact absurd ef hc124
          have hk2 : x3 < cntO ((sP σ).getD i 0) (sP σ) := by rw [← en]; exact Nat.lt_of_not_le (fun z => hc138 ((nI_leI (by omega) (by omega)).mpr z))
          have e2 : y2 = nI (x1 + 1) := by
            first
            | (rw [e_y2]; exact nI_add _ _)
            | (rw [← e_y2]; exact nI_add _ _)
          subst e2
          rw [clamp (by omega), ← getD_at hpl hi9] at e_y3
          subst e_y4 e_y3
          have hX : taS (sP σ) (x1, x2, x3) i = (x1 + 1, (sP σ).getD i 0, n) := by simp only [taS, if_pos hk1, if_pos hk2, en]
          rw [hX] at HK
          refine v_pick [0, 1, 2, 3, 7, 8] rfl ?_
          exact HK
          
    · exact absurd ((nI_leI (by omega) (by omega)).mpr (by omega)) hc49
  | succ m ih =>
    intro j n f hj hn en ef HK
    obtain ⟨co, wh, un, lr, mr, hr, at9, fa, op, sg, hm, p, tt, ro, og, tc, op9, sp, nw, se, le, mo, ot, h60, h61, h62, h63, h64, h65, h66, h67, h68, h69, h70, h71, h72, h73, h74, h75, h76, h77, h78, h79, h80, hmk, hpl, htp, ht60⟩ := id h
    have hl8 := hw.1
    refine v_iload 0 dX7_tally_43 rfl ?_
    refine v_aload_n 7 dX7_tally_45 rfl rfl ?_
    refine v_get fl_X7_91 dX7_tally_46 h60 rfl ?_
    refine v_icmp_ge (tgt := 121) dX7_tally_49 (by decide) (fun hc49 => ?_) (fun hc49 => ?_)
    · have := (nI_leI (by omega) (by omega)).mp hc49
      omega
    ·
      refine v_iload 2 dX7_tally_52 rfl ?_
      refine v_aload_n 7 dX7_tally_54 rfl rfl ?_
      refine v_get fl_X7_17 dX7_tally_55 h60 rfl ?_
      refine v_iload 0 dX7_tally_58 rfl ?_
      refine v_iald dX7_tally_60 h62 (nI_in' (by omega)) ?_
      refine v_aload_n 7 dX7_tally_61 rfl rfl ?_
      refine v_get fl_X7_17 dX7_tally_62 h60 rfl ?_
      refine v_iload 3 dX7_tally_65 rfl ?_
      refine v_iald dX7_tally_67 h62 (nI_in' (by omega)) ?_
      rw [clamp (show j < 2 ^ 31 by omega), clamp (show i < 2 ^ 31 by omega), ← getD_at hpl (show j < (sP σ).length by omega), ← getD_at hpl hi9]
      refine v_icmp_ne (tgt := 75) dX7_tally_68 (by decide) (fun hc68 => ?_) (fun hc68 => ?_)
      ·
        refine v_iconst (v := 0) dX7_tally_75 (by first | rfl | decide) ?_
        refine v_iadd dX7_tally_76 ?_
        refine v_istore dX7_tally_77 (by decide) (fun y6 e_y6 => ?_)
        refine v_ls (ls' := [(6, .int y6), (8, .int (nI j)), (7, .int f), (5, .int (nI i)), (4, .int (nI x3)), (3, .int x2), (2, .int (nI x1)), (0, .ref 60), (1, .int w)]) rfl ?_
        refine v_iload 2 dX7_tally_79 rfl ?_
        refine v_if_eq (tgt := 112) dX7_tally_81 (by decide) (fun hc81 => ?_) (fun hc81 => ?_)
        ·
          refine v_iconst (v := 0) dX7_tally_112 (by first | rfl | decide) ?_
          refine v_istore dX7_tally_113 (by decide) (fun y7 e_y7 => ?_)
          refine v_ls (ls' := [(7, .int y7), (6, .int y6), (8, .int (nI j)), (5, .int (nI i)), (4, .int (nI x3)), (3, .int x2), (2, .int (nI x1)), (0, .ref 60), (1, .int w)]) rfl ?_
          refine v_iinc (v := 1) 2 dX7_tally_115 rfl rfl (by decide) (fun z e_z => ?_)
          refine v_ls (ls' := [(8, .int z), (7, .int y7), (6, .int y6), (5, .int (nI i)), (4, .int (nI x3)), (3, .int x2), (2, .int (nI x1)), (0, .ref 60), (1, .int w)]) rfl ?_
          rw [nI_1] at e_z
          subst e_z
          refine v_goto (tgt := 43) dX7_tally_118 (by decide) ?_
          have hjl : j < (sP σ).length := by omega
          have e6 : y6 = nI (n + 0) := by
            first
            | (rw [e_y6]; exact nI_add _ _)
            | (rw [← e_y6]; exact nI_add _ _)
          subst e6
          refine v_pick [0, 1, 2, 3, 4, 5, 6, 7, 8] rfl ?_
          refine ih (j + 1) _ _ (by omega) (by omega) ?_ ?_ HK
          · rw [cnt_take _ hjl, ← en, if_neg hc68]
          · rw [fsT_s i hjl, ← ef, if_pos hc81]
            first | exact e_y7 | exact e_y7.symm
          
        ·
          refine v_iload 1 dX7_tally_84 rfl ?_
          refine v_iload 3 dX7_tally_86 rfl ?_
          refine v_icmp_ge (tgt := 108) dX7_tally_88 (by decide) (fun hc88 => ?_) (fun hc88 => ?_)
          ·
            refine v_iconst (v := 1) dX7_tally_108 (by first | rfl | decide) ?_
            refine v_goto (tgt := 113) dX7_tally_109 (by decide) ?_
            refine v_istore dX7_tally_113 (by decide) (fun y7 e_y7 => ?_)
            refine v_ls (ls' := [(7, .int y7), (6, .int y6), (8, .int (nI j)), (5, .int (nI i)), (4, .int (nI x3)), (3, .int x2), (2, .int (nI x1)), (0, .ref 60), (1, .int w)]) rfl ?_
            refine v_iinc (v := 1) 2 dX7_tally_115 rfl rfl (by decide) (fun z e_z => ?_)
            refine v_ls (ls' := [(8, .int z), (7, .int y7), (6, .int y6), (5, .int (nI i)), (4, .int (nI x3)), (3, .int x2), (2, .int (nI x1)), (0, .ref 60), (1, .int w)]) rfl ?_
            rw [nI_1] at e_z
            subst e_z
            refine v_goto (tgt := 43) dX7_tally_118 (by decide) ?_
            have hjl : j < (sP σ).length := by omega
            have e6 : y6 = nI (n + 0) := by
              first
              | (rw [e_y6]; exact nI_add _ _)
              | (rw [← e_y6]; exact nI_add _ _)
            subst e6
            refine v_pick [0, 1, 2, 3, 4, 5, 6, 7, 8] rfl ?_
            refine ih (j + 1) _ _ (by omega) (by omega) ?_ ?_ HK
            · rw [cnt_take _ hjl, ← en, if_neg hc68]
            · rw [fsT_s i hjl, ← ef, if_neg hc81, if_pos ((nI_leI (by omega) (by omega)).mp hc88)]
              first | exact e_y7 | exact e_y7.symm
            
          ·
            refine v_aload_n 7 dX7_tally_91 rfl rfl ?_
            refine v_get fl_X7_17 dX7_tally_92 h60 rfl ?_
            refine v_iload 1 dX7_tally_95 rfl ?_
            refine v_iald dX7_tally_97 h62 (nI_in' (by omega)) ?_
            refine v_aload_n 7 dX7_tally_98 rfl rfl ?_
            refine v_get fl_X7_17 dX7_tally_99 h60 rfl ?_
            refine v_iload 3 dX7_tally_102 rfl ?_
            refine v_iald dX7_tally_104 h62 (nI_in' (by omega)) ?_
            rw [clamp (show j < 2 ^ 31 by omega), clamp (show i < 2 ^ 31 by omega), ← getD_at hpl (show j < (sP σ).length by omega), ← getD_at hpl hi9]
            refine v_icmp_eq (tgt := 112) dX7_tally_105 (by decide) (fun hc105 => ?_) (fun hc105 => ?_)
            ·
              refine v_iconst (v := 0) dX7_tally_112 (by first | rfl | decide) ?_
              refine v_istore dX7_tally_113 (by decide) (fun y7 e_y7 => ?_)
              refine v_ls (ls' := [(7, .int y7), (6, .int y6), (8, .int (nI j)), (5, .int (nI i)), (4, .int (nI x3)), (3, .int x2), (2, .int (nI x1)), (0, .ref 60), (1, .int w)]) rfl ?_
              refine v_iinc (v := 1) 2 dX7_tally_115 rfl rfl (by decide) (fun z e_z => ?_)
              refine v_ls (ls' := [(8, .int z), (7, .int y7), (6, .int y6), (5, .int (nI i)), (4, .int (nI x3)), (3, .int x2), (2, .int (nI x1)), (0, .ref 60), (1, .int w)]) rfl ?_
              rw [nI_1] at e_z
              subst e_z
              refine v_goto (tgt := 43) dX7_tally_118 (by decide) ?_
              have hjl : j < (sP σ).length := by omega
              have e6 : y6 = nI (n + 0) := by
                first
                | (rw [e_y6]; exact nI_add _ _)
                | (rw [← e_y6]; exact nI_add _ _)
              subst e6
              refine v_pick [0, 1, 2, 3, 4, 5, 6, 7, 8] rfl ?_
              refine ih (j + 1) _ _ (by omega) (by omega) ?_ ?_ HK
              · rw [cnt_take _ hjl, ← en, if_neg hc68]
              · rw [fsT_s i hjl, ← ef, if_neg hc81, if_neg (fun z => hc88 ((nI_leI (by omega) (by omega)).mpr z)), if_pos hc105]
                first | exact e_y7 | exact e_y7.symm
              
            ·
              refine v_iconst (v := 1) dX7_tally_108 (by first | rfl | decide) ?_
              refine v_goto (tgt := 113) dX7_tally_109 (by decide) ?_
              refine v_istore dX7_tally_113 (by decide) (fun y7 e_y7 => ?_)
              refine v_ls (ls' := [(7, .int y7), (6, .int y6), (8, .int (nI j)), (5, .int (nI i)), (4, .int (nI x3)), (3, .int x2), (2, .int (nI x1)), (0, .ref 60), (1, .int w)]) rfl ?_
              refine v_iinc (v := 1) 2 dX7_tally_115 rfl rfl (by decide) (fun z e_z => ?_)
              refine v_ls (ls' := [(8, .int z), (7, .int y7), (6, .int y6), (5, .int (nI i)), (4, .int (nI x3)), (3, .int x2), (2, .int (nI x1)), (0, .ref 60), (1, .int w)]) rfl ?_
              rw [nI_1] at e_z
              subst e_z
              refine v_goto (tgt := 43) dX7_tally_118 (by decide) ?_
              have hjl : j < (sP σ).length := by omega
              have e6 : y6 = nI (n + 0) := by
                first
                | (rw [e_y6]; exact nI_add _ _)
                | (rw [← e_y6]; exact nI_add _ _)
              subst e6
              refine v_pick [0, 1, 2, 3, 4, 5, 6, 7, 8] rfl ?_
              refine ih (j + 1) _ _ (by omega) (by omega) ?_ ?_ HK
              · rw [cnt_take _ hjl, ← en, if_neg hc68]
              · rw [fsT_s i hjl, ← ef, if_neg hc81, if_neg (fun z => hc88 ((nI_leI (by omega) (by omega)).mpr z)), if_neg hc105]
                first | exact e_y7 | exact e_y7.symm
              
      ·
        refine v_iconst (v := 1) dX7_tally_71 (by first | rfl | decide) ?_
        refine v_goto (tgt := 76) dX7_tally_72 (by decide) ?_
        refine v_iadd dX7_tally_76 ?_
        refine v_istore dX7_tally_77 (by decide) (fun y6 e_y6 => ?_)
        refine v_ls (ls' := [(6, .int y6), (8, .int (nI j)), (7, .int f), (5, .int (nI i)), (4, .int (nI x3)), (3, .int x2), (2, .int (nI x1)), (0, .ref 60), (1, .int w)]) rfl ?_
        refine v_iload 2 dX7_tally_79 rfl ?_
        refine v_if_eq (tgt := 112) dX7_tally_81 (by decide) (fun hc81 => ?_) (fun hc81 => ?_)
        ·
          refine v_iconst (v := 0) dX7_tally_112 (by first | rfl | decide) ?_
          refine v_istore dX7_tally_113 (by decide) (fun y7 e_y7 => ?_)
          refine v_ls (ls' := [(7, .int y7), (6, .int y6), (8, .int (nI j)), (5, .int (nI i)), (4, .int (nI x3)), (3, .int x2), (2, .int (nI x1)), (0, .ref 60), (1, .int w)]) rfl ?_
          refine v_iinc (v := 1) 2 dX7_tally_115 rfl rfl (by decide) (fun z e_z => ?_)
          refine v_ls (ls' := [(8, .int z), (7, .int y7), (6, .int y6), (5, .int (nI i)), (4, .int (nI x3)), (3, .int x2), (2, .int (nI x1)), (0, .ref 60), (1, .int w)]) rfl ?_
          rw [nI_1] at e_z
          subst e_z
          refine v_goto (tgt := 43) dX7_tally_118 (by decide) ?_
          have hjl : j < (sP σ).length := by omega
          have e6 : y6 = nI (n + 1) := by
            first
            | (rw [e_y6]; exact nI_add _ _)
            | (rw [← e_y6]; exact nI_add _ _)
          subst e6
          refine v_pick [0, 1, 2, 3, 4, 5, 6, 7, 8] rfl ?_
          refine ih (j + 1) _ _ (by omega) (by omega) ?_ ?_ HK
          · rw [cnt_take _ hjl, ← en, if_pos hc68]
          · rw [fsT_s i hjl, ← ef, if_pos hc81]
            first | exact e_y7 | exact e_y7.symm
          
        ·
          refine v_iload 1 dX7_tally_84 rfl ?_
          refine v_iload 3 dX7_tally_86 rfl ?_
          refine v_icmp_ge (tgt := 108) dX7_tally_88 (by decide) (fun hc88 => ?_) (fun hc88 => ?_)
          ·
            refine v_iconst (v := 1) dX7_tally_108 (by first | rfl | decide) ?_
            refine v_goto (tgt := 113) dX7_tally_109 (by decide) ?_
            refine v_istore dX7_tally_113 (by decide) (fun y7 e_y7 => ?_)
            refine v_ls (ls' := [(7, .int y7), (6, .int y6), (8, .int (nI j)), (5, .int (nI i)), (4, .int (nI x3)), (3, .int x2), (2, .int (nI x1)), (0, .ref 60), (1, .int w)]) rfl ?_
            refine v_iinc (v := 1) 2 dX7_tally_115 rfl rfl (by decide) (fun z e_z => ?_)
            refine v_ls (ls' := [(8, .int z), (7, .int y7), (6, .int y6), (5, .int (nI i)), (4, .int (nI x3)), (3, .int x2), (2, .int (nI x1)), (0, .ref 60), (1, .int w)]) rfl ?_
            rw [nI_1] at e_z
            subst e_z
            refine v_goto (tgt := 43) dX7_tally_118 (by decide) ?_
            have hjl : j < (sP σ).length := by omega
            have e6 : y6 = nI (n + 1) := by
              first
              | (rw [e_y6]; exact nI_add _ _)
              | (rw [← e_y6]; exact nI_add _ _)
            subst e6
            refine v_pick [0, 1, 2, 3, 4, 5, 6, 7, 8] rfl ?_
            refine ih (j + 1) _ _ (by omega) (by omega) ?_ ?_ HK
            · rw [cnt_take _ hjl, ← en, if_pos hc68]
            · rw [fsT_s i hjl, ← ef, if_neg hc81, if_pos ((nI_leI (by omega) (by omega)).mp hc88)]
              first | exact e_y7 | exact e_y7.symm
            
          ·
            refine v_aload_n 7 dX7_tally_91 rfl rfl ?_
            refine v_get fl_X7_17 dX7_tally_92 h60 rfl ?_
            refine v_iload 1 dX7_tally_95 rfl ?_
            refine v_iald dX7_tally_97 h62 (nI_in' (by omega)) ?_
            refine v_aload_n 7 dX7_tally_98 rfl rfl ?_
            refine v_get fl_X7_17 dX7_tally_99 h60 rfl ?_
            refine v_iload 3 dX7_tally_102 rfl ?_
            refine v_iald dX7_tally_104 h62 (nI_in' (by omega)) ?_
            rw [clamp (show j < 2 ^ 31 by omega), clamp (show i < 2 ^ 31 by omega), ← getD_at hpl (show j < (sP σ).length by omega), ← getD_at hpl hi9]
            refine v_icmp_eq (tgt := 112) dX7_tally_105 (by decide) (fun hc105 => ?_) (fun hc105 => ?_)
            ·
              refine v_iconst (v := 0) dX7_tally_112 (by first | rfl | decide) ?_
              refine v_istore dX7_tally_113 (by decide) (fun y7 e_y7 => ?_)
              refine v_ls (ls' := [(7, .int y7), (6, .int y6), (8, .int (nI j)), (5, .int (nI i)), (4, .int (nI x3)), (3, .int x2), (2, .int (nI x1)), (0, .ref 60), (1, .int w)]) rfl ?_
              refine v_iinc (v := 1) 2 dX7_tally_115 rfl rfl (by decide) (fun z e_z => ?_)
              refine v_ls (ls' := [(8, .int z), (7, .int y7), (6, .int y6), (5, .int (nI i)), (4, .int (nI x3)), (3, .int x2), (2, .int (nI x1)), (0, .ref 60), (1, .int w)]) rfl ?_
              rw [nI_1] at e_z
              subst e_z
              refine v_goto (tgt := 43) dX7_tally_118 (by decide) ?_
              have hjl : j < (sP σ).length := by omega
              have e6 : y6 = nI (n + 1) := by
                first
                | (rw [e_y6]; exact nI_add _ _)
                | (rw [← e_y6]; exact nI_add _ _)
              subst e6
              refine v_pick [0, 1, 2, 3, 4, 5, 6, 7, 8] rfl ?_
              refine ih (j + 1) _ _ (by omega) (by omega) ?_ ?_ HK
              · rw [cnt_take _ hjl, ← en, if_pos hc68]
              · rw [fsT_s i hjl, ← ef, if_neg hc81, if_neg (fun z => hc88 ((nI_leI (by omega) (by omega)).mpr z)), if_pos hc105]
                first | exact e_y7 | exact e_y7.symm
              
            ·
              refine v_iconst (v := 1) dX7_tally_108 (by first | rfl | decide) ?_
              refine v_goto (tgt := 113) dX7_tally_109 (by decide) ?_
              refine v_istore dX7_tally_113 (by decide) (fun y7 e_y7 => ?_)
              refine v_ls (ls' := [(7, .int y7), (6, .int y6), (8, .int (nI j)), (5, .int (nI i)), (4, .int (nI x3)), (3, .int x2), (2, .int (nI x1)), (0, .ref 60), (1, .int w)]) rfl ?_
              refine v_iinc (v := 1) 2 dX7_tally_115 rfl rfl (by decide) (fun z e_z => ?_)
              refine v_ls (ls' := [(8, .int z), (7, .int y7), (6, .int y6), (5, .int (nI i)), (4, .int (nI x3)), (3, .int x2), (2, .int (nI x1)), (0, .ref 60), (1, .int w)]) rfl ?_
              rw [nI_1] at e_z
              subst e_z
              refine v_goto (tgt := 43) dX7_tally_118 (by decide) ?_
              have hjl : j < (sP σ).length := by omega
              have e6 : y6 = nI (n + 1) := by
                first
                | (rw [e_y6]; exact nI_add _ _)
                | (rw [← e_y6]; exact nI_add _ _)
              subst e6
              refine v_pick [0, 1, 2, 3, 4, 5, 6, 7, 8] rfl ?_
              refine ih (j + 1) _ _ (by omega) (by omega) ?_ ?_ HK
              · rw [cnt_take _ hjl, ← en, if_pos hc68]
              · rw [fsT_s i hjl, ← ef, if_neg hc81, if_neg (fun z => hc88 ((nI_leI (by omega) (by omega)).mpr z)), if_neg hc105]
                first | exact e_y7 | exact e_y7.symm
              

set_option maxRecDepth 20000 in
set_option maxHeartbeats 4000000 in
theorem ta7_out {G : Cx} (d : Nat) {σ : ST} {μ0 : Hp} (hw : Wp (sP σ)) {w : Int32} (hw3 : ¬ inO w 3 = 0) {μ : Hp} (h : Mo σ μ) (hF : Fp μ μ0) : ∀ (m : Nat) (i x1 : Nat) (x2 : Int32) (x3 : Nat), i + m = (sP σ).length → x1 ≤ 8 + i → x3 ≤ 8 → taI (sP σ) (0, -5, 0) 0 (sP σ).length = taI (sP σ) (x1, x2, x3) i m → V G M_X7_tally (d + 1) 0 0 (Pm σ (.int (rTally σ w)) μ0) 25 [(5, .int (nI i)), (4, .int (nI x3)), (3, .int x2), (2, .int (nI x1)), (0, .ref 60), (1, .int w)] [] (μ) := by
  intro m
  induction m with
  | zero =>
    intro i x1 x2 x3 hj hx1 hx3 hta
    obtain ⟨co, wh, un, lr, mr, hr, at9, fa, op, sg, hm, p, tt, ro, og, tc, op9, sp, nw, se, le, mo, ot, h60, h61, h62, h63, h64, h65, h66, h67, h68, h69, h70, h71, h72, h73, h74, h75, h76, h77, h78, h79, h80, hmk, hpl, htp, ht60⟩ := id h
    have hl8 := hw.1
    refine v_iload 0 dX7_tally_25 rfl ?_
    refine v_aload_n 4 dX7_tally_27 rfl rfl ?_
    refine v_get fl_X7_91 dX7_tally_28 h60 rfl ?_
    refine v_icmp_ge (tgt := 159) dX7_tally_31 (by decide) (fun hc31 => ?_) (fun hc31 => ?_)
    ·
      refine v_iload_n 5 dX7_tally_159 rfl rfl ?_
      refine v_if_ne (tgt := 167) dX7_tally_160 (by decide) (fun hc160 => ?_) (fun hc160 => ?_)
      ·
        refine v_iload_n 5 dX7_tally_167 rfl rfl ?_
        refine v_iconst (v := 1) dX7_tally_168 (by first | rfl | decide) ?_
        refine v_icmp_ne (tgt := 176) dX7_tally_169 (by decide) (fun hc169 => ?_) (fun hc169 => ?_)
        ·
          refine v_iload 1 dX7_tally_176 rfl ?_
          refine v_iret dX7_tally_178 rfl (by first | rfl | decide | exact nar_b (by first | assumption | rfl)) ?_
          have hE : rTally σ w = nI x3 := by
            simp only [rTally, if_neg hw3, if_neg hc160, if_neg hc169, hta]
            rfl
          rw [hE]
          exact ⟨rfl, h, hF⟩
        ·
          refine v_iload_n 2 dX7_tally_172 rfl rfl ?_
          refine v_goto (tgt := 178) dX7_tally_173 (by decide) ?_
          refine v_iret dX7_tally_178 rfl (by first | rfl | decide | exact nar_b (by first | assumption | rfl)) ?_
          have hE : rTally σ w = x2 := by
            simp only [rTally, if_neg hw3, if_neg hc160, if_pos hc169, hta]
            rfl
          rw [hE]
          exact ⟨rfl, h, hF⟩
      ·
        refine v_iload_n 3 dX7_tally_163 rfl rfl ?_
        refine v_goto (tgt := 178) dX7_tally_164 (by decide) ?_
        refine v_iret dX7_tally_178 rfl (by first | rfl | decide | exact nar_b (by first | assumption | rfl)) ?_
        have hE : rTally σ w = nI x1 := by
          simp only [rTally, if_neg hw3, if_pos hc160, hta]
          rfl
        rw [hE]
        exact ⟨rfl, h, hF⟩
    · exact absurd ((nI_leI (by omega) (by omega)).mpr (by omega)) hc31
  | succ m ih =>
    intro i x1 x2 x3 hj hx1 hx3 hta
    obtain ⟨co, wh, un, lr, mr, hr, at9, fa, op, sg, hm, p, tt, ro, og, tc, op9, sp, nw, se, le, mo, ot, h60, h61, h62, h63, h64, h65, h66, h67, h68, h69, h70, h71, h72, h73, h74, h75, h76, h77, h78, h79, h80, hmk, hpl, htp, ht60⟩ := id h
    have hl8 := hw.1
    refine v_iload 0 dX7_tally_25 rfl ?_
    refine v_aload_n 4 dX7_tally_27 rfl rfl ?_
    refine v_get fl_X7_91 dX7_tally_28 h60 rfl ?_
    refine v_icmp_ge (tgt := 159) dX7_tally_31 (by decide) (fun hc31 => ?_) (fun hc31 => ?_)
    · have := (nI_leI (by omega) (by omega)).mp hc31
      omega
    ·
      refine v_iconst (v := 0) dX7_tally_34 (by first | rfl | decide) ?_
      refine v_istore dX7_tally_35 (by decide) (fun x6 e_x6 => ?_)
      refine v_ls (ls' := [(6, .int x6), (5, .int (nI i)), (4, .int (nI x3)), (3, .int x2), (2, .int (nI x1)), (0, .ref 60), (1, .int w)]) rfl ?_
      refine v_iconst (v := 1) dX7_tally_37 (by first | rfl | decide) ?_
      refine v_istore dX7_tally_38 (by decide) (fun x7 e_x7 => ?_)
      refine v_ls (ls' := [(7, .int x7), (6, .int x6), (5, .int (nI i)), (4, .int (nI x3)), (3, .int x2), (2, .int (nI x1)), (0, .ref 60), (1, .int w)]) rfl ?_
      refine v_iconst (v := 0) dX7_tally_40 (by first | rfl | decide) ?_
      refine v_istore dX7_tally_41 (by decide) (fun x8 e_x8 => ?_)
      refine v_ls (ls' := [(8, .int x8), (7, .int x7), (6, .int x6), (5, .int (nI i)), (4, .int (nI x3)), (3, .int x2), (2, .int (nI x1)), (0, .ref 60), (1, .int w)]) rfl ?_
      subst e_x6 e_x7 e_x8
      have hcl := cnt_le ((sP σ).getD i 0) (sP σ)
      refine ta7_in d hw h (show i < (sP σ).length by omega) hx1 hx3 (sP σ).length 0 0 1 (by omega) (by omega) rfl (fsT_z _ _).symm ?_
      refine ih (i + 1) _ _ _ (by omega) ?_ ?_ ?_
      · simp only [taS]; split <;> omega
      · simp only [taS]; split <;> omega
      · rw [hta, taI_s]
      

set_option maxRecDepth 20000 in
set_option maxHeartbeats 4000000 in
theorem c_X7_tally {G : Cx} (d : Nat) {μ : Hp} {σ : ST} {w : Int32} (h : Mo σ μ) (hw : Wp (sP σ)) : Ct G (d + 1) 0 0 M_X7_tally [.ref 60, .int w] μ (Pm (σ) (.int (rTally σ w)) μ) := by
  refine Ct.ofV (by decide +kernel) (Nat.le_of_ble_eq_true rfl) ?_
  refine v_ls (ls' := [(0, .ref 60), (1, .int w)]) rfl ?_
  obtain ⟨co, wh, un, lr, mr, hr, at9, fa, op, sg, hm, p, tt, ro, og, tc, op9, sp, nw, se, le, mo, ot, h60, h61, h62, h63, h64, h65, h66, h67, h68, h69, h70, h71, h72, h73, h74, h75, h76, h77, h78, h79, h80, hmk, hpl, htp, ht60⟩ := id h
  have hl8 := hw.1
  refine v_iload_n 1 dX7_tally_0 rfl rfl ?_
  refine v_i2l dX7_tally_1 ?_
  refine v_lconst (v := 0) dX7_tally_2 (by first | rfl | decide) ?_
  refine v_ldc2 kc_X7_99 dX7_tally_3 ?_
  refine v_callS (c_X7_inL d 2 3 2 (by decide) rfl rfl) cs_X7_95 dX7_tally_6 rfl rfl (Nat.le_of_ble_eq_true rfl) ?_
  refine rt_k ?_
  refine v_if_ne (tgt := 14) dX7_tally_9 (by decide) (fun hc9 => ?_) (fun hc9 => ?_)
  ·
    refine v_iconst (v := 0) dX7_tally_14 (by first | rfl | decide) ?_
    refine v_istore_n dX7_tally_15 rfl (by decide) (fun x2_1 e_x2_1 => ?_)
    refine v_ls (ls' := [(2, .int x2_1), (0, .ref 60), (1, .int w)]) rfl ?_
    subst e_x2_1
    refine v_bipush (v := -5) dX7_tally_16 (by first | rfl | decide) ?_
    refine v_istore_n dX7_tally_18 rfl (by decide) (fun x3_1 e_x3_1 => ?_)
    refine v_ls (ls' := [(3, .int x3_1), (2, .int (0)), (0, .ref 60), (1, .int w)]) rfl ?_
    subst e_x3_1
    refine v_iconst (v := 0) dX7_tally_19 (by first | rfl | decide) ?_
    refine v_istore dX7_tally_20 (by decide) (fun x4_1 e_x4_1 => ?_)
    refine v_ls (ls' := [(4, .int x4_1), (3, .int (-5)), (2, .int (0)), (0, .ref 60), (1, .int w)]) rfl ?_
    subst e_x4_1
    refine v_iconst (v := 0) dX7_tally_22 (by first | rfl | decide) ?_
    refine v_istore dX7_tally_23 (by decide) (fun x5 e_x5 => ?_)
    refine v_ls (ls' := [(5, .int x5), (4, .int (0)), (3, .int (-5)), (2, .int (0)), (0, .ref 60), (1, .int w)]) rfl ?_
    subst e_x5
    refine v_pick [0, 1, 2, 3, 4, 5] rfl ?_
    exact ta7_out d hw hc9 h (Fp.rf μ) (sP σ).length 0 0 (-5) 0 (by omega) (by omega) (by omega) rfl
    
  ·
    refine v_iconst (v := -1) dX7_tally_12 (by first | rfl | decide) ?_
    refine v_iret dX7_tally_13 rfl (by first | rfl | decide | exact nar_b (by first | assumption | rfl)) ?_
    have hE : rTally σ w = -1 := by
      first
        | (simp only [rTally, if_pos hc9]; done)
        | (grind [rTally]; done)
    rw [hE]
    exact ⟨rfl, h, Fp.rf μ⟩

