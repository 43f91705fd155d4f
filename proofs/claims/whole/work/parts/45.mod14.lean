/-- what is still to go through from place j on, FILTER i left out -/
def wdr (l : List Int32) (i j : Nat) : List Int32 := (l.take i).drop j ++ l.drop (max j (i + 1))
theorem tk_e {l : List Int32} {i k : Nat} (hk : i ≤ k) : (l.take i).drop k = [] := List.drop_of_length_le (by rw [List.length_take]; omega)
theorem wdr_0 {l : List Int32} {i : Nat} (hi : i < l.length) : wdr l i 0 = l.take i ++ l.drop (i + 1) := by
  unfold wdr
  rw [Nat.zero_max]
  rfl
theorem wdr_i {l : List Int32} {i : Nat} (hi : i < l.length) : wdr l i i = wdr l i (i + 1) := by
  unfold wdr
  rw [tk_e (Nat.le_refl i), tk_e (Nat.le_succ i), Nat.max_eq_right (Nat.le_succ i), Nat.max_self]
theorem wdr_n {l : List Int32} {i j : Nat} (hj : j < l.length) (hn : ¬ j = i) : wdr l i j = l.getD j 0 :: wdr l i (j + 1) := by
  unfold wdr
  by_cases e : j < i
  · rw [Nat.max_eq_right (by omega), Nat.max_eq_right (by omega)]
    rw [drop_g (l := l.take i) (k := j) (by rw [List.length_take]; omega)]
    rw [List.getD_eq_getElem?_getD, List.getD_eq_getElem?_getD, List.getElem?_take, if_pos e]
    rfl
  · rw [tk_e (show i ≤ j by omega), tk_e (show i ≤ j + 1 by omega), Nat.max_eq_left (show i + 1 ≤ j by omega), Nat.max_eq_left (show i + 1 ≤ j + 1 by omega)]
    exact drop_g hj
theorem wdr_e {l : List Int32} {i j : Nat} (hj : l.length ≤ j) (hi : i < l.length) : wdr l i j = [] := by
  unfold wdr
  rw [tk_e (show i ≤ j by omega), List.drop_of_length_le (by omega)]
  rfl
set_option maxRecDepth 20000 in
set_option maxHeartbeats 4000000 in
theorem wo_loop {G : Cx} (d : Nat) {σ : ST} {μ0 : Hp} (hw : Wp (sP σ)) {n : Nat} {w : Int32} (hn9 : n < (sP σ).length) (hph : Ph 1000 0 (sM σ)) (hl0 : ¬ (sM σ).1 = 0) : ∀ (m : Nat) (j : Nat) (L : LT) (μ : Hp), j + m = (sP σ).length → Eb (5 * j + 100) L → Mo σ μ → Fp μ μ0 → μ 63 = some (mlg L) → Ph 1125899906842624 40 (runO (wdr (sP σ) n j) L) → V G M_X7_without (d + 4) 0 0 (Pm σ (.long (fraO (runO (wdr (sP σ) n j) L).1 (shlO (sM σ).1 (runO (wdr (sP σ) n j) L).2.2.2.2) w)) μ0) 40 [(3, .int (nI j)), (0, .ref 60), (1, .int (nI n)), (2, .int w)] [] (μ) := by
  intro m
  induction m with
  | zero =>
    intro j L μ hj he h hF h63b hB
    obtain ⟨co, wh, un, lr, mr, hr, at9, fa, op, sg, hm, p, tt, ro, og, tc, op9, sp, nw, se, le, mo, ot, h60, h61, h62, h63, h64, h65, h66, h67, h68, h69, h70, h71, h72, h73, h74, h75, h76, h77, h78, h79, h80, hmk, hpl, htp, ht60⟩ := id h
    have hl8 := hw.1
    refine v_iload_n 0 dX7_without_40 rfl rfl ?_
    refine v_aload_n 1 dX7_without_41 rfl rfl ?_
    refine v_get fl_X7_91 dX7_without_42 h60 rfl ?_
    refine v_icmp_ge (tgt := 72) dX7_without_45 (by decide) (fun hc45 => ?_) (fun hc45 => ?_)
    ·
      rw [wdr_e (by omega) hn9] at hB ⊢
      have hB : Ph 1125899906842624 40 L := hB
      refine v_aload_n 1 dX7_without_72 rfl rfl ?_
      refine v_iload_n 3 dX7_without_73 rfl rfl ?_
      refine v_callV (c_X7_leftNow (d + 1) (L := sM σ) (B := L) h60 h61 h63b hph.1 hph.2.1 hl0 hB) cs_X7_209 dX7_without_74 h60 rfl rfl (Nat.le_of_ble_eq_true rfl) ?_
      refine rt_k ?_
      refine v_lret dX7_without_77 rfl ?_
      exact ⟨rfl, h, hF⟩
    · exact absurd ((nI_leI (by omega) (by omega)).mpr (by omega)) hc45
  | succ m ih =>
    intro j L μ hj he h hF h63b hB
    obtain ⟨co, wh, un, lr, mr, hr, at9, fa, op, sg, hm, p, tt, ro, og, tc, op9, sp, nw, se, le, mo, ot, h60, h61, h62, h63, h64, h65, h66, h67, h68, h69, h70, h71, h72, h73, h74, h75, h76, h77, h78, h79, h80, hmk, hpl, htp, ht60⟩ := id h
    have hl8 := hw.1
    refine v_iload_n 0 dX7_without_40 rfl rfl ?_
    refine v_aload_n 1 dX7_without_41 rfl rfl ?_
    refine v_get fl_X7_91 dX7_without_42 h60 rfl ?_
    refine v_icmp_ge (tgt := 72) dX7_without_45 (by decide) (fun hc45 => ?_) (fun hc45 => ?_)
    · have := (nI_leI (by omega) (by omega)).mp hc45
      omega
    ·
      refine v_iload_n 0 dX7_without_48 rfl rfl ?_
      refine v_iload_n 2 dX7_without_49 rfl rfl ?_
      refine v_icmp_eq (tgt := 66) dX7_without_50 (by decide) (fun hc50 => ?_) (fun hc50 => ?_)
      ·
        refine v_iinc (v := 1) 0 dX7_without_66 rfl rfl (by decide) (fun z e_z => ?_)
        refine v_ls (ls' := [(3, .int z), (0, .ref 60), (1, .int (nI n)), (2, .int w)]) rfl ?_
        rw [nI_1] at e_z
        subst e_z
        refine v_goto (tgt := 40) dX7_without_69 (by decide) ?_
        have hjn : j = n := (nI_eq (by omega) (by omega)).mp hc50
        subst hjn
        rw [wdr_i hn9] at hB ⊢
        exact ih (j + 1) L _ (by omega) ⟨he.1, by have := he.2; omega⟩ h hF h63b hB
        
      ·
        refine v_aload_n 1 dX7_without_53 rfl rfl ?_
        refine v_get fl_X7_21 dX7_without_54 h60 rfl ?_
        refine v_aload_n 1 dX7_without_57 rfl rfl ?_
        refine v_get fl_X7_17 dX7_without_58 h60 rfl ?_
        refine v_iload_n 0 dX7_without_61 rfl rfl ?_
        refine v_iald dX7_without_62 h62 (nI_in' (by omega)) ?_
        rw [clamp (show j < 2 ^ 31 by omega), ← getD_at hpl (show j < (sP σ).length by omega)]
        refine v_callS (c_X7_goes d h63b ⟨he.1, by have := he.2; omega⟩ (hw.at (show j < (sP σ).length by omega))) cs_X7_149 dX7_without_63 rfl rfl (Nat.le_of_ble_eq_true rfl) ?_
        refine rt_k ?_
        refine v_iinc (v := 1) 0 dX7_without_66 rfl rfl (by decide) (fun z e_z => ?_)
        refine v_ls (ls' := [(3, .int z), (0, .ref 60), (1, .int (nI n)), (2, .int w)]) rfl ?_
        rw [nI_1] at e_z
        subst e_z
        refine v_goto (tgt := 40) dX7_without_69 (by decide) ?_
        have hjn : ¬ j = n := fun z => hc50 (by rw [z])
        rw [wdr_n (show j < (sP σ).length by omega) hjn, runO_cons] at hB ⊢
        exact ih (j + 1) _ _ (by omega) (by have := passO_e (c := (sP σ).getD j 0) he (by omega); exact ⟨this.1, by have := this.2; omega⟩) (h.now _) (hF.up (by decide) _) (up_s _ _ _) hB
        

set_option maxRecDepth 20000 in
set_option maxHeartbeats 4000000 in
theorem c_X7_without {G : Cx} (d : Nat) {μ : Hp} {σ : ST} {i : Int32} {w : Int32} (h : Mo σ μ) (hw : Wp (sP σ)) (heb : Eb 100 (sM σ)) (hph : Ph 1000 0 (sM σ)) : Ct G (d + 4) 0 0 M_X7_without [.ref 60, .int i, .int w] μ (Pm (σ) (.long (rWithout σ i w)) μ) := by
  refine Ct.ofV (by decide +kernel) (Nat.le_of_ble_eq_true rfl) ?_
  refine v_ls (ls' := [(0, .ref 60), (1, .int i), (2, .int w)]) rfl ?_
  obtain ⟨co, wh, un, lr, mr, hr, at9, fa, op, sg, hm, p, tt, ro, og, tc, op9, sp, nw, se, le, mo, ot, h60, h61, h62, h63, h64, h65, h66, h67, h68, h69, h70, h71, h72, h73, h74, h75, h76, h77, h78, h79, h80, hmk, hpl, htp, ht60⟩ := id h
  have hl8 := hw.1
  refine v_aload_n 0 dX7_without_0 rfl rfl ?_
  refine v_iload_n 1 dX7_without_1 rfl rfl ?_
  refine v_callV (c_X7_isFilter (d + 2) h60 (by omega)) cs_X7_169 dX7_without_2 h60 rfl rfl (Nat.le_of_ble_eq_true rfl) ?_
  refine rt_k ?_
  refine v_if_eq (tgt := 26) dX7_without_5 (by decide) (fun hc5 => ?_) (fun hc5 => ?_)
  ·
    refine v_ldc2 kc_X7_193 dX7_without_26 ?_
    refine v_lret dX7_without_29 rfl ?_
    have hE : rWithout σ i w = VD := by
      first
        | (simp only [rWithout, if_pos hc5]; done)
        | (simp only [rWithout, if_neg hc5, if_pos hc12]; done)
        | (simp only [rWithout, lefO, if_neg hc5, if_neg hc12, if_pos (show (sM σ).1 = 0 from hc22)]; done)
    rw [hE]
    exact ⟨rfl, h, Fp.rf μ⟩
  ·
    refine v_iload_n 2 dX7_without_8 rfl rfl ?_
    refine v_callS (c_X7_isPart (d + 2) ) cs_X7_206 dX7_without_9 rfl rfl (Nat.le_of_ble_eq_true rfl) ?_
    refine rt_k ?_
    refine v_if_eq (tgt := 26) dX7_without_12 (by decide) (fun hc12 => ?_) (fun hc12 => ?_)
    ·
      refine v_ldc2 kc_X7_193 dX7_without_26 ?_
      refine v_lret dX7_without_29 rfl ?_
      have hE : rWithout σ i w = VD := by
        first
          | (simp only [rWithout, if_pos hc5]; done)
          | (simp only [rWithout, if_neg hc5, if_pos hc12]; done)
          | (simp only [rWithout, lefO, if_neg hc5, if_neg hc12, if_pos (show (sM σ).1 = 0 from hc22)]; done)
      rw [hE]
      exact ⟨rfl, h, Fp.rf μ⟩
    ·
      refine v_aload_n 0 dX7_without_15 rfl rfl ?_
      refine v_get fl_X7_11 dX7_without_16 h60 rfl ?_
      refine v_iconst (v := 0) dX7_without_19 (by first | rfl | decide) ?_
      refine v_lald dX7_without_20 h61 (nI_in' (k := 0) (by decide)) ?_
      refine v_lconst (v := 0) dX7_without_21 (by first | rfl | decide) ?_
      refine v_lc_ne (tgt := 30) dX7_without_22 dX7_without_23 (by decide) (fun hc22 => ?_) (fun hc22 => ?_)
      ·
        obtain ⟨n, hn9, rfl⟩ := in_ix (by omega) hc5
        have hcn : (nI n).toNatClampNeg = n := clamp (by omega)
        refine v_aload_n 0 dX7_without_30 rfl rfl ?_
        refine v_aload_n 0 dX7_without_31 rfl rfl ?_
        refine v_get fl_X7_11 dX7_without_32 h60 rfl ?_
        refine v_callV (c_X7_begins (d + 2) h60 h61 h63) cs_X7_146 dX7_without_35 h60 rfl rfl (Nat.le_of_ble_eq_true rfl) ?_
        refine rt_k ?_
        refine v_iconst (v := 0) dX7_without_38 (by first | rfl | decide) ?_
        refine v_istore_n dX7_without_39 rfl (by decide) (fun x3 e_x3 => ?_)
        refine v_ls (ls' := [(3, .int x3), (0, .ref 60), (1, .int (nI n)), (2, .int w)]) rfl ?_
        subst e_x3
        have hl0 : ¬ (sM σ).1 = 0 := hc22
        have hrn : runO (wdr (sP σ) n 0) (sM σ) = runO ((sP σ).drop (n + 1)) (behO σ n) := by rw [wdr_0 hn9, runO_app]
        have hB : Ph 1125899906842624 40 (runO (wdr (sP σ) n 0) (sM σ)) := by
          rw [wdr_0 hn9]
          refine run8_ph hph (fun c hc => ?_) ?_
          · rcases List.mem_append.mp hc with q | q
            · exact hw.2 c (List.mem_of_mem_take q)
            · exact hw.2 c (List.mem_of_mem_drop q)
          · rw [List.length_append, List.length_take, List.length_drop]; omega
        have hE : rWithout σ (nI n) w = fraO (runO (wdr (sP σ) n 0) (sM σ)).1 (shlO (sM σ).1 (runO (wdr (sP σ) n 0) (sM σ)).2.2.2.2) w := by
          rw [hrn]
          simp only [rWithout, lefO, if_neg hc5, if_neg hc12, hcn, if_neg hl0]
        rw [hE]
        exact wo_loop d hw hn9 hph hl0 (sP σ).length 0 (sM σ) _ (by omega) heb (h.now _) (fun i hi => by repeat (first | rfl | refine up_n (by omega) ?_)) (up_s _ _ _) hB
        
      ·
        refine v_ldc2 kc_X7_193 dX7_without_26 ?_
        refine v_lret dX7_without_29 rfl ?_
        have hE : rWithout σ i w = VD := by
          first
            | (simp only [rWithout, if_pos hc5]; done)
            | (simp only [rWithout, if_neg hc5, if_pos hc12]; done)
            | (simp only [rWithout, lefO, if_neg hc5, if_neg hc12, if_pos (show (sM σ).1 = 0 from hc22)]; done)
        rw [hE]
        exact ⟨rfl, h, Fp.rf μ⟩

