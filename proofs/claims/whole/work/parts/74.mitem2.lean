theorem fxN_le {tp : List Int32} {kind an : Int32} {k : Nat} (h : k ≤ tp.length) : (fxN tp kind an k).2.1 ≤ tp.length := by
  unfold fxN
  split
  · exact h
  · split
    · exact (num_le h).1
    · exact (num_le h).1
theorem fxP_le {tp : List Int32} {kind : Int32} {k : Nat} (h : k ≤ tp.length) : (fxP tp kind k).2.1 ≤ tp.length := by
  unfold fxP
  split
  · exact fxN_le h
  · split
    · exact h
    · rename_i q
      have h1 := fig_lt q
      split
      · exact fxN_le (by omega)
      · split
        · rename_i w
          have h2 := nx_lt (tp := tp) (k := k + 1) (by rw [w]; decide)
          exact fxN_le (by omega)
        · exact h1
theorem fxI_le {tp : List Int32} {k : Nat} (h : k ≤ tp.length) : (fxI tp k).2.1 ≤ tp.length := by
  unfold fxI
  split
  · exact h
  · rename_i q
    have h1 := nx_lt (tp := tp) (k := k) (fun z => by rw [z, ix_0] at q; exact absurd (by decide) q)
    exact fxP_le (by omega)
theorem op_app {os : List Nat} {ops : Nat → Int32} {x : Nat} (h : ∀ j, j < os.length → ops j = nI (os.getD j 0)) (hl : os.length ≤ 3) : ∀ j, j < (os ++ [x]).length → upd ops (nI os.length).toNatClampNeg (nI x) j = nI ((os ++ [x]).getD j 0) := fun j hj => by
  rw [List.length_append, List.length_singleton] at hj
  rw [clamp (by omega)]
  by_cases e : j = os.length
  · subst e
    have e1 : (os ++ [x]).getD os.length 0 = x := by simp [List.getD]
    rw [e1]
    exact if_pos rfl
  · have e1 : (os ++ [x]).getD j 0 = os.getD j 0 := by simp [List.getD, List.getElem?_append_left (show j < os.length by omega)]
    rw [e1]
    exact (if_neg e).trans (h j (by omega))
set_option maxRecDepth 20000 in
set_option maxHeartbeats 4000000 in
theorem c_X7_itemTold {G : Cx} (d : Nat) {μ : Hp} {s : PS} {tp : List Int32} {rec : PS → Bool × PS} {g : Nat} {m un lr mr hr tr sg hm hi : Int32} {co wh : Int64} (HG : ∀ g', g = g' + 1 → ∀ (s : PS) (μ : Hp), s.2.1.length + g' = 3 → Rm m un lr mr hr tr sg hm hi co wh tp s μ → Bu g' s → Ct G (d + 3) 0 0 M_X7_textTold [.ref 60, .int (nI s.2.2.length)] μ (RQ m un lr mr hr tr sg hm hi co wh tp (rec s) μ)) (hGd : ∀ g', g = g' + 1 → ∀ s, Gd g' s (rec s)) (hrm : Rm m un lr mr hr tr sg hm hi co wh tp s μ) (hb : Bu g s) (hd3 : s.2.1.length + g = 3) (hT : Tb1 tp) : Ct G (d + 4) 0 0 M_X7_itemTold [.ref 60, .int (nI s.2.2.length)] μ (RQ m un lr mr hr tr sg hm hi co wh tp (itemP tp g rec s) μ) := by
  refine Ct.ofV (by decide +kernel) (Nat.le_of_ble_eq_true rfl) ?_
  refine v_ls (ls' := [(0, .ref 60), (1, .int (nI s.2.2.length))]) rfl ?_
  obtain ⟨t, ops, tc, h60, h75, h76, h77, hp, ht60, hk, hop, h8⟩ := id hrm
  have hlen := hb.len
  have hol : s.2.1.length ≤ 3 := by omega
  have hfxl : (fxI tp s.1).2.1 ≤ tp.length := fxI_le hk
  refine v_aload_n 0 dX7_itemTold_0 rfl rfl ?_
  refine v_iconst (v := 2) dX7_itemTold_1 (by first | rfl | decide) ?_
  refine v_iconst (v := 4) dX7_itemTold_2 (by first | rfl | decide) ?_
  refine v_callV (c_X7_isFigure (d + 2) h60 h75 hp ht60 (hk)) cs_X7_341 dX7_itemTold_3 h60 rfl rfl (Nat.le_of_ble_eq_true rfl) ?_
  refine rt_k ?_
  refine v_if_eq (tgt := 17) dX7_itemTold_6 (by decide) (fun hc6 => ?_) (fun hc6 => ?_)
  ·
    refine v_aload_n 0 dX7_itemTold_17 rfl rfl ?_
    have hnf : (nxP tp s.1 < 50 ∨ 52 < nxP tp s.1) ∨ g = 0 := by
      first
        | exact Or.inl ((isf24 hT s.1).mp hc6)
        | (have := (nI_eq (b := 3) (by omega) (by decide)).mp hc14; exact Or.inr (by omega))
    rw [item_fx hnf]
    refine v_callV (c_X7_filterTold d h60 h75 hp ht60 hk hT) cs_X7_359 dX7_itemTold_18 h60 rfl rfl (Nat.le_of_ble_eq_true rfl) ?_
    rintro _ _ ⟨v2, k2, fa2, rfl, rfl, hk2, hx1, hx2⟩
    by_cases hX1 : (fxI tp s.1).1 = true
    ·
      obtain ⟨rfl, rfl, ev⟩ := hx1 hX1
      refine v_istore_n dX7_itemTold_21 rfl (by decide) (fun y2 e_y2 => ?_)
      refine v_ls (ls' := [(2, .int y2), (0, .ref 60), (1, .int (nI s.2.2.length))]) rfl ?_
      refine v_iload_n 2 dX7_itemTold_22 rfl rfl ?_
      refine v_bipush (v := 8) dX7_itemTold_23 (by first | rfl | decide) ?_
      refine v_icmp_ge (tgt := 42) dX7_itemTold_25 (by decide) (fun hc25 => ?_) (fun hc25 => ?_)
      ·
        refine v_iload_n 2 dX7_itemTold_42 rfl rfl ?_
        refine v_iconst (v := 1) dX7_itemTold_43 (by first | rfl | decide) ?_
        refine v_iadd dX7_itemTold_44 ?_
        refine v_iret dX7_itemTold_45 rfl (by first | rfl | decide | exact nar_b (by first | assumption | rfl)) ?_
        rw [nI_1]
        refine ⟨_, rfl, fun _ => ⟨?_, ?_⟩, fun z => absurd (hX1.symm.trans z) (by decide), fun i a b c => by repeat (first | rfl | refine up_n (by assumption) ?_)⟩
        · show nI (s.2.2.length + 1) = nI (if (fxI tp s.1).1 = true then s.2.2 ++ [(fxI tp s.1).2.2] else s.2.2).length
          rw [if_pos hX1, List.length_append, List.length_singleton]
        · show Rm m un lr mr hr tr sg hm hi co wh tp ((fxI tp s.1).2.1, s.2.1, if (fxI tp s.1).1 = true then s.2.2 ++ [(fxI tp s.1).2.2] else s.2.2) _
          rw [if_pos hX1]
          exact ⟨t, ops, _, (up_s _ _ _), (up_n (by decide) h75), (up_n (by decide) h76), (up_n (by decide) h77), hp, ht60, hk2, hop, (h8.full _ ((nI_leI (a := 8) (by decide) (by omega)).mp hc25))⟩
      ·
        refine v_aload_n 1 dX7_itemTold_28 rfl rfl ?_
        refine v_get fl_X7_338 dX7_itemTold_29 (up_s _ _ _) rfl ?_
        refine v_if_ge (tgt := 42) dX7_itemTold_32 (by decide) (fun hc32 => ?_) (fun hc32 => ?_)
        · exact absurd hc32 (by decide)
        ·
          refine v_aload_n 1 dX7_itemTold_35 rfl rfl ?_
          refine v_get fl_X7_64 dX7_itemTold_36 (up_s _ _ _) rfl ?_
          refine v_iload_n 2 dX7_itemTold_39 rfl rfl ?_
          refine v_iload_n 0 dX7_itemTold_40 rfl rfl ?_
          refine v_iast dX7_itemTold_41 (up_n (by decide) h77) (nI_in' (by have : ¬ 8 ≤ s.2.2.length := fun z => hc25 ((nI_leI (a := 8) (by decide) (by omega)).mpr z); omega)) ?_
          refine v_iload_n 2 dX7_itemTold_42 rfl rfl ?_
          refine v_iconst (v := 1) dX7_itemTold_43 (by first | rfl | decide) ?_
          refine v_iadd dX7_itemTold_44 ?_
          refine v_iret dX7_itemTold_45 rfl (by first | rfl | decide | exact nar_b (by first | assumption | rfl)) ?_
          rw [nI_1]
          refine ⟨_, rfl, fun _ => ⟨?_, ?_⟩, fun z => absurd (hX1.symm.trans z) (by decide), fun i a b c => by repeat (first | rfl | refine up_n (by assumption) ?_)⟩
          · show nI (s.2.2.length + 1) = nI (if (fxI tp s.1).1 = true then s.2.2 ++ [(fxI tp s.1).2.2] else s.2.2).length
            rw [if_pos hX1, List.length_append, List.length_singleton]
          · show Rm m un lr mr hr tr sg hm hi co wh tp ((fxI tp s.1).2.1, s.2.1, if (fxI tp s.1).1 = true then s.2.2 ++ [(fxI tp s.1).2.2] else s.2.2) _
            rw [if_pos hX1]
            exact ⟨t, ops, _, (up_n (by decide) (up_s _ _ _)), (up_n (by decide) (up_n (by decide) h75)), (up_n (by decide) (up_n (by decide) h76)), (up_s _ _ _), hp, ht60, hk2, hop, (by rw [clamp (show s.2.2.length < 2 ^ 31 by omega), e_y2, ev]; exact h8.keep _)⟩
    ·
      have hX2 : (fxI tp s.1).1 = false := by
        cases hz : (fxI tp s.1).1 with
        | true => exact absurd hz hX1
        | false => rfl
      obtain rfl := hx2 hX2
      refine v_istore_n dX7_itemTold_21 rfl (by decide) (fun y2 e_y2 => ?_)
      refine v_ls (ls' := [(2, .int y2), (0, .ref 60), (1, .int (nI s.2.2.length))]) rfl ?_
      refine v_iload_n 2 dX7_itemTold_22 rfl rfl ?_
      refine v_bipush (v := 8) dX7_itemTold_23 (by first | rfl | decide) ?_
      refine v_icmp_ge (tgt := 42) dX7_itemTold_25 (by decide) (fun hc25 => ?_) (fun hc25 => ?_)
      ·
        refine v_iload_n 2 dX7_itemTold_42 rfl rfl ?_
        refine v_iconst (v := 1) dX7_itemTold_43 (by first | rfl | decide) ?_
        refine v_iadd dX7_itemTold_44 ?_
        refine v_iret dX7_itemTold_45 rfl (by first | rfl | decide | exact nar_b (by first | assumption | rfl)) ?_
        refine ⟨_, rfl, fun z => absurd z hX1, fun _ => ?_, fun i a b c => by repeat (first | rfl | refine up_n (by assumption) ?_)⟩
        show Rf m un lr mr hr tr sg hm hi co wh tp ((fxI tp s.1).2.1, s.2.1, if (fxI tp s.1).1 = true then s.2.2 ++ [(fxI tp s.1).2.2] else s.2.2) _
        rw [if_neg hX1]
        exact ⟨t, ops, tc, _, (up_s _ _ _), (up_n (by decide) h75), (up_n (by decide) h76), (up_n (by decide) h77), ht60, hfxl, hop⟩
      ·
        refine v_aload_n 1 dX7_itemTold_28 rfl rfl ?_
        refine v_get fl_X7_338 dX7_itemTold_29 (up_s _ _ _) rfl ?_
        refine v_if_ge (tgt := 42) dX7_itemTold_32 (by decide) (fun hc32 => ?_) (fun hc32 => ?_)
        ·
          refine v_iload_n 2 dX7_itemTold_42 rfl rfl ?_
          refine v_iconst (v := 1) dX7_itemTold_43 (by first | rfl | decide) ?_
          refine v_iadd dX7_itemTold_44 ?_
          refine v_iret dX7_itemTold_45 rfl (by first | rfl | decide | exact nar_b (by first | assumption | rfl)) ?_
          refine ⟨_, rfl, fun z => absurd z hX1, fun _ => ?_, fun i a b c => by repeat (first | rfl | refine up_n (by assumption) ?_)⟩
          show Rf m un lr mr hr tr sg hm hi co wh tp ((fxI tp s.1).2.1, s.2.1, if (fxI tp s.1).1 = true then s.2.2 ++ [(fxI tp s.1).2.2] else s.2.2) _
          rw [if_neg hX1]
          exact ⟨t, ops, tc, _, (up_s _ _ _), (up_n (by decide) h75), (up_n (by decide) h76), (up_n (by decide) h77), ht60, hfxl, hop⟩
        · exact absurd (Int32.not_lt.mp (nn0 (by omega))) hc32
  ·
    refine v_aload_n 0 dX7_itemTold_9 rfl rfl ?_
    refine v_get fl_X7_356 dX7_itemTold_10 h60 rfl ?_
    refine v_iconst (v := 3) dX7_itemTold_13 (by first | rfl | decide) ?_
    refine v_icmp_ne (tgt := 46) dX7_itemTold_14 (by decide) (fun hc14 => ?_) (fun hc14 => ?_)
    ·
      have hn1 : ¬ nxP tp s.1 < 50 := fun z => hc6 ((isf24 hT s.1).mpr (Or.inl z))
      have hn2 : ¬ 52 < nxP tp s.1 := fun z => hc6 ((isf24 hT s.1).mpr (Or.inr z))
      have hg0 : ¬ g = 0 := fun z => hc14 (by rw [show s.2.1.length = 3 by omega]; rfl)
      obtain ⟨g', rfl⟩ : ∃ g', g = g' + 1 := ⟨g - 1, by omega⟩
      obtain ⟨T, hT1, hT2, hT3⟩ := tms_le hn1 hn2
      have hkl : s.1 < tp.length := nx_lt (fun z => hn1 (by rw [z]; decide))
      rw [item_grp hn1 hn2 hg0]
      refine v_aload_n 0 dX7_itemTold_46 rfl rfl ?_
      refine v_get fl_X7_58 dX7_itemTold_47 h60 rfl ?_
      refine v_aload_n 0 dX7_itemTold_50 rfl rfl ?_
      refine v_get fl_X7_331 dX7_itemTold_51 h60 rfl ?_
      refine v_iald dX7_itemTold_54 h75 (nI_in' (by omega)) ?_
      refine v_bipush (v := 48) dX7_itemTold_55 (by first | rfl | decide) ?_
      refine v_isub dX7_itemTold_57 ?_
      refine v_istore_n dX7_itemTold_58 rfl (by decide) (fun y2 e_y2 => ?_)
      refine v_ls (ls' := [(2, .int y2), (0, .ref 60), (1, .int (nI s.2.2.length))]) rfl ?_
      rw [clamp (show s.1 < 2 ^ 31 by omega), ← getD_at hp hkl] at e_y2
      have e_y2 : y2 = nI T := e_y2.trans hT3
      subst e_y2
      refine v_aload_n 1 dX7_itemTold_59 rfl rfl ?_
      refine v_dup dX7_itemTold_60 rfl ?_
      refine v_get fl_X7_331 dX7_itemTold_61 h60 rfl ?_
      refine v_iconst (v := 1) dX7_itemTold_64 (by first | rfl | decide) ?_
      refine v_iadd dX7_itemTold_65 ?_
      refine v_put fp_X7_331 dX7_itemTold_66 h60 (Nat.le_of_ble_eq_true rfl) (by first | rfl | decide) (by first | rfl | decide) ?_
      rw [nI_1]
      refine v_aload_n 1 dX7_itemTold_69 rfl rfl ?_
      refine v_callV (c_X7_next (d + 3) (up_s _ _ _) (up_n (by decide) h75) hp ht60 (show s.1 + 1 ≤ tp.length by omega)) cs_X7_334 dX7_itemTold_70 (up_s _ _ _) rfl rfl (Nat.le_of_ble_eq_true rfl) ?_
      refine rt_k ?_
      refine v_bipush (v := 40) dX7_itemTold_73 (by first | rfl | decide) ?_
      refine v_icmp_eq (tgt := 88) dX7_itemTold_75 (by decide) (fun hc75 => ?_) (fun hc75 => ?_)
      ·
        refine v_aload_n 1 dX7_itemTold_88 rfl rfl ?_
        refine v_get fl_X7_61 dX7_itemTold_89 (up_s _ _ _) rfl ?_
        refine v_aload_n 1 dX7_itemTold_92 rfl rfl ?_
        refine v_get fl_X7_356 dX7_itemTold_93 (up_s _ _ _) rfl ?_
        refine v_aload_n 1 dX7_itemTold_96 rfl rfl ?_
        refine v_get fl_X7_331 dX7_itemTold_97 (up_s _ _ _) rfl ?_
        refine v_iast dX7_itemTold_100 (up_n (by decide) h76) (nI_in' (by omega)) ?_
        refine v_aload_n 1 dX7_itemTold_101 rfl rfl ?_
        refine v_dup dX7_itemTold_102 rfl ?_
        refine v_get fl_X7_356 dX7_itemTold_103 (up_n (by decide) (up_s _ _ _)) rfl ?_
        refine v_iconst (v := 1) dX7_itemTold_106 (by first | rfl | decide) ?_
        refine v_iadd dX7_itemTold_107 ?_
        refine v_put fp_X7_356 dX7_itemTold_108 (up_n (by decide) (up_s _ _ _)) (Nat.le_of_ble_eq_true rfl) (by first | rfl | decide) (by first | rfl | decide) ?_
        rw [nI_1]
        refine v_aload_n 1 dX7_itemTold_111 rfl rfl ?_
        refine v_dup dX7_itemTold_112 rfl ?_
        refine v_get fl_X7_331 dX7_itemTold_113 (up_s _ _ _) rfl ?_
        refine v_iconst (v := 1) dX7_itemTold_116 (by first | rfl | decide) ?_
        refine v_iadd dX7_itemTold_117 ?_
        refine v_put fp_X7_331 dX7_itemTold_118 (up_s _ _ _) (Nat.le_of_ble_eq_true rfl) (by first | rfl | decide) (by first | rfl | decide) ?_
        refine v_hp (up_up _ _ _ _) ?_
        rw [nI_1]
        refine v_aload_n 1 dX7_itemTold_121 rfl rfl ?_
        refine v_iload_n 2 dX7_itemTold_122 rfl rfl ?_
        have hng : nxP tp (s.1 + 1) = 40 := (nx_eq hT (by decide) (by decide)).mp hc75
        have hkl2 : s.1 + 1 < tp.length := nx_lt (by rw [hng]; decide)
        have hbu : Bu g' (s.1 + 2, s.2.1 ++ [s.1 + 1], s.2.2) := by
          unfold Bu at hb ⊢
          show s.2.2.length + (60 - (s.1 + 2)) * 4 ^ g' ≤ 4000
          rw [Nat.pow_succ] at hb
          have h1 : (60 - (s.1 + 2)) * 4 ^ g' ≤ (60 - s.1) * (4 ^ g' * 4) := Nat.mul_le_mul (by omega) (by omega)
          omega
        refine v_callV (M' := M_X7_textTold) (avs := [.int (nI s.2.2.length)]) (st := []) (HG g' rfl (s.1 + 2, s.2.1 ++ [s.1 + 1], s.2.2) _ (by rw [show (s.1 + 2, s.2.1 ++ [s.1 + 1], s.2.2).2.1 = s.2.1 ++ [s.1 + 1] from rfl, List.length_append, List.length_singleton]; omega) ⟨t, _, tc, by rw [show (s.1 + 2, s.2.1 ++ [s.1 + 1], s.2.2).2.1 = s.2.1 ++ [s.1 + 1] from rfl, List.length_append, List.length_singleton]; exact (up_s _ _ _), (up_n (by decide) (up_n (by decide) (up_n (by decide) h75))), (up_n (by decide) (up_s _ _ _)), (up_n (by decide) (up_n (by decide) (up_n (by decide) h77))), hp, ht60, by show s.1 + 2 ≤ _; omega, op_app hop hol, h8⟩ hbu) cs_X7_362 dX7_itemTold_123 (up_s _ _ _) rfl rfl (Nat.le_of_ble_eq_true rfl) ?_
        have hgd := hGd g' rfl (s.1 + 2, s.2.1 ++ [s.1 + 1], s.2.2)
        have hGp : grpP tp rec s = (match rec (s.1 + 2, s.2.1 ++ [s.1 + 1], s.2.2) with
            | (false, s2) => (false, s2)
            | (true, s2) => if nxP tp s2.1 = 41 then (true, (s2.1 + 1, s.2.1, rptP ((s2.2.2.length - s.2.2.length) * ((nxP tp s.1 - 48).toNatClampNeg - 1)) s.2.2.length s2.2.2)) else (false, s2)) := by
          simp only [grpP, if_pos hng]
          rfl
        rw [hGp]
        clear hGp
        rintro _ m2 ⟨v3, rfl, ht2, hf2, hfr2⟩
        generalize rec (s.1 + 2, s.2.1 ++ [s.1 + 1], s.2.2) = x at ht2 hf2 hgd ⊢
        obtain ⟨b2, s2⟩ := x
        have hfr3 : ∀ i, i ≠ 60 → i ≠ 76 → i ≠ 77 → m2 i = μ i := fun i a b c => (hfr2 i a b c).trans (by repeat (first | rfl | refine up_n (by assumption) ?_))
        by_cases hb2 : b2 = true
        ·
          subst hb2
          obtain ⟨rfl, t2, ops2, tc2, g60, g75, g76, g77, hp2, -, hk2, hop2, h82⟩ := ht2 rfl
          obtain ⟨d1, d2, d3, d4⟩ := hgd
          obtain ⟨d4, d5, d6⟩ := d4 rfl
          have d1 : s.1 + 2 ≤ s2.1 := d1
          have d2 : s2.2.2.length ≤ s.2.2.length + (s2.1 - (s.1 + 2)) * 4 ^ g' := d2
          have d3 : s.2.2.length ≤ s2.2.2.length := d3
          have d4 : s2.2.1 = s.2.1 ++ [s.1 + 1] := d4
          have d5 : s.2.2.length < s2.2.2.length := d5
          have hk2 : s2.1 ≤ tp.length := hk2
          have hbn : s.2.2.length + (s2.2.2.length - s.2.2.length) * 4 ≤ 4000 := by
            unfold Bu at hb
            rw [Nat.pow_succ, ← Nat.mul_assoc] at hb
            have h1 : (s2.1 - (s.1 + 2)) * 4 ^ g' ≤ (60 - s.1) * 4 ^ g' := Nat.mul_le_mul_right _ (by omega)
            omega
          have hol2 : s2.2.1.length = s.2.1.length + 1 := by rw [d4, List.length_append, List.length_singleton]
          refine v_istore_n dX7_itemTold_126 rfl (by decide) (fun y3 e_y3 => ?_)
          refine v_ls (ls' := [(3, .int y3), (2, .int (nI T)), (0, .ref 60), (1, .int (nI s.2.2.length))]) rfl ?_
          have e_y3 : y3 = nI s2.2.2.length := e_y3
          refine v_aload_n 2 dX7_itemTold_127 rfl rfl ?_
          refine v_get fl_X7_338 dX7_itemTold_128 g60 rfl ?_
          refine v_if_ge (tgt := 151) dX7_itemTold_131 (by decide) (fun hc131 => ?_) (fun hc131 => ?_)
          · exact absurd hc131 (by decide)
          ·
            refine v_aload_n 2 dX7_itemTold_134 rfl rfl ?_
            refine v_callV (c_X7_next (d + 3) g60 g75 hp2 ht60 (hk2)) cs_X7_334 dX7_itemTold_135 g60 rfl rfl (Nat.le_of_ble_eq_true rfl) ?_
            refine rt_k ?_
            refine v_bipush (v := 41) dX7_itemTold_138 (by first | rfl | decide) ?_
            refine v_icmp_eq (tgt := 151) dX7_itemTold_140 (by decide) (fun hc140 => ?_) (fun hc140 => ?_)
            ·
              refine v_aload_n 2 dX7_itemTold_151 rfl rfl ?_
              refine v_get fl_X7_338 dX7_itemTold_152 g60 rfl ?_
              refine v_if_lt (tgt := 160) dX7_itemTold_155 (by decide) (fun hc155 => ?_) (fun hc155 => ?_)
              ·
                have hn41 : nxP tp s2.1 = 41 := (nx_eq hT (by decide) (by decide)).mp hc140
                have hkl3 : s2.1 < tp.length := nx_lt (by rw [hn41]; decide)
                show V G _ _ _ _ (RQ m un lr mr hr tr sg hm hi co wh tp (if nxP tp s2.1 = 41 then (true, (s2.1 + 1, s.2.1, rptP ((s2.2.2.length - s.2.2.length) * ((nxP tp s.1 - 48).toNatClampNeg - 1)) s.2.2.length s2.2.2)) else (false, s2)) μ) _ _ _ _
                rw [if_pos hn41, hT3, clamp (show T < 2 ^ 31 by omega)]
                refine v_aload_n 2 dX7_itemTold_160 rfl rfl ?_
                refine v_dup dX7_itemTold_161 rfl ?_
                refine v_get fl_X7_331 dX7_itemTold_162 g60 rfl ?_
                refine v_iconst (v := 1) dX7_itemTold_165 (by first | rfl | decide) ?_
                refine v_iadd dX7_itemTold_166 ?_
                refine v_put fp_X7_331 dX7_itemTold_167 g60 (Nat.le_of_ble_eq_true rfl) (by first | rfl | decide) (by first | rfl | decide) ?_
                rw [nI_1]
                refine v_aload_n 2 dX7_itemTold_170 rfl rfl ?_
                refine v_dup dX7_itemTold_171 rfl ?_
                refine v_get fl_X7_356 dX7_itemTold_172 (up_s _ _ _) rfl ?_
                refine v_iconst (v := 1) dX7_itemTold_175 (by first | rfl | decide) ?_
                refine v_isub dX7_itemTold_176 ?_
                refine v_put fp_X7_356 dX7_itemTold_177 (up_s _ _ _) (Nat.le_of_ble_eq_true rfl) (by first | rfl | decide) (by first | rfl | decide) ?_
                refine v_hp (up_up _ _ _ _) ?_
                rw [show nI s2.2.1.length - 1 = nI s.2.1.length by rw [nI_sub1 (by omega), hol2]; rfl]
                refine v_iload_n 0 dX7_itemTold_180 rfl rfl ?_
                refine v_iload_n 3 dX7_itemTold_181 rfl rfl ?_
                refine v_isub dX7_itemTold_182 ?_
                refine v_istore dX7_itemTold_183 (by decide) (fun y4 e_y4 => ?_)
                refine v_ls (ls' := [(4, .int y4), (3, .int y3), (2, .int (nI T)), (0, .ref 60), (1, .int (nI s.2.2.length))]) rfl ?_
                rw [e_y3, nI_subn (by omega) (by omega)] at e_y4
                subst e_y4
                refine v_iload_n 1 dX7_itemTold_185 rfl rfl ?_
                refine v_istore dX7_itemTold_186 (by decide) (fun y5 e_y5 => ?_)
                refine v_ls (ls' := [(5, .int y5), (4, .int (nI (s2.2.2.length - s.2.2.length))), (3, .int y3), (2, .int (nI T)), (0, .ref 60), (1, .int (nI s.2.2.length))]) rfl ?_
                have e5 : y5 = nI s2.2.2.length := e_y5.trans e_y3
                clear e_y5
                subst e5
                generalize hn : s2.2.2.length - s.2.2.length = n at hbn ⊢
                have hnT : n * T = n + n * (T - 1) := by
                  obtain ⟨u, rfl⟩ : ∃ u, T = u + 1 := ⟨T - 1, by omega⟩
                  rw [Nat.mul_succ, Nat.add_sub_cancel]
                  omega
                have hnT4 : n * T ≤ n * 4 := Nat.mul_le_mul_left _ hT2
                refine v_hp (show _ = up m2 60 (modC m co wh un lr mr hr (nI tp.length) (nI (s2.1 + 1)) (-1) (nI s.2.1.length) tr sg hm hi) from rfl) ?_
                refine v_hp (up_id (up_n (by decide) g77)).symm ?_
                refine v_pick [0, 1, 2, 3, 4, 5] rfl ?_
                refine v_post (rp_loop (d + 4) (n := n) (T := T) (a0 := s.2.2.length) (up_s _ _ _) (by omega) (by omega) (n * (T - 1)) s.2.2.length s2.2.2 tc2 (by omega) (by omega) h82) ?_
                rintro _ m4 ⟨rfl, tc4, rfl, h84⟩
                refine ⟨_, rfl, fun _ => ⟨?_, t2, ops2, tc4, ?_, ?_, ?_, up_s _ _ _, hp2, ht60, ?_, ?_, h84⟩, fun z => (by cases (show true = false from z)), fun i a b c => (up_n c (show _ = m2 i by repeat (first | rfl | refine up_n (by assumption) ?_))).trans (hfr3 i a b c)⟩
                · show nI (s.2.2.length + n * T) = nI (rptP (n * (T - 1)) s.2.2.length s2.2.2).length
                  rw [rpt_len]
                  congr 1
                  omega
                · exact up_n (by decide) (up_s _ _ _)
                · exact up_n (by decide) (up_n (by decide) g75)
                · exact up_n (by decide) (up_n (by decide) g76)
                · show s2.1 + 1 ≤ tp.length; omega
                · intro j hj
                  have hj : j < s.2.1.length := hj
                  have q := hop2 j (by show j < s2.2.1.length; omega)
                  rw [q]
                  show nI (s2.2.1.getD j 0) = nI (s.2.1.getD j 0)
                  rw [d4]
                  congr 1
                  simp [List.getD, List.getElem?_append_left hj]
                
              · exact absurd (by decide) hc155
            ·
              refine v_aload_n 2 dX7_itemTold_143 rfl rfl ?_
              refine v_aload_n 2 dX7_itemTold_144 rfl rfl ?_
              refine v_get fl_X7_331 dX7_itemTold_145 g60 rfl ?_
              refine v_callV (c_X7_faulty (d + 3) g60) cs_X7_344 dX7_itemTold_148 g60 rfl rfl (Nat.le_of_ble_eq_true rfl) ?_
              refine rt_k ?_
              refine v_aload_n 2 dX7_itemTold_151 rfl rfl ?_
              refine v_get fl_X7_338 dX7_itemTold_152 (up_s _ _ _) rfl ?_
              refine v_if_lt (tgt := 160) dX7_itemTold_155 (by decide) (fun hc155 => ?_) (fun hc155 => ?_)
              · exact absurd hc155 (nn0 (show s2.1 < 2 ^ 31 by omega))
              ·
                refine v_iload_n 3 dX7_itemTold_158 rfl rfl ?_
                refine v_iret dX7_itemTold_159 rfl (by first | rfl | decide | exact nar_b (by first | assumption | rfl)) ?_
                have hn41 : ¬ nxP tp s2.1 = 41 := fun z => hc140 ((nx_eq hT (by decide) (by decide)).mpr z)
                show RQ m un lr mr hr tr sg hm hi co wh tp (if nxP tp s2.1 = 41 then _ else (false, s2)) μ _ _
                rw [if_neg hn41]
                exact ⟨_, rfl, fun z => (by cases (show false = true from z)), fun _ => ⟨t2, ops2, tc2, _, (up_s _ _ _), (up_n (by decide) g75), (up_n (by decide) g76), (up_n (by decide) g77), ht60, hk2, hop2⟩, fun i a b c => (show _ = m2 i by repeat (first | rfl | refine up_n (by assumption) ?_)).trans (hfr3 i a b c)⟩
        ·
          obtain rfl : b2 = false := by
            cases b2 with
            | true => exact absurd rfl hb2
            | false => rfl
          obtain ⟨t2, ops2, tc2, at2, g60, g75, g76, g77, -, hk2, hop2⟩ := hf2 rfl
          have hk2 : s2.1 ≤ tp.length := hk2
          refine v_istore_n dX7_itemTold_126 rfl (by decide) (fun y3 e_y3 => ?_)
          refine v_ls (ls' := [(3, .int y3), (2, .int (nI T)), (0, .ref 60), (1, .int (nI s.2.2.length))]) rfl ?_
          refine v_aload_n 2 dX7_itemTold_127 rfl rfl ?_
          refine v_get fl_X7_338 dX7_itemTold_128 g60 rfl ?_
          refine v_if_ge (tgt := 151) dX7_itemTold_131 (by decide) (fun hc131 => ?_) (fun hc131 => ?_)
          ·
            refine v_aload_n 2 dX7_itemTold_151 rfl rfl ?_
            refine v_get fl_X7_338 dX7_itemTold_152 g60 rfl ?_
            refine v_if_lt (tgt := 160) dX7_itemTold_155 (by decide) (fun hc155 => ?_) (fun hc155 => ?_)
            · exact absurd hc155 (nn0 (by omega))
            ·
              refine v_iload_n 3 dX7_itemTold_158 rfl rfl ?_
              refine v_iret dX7_itemTold_159 rfl (by first | rfl | decide | exact nar_b (by first | assumption | rfl)) ?_
              exact ⟨_, rfl, fun z => (by cases (show false = true from z)), fun _ => ⟨t2, ops2, tc2, at2, g60, g75, g76, g77, ht60, hk2, hop2⟩, hfr3⟩
          · exact absurd (Int32.not_lt.mp (nn0 (by omega))) hc131
      ·
        refine v_aload_n 1 dX7_itemTold_78 rfl rfl ?_
        refine v_aload_n 1 dX7_itemTold_79 rfl rfl ?_
        refine v_get fl_X7_331 dX7_itemTold_80 (up_s _ _ _) rfl ?_
        refine v_callV (c_X7_faulty (d + 3) (up_s _ _ _)) cs_X7_344 dX7_itemTold_83 (up_s _ _ _) rfl rfl (Nat.le_of_ble_eq_true rfl) ?_
        refine rt_k ?_
        refine v_hp (up_up _ _ _ _) ?_
        refine v_iload_n 2 dX7_itemTold_86 rfl rfl ?_
        refine v_iret dX7_itemTold_87 rfl (by first | rfl | decide | exact nar_b (by first | assumption | rfl)) ?_
        have hng : ¬ nxP tp (s.1 + 1) = 40 := fun z => hc75 ((nx_eq hT (by decide) (by decide)).mpr z)
        refine ⟨_, rfl, fun z => ?_, fun _ => ?_, fun i a b c => by repeat (first | rfl | refine up_n (by assumption) ?_)⟩
        · unfold grpP at z
          rw [if_neg hng] at z
          cases (show false = true from z)
        · unfold grpP
          rw [if_neg hng]
          exact ⟨t, ops, tc, _, (up_s _ _ _), (up_n (by decide) h75), (up_n (by decide) h76), (up_n (by decide) h77), ht60, by show s.1 + 1 ≤ _; omega, hop⟩
    ·
      refine v_aload_n 0 dX7_itemTold_17 rfl rfl ?_
      have hnf : (nxP tp s.1 < 50 ∨ 52 < nxP tp s.1) ∨ g = 0 := by
        first
          | exact Or.inl ((isf24 hT s.1).mp hc6)
          | (have := (nI_eq (b := 3) (by omega) (by decide)).mp hc14; exact Or.inr (by omega))
      rw [item_fx hnf]
      refine v_callV (c_X7_filterTold d h60 h75 hp ht60 hk hT) cs_X7_359 dX7_itemTold_18 h60 rfl rfl (Nat.le_of_ble_eq_true rfl) ?_
      rintro _ _ ⟨v2, k2, fa2, rfl, rfl, hk2, hx1, hx2⟩
      by_cases hX1 : (fxI tp s.1).1 = true
      ·
        obtain ⟨rfl, rfl, ev⟩ := hx1 hX1
        refine v_istore_n dX7_itemTold_21 rfl (by decide) (fun y2 e_y2 => ?_)
        refine v_ls (ls' := [(2, .int y2), (0, .ref 60), (1, .int (nI s.2.2.length))]) rfl ?_
        refine v_iload_n 2 dX7_itemTold_22 rfl rfl ?_
        refine v_bipush (v := 8) dX7_itemTold_23 (by first | rfl | decide) ?_
        refine v_icmp_ge (tgt := 42) dX7_itemTold_25 (by decide) (fun hc25 => ?_) (fun hc25 => ?_)
        ·
          refine v_iload_n 2 dX7_itemTold_42 rfl rfl ?_
          refine v_iconst (v := 1) dX7_itemTold_43 (by first | rfl | decide) ?_
          refine v_iadd dX7_itemTold_44 ?_
          refine v_iret dX7_itemTold_45 rfl (by first | rfl | decide | exact nar_b (by first | assumption | rfl)) ?_
          rw [nI_1]
          refine ⟨_, rfl, fun _ => ⟨?_, ?_⟩, fun z => absurd (hX1.symm.trans z) (by decide), fun i a b c => by repeat (first | rfl | refine up_n (by assumption) ?_)⟩
          · show nI (s.2.2.length + 1) = nI (if (fxI tp s.1).1 = true then s.2.2 ++ [(fxI tp s.1).2.2] else s.2.2).length
            rw [if_pos hX1, List.length_append, List.length_singleton]
          · show Rm m un lr mr hr tr sg hm hi co wh tp ((fxI tp s.1).2.1, s.2.1, if (fxI tp s.1).1 = true then s.2.2 ++ [(fxI tp s.1).2.2] else s.2.2) _
            rw [if_pos hX1]
            exact ⟨t, ops, _, (up_s _ _ _), (up_n (by decide) h75), (up_n (by decide) h76), (up_n (by decide) h77), hp, ht60, hk2, hop, (h8.full _ ((nI_leI (a := 8) (by decide) (by omega)).mp hc25))⟩
        ·
          refine v_aload_n 1 dX7_itemTold_28 rfl rfl ?_
          refine v_get fl_X7_338 dX7_itemTold_29 (up_s _ _ _) rfl ?_
          refine v_if_ge (tgt := 42) dX7_itemTold_32 (by decide) (fun hc32 => ?_) (fun hc32 => ?_)
          · exact absurd hc32 (by decide)
          ·
            refine v_aload_n 1 dX7_itemTold_35 rfl rfl ?_
            refine v_get fl_X7_64 dX7_itemTold_36 (up_s _ _ _) rfl ?_
            refine v_iload_n 2 dX7_itemTold_39 rfl rfl ?_
            refine v_iload_n 0 dX7_itemTold_40 rfl rfl ?_
            refine v_iast dX7_itemTold_41 (up_n (by decide) h77) (nI_in' (by have : ¬ 8 ≤ s.2.2.length := fun z => hc25 ((nI_leI (a := 8) (by decide) (by omega)).mpr z); omega)) ?_
            refine v_iload_n 2 dX7_itemTold_42 rfl rfl ?_
            refine v_iconst (v := 1) dX7_itemTold_43 (by first | rfl | decide) ?_
            refine v_iadd dX7_itemTold_44 ?_
            refine v_iret dX7_itemTold_45 rfl (by first | rfl | decide | exact nar_b (by first | assumption | rfl)) ?_
            rw [nI_1]
            refine ⟨_, rfl, fun _ => ⟨?_, ?_⟩, fun z => absurd (hX1.symm.trans z) (by decide), fun i a b c => by repeat (first | rfl | refine up_n (by assumption) ?_)⟩
            · show nI (s.2.2.length + 1) = nI (if (fxI tp s.1).1 = true then s.2.2 ++ [(fxI tp s.1).2.2] else s.2.2).length
              rw [if_pos hX1, List.length_append, List.length_singleton]
            · show Rm m un lr mr hr tr sg hm hi co wh tp ((fxI tp s.1).2.1, s.2.1, if (fxI tp s.1).1 = true then s.2.2 ++ [(fxI tp s.1).2.2] else s.2.2) _
              rw [if_pos hX1]
              exact ⟨t, ops, _, (up_n (by decide) (up_s _ _ _)), (up_n (by decide) (up_n (by decide) h75)), (up_n (by decide) (up_n (by decide) h76)), (up_s _ _ _), hp, ht60, hk2, hop, (by rw [clamp (show s.2.2.length < 2 ^ 31 by omega), e_y2, ev]; exact h8.keep _)⟩
      ·
        have hX2 : (fxI tp s.1).1 = false := by
          cases hz : (fxI tp s.1).1 with
          | true => exact absurd hz hX1
          | false => rfl
        obtain rfl := hx2 hX2
        refine v_istore_n dX7_itemTold_21 rfl (by decide) (fun y2 e_y2 => ?_)
        refine v_ls (ls' := [(2, .int y2), (0, .ref 60), (1, .int (nI s.2.2.length))]) rfl ?_
        refine v_iload_n 2 dX7_itemTold_22 rfl rfl ?_
        refine v_bipush (v := 8) dX7_itemTold_23 (by first | rfl | decide) ?_
        refine v_icmp_ge (tgt := 42) dX7_itemTold_25 (by decide) (fun hc25 => ?_) (fun hc25 => ?_)
        ·
          refine v_iload_n 2 dX7_itemTold_42 rfl rfl ?_
          refine v_iconst (v := 1) dX7_itemTold_43 (by first | rfl | decide) ?_
          refine v_iadd dX7_itemTold_44 ?_
          refine v_iret dX7_itemTold_45 rfl (by first | rfl | decide | exact nar_b (by first | assumption | rfl)) ?_
          refine ⟨_, rfl, fun z => absurd z hX1, fun _ => ?_, fun i a b c => by repeat (first | rfl | refine up_n (by assumption) ?_)⟩
          show Rf m un lr mr hr tr sg hm hi co wh tp ((fxI tp s.1).2.1, s.2.1, if (fxI tp s.1).1 = true then s.2.2 ++ [(fxI tp s.1).2.2] else s.2.2) _
          rw [if_neg hX1]
          exact ⟨t, ops, tc, _, (up_s _ _ _), (up_n (by decide) h75), (up_n (by decide) h76), (up_n (by decide) h77), ht60, hfxl, hop⟩
        ·
          refine v_aload_n 1 dX7_itemTold_28 rfl rfl ?_
          refine v_get fl_X7_338 dX7_itemTold_29 (up_s _ _ _) rfl ?_
          refine v_if_ge (tgt := 42) dX7_itemTold_32 (by decide) (fun hc32 => ?_) (fun hc32 => ?_)
          ·
            refine v_iload_n 2 dX7_itemTold_42 rfl rfl ?_
            refine v_iconst (v := 1) dX7_itemTold_43 (by first | rfl | decide) ?_
            refine v_iadd dX7_itemTold_44 ?_
            refine v_iret dX7_itemTold_45 rfl (by first | rfl | decide | exact nar_b (by first | assumption | rfl)) ?_
            refine ⟨_, rfl, fun z => absurd z hX1, fun _ => ?_, fun i a b c => by repeat (first | rfl | refine up_n (by assumption) ?_)⟩
            show Rf m un lr mr hr tr sg hm hi co wh tp ((fxI tp s.1).2.1, s.2.1, if (fxI tp s.1).1 = true then s.2.2 ++ [(fxI tp s.1).2.2] else s.2.2) _
            rw [if_neg hX1]
            exact ⟨t, ops, tc, _, (up_s _ _ _), (up_n (by decide) h75), (up_n (by decide) h76), (up_n (by decide) h77), ht60, hfxl, hop⟩
          · exact absurd (Int32.not_lt.mp (nn0 (by omega))) hc32

