theorem wit_an (c : Int32) (a : Nat) : witO c 1 (nI a) = angC c a := by
  show cdO (if (1 : Int32) = 0 then nI a else kdO c) (if (1 : Int32) = 1 then nI a else anO c) (if (1 : Int32) = 2 then nI a else fgO c) = _
  rw [if_neg (by decide), if_pos rfl, if_neg (by decide)]
theorem set_run {l : List Int32} {n : Nat} (h : n < l.length) (c : Int32) (L : LT) : runO ((l.set n c).take l.length) L = runO (l.drop (n + 1)) (passO c (runO (l.take n) L)) := by
  rw [List.take_of_length_le (by rw [List.length_set]; exact Nat.le_refl _), List.set_eq_take_append_cons_drop, if_pos h, runO_app, runO_cons]
theorem Pl.set2 {l : List Int32} {p q : Nat → Int32} {n : Nat} (h : Pl l p) (hq : ∀ j, j ≠ n → q j = p j) (c : Int32) : Pl (l.set n c) (upd q n c) := by
  have e : upd q n c = upd p n c := by
    funext j
    show (if j = n then _ else _) = (if j = n then _ else _)
    by_cases e : j = n
    · rw [if_pos e, if_pos e]
    · rw [if_neg e, if_neg e]; exact hq j e
  rw [e]
  exact h.set n c
theorem Pl.back {l : List Int32} {p q : Nat → Int32} {n : Nat} (h : Pl l p) (hq : ∀ j, j ≠ n → q j = p j) (hn : n < l.length) : Pl l (upd q n (l.getD n 0)) := by
  have e := h.set2 hq (l.getD n 0)
  have e2 : l.set n (l.getD n 0) = l := by
    rw [show l.getD n 0 = l[n] by simp [List.getD, List.getElem?_eq_getElem hn]]
    exact List.set_getElem_self hn
  rw [e2] at e
  exact e
theorem upd_o {q p : Nat → Int32} {n : Nat} {c : Int32} (hq : ∀ j, j ≠ n → q j = p j) : ∀ j, j ≠ n → upd q n c j = p j := fun j hj => (if_neg hj).trans (hq j hj)
theorem set_vc {l : List Int32} {c : Int32} {n : Nat} (h : ∀ x ∈ l, Vc x) (hc : Vc c) : ∀ x ∈ l.set n c, Vc x := fun x hx => (List.mem_or_eq_of_mem_set hx).elim (h x) (fun e => e ▸ hc)
theorem ang_vc {c : Int32} (h : Vc c) {a : Nat} (ha : a < 4) : Vc (angC c a) := by
  obtain ⟨k, b, f, hk, hb, hf, rfl⟩ := h
  obtain ⟨p1, p2, p3, -⟩ := vc_parts k hk b hb f hf
  show Vc (cdO (kdO _) (nI a) (fgO _))
  rw [p1, p3]
  exact Vc.mk hk ha hf
theorem inst_e {σ : ST} (h : Eb 100 (sM σ)) (hw : Wp (sP σ)) (n : Nat) (c : Int32) : Eb 1000 (inst σ n c) := by
  have h1 := runO_e ((sP σ).take n) h (by rw [List.length_take]; have := hw.1; omega)
  have h2 := passO_e (c := c) h1 (by rw [List.length_take]; have := hw.1; omega)
  have h3 := runO_e ((sP σ).drop (n + 1)) h2 (by rw [List.length_take, List.length_drop]; have := hw.1; omega)
  exact ⟨h3.1, by
    have q := h3.2
    rw [List.length_take, List.length_drop] at q
    have := hw.1
    show (runO ((sP σ).drop (n + 1)) (passO c (runO ((sP σ).take n) (sM σ)))).2.2.2.2.toInt ≤ _
    omega⟩
theorem set_inst {σ : ST} {n : Nat} (h : n < (sP σ).length) (c : Int32) : runO (((sP σ).set n c).take (sP σ).length) (sM σ) = inst σ n c := set_run h c _
def angA (σ : ST) (n a : Nat) : OC := (angL σ n a).foldl meetO ([], (sM σ, 0), (sM σ, 0))
theorem angA_s (σ : ST) (n a : Nat) : angA σ n (a + 1) = meetO (angA σ n a) (inst σ n (angC ((sP σ).getD n 0) a), nI a) := by
  unfold angA angL
  rw [List.range_succ, List.map_append, List.foldl_append]
  rfl
theorem angA_len (σ : ST) (n : Nat) : ∀ a, (angA σ n a).1.length ≤ a
  | 0 => Nat.le_refl _
  | a + 1 => by
    rw [angA_s]
    have h := angA_len σ n a
    have h2 := remO_len (inst σ n (angC ((sP σ).getD n 0) a)) (angA σ n a).1
    show (remO (inst σ n (angC ((sP σ).getD n 0) a)) (angA σ n a).1).length ≤ _
    omega
theorem angA_ne (σ : ST) (n a : Nat) : ¬ (angA σ n (a + 1)).1 = [] := by
  rw [angA_s]
  exact remO_ne _ _
theorem in_nI {k n : Nat} (hn : n < 2 ^ 31) (h : k < n) : ¬ inO (nI k) (nI n) = 0 := by
  unfold inO
  have h1 : ¬ nI k < 0 := fun z => absurd ((nI_ltI (b := 0) (by omega) (by decide)).mp z) (by omega)
  have h2 : ¬ nI n ≤ nI k := fun z => absurd ((nI_leI (by omega) (by omega)).mp z) (by omega)
  rw [if_neg h1, if_neg h2]
  decide
set_option maxRecDepth 20000 in
set_option maxHeartbeats 4000000 in
theorem ang7_loop {G : Cx} (d : Nat) {σ : ST} {μ0 : Hp} (h : Mo σ μ0) (hw : Wp (sP σ)) (heb : Eb 100 (sM σ)) {n : Nat} {w : Int32} (hn9 : n < (sP σ).length) (hw3 : ¬ inO w 3 = 0) {co wh : Int64} {lr mr hr at9 fa op sg hm : Int32} {p tt ro tc op9 sp : Nat → Int32} {ot : Nat → Int64} (k61 : μ0 61 = some (mlg (sM σ))) (k64 : μ0 64 = some (arI 5 ro)) (k69 : μ0 69 = some (arJ 5 ot)) (k70 : μ0 70 = some (arJ 36 (lsF (sL σ)))) (k71 : μ0 71 = some (arI 3 (sZ σ))) (k72 : μ0 72 = some (arF 8 (sF σ))) (k73 : μ0 73 = some (arI 12 (rkF (sR σ)))) (k74 : μ0 74 = some (arI 3 (sK σ))) (k75 : μ0 75 = some (arI 60 tt)) (k76 : μ0 76 = some (arI 3 op9)) (k77 : μ0 77 = some (arI 8 tc)) (k78 : μ0 78 = some (arI 4 (sW σ).2.1)) (k79 : μ0 79 = some (arI 4 (sW σ).2.2)) (k80 : μ0 80 = some (arI 48 sp)) (hmk : MK (sI σ) hm μ0) (hpl : Pl (sP σ) p) (htp : Pl (sT σ) tt) (ht60 : (sT σ).length ≤ 60) : ∀ (k9 : Nat) (a : Nat) (q : Nat → Int32) (μ : Hp), a + k9 = 4 → (∃ s t x7 x8 nw, μ 60 = some (modC (nI (sP σ).length) co wh (nI (angA σ n a).1.length) lr mr hr (nI (sT σ).length) at9 fa op (nI (sW σ).1) sg hm (hiO (sI σ))) ∧ μ 63 = some (arJ 5 nw) ∧ μ 65 = some (arJ 600 s) ∧ μ 66 = some (arI 120 t) ∧ μ 67 = some (arJ 5 x7) ∧ μ 68 = some (arJ 5 x8) ∧ Sn (angA σ n a).1 s t ∧ (a = 0 ∨ (¬ a = 0 ∧ x7 = lvO (angA σ n a).2.1.1 ∧ x8 = lvO (angA σ n a).2.2.1 ∧ Eb 1000 (angA σ n a).2.1.1 ∧ Eb 1000 (angA σ n a).2.2.1))) → μ 62 = some (arI 8 q) → (∀ j, j ≠ n → q j = p j) → (∀ i, i < 60 ∨ i = 61 ∨ i = 64 ∨ 68 < i → μ i = μ0 i) → V G M_X7_angle (d + 5) 0 0 (Pm σ (.int (rAngle σ (nI n) w)) μ0) 43 [(6, .int (nI a)), (5, .int (angA σ n a).2.1.2), (4, .int (angA σ n a).2.2.2), (3, .int ((sP σ).getD n 0)), (0, .ref 60), (1, .int (nI n)), (2, .int w)] [] (μ) := by
  intro k9
  induction k9 with
  | zero =>
    intro a q μ hj hqq h62 hq hf
    obtain ⟨s, t, x7, x8, nw, h60, h63, h65, h66, h67, h68, hs, hcc⟩ := hqq
    have h61 := (hf 61 (by omega)).trans k61
    have hl8 := hw.1
    have hlen := angA_len σ n a
    refine v_iload 0 dX7_angle_43 rfl ?_
    refine v_iconst (v := 4) dX7_angle_45 (by first | rfl | decide) ?_
    refine v_icmp_ge (tgt := 186) dX7_angle_46 (by decide) (fun hc46 => ?_) (fun hc46 => ?_)
    ·
      refine v_aload_n 4 dX7_angle_186 rfl rfl ?_
      refine v_get fl_X7_17 dX7_angle_187 h60 rfl ?_
      refine v_iload_n 5 dX7_angle_190 rfl rfl ?_
      refine v_iload_n 3 dX7_angle_191 rfl rfl ?_
      refine v_iast dX7_angle_192 h62 (nI_in' (by omega)) ?_
      rw [clamp (show n < 2 ^ 31 by omega)]
      refine v_iload_n 6 dX7_angle_193 rfl rfl ?_
      refine v_if_ne (tgt := 202) dX7_angle_194 (by decide) (fun hc194 => ?_) (fun hc194 => ?_)
      ·
        refine v_iload_n 6 dX7_angle_202 rfl rfl ?_
        refine v_iconst (v := 1) dX7_angle_203 (by first | rfl | decide) ?_
        refine v_icmp_ne (tgt := 212) dX7_angle_204 (by decide) (fun hc204 => ?_) (fun hc204 => ?_)
        ·
          refine v_aload_n 4 dX7_angle_212 rfl rfl ?_
          refine v_get fl_X7_235 dX7_angle_213 (up_n (by decide) h60) rfl ?_
          refine v_iret dX7_angle_216 rfl (by first | rfl | decide | exact nar_b (by first | assumption | rfl)) ?_
          obtain rfl : a = 4 := by omega
          have hE : rAngle σ (nI n) w = nI (angA σ n 4).1.length := by
            have hin : ¬ inO (nI n) (sN σ) = 0 := in_nI (by omega) hn9
            simp only [rAngle, if_neg hin, if_neg hw3, if_neg hc194, if_neg hc204, clamp (show n < 2 ^ 31 by omega)]
            rfl
          rw [hE]
          exact ⟨rfl, ⟨co, wh, _, lr, mr, hr, at9, fa, op, sg, hm, _, tt, ro, t, tc, op9, sp, nw, s, x7, x8, ot, (up_n (by decide) h60), (up_n (by decide) h61), (up_s _ _ _), (up_n (by decide) h63), (up_n (by decide) ((hf 64 (by omega)).trans k64)), (up_n (by decide) h65), (up_n (by decide) h66), (up_n (by decide) h67), (up_n (by decide) h68), (up_n (by decide) ((hf 69 (by omega)).trans k69)), (up_n (by decide) ((hf 70 (by omega)).trans k70)), (up_n (by decide) ((hf 71 (by omega)).trans k71)), (up_n (by decide) ((hf 72 (by omega)).trans k72)), (up_n (by decide) ((hf 73 (by omega)).trans k73)), (up_n (by decide) ((hf 74 (by omega)).trans k74)), (up_n (by decide) ((hf 75 (by omega)).trans k75)), (up_n (by decide) ((hf 76 (by omega)).trans k76)), (up_n (by decide) ((hf 77 (by omega)).trans k77)), (up_n (by decide) ((hf 78 (by omega)).trans k78)), (up_n (by decide) ((hf 79 (by omega)).trans k79)), (up_n (by decide) ((hf 80 (by omega)).trans k80)), (hmk.kept (fun i a b => (up_n (by omega) rfl).trans (hf i (by omega)))), (hpl.back hq hn9), htp, ht60⟩, fun i hi => (up_n (by omega) rfl).trans (hf i (by omega))⟩
        ·
          refine v_iload 1 dX7_angle_207 rfl ?_
          refine v_goto (tgt := 216) dX7_angle_209 (by decide) ?_
          refine v_iret dX7_angle_216 rfl (by first | rfl | decide | exact nar_b (by first | assumption | rfl)) ?_
          obtain rfl : a = 4 := by omega
          have hE : rAngle σ (nI n) w = (angA σ n 4).2.1.2 := by
            have hin : ¬ inO (nI n) (sN σ) = 0 := in_nI (by omega) hn9
            simp only [rAngle, if_neg hin, if_neg hw3, if_neg hc194, if_pos hc204, clamp (show n < 2 ^ 31 by omega)]
            rfl
          rw [hE]
          exact ⟨rfl, ⟨co, wh, _, lr, mr, hr, at9, fa, op, sg, hm, _, tt, ro, t, tc, op9, sp, nw, s, x7, x8, ot, (up_n (by decide) h60), (up_n (by decide) h61), (up_s _ _ _), (up_n (by decide) h63), (up_n (by decide) ((hf 64 (by omega)).trans k64)), (up_n (by decide) h65), (up_n (by decide) h66), (up_n (by decide) h67), (up_n (by decide) h68), (up_n (by decide) ((hf 69 (by omega)).trans k69)), (up_n (by decide) ((hf 70 (by omega)).trans k70)), (up_n (by decide) ((hf 71 (by omega)).trans k71)), (up_n (by decide) ((hf 72 (by omega)).trans k72)), (up_n (by decide) ((hf 73 (by omega)).trans k73)), (up_n (by decide) ((hf 74 (by omega)).trans k74)), (up_n (by decide) ((hf 75 (by omega)).trans k75)), (up_n (by decide) ((hf 76 (by omega)).trans k76)), (up_n (by decide) ((hf 77 (by omega)).trans k77)), (up_n (by decide) ((hf 78 (by omega)).trans k78)), (up_n (by decide) ((hf 79 (by omega)).trans k79)), (up_n (by decide) ((hf 80 (by omega)).trans k80)), (hmk.kept (fun i a b => (up_n (by omega) rfl).trans (hf i (by omega)))), (hpl.back hq hn9), htp, ht60⟩, fun i hi => (up_n (by omega) rfl).trans (hf i (by omega))⟩
      ·
        refine v_iload 2 dX7_angle_197 rfl ?_
        refine v_goto (tgt := 216) dX7_angle_199 (by decide) ?_
        refine v_iret dX7_angle_216 rfl (by first | rfl | decide | exact nar_b (by first | assumption | rfl)) ?_
        obtain rfl : a = 4 := by omega
        have hE : rAngle σ (nI n) w = (angA σ n 4).2.2.2 := by
          have hin : ¬ inO (nI n) (sN σ) = 0 := in_nI (by omega) hn9
          simp only [rAngle, if_neg hin, if_neg hw3, if_pos hc194, clamp (show n < 2 ^ 31 by omega)]
          rfl
        rw [hE]
        exact ⟨rfl, ⟨co, wh, _, lr, mr, hr, at9, fa, op, sg, hm, _, tt, ro, t, tc, op9, sp, nw, s, x7, x8, ot, (up_n (by decide) h60), (up_n (by decide) h61), (up_s _ _ _), (up_n (by decide) h63), (up_n (by decide) ((hf 64 (by omega)).trans k64)), (up_n (by decide) h65), (up_n (by decide) h66), (up_n (by decide) h67), (up_n (by decide) h68), (up_n (by decide) ((hf 69 (by omega)).trans k69)), (up_n (by decide) ((hf 70 (by omega)).trans k70)), (up_n (by decide) ((hf 71 (by omega)).trans k71)), (up_n (by decide) ((hf 72 (by omega)).trans k72)), (up_n (by decide) ((hf 73 (by omega)).trans k73)), (up_n (by decide) ((hf 74 (by omega)).trans k74)), (up_n (by decide) ((hf 75 (by omega)).trans k75)), (up_n (by decide) ((hf 76 (by omega)).trans k76)), (up_n (by decide) ((hf 77 (by omega)).trans k77)), (up_n (by decide) ((hf 78 (by omega)).trans k78)), (up_n (by decide) ((hf 79 (by omega)).trans k79)), (up_n (by decide) ((hf 80 (by omega)).trans k80)), (hmk.kept (fun i a b => (up_n (by omega) rfl).trans (hf i (by omega)))), (hpl.back hq hn9), htp, ht60⟩, fun i hi => (up_n (by omega) rfl).trans (hf i (by omega))⟩
    · exact absurd ((nI_leI (a := 4) (by decide) (by omega)).mpr (by omega)) hc46
  | succ k9 ih =>
    intro a q μ hj hqq h62 hq hf
    obtain ⟨s, t, x7, x8, nw, h60, h63, h65, h66, h67, h68, hs, hcc⟩ := hqq
    have h61 := (hf 61 (by omega)).trans k61
    have hl8 := hw.1
    have hlen := angA_len σ n a
    refine v_iload 0 dX7_angle_43 rfl ?_
    refine v_iconst (v := 4) dX7_angle_45 (by first | rfl | decide) ?_
    refine v_icmp_ge (tgt := 186) dX7_angle_46 (by decide) (fun hc46 => ?_) (fun hc46 => ?_)
    · have := (nI_leI (a := 4) (by decide) (by omega)).mp hc46
      omega
    ·
      by_cases ha0 : a = 0
      ·
        
        refine v_aload_n 4 dX7_angle_49 rfl rfl ?_
        refine v_get fl_X7_17 dX7_angle_50 h60 rfl ?_
        refine v_iload_n 5 dX7_angle_53 rfl rfl ?_
        refine v_iload_n 3 dX7_angle_54 rfl rfl ?_
        refine v_iconst (v := 1) dX7_angle_55 (by first | rfl | decide) ?_
        refine v_iload 0 dX7_angle_56 rfl ?_
        refine v_callS (c_X7_with (d + 3) ) cs_X7_177 dX7_angle_58 rfl rfl (Nat.le_of_ble_eq_true rfl) ?_
        refine rt_k ?_
        rw [wit_an]
        refine v_iast dX7_angle_61 h62 (nI_in' (by omega)) ?_
        rw [clamp (show n < 2 ^ 31 by omega)]
        refine v_aload_n 4 dX7_angle_62 rfl rfl ?_
        refine v_aload_n 4 dX7_angle_63 rfl rfl ?_
        refine v_get fl_X7_91 dX7_angle_64 (up_n (by decide) h60) rfl ?_
        refine v_callV (c_X7_behind d (up_n (by decide) h60) (up_s _ _ _) (hpl.set2 hq (angC ((sP σ).getD n 0) a)) (by rw [List.length_set]; exact hl8) (set_vc hw.2 (ang_vc (hw.at hn9) (by omega))) (by rw [List.length_set]; exact Nat.le_refl _) (up_n (by decide) h61) (up_n (by decide) h63) heb) cs_X7_195 dX7_angle_67 (up_n (by decide) h60) rfl rfl (Nat.le_of_ble_eq_true rfl) ?_
        refine rt_k ?_
        rw [set_inst hn9]
        have hL : Eb 1000 (inst σ n (angC ((sP σ).getD n 0) a)) := inst_e heb hw n _
        have hM0 := angA_s σ n a
        generalize hL9 : inst σ n (angC ((sP σ).getD n 0) a) = L at hL hM0 ⊢
        refine v_aload_n 4 dX7_angle_70 rfl rfl ?_
        refine v_callV (c_X7_sees (d + 3) (up_n (by decide) (up_n (by decide) h60)) (up_s _ _ _) (up_n (by decide) (up_n (by decide) h65)) (up_n (by decide) (up_n (by decide) h66)) hs (by omega)) cs_X7_245 dX7_angle_71 (up_n (by decide) (up_n (by decide) h60)) rfl rfl (Nat.le_of_ble_eq_true rfl) ?_
        rintro _ _ ⟨rfl, s2, t2, rfl, hs2⟩
        refine v_iload 0 dX7_angle_74 rfl ?_
        refine v_if_eq (tgt := 109) dX7_angle_76 (by decide) (fun hc76 => ?_) (fun hc76 => ?_)
        ·
          refine v_iload 0 dX7_angle_109 rfl ?_
          refine v_istore dX7_angle_111 (by decide) (fun y4 e_y4 => ?_)
          refine v_ls (ls' := [(4, .int y4), (6, .int (nI a)), (5, .int (angA σ n a).2.1.2), (3, .int ((sP σ).getD n 0)), (0, .ref 60), (1, .int (nI n)), (2, .int w)]) rfl ?_
          subst e_y4
          refine v_aload_n 4 dX7_angle_113 rfl rfl ?_
          refine v_get fl_X7_21 dX7_angle_114 (up_s _ _ _) rfl ?_
          refine v_iconst (v := 0) dX7_angle_117 (by first | rfl | decide) ?_
          refine v_aload_n 4 dX7_angle_118 rfl rfl ?_
          refine v_get fl_X7_36 dX7_angle_119 (up_s _ _ _) rfl ?_
          refine v_iconst (v := 0) dX7_angle_122 (by first | rfl | decide) ?_
          refine v_iconst (v := 5) dX7_angle_123 (by first | rfl | decide) ?_
          refine v_copyl cs_X7_140 dX7_angle_124 (up_n (by decide) (up_n (by decide) (up_n (by decide) (up_s _ _ _)))) (up_n (by decide) (up_n (by decide) (up_n (by decide) (up_n (by decide) (up_n (by decide) h68))))) rfl rfl (by decide) (by decide) (by decide) (by decide) (by decide) (fun i _ => rfl) (Nat.le_of_ble_eq_true rfl) ?_
          refine v_njJ (g := lvO L) (fun x hx => ?_) ?_
          · show va_cpy (lvO L) _ 0 0 5 x = lvO L x
            unfold va_cpy
            rw [if_pos (by omega)]
            simp
          refine v_iload 1 dX7_angle_127 rfl ?_
          refine v_if_eq (tgt := 162) dX7_angle_129 (by decide) (fun hc129 => ?_) (fun hc129 => ?_)
          ·
            refine v_iload 1 dX7_angle_162 rfl ?_
            refine v_istore dX7_angle_164 (by decide) (fun y5 e_y5 => ?_)
            refine v_ls (ls' := [(5, .int y5), (4, .int (nI a)), (6, .int (nI a)), (3, .int ((sP σ).getD n 0)), (0, .ref 60), (1, .int (nI n)), (2, .int w)]) rfl ?_
            subst e_y5
            refine v_aload_n 4 dX7_angle_166 rfl rfl ?_
            refine v_get fl_X7_21 dX7_angle_167 (up_n (by decide) (up_s _ _ _)) rfl ?_
            refine v_iconst (v := 0) dX7_angle_170 (by first | rfl | decide) ?_
            refine v_aload_n 4 dX7_angle_171 rfl rfl ?_
            refine v_get fl_X7_33 dX7_angle_172 (up_n (by decide) (up_s _ _ _)) rfl ?_
            refine v_iconst (v := 0) dX7_angle_175 (by first | rfl | decide) ?_
            refine v_iconst (v := 5) dX7_angle_176 (by first | rfl | decide) ?_
            refine v_copyl cs_X7_140 dX7_angle_177 (up_n (by decide) (up_n (by decide) (up_n (by decide) (up_n (by decide) (up_s _ _ _))))) (up_n (by decide) (up_n (by decide) (up_n (by decide) (up_n (by decide) (up_n (by decide) (up_n (by decide) h67)))))) rfl rfl (by decide) (by decide) (by decide) (by decide) (by decide) (fun i _ => rfl) (Nat.le_of_ble_eq_true rfl) ?_
            refine v_njJ (g := lvO L) (fun x hx => ?_) ?_
            · show va_cpy (lvO L) _ 0 0 5 x = lvO L x
              unfold va_cpy
              rw [if_pos (by omega)]
              simp
            refine v_iinc (v := 1) 2 dX7_angle_180 rfl rfl (by decide) (fun z e_z => ?_)
            refine v_ls (ls' := [(6, .int z), (5, .int (nI a)), (4, .int (nI a)), (3, .int ((sP σ).getD n 0)), (0, .ref 60), (1, .int (nI n)), (2, .int w)]) rfl ?_
            rw [nI_1] at e_z
            subst e_z
            refine v_goto (tgt := 43) dX7_angle_183 (by decide) ?_
            have hM : meetO (angA σ n a) (L, nI a) = (remO L (angA σ n a).1, (L, nI a), (L, nI a)) := by
              have hC0 : nI (angA σ n a).1.length = 0 := by rw [show (angA σ n a).1.length = 0 by omega]; rfl
              simp only [meetO, if_pos hC0]
            rw [hM] at hM0
            refine v_pick [0, 1, 2, 3, 4, 5, 6] rfl ?_
            have IH1 := ih (a + 1)
            rw [hM0] at IH1
            refine IH1 _ _ (by omega) ⟨s2, t2, _, _, _, (up_n (by decide) (up_n (by decide) (up_s _ _ _))), (up_n (by decide) (up_n (by decide) (up_n (by decide) (up_n (by decide) (up_n (by decide) (up_s _ _ _)))))), (up_n (by decide) (up_n (by decide) (up_n (by decide) (up_n (by decide) (up_s _ _ _))))), (up_n (by decide) (up_n (by decide) (up_n (by decide) (up_s _ _ _)))), (up_s _ _ _), (up_n (by decide) (up_s _ _ _)), hs2, Or.inr ⟨by omega, rfl, rfl, hL, hL⟩⟩ ((up_n (by decide) (up_n (by decide) (up_n (by decide) (up_n (by decide) (up_n (by decide) (up_n (by decide) (up_s _ _ _)))))))) (upd_o hq) (fun i hi => ?_)
            refine Eq.trans ?_ (hf i hi)
            repeat (first | rfl | refine up_n (by omega) ?_)
            
          · exact absurd (by rw [ha0]; rfl) hc129
        · exact absurd (by rw [ha0]; rfl) hc76
      ·
        obtain ⟨-, e7, e8, hE7, hE8⟩ := hcc.resolve_left ha0
        subst e7 e8
        have hne9 : ¬ nI (angA σ n a).1.length = 0 := fun z => by
          obtain ⟨b, rfl⟩ : ∃ b, a = b + 1 := ⟨a - 1, by omega⟩
          exact angA_ne σ n b (List.length_eq_zero_iff.mp ((nI_eq (b := 0) (by omega) (by decide)).mp z))
        refine v_aload_n 4 dX7_angle_49 rfl rfl ?_
        refine v_get fl_X7_17 dX7_angle_50 h60 rfl ?_
        refine v_iload_n 5 dX7_angle_53 rfl rfl ?_
        refine v_iload_n 3 dX7_angle_54 rfl rfl ?_
        refine v_iconst (v := 1) dX7_angle_55 (by first | rfl | decide) ?_
        refine v_iload 0 dX7_angle_56 rfl ?_
        refine v_callS (c_X7_with (d + 3) ) cs_X7_177 dX7_angle_58 rfl rfl (Nat.le_of_ble_eq_true rfl) ?_
        refine rt_k ?_
        rw [wit_an]
        refine v_iast dX7_angle_61 h62 (nI_in' (by omega)) ?_
        rw [clamp (show n < 2 ^ 31 by omega)]
        refine v_aload_n 4 dX7_angle_62 rfl rfl ?_
        refine v_aload_n 4 dX7_angle_63 rfl rfl ?_
        refine v_get fl_X7_91 dX7_angle_64 (up_n (by decide) h60) rfl ?_
        refine v_callV (c_X7_behind d (up_n (by decide) h60) (up_s _ _ _) (hpl.set2 hq (angC ((sP σ).getD n 0) a)) (by rw [List.length_set]; exact hl8) (set_vc hw.2 (ang_vc (hw.at hn9) (by omega))) (by rw [List.length_set]; exact Nat.le_refl _) (up_n (by decide) h61) (up_n (by decide) h63) heb) cs_X7_195 dX7_angle_67 (up_n (by decide) h60) rfl rfl (Nat.le_of_ble_eq_true rfl) ?_
        refine rt_k ?_
        rw [set_inst hn9]
        have hL : Eb 1000 (inst σ n (angC ((sP σ).getD n 0) a)) := inst_e heb hw n _
        have hM0 := angA_s σ n a
        generalize hL9 : inst σ n (angC ((sP σ).getD n 0) a) = L at hL hM0 ⊢
        refine v_aload_n 4 dX7_angle_70 rfl rfl ?_
        refine v_callV (c_X7_sees (d + 3) (up_n (by decide) (up_n (by decide) h60)) (up_s _ _ _) (up_n (by decide) (up_n (by decide) h65)) (up_n (by decide) (up_n (by decide) h66)) hs (by omega)) cs_X7_245 dX7_angle_71 (up_n (by decide) (up_n (by decide) h60)) rfl rfl (Nat.le_of_ble_eq_true rfl) ?_
        rintro _ _ ⟨rfl, s2, t2, rfl, hs2⟩
        refine v_iload 0 dX7_angle_74 rfl ?_
        refine v_if_eq (tgt := 109) dX7_angle_76 (by decide) (fun hc76 => ?_) (fun hc76 => ?_)
        · exact absurd ((nI_eq (b := 0) (by omega) (by decide)).mp hc76) ha0
        ·
          refine v_aload_n 4 dX7_angle_79 rfl rfl ?_
          refine v_get fl_X7_21 dX7_angle_80 (up_s _ _ _) rfl ?_
          refine v_iconst (v := 0) dX7_angle_83 (by first | rfl | decide) ?_
          refine v_lald dX7_angle_84 (up_n (by decide) (up_n (by decide) (up_n (by decide) (up_s _ _ _)))) (nI_in' (k := 0) (by decide)) ?_
          refine v_aload_n 4 dX7_angle_85 rfl rfl ?_
          refine v_get fl_X7_21 dX7_angle_86 (up_s _ _ _) rfl ?_
          refine v_iconst (v := 4) dX7_angle_89 (by first | rfl | decide) ?_
          refine v_lald dX7_angle_90 (up_n (by decide) (up_n (by decide) (up_n (by decide) (up_s _ _ _)))) (nI_in' (k := 4) (by decide)) ?_
          refine v_aload_n 4 dX7_angle_91 rfl rfl ?_
          refine v_get fl_X7_36 dX7_angle_92 (up_s _ _ _) rfl ?_
          refine v_iconst (v := 0) dX7_angle_95 (by first | rfl | decide) ?_
          refine v_lald dX7_angle_96 (up_n (by decide) (up_n (by decide) (up_n (by decide) (up_n (by decide) (up_n (by decide) h68))))) (nI_in' (k := 0) (by decide)) ?_
          refine v_aload_n 4 dX7_angle_97 rfl rfl ?_
          refine v_get fl_X7_36 dX7_angle_98 (up_s _ _ _) rfl ?_
          refine v_iconst (v := 4) dX7_angle_101 (by first | rfl | decide) ?_
          refine v_lald dX7_angle_102 (up_n (by decide) (up_n (by decide) (up_n (by decide) (up_n (by decide) (up_n (by decide) h68))))) (nI_in' (k := 4) (by decide)) ?_
          refine v_callS (c_X7_compared (d + 4) (L := L) (K := (angA σ n a).2.2.1) hL hE8) cs_X7_252 dX7_angle_103 rfl rfl (Nat.le_of_ble_eq_true rfl) ?_
          refine rt_k ?_
          refine v_if_le (tgt := 127) dX7_angle_106 (by decide) (fun hc106 => ?_) (fun hc106 => ?_)
          ·
            refine v_iload 0 dX7_angle_127 rfl ?_
            refine v_if_eq (tgt := 162) dX7_angle_129 (by decide) (fun hc129 => ?_) (fun hc129 => ?_)
            · exact absurd ((nI_eq (b := 0) (by omega) (by decide)).mp hc129) ha0
            ·
              refine v_aload_n 4 dX7_angle_132 rfl rfl ?_
              refine v_get fl_X7_21 dX7_angle_133 (up_s _ _ _) rfl ?_
              refine v_iconst (v := 0) dX7_angle_136 (by first | rfl | decide) ?_
              refine v_lald dX7_angle_137 (up_n (by decide) (up_n (by decide) (up_n (by decide) (up_s _ _ _)))) (nI_in' (k := 0) (by decide)) ?_
              refine v_aload_n 4 dX7_angle_138 rfl rfl ?_
              refine v_get fl_X7_21 dX7_angle_139 (up_s _ _ _) rfl ?_
              refine v_iconst (v := 4) dX7_angle_142 (by first | rfl | decide) ?_
              refine v_lald dX7_angle_143 (up_n (by decide) (up_n (by decide) (up_n (by decide) (up_s _ _ _)))) (nI_in' (k := 4) (by decide)) ?_
              refine v_aload_n 4 dX7_angle_144 rfl rfl ?_
              refine v_get fl_X7_33 dX7_angle_145 (up_s _ _ _) rfl ?_
              refine v_iconst (v := 0) dX7_angle_148 (by first | rfl | decide) ?_
              refine v_lald dX7_angle_149 (up_n (by decide) (up_n (by decide) (up_n (by decide) (up_n (by decide) (up_n (by decide) h67))))) (nI_in' (k := 0) (by decide)) ?_
              refine v_aload_n 4 dX7_angle_150 rfl rfl ?_
              refine v_get fl_X7_33 dX7_angle_151 (up_s _ _ _) rfl ?_
              refine v_iconst (v := 4) dX7_angle_154 (by first | rfl | decide) ?_
              refine v_lald dX7_angle_155 (up_n (by decide) (up_n (by decide) (up_n (by decide) (up_n (by decide) (up_n (by decide) h67))))) (nI_in' (k := 4) (by decide)) ?_
              refine v_callS (c_X7_compared (d + 4) (L := L) (K := (angA σ n a).2.1.1) hL hE7) cs_X7_252 dX7_angle_156 rfl rfl (Nat.le_of_ble_eq_true rfl) ?_
              refine rt_k ?_
              refine v_if_ge (tgt := 180) dX7_angle_159 (by decide) (fun hc159 => ?_) (fun hc159 => ?_)
              ·
                refine v_iinc (v := 1) 0 dX7_angle_180 rfl rfl (by decide) (fun z e_z => ?_)
                refine v_ls (ls' := [(6, .int z), (5, .int (angA σ n a).2.1.2), (4, .int (angA σ n a).2.2.2), (3, .int ((sP σ).getD n 0)), (0, .ref 60), (1, .int (nI n)), (2, .int w)]) rfl ?_
                rw [nI_1] at e_z
                subst e_z
                refine v_goto (tgt := 43) dX7_angle_183 (by decide) ?_
                have hM : meetO (angA σ n a) (L, nI a) = (remO L (angA σ n a).1, (angA σ n a).2.1, (angA σ n a).2.2) := by simp only [meetO, if_neg hne9, if_neg (Int32.not_lt.mpr hc159), if_neg (Int32.not_lt.mpr hc106)]
                rw [hM] at hM0
                refine v_pick [0, 1, 2, 3, 4, 5, 6] rfl ?_
                have IH1 := ih (a + 1)
                rw [hM0] at IH1
                refine IH1 _ _ (by omega) ⟨s2, t2, _, _, _, (up_s _ _ _), (up_n (by decide) (up_n (by decide) (up_n (by decide) (up_s _ _ _)))), (up_n (by decide) (up_n (by decide) (up_s _ _ _))), (up_n (by decide) (up_s _ _ _)), (up_n (by decide) (up_n (by decide) (up_n (by decide) (up_n (by decide) (up_n (by decide) h67))))), (up_n (by decide) (up_n (by decide) (up_n (by decide) (up_n (by decide) (up_n (by decide) h68))))), hs2, Or.inr ⟨by omega, rfl, rfl, hE7, hE8⟩⟩ ((up_n (by decide) (up_n (by decide) (up_n (by decide) (up_n (by decide) (up_s _ _ _)))))) (upd_o hq) (fun i hi => ?_)
                refine Eq.trans ?_ (hf i hi)
                repeat (first | rfl | refine up_n (by omega) ?_)
                
              ·
                refine v_iload 0 dX7_angle_162 rfl ?_
                refine v_istore dX7_angle_164 (by decide) (fun y5 e_y5 => ?_)
                refine v_ls (ls' := [(5, .int y5), (6, .int (nI a)), (4, .int (angA σ n a).2.2.2), (3, .int ((sP σ).getD n 0)), (0, .ref 60), (1, .int (nI n)), (2, .int w)]) rfl ?_
                subst e_y5
                refine v_aload_n 4 dX7_angle_166 rfl rfl ?_
                refine v_get fl_X7_21 dX7_angle_167 (up_s _ _ _) rfl ?_
                refine v_iconst (v := 0) dX7_angle_170 (by first | rfl | decide) ?_
                refine v_aload_n 4 dX7_angle_171 rfl rfl ?_
                refine v_get fl_X7_33 dX7_angle_172 (up_s _ _ _) rfl ?_
                refine v_iconst (v := 0) dX7_angle_175 (by first | rfl | decide) ?_
                refine v_iconst (v := 5) dX7_angle_176 (by first | rfl | decide) ?_
                refine v_copyl cs_X7_140 dX7_angle_177 (up_n (by decide) (up_n (by decide) (up_n (by decide) (up_s _ _ _)))) (up_n (by decide) (up_n (by decide) (up_n (by decide) (up_n (by decide) (up_n (by decide) h67))))) rfl rfl (by decide) (by decide) (by decide) (by decide) (by decide) (fun i _ => rfl) (Nat.le_of_ble_eq_true rfl) ?_
                refine v_njJ (g := lvO L) (fun x hx => ?_) ?_
                · show va_cpy (lvO L) _ 0 0 5 x = lvO L x
                  unfold va_cpy
                  rw [if_pos (by omega)]
                  simp
                refine v_iinc (v := 1) 1 dX7_angle_180 rfl rfl (by decide) (fun z e_z => ?_)
                refine v_ls (ls' := [(6, .int z), (5, .int (nI a)), (4, .int (angA σ n a).2.2.2), (3, .int ((sP σ).getD n 0)), (0, .ref 60), (1, .int (nI n)), (2, .int w)]) rfl ?_
                rw [nI_1] at e_z
                subst e_z
                refine v_goto (tgt := 43) dX7_angle_183 (by decide) ?_
                have hM : meetO (angA σ n a) (L, nI a) = (remO L (angA σ n a).1, (L, nI a), (angA σ n a).2.2) := by simp only [meetO, if_neg hne9, if_pos (Int32.not_le.mp hc159), if_neg (Int32.not_lt.mpr hc106)]
                rw [hM] at hM0
                refine v_pick [0, 1, 2, 3, 4, 5, 6] rfl ?_
                have IH1 := ih (a + 1)
                rw [hM0] at IH1
                refine IH1 _ _ (by omega) ⟨s2, t2, _, _, _, (up_n (by decide) (up_s _ _ _)), (up_n (by decide) (up_n (by decide) (up_n (by decide) (up_n (by decide) (up_s _ _ _))))), (up_n (by decide) (up_n (by decide) (up_n (by decide) (up_s _ _ _)))), (up_n (by decide) (up_n (by decide) (up_s _ _ _))), (up_s _ _ _), (up_n (by decide) (up_n (by decide) (up_n (by decide) (up_n (by decide) (up_n (by decide) (up_n (by decide) h68)))))), hs2, Or.inr ⟨by omega, rfl, rfl, hL, hE8⟩⟩ ((up_n (by decide) (up_n (by decide) (up_n (by decide) (up_n (by decide) (up_n (by decide) (up_s _ _ _))))))) (upd_o hq) (fun i hi => ?_)
                refine Eq.trans ?_ (hf i hi)
                repeat (first | rfl | refine up_n (by omega) ?_)
                
          ·
            refine v_iload 0 dX7_angle_109 rfl ?_
            refine v_istore dX7_angle_111 (by decide) (fun y4 e_y4 => ?_)
            refine v_ls (ls' := [(4, .int y4), (6, .int (nI a)), (5, .int (angA σ n a).2.1.2), (3, .int ((sP σ).getD n 0)), (0, .ref 60), (1, .int (nI n)), (2, .int w)]) rfl ?_
            subst e_y4
            refine v_aload_n 4 dX7_angle_113 rfl rfl ?_
            refine v_get fl_X7_21 dX7_angle_114 (up_s _ _ _) rfl ?_
            refine v_iconst (v := 0) dX7_angle_117 (by first | rfl | decide) ?_
            refine v_aload_n 4 dX7_angle_118 rfl rfl ?_
            refine v_get fl_X7_36 dX7_angle_119 (up_s _ _ _) rfl ?_
            refine v_iconst (v := 0) dX7_angle_122 (by first | rfl | decide) ?_
            refine v_iconst (v := 5) dX7_angle_123 (by first | rfl | decide) ?_
            refine v_copyl cs_X7_140 dX7_angle_124 (up_n (by decide) (up_n (by decide) (up_n (by decide) (up_s _ _ _)))) (up_n (by decide) (up_n (by decide) (up_n (by decide) (up_n (by decide) (up_n (by decide) h68))))) rfl rfl (by decide) (by decide) (by decide) (by decide) (by decide) (fun i _ => rfl) (Nat.le_of_ble_eq_true rfl) ?_
            refine v_njJ (g := lvO L) (fun x hx => ?_) ?_
            · show va_cpy (lvO L) _ 0 0 5 x = lvO L x
              unfold va_cpy
              rw [if_pos (by omega)]
              simp
            refine v_iload 1 dX7_angle_127 rfl ?_
            refine v_if_eq (tgt := 162) dX7_angle_129 (by decide) (fun hc129 => ?_) (fun hc129 => ?_)
            · exact absurd ((nI_eq (b := 0) (by omega) (by decide)).mp hc129) ha0
            ·
              refine v_aload_n 4 dX7_angle_132 rfl rfl ?_
              refine v_get fl_X7_21 dX7_angle_133 (up_n (by decide) (up_s _ _ _)) rfl ?_
              refine v_iconst (v := 0) dX7_angle_136 (by first | rfl | decide) ?_
              refine v_lald dX7_angle_137 (up_n (by decide) (up_n (by decide) (up_n (by decide) (up_n (by decide) (up_s _ _ _))))) (nI_in' (k := 0) (by decide)) ?_
              refine v_aload_n 4 dX7_angle_138 rfl rfl ?_
              refine v_get fl_X7_21 dX7_angle_139 (up_n (by decide) (up_s _ _ _)) rfl ?_
              refine v_iconst (v := 4) dX7_angle_142 (by first | rfl | decide) ?_
              refine v_lald dX7_angle_143 (up_n (by decide) (up_n (by decide) (up_n (by decide) (up_n (by decide) (up_s _ _ _))))) (nI_in' (k := 4) (by decide)) ?_
              refine v_aload_n 4 dX7_angle_144 rfl rfl ?_
              refine v_get fl_X7_33 dX7_angle_145 (up_n (by decide) (up_s _ _ _)) rfl ?_
              refine v_iconst (v := 0) dX7_angle_148 (by first | rfl | decide) ?_
              refine v_lald dX7_angle_149 (up_n (by decide) (up_n (by decide) (up_n (by decide) (up_n (by decide) (up_n (by decide) (up_n (by decide) h67)))))) (nI_in' (k := 0) (by decide)) ?_
              refine v_aload_n 4 dX7_angle_150 rfl rfl ?_
              refine v_get fl_X7_33 dX7_angle_151 (up_n (by decide) (up_s _ _ _)) rfl ?_
              refine v_iconst (v := 4) dX7_angle_154 (by first | rfl | decide) ?_
              refine v_lald dX7_angle_155 (up_n (by decide) (up_n (by decide) (up_n (by decide) (up_n (by decide) (up_n (by decide) (up_n (by decide) h67)))))) (nI_in' (k := 4) (by decide)) ?_
              refine v_callS (c_X7_compared (d + 4) (L := L) (K := (angA σ n a).2.1.1) hL hE7) cs_X7_252 dX7_angle_156 rfl rfl (Nat.le_of_ble_eq_true rfl) ?_
              refine rt_k ?_
              refine v_if_ge (tgt := 180) dX7_angle_159 (by decide) (fun hc159 => ?_) (fun hc159 => ?_)
              ·
                refine v_iinc (v := 1) 1 dX7_angle_180 rfl rfl (by decide) (fun z e_z => ?_)
                refine v_ls (ls' := [(6, .int z), (4, .int (nI a)), (5, .int (angA σ n a).2.1.2), (3, .int ((sP σ).getD n 0)), (0, .ref 60), (1, .int (nI n)), (2, .int w)]) rfl ?_
                rw [nI_1] at e_z
                subst e_z
                refine v_goto (tgt := 43) dX7_angle_183 (by decide) ?_
                have hM : meetO (angA σ n a) (L, nI a) = (remO L (angA σ n a).1, (angA σ n a).2.1, (L, nI a)) := by simp only [meetO, if_neg hne9, if_neg (Int32.not_lt.mpr hc159), if_pos (Int32.not_le.mp hc106)]
                rw [hM] at hM0
                refine v_pick [0, 2, 1, 3, 4, 5, 6] rfl ?_
                have IH1 := ih (a + 1)
                rw [hM0] at IH1
                refine IH1 _ _ (by omega) ⟨s2, t2, _, _, _, (up_n (by decide) (up_s _ _ _)), (up_n (by decide) (up_n (by decide) (up_n (by decide) (up_n (by decide) (up_s _ _ _))))), (up_n (by decide) (up_n (by decide) (up_n (by decide) (up_s _ _ _)))), (up_n (by decide) (up_n (by decide) (up_s _ _ _))), (up_n (by decide) (up_n (by decide) (up_n (by decide) (up_n (by decide) (up_n (by decide) (up_n (by decide) h67)))))), (up_s _ _ _), hs2, Or.inr ⟨by omega, rfl, rfl, hE7, hL⟩⟩ ((up_n (by decide) (up_n (by decide) (up_n (by decide) (up_n (by decide) (up_n (by decide) (up_s _ _ _))))))) (upd_o hq) (fun i hi => ?_)
                refine Eq.trans ?_ (hf i hi)
                repeat (first | rfl | refine up_n (by omega) ?_)
                
              ·
                refine v_iload 1 dX7_angle_162 rfl ?_
                refine v_istore dX7_angle_164 (by decide) (fun y5 e_y5 => ?_)
                refine v_ls (ls' := [(5, .int y5), (4, .int (nI a)), (6, .int (nI a)), (3, .int ((sP σ).getD n 0)), (0, .ref 60), (1, .int (nI n)), (2, .int w)]) rfl ?_
                subst e_y5
                refine v_aload_n 4 dX7_angle_166 rfl rfl ?_
                refine v_get fl_X7_21 dX7_angle_167 (up_n (by decide) (up_s _ _ _)) rfl ?_
                refine v_iconst (v := 0) dX7_angle_170 (by first | rfl | decide) ?_
                refine v_aload_n 4 dX7_angle_171 rfl rfl ?_
                refine v_get fl_X7_33 dX7_angle_172 (up_n (by decide) (up_s _ _ _)) rfl ?_
                refine v_iconst (v := 0) dX7_angle_175 (by first | rfl | decide) ?_
                refine v_iconst (v := 5) dX7_angle_176 (by first | rfl | decide) ?_
                refine v_copyl cs_X7_140 dX7_angle_177 (up_n (by decide) (up_n (by decide) (up_n (by decide) (up_n (by decide) (up_s _ _ _))))) (up_n (by decide) (up_n (by decide) (up_n (by decide) (up_n (by decide) (up_n (by decide) (up_n (by decide) h67)))))) rfl rfl (by decide) (by decide) (by decide) (by decide) (by decide) (fun i _ => rfl) (Nat.le_of_ble_eq_true rfl) ?_
                refine v_njJ (g := lvO L) (fun x hx => ?_) ?_
                · show va_cpy (lvO L) _ 0 0 5 x = lvO L x
                  unfold va_cpy
                  rw [if_pos (by omega)]
                  simp
                refine v_iinc (v := 1) 2 dX7_angle_180 rfl rfl (by decide) (fun z e_z => ?_)
                refine v_ls (ls' := [(6, .int z), (5, .int (nI a)), (4, .int (nI a)), (3, .int ((sP σ).getD n 0)), (0, .ref 60), (1, .int (nI n)), (2, .int w)]) rfl ?_
                rw [nI_1] at e_z
                subst e_z
                refine v_goto (tgt := 43) dX7_angle_183 (by decide) ?_
                have hM : meetO (angA σ n a) (L, nI a) = (remO L (angA σ n a).1, (L, nI a), (L, nI a)) := by simp only [meetO, if_neg hne9, if_pos (Int32.not_le.mp hc159), if_pos (Int32.not_le.mp hc106)]
                rw [hM] at hM0
                refine v_pick [0, 1, 2, 3, 4, 5, 6] rfl ?_
                have IH1 := ih (a + 1)
                rw [hM0] at IH1
                refine IH1 _ _ (by omega) ⟨s2, t2, _, _, _, (up_n (by decide) (up_n (by decide) (up_s _ _ _))), (up_n (by decide) (up_n (by decide) (up_n (by decide) (up_n (by decide) (up_n (by decide) (up_s _ _ _)))))), (up_n (by decide) (up_n (by decide) (up_n (by decide) (up_n (by decide) (up_s _ _ _))))), (up_n (by decide) (up_n (by decide) (up_n (by decide) (up_s _ _ _)))), (up_s _ _ _), (up_n (by decide) (up_s _ _ _)), hs2, Or.inr ⟨by omega, rfl, rfl, hL, hL⟩⟩ ((up_n (by decide) (up_n (by decide) (up_n (by decide) (up_n (by decide) (up_n (by decide) (up_n (by decide) (up_s _ _ _)))))))) (upd_o hq) (fun i hi => ?_)
                refine Eq.trans ?_ (hf i hi)
                repeat (first | rfl | refine up_n (by omega) ?_)
                

set_option maxRecDepth 20000 in
set_option maxHeartbeats 4000000 in
theorem c_X7_angle {G : Cx} (d : Nat) {μ : Hp} {σ : ST} {i : Int32} {w : Int32} (h : Mo σ μ) (hw : Wp (sP σ)) (heb : Eb 100 (sM σ)) : Ct G (d + 5) 0 0 M_X7_angle [.ref 60, .int i, .int w] μ (Pm (σ) (.int (rAngle σ i w)) μ) := by
  refine Ct.ofV (by decide +kernel) (Nat.le_of_ble_eq_true rfl) ?_
  refine v_ls (ls' := [(0, .ref 60), (1, .int i), (2, .int w)]) rfl ?_
  obtain ⟨co, wh, un, lr, mr, hr, at9, fa, op, sg, hm, p, tt, ro, og, tc, op9, sp, nw, se, le, mo, ot, h60, h61, h62, h63, h64, h65, h66, h67, h68, h69, h70, h71, h72, h73, h74, h75, h76, h77, h78, h79, h80, hmk, hpl, htp, ht60⟩ := id h
  have hl8 := hw.1
  refine v_aload_n 0 dX7_angle_0 rfl rfl ?_
  refine v_iload_n 1 dX7_angle_1 rfl rfl ?_
  refine v_callV (c_X7_isFilter (d + 3) h60 (by omega)) cs_X7_169 dX7_angle_2 h60 rfl rfl (Nat.le_of_ble_eq_true rfl) ?_
  refine rt_k ?_
  refine v_if_eq (tgt := 20) dX7_angle_5 (by decide) (fun hc5 => ?_) (fun hc5 => ?_)
  ·
    refine v_iconst (v := -1) dX7_angle_20 (by first | rfl | decide) ?_
    refine v_iret dX7_angle_21 rfl (by first | rfl | decide | exact nar_b (by first | assumption | rfl)) ?_
    have hE : rAngle σ i w = -1 := by
      first
        | (simp only [rAngle, if_pos hc5]; done)
        | (grind [rAngle]; done)
    rw [hE]
    exact ⟨rfl, h, Fp.rf μ⟩
  ·
    refine v_iload_n 2 dX7_angle_8 rfl rfl ?_
    refine v_i2l dX7_angle_9 ?_
    refine v_lconst (v := 0) dX7_angle_10 (by first | rfl | decide) ?_
    refine v_ldc2 kc_X7_99 dX7_angle_11 ?_
    refine v_callS (c_X7_inL (d + 4) 2 3 2 (by decide) rfl rfl) cs_X7_95 dX7_angle_14 rfl rfl (Nat.le_of_ble_eq_true rfl) ?_
    refine rt_k ?_
    refine v_if_ne (tgt := 22) dX7_angle_17 (by decide) (fun hc17 => ?_) (fun hc17 => ?_)
    ·
      obtain ⟨n, hn9, rfl⟩ := in_ix (by omega) hc5
      have hcn : (nI n).toNatClampNeg = n := clamp (by omega)
      refine v_aload_n 0 dX7_angle_22 rfl rfl ?_
      refine v_get fl_X7_17 dX7_angle_23 h60 rfl ?_
      refine v_iload_n 1 dX7_angle_26 rfl rfl ?_
      refine v_iald dX7_angle_27 h62 (nI_in' (by omega)) ?_
      refine v_istore_n dX7_angle_28 rfl (by decide) (fun y3 e_y3 => ?_)
      refine v_ls (ls' := [(3, .int y3), (0, .ref 60), (1, .int (nI n)), (2, .int w)]) rfl ?_
      rw [hcn, ← getD_at hpl hn9] at e_y3
      subst e_y3
      refine v_iconst (v := 0) dX7_angle_29 (by first | rfl | decide) ?_
      refine v_istore dX7_angle_30 (by decide) (fun y4 e_y4 => ?_)
      refine v_ls (ls' := [(4, .int y4), (3, .int ((sP σ).getD n 0)), (0, .ref 60), (1, .int (nI n)), (2, .int w)]) rfl ?_
      subst e_y4
      refine v_iconst (v := 0) dX7_angle_32 (by first | rfl | decide) ?_
      refine v_istore dX7_angle_33 (by decide) (fun y5 e_y5 => ?_)
      refine v_ls (ls' := [(5, .int y5), (4, .int (0)), (3, .int ((sP σ).getD n 0)), (0, .ref 60), (1, .int (nI n)), (2, .int w)]) rfl ?_
      subst e_y5
      refine v_aload_n 3 dX7_angle_35 rfl rfl ?_
      refine v_iconst (v := 0) dX7_angle_36 (by first | rfl | decide) ?_
      refine v_put fp_X7_235 dX7_angle_37 h60 (Nat.le_of_ble_eq_true rfl) (by first | rfl | decide) (by first | rfl | decide) ?_
      refine v_iconst (v := 0) dX7_angle_40 (by first | rfl | decide) ?_
      refine v_istore dX7_angle_41 (by decide) (fun y6 e_y6 => ?_)
      refine v_ls (ls' := [(6, .int y6), (5, .int (0)), (4, .int (0)), (3, .int ((sP σ).getD n 0)), (0, .ref 60), (1, .int (nI n)), (2, .int w)]) rfl ?_
      subst e_y6
      exact ang7_loop d h hw heb hn9 hc17 h61 h64 h69 h70 h71 h72 h73 h74 h75 h76 h77 h78 h79 h80 hmk hpl htp ht60 4 0 p _ (by omega) ⟨_, _, _, _, _, up_s _ _ _, up_n (by decide) h63, up_n (by decide) h65, up_n (by decide) h66, up_n (by decide) h67, up_n (by decide) h68, fun j _ _ hj => by simp [angA, angL] at hj, Or.inl rfl⟩ (up_n (by decide) h62) (fun _ _ => rfl) (fun i hi => up_n (by omega) rfl)
      
    ·
      refine v_iconst (v := -1) dX7_angle_20 (by first | rfl | decide) ?_
      refine v_iret dX7_angle_21 rfl (by first | rfl | decide | exact nar_b (by first | assumption | rfl)) ?_
      have hE : rAngle σ i w = -1 := by
        first
          | (simp only [rAngle, if_neg hc5, if_pos hc17]; done)
          | (grind [rAngle]; done)
      rw [hE]
      exact ⟨rfl, h, Fp.rf μ⟩

