abbrev OC : Type := List (LT × Nat) × (LT × Int32) × (LT × Int32)
def meetO (c : OC) (x : LT × Int32) : OC := (remO x.1 c.1, if nI c.1.length = 0 then x else if cmpI x.1 c.2.1.1 < 0 then x else c.2.1, if nI c.1.length = 0 then x else if 0 < cmpI x.1 c.2.2.1 then x else c.2.2)
def Oc (c : OC) (μ : Hp) : Prop := ∃ s t, μ 32 = some (outC c.2.1.2 c.2.2.2 (nI c.1.length)) ∧ μ 33 = some (ligL c.2.1.1) ∧ μ 34 = some (ligL c.2.2.1) ∧ μ 35 = some (arJ 600 s) ∧ μ 36 = some (arI 120 t) ∧ Sn c.1 s t
theorem Oc.kept {c : OC} {μ μ' : Hp} (h : Oc c μ) (hf : ∀ i, 32 ≤ i → i ≤ 36 → μ' i = μ i) : Oc c μ' := by
  obtain ⟨s, t, h1, h2, h3, h4, h5, h6⟩ := h
  exact ⟨s, t, (hf 32 (by omega) (by omega)).trans h1, (hf 33 (by omega) (by omega)).trans h2, (hf 34 (by omega) (by omega)).trans h3, (hf 35 (by omega) (by omega)).trans h4, (hf 36 (by omega) (by omega)).trans h5, h6⟩
set_option maxRecDepth 20000 in
set_option maxHeartbeats 4000000 in
theorem c_X3_meet {G : Cx} (d : Nat) {μ : Hp} {c : OC} {a : Nat} {L : LT} {k : Int32} (hc : Oc c μ) (ha : μ a = some (ligL L)) (hlen : c.1.length < 120) (na : a < 32 ∨ 36 < a) : Ct G (d + 3) 0 0 M_X3_meet [.ref 32, .ref a, .int k] μ (fun r μ' => r = none ∧ Oc (meetO c (L, k)) μ' ∧ ∀ i, i < 32 ∨ 36 < i → μ' i = μ i) := by
  refine Ct.ofV (by decide +kernel) (Nat.le_of_ble_eq_true rfl) ?_
  refine v_ls (ls' := [(0, .ref 32), (1, .ref a), (2, .int k)]) rfl ?_
  obtain ⟨s, t, h32, h33, h34, h35, h36, hs⟩ := hc
  refine v_aload_n 0 dX3_meet_0 rfl rfl ?_
  refine v_get fl_X3_29 dX3_meet_1 h32 rfl ?_
  refine v_if_ne (tgt := 11) dX3_meet_4 (by decide) (fun c4 => ?_) (fun c4 => ?_)
  ·
    refine v_iconst (v := 0) dX3_meet_11 (by first | rfl | decide) ?_
    refine v_istore_n dX3_meet_12 rfl (by decide) (fun x3 e_x3 => ?_)
    refine v_ls (ls' := [(3, .int x3), (0, .ref 32), (1, .ref a), (2, .int k)]) rfl ?_
    subst e_x3
    refine v_iload_n 0 dX3_meet_13 rfl rfl ?_
    refine v_if_ne (tgt := 28) dX3_meet_14 (by decide) (fun c14 => ?_) (fun c14 => ?_)
    · exact absurd c14 (by decide)
    ·
      refine v_aload_n 2 dX3_meet_17 rfl rfl ?_
      refine v_aload_n 1 dX3_meet_18 rfl rfl ?_
      refine v_get fl_X3_12 dX3_meet_19 h32 rfl ?_
      refine v_callV (c_X1_compareI (d + 1) ha h33) cs_X3_33 dX3_meet_22 ha rfl rfl (Nat.le_of_ble_eq_true rfl) ?_
      refine rt_k ?_
      refine v_if_ge (tgt := 41) dX3_meet_25 (by decide) (fun c25 => ?_) (fun c25 => ?_)
      ·
        refine v_iload_n 0 dX3_meet_41 rfl rfl ?_
        refine v_if_ne (tgt := 56) dX3_meet_42 (by decide) (fun c42 => ?_) (fun c42 => ?_)
        · exact absurd c42 (by decide)
        ·
          refine v_aload_n 2 dX3_meet_45 rfl rfl ?_
          refine v_aload_n 1 dX3_meet_46 rfl rfl ?_
          refine v_get fl_X3_18 dX3_meet_47 h32 rfl ?_
          refine v_callV (c_X1_compareI (d + 1) ha h34) cs_X3_33 dX3_meet_50 ha rfl rfl (Nat.le_of_ble_eq_true rfl) ?_
          refine rt_k ?_
          refine v_if_le (tgt := 69) dX3_meet_53 (by decide) (fun c53 => ?_) (fun c53 => ?_)
          ·
            refine v_aload_n 1 dX3_meet_69 rfl rfl ?_
            refine v_aload_n 2 dX3_meet_70 rfl rfl ?_
            refine v_callV (c_X3_remember d h32 h35 h36 ha hs hlen (by omega) (by omega) (by omega)) cs_X3_47 dX3_meet_71 h32 rfl rfl (Nat.le_of_ble_eq_true rfl) ?_
            rintro _ m ⟨rfl, s', t', hm, hsn⟩
            refine v_vret dX3_meet_74 rfl ?_
            refine ⟨rfl, ⟨s', t', ?_, ?_, ?_, ?_, ?_, ?_⟩, fun i hi => ?_⟩
            · rw [hm, up_s]; simp only [meetO, if_neg c4, if_pos c14, if_pos c25, if_neg (Int32.not_lt.mpr c25), if_pos c42, if_pos c53, if_neg (Int32.not_lt.mpr c53)]
            · rw [hm]; simp only [meetO, if_neg c4, if_pos c14, if_pos c25, if_neg (Int32.not_lt.mpr c25), if_pos c42, if_pos c53, if_neg (Int32.not_lt.mpr c53)]; repeat (first | assumption | exact up_s _ _ _ | refine up_n (by first | decide | omega | assumption) ?_)
            · rw [hm]; simp only [meetO, if_neg c4, if_pos c14, if_pos c25, if_neg (Int32.not_lt.mpr c25), if_pos c42, if_pos c53, if_neg (Int32.not_lt.mpr c53)]; repeat (first | assumption | exact up_s _ _ _ | refine up_n (by first | decide | omega | assumption) ?_)
            · rw [hm]; repeat (first | assumption | exact up_s _ _ _ | refine up_n (by first | decide | omega | assumption) ?_)
            · rw [hm]; repeat (first | assumption | exact up_s _ _ _ | refine up_n (by first | decide | omega | assumption) ?_)
            · exact hsn
            · rw [hm]; repeat (first | rfl | refine up_n (by omega) ?_)
          ·
            refine v_aload_n 1 dX3_meet_56 rfl rfl ?_
            refine v_get fl_X3_18 dX3_meet_57 h32 rfl ?_
            refine v_aload_n 2 dX3_meet_60 rfl rfl ?_
            refine v_callV (c_X1_takeFrom (d + 1) h34 ha) cs_X3_37 dX3_meet_61 h34 rfl rfl (Nat.le_of_ble_eq_true rfl) ?_
            refine rt_k ?_
            refine v_aload_n 1 dX3_meet_64 rfl rfl ?_
            refine v_iload_n 3 dX3_meet_65 rfl rfl ?_
            refine v_put fp_X3_44 dX3_meet_66 (up_n (by decide) h32) (Nat.le_of_ble_eq_true rfl) (by first | rfl | decide) (by first | rfl | decide) ?_
            refine v_aload_n 1 dX3_meet_69 rfl rfl ?_
            refine v_aload_n 2 dX3_meet_70 rfl rfl ?_
            refine v_callV (c_X3_remember d (up_s _ _ _) (up_n (by decide) (up_n (by decide) h35)) (up_n (by decide) (up_n (by decide) h36)) (up_n (show a ≠ 32 by omega) (up_n (show a ≠ 34 by omega) ha)) hs hlen (by omega) (by omega) (by omega)) cs_X3_47 dX3_meet_71 (up_s _ _ _) rfl rfl (Nat.le_of_ble_eq_true rfl) ?_
            rintro _ m ⟨rfl, s', t', hm, hsn⟩
            refine v_vret dX3_meet_74 rfl ?_
            refine ⟨rfl, ⟨s', t', ?_, ?_, ?_, ?_, ?_, ?_⟩, fun i hi => ?_⟩
            · rw [hm, up_s]; simp only [meetO, if_neg c4, if_pos c14, if_pos c25, if_neg (Int32.not_lt.mpr c25), if_pos c42, if_neg c53, if_pos (Int32.not_le.mp c53)]
            · rw [hm]; simp only [meetO, if_neg c4, if_pos c14, if_pos c25, if_neg (Int32.not_lt.mpr c25), if_pos c42, if_neg c53, if_pos (Int32.not_le.mp c53)]; repeat (first | assumption | exact up_s _ _ _ | refine up_n (by first | decide | omega | assumption) ?_)
            · rw [hm]; simp only [meetO, if_neg c4, if_pos c14, if_pos c25, if_neg (Int32.not_lt.mpr c25), if_pos c42, if_neg c53, if_pos (Int32.not_le.mp c53)]; repeat (first | assumption | exact up_s _ _ _ | refine up_n (by first | decide | omega | assumption) ?_)
            · rw [hm]; repeat (first | assumption | exact up_s _ _ _ | refine up_n (by first | decide | omega | assumption) ?_)
            · rw [hm]; repeat (first | assumption | exact up_s _ _ _ | refine up_n (by first | decide | omega | assumption) ?_)
            · exact hsn
            · rw [hm]; repeat (first | rfl | refine up_n (by omega) ?_)
      ·
        refine v_aload_n 1 dX3_meet_28 rfl rfl ?_
        refine v_get fl_X3_12 dX3_meet_29 h32 rfl ?_
        refine v_aload_n 2 dX3_meet_32 rfl rfl ?_
        refine v_callV (c_X1_takeFrom (d + 1) h33 ha) cs_X3_37 dX3_meet_33 h33 rfl rfl (Nat.le_of_ble_eq_true rfl) ?_
        refine rt_k ?_
        refine v_aload_n 1 dX3_meet_36 rfl rfl ?_
        refine v_iload_n 3 dX3_meet_37 rfl rfl ?_
        refine v_put fp_X3_41 dX3_meet_38 (up_n (by decide) h32) (Nat.le_of_ble_eq_true rfl) (by first | rfl | decide) (by first | rfl | decide) ?_
        refine v_iload_n 0 dX3_meet_41 rfl rfl ?_
        refine v_if_ne (tgt := 56) dX3_meet_42 (by decide) (fun c42 => ?_) (fun c42 => ?_)
        · exact absurd c42 (by decide)
        ·
          refine v_aload_n 2 dX3_meet_45 rfl rfl ?_
          refine v_aload_n 1 dX3_meet_46 rfl rfl ?_
          refine v_get fl_X3_18 dX3_meet_47 (up_s _ _ _) rfl ?_
          refine v_callV (c_X1_compareI (d + 1) (up_n (show a ≠ 32 by omega) (up_n (show a ≠ 33 by omega) ha)) (up_n (by decide) (up_n (by decide) h34))) cs_X3_33 dX3_meet_50 (up_n (show a ≠ 32 by omega) (up_n (show a ≠ 33 by omega) ha)) rfl rfl (Nat.le_of_ble_eq_true rfl) ?_
          refine rt_k ?_
          refine v_if_le (tgt := 69) dX3_meet_53 (by decide) (fun c53 => ?_) (fun c53 => ?_)
          ·
            refine v_aload_n 1 dX3_meet_69 rfl rfl ?_
            refine v_aload_n 2 dX3_meet_70 rfl rfl ?_
            refine v_callV (c_X3_remember d (up_s _ _ _) (up_n (by decide) (up_n (by decide) h35)) (up_n (by decide) (up_n (by decide) h36)) (up_n (show a ≠ 32 by omega) (up_n (show a ≠ 33 by omega) ha)) hs hlen (by omega) (by omega) (by omega)) cs_X3_47 dX3_meet_71 (up_s _ _ _) rfl rfl (Nat.le_of_ble_eq_true rfl) ?_
            rintro _ m ⟨rfl, s', t', hm, hsn⟩
            refine v_vret dX3_meet_74 rfl ?_
            refine ⟨rfl, ⟨s', t', ?_, ?_, ?_, ?_, ?_, ?_⟩, fun i hi => ?_⟩
            · rw [hm, up_s]; simp only [meetO, if_neg c4, if_pos c14, if_neg c25, if_pos (Int32.not_le.mp c25), if_pos c42, if_pos c53, if_neg (Int32.not_lt.mpr c53)]
            · rw [hm]; simp only [meetO, if_neg c4, if_pos c14, if_neg c25, if_pos (Int32.not_le.mp c25), if_pos c42, if_pos c53, if_neg (Int32.not_lt.mpr c53)]; repeat (first | assumption | exact up_s _ _ _ | refine up_n (by first | decide | omega | assumption) ?_)
            · rw [hm]; simp only [meetO, if_neg c4, if_pos c14, if_neg c25, if_pos (Int32.not_le.mp c25), if_pos c42, if_pos c53, if_neg (Int32.not_lt.mpr c53)]; repeat (first | assumption | exact up_s _ _ _ | refine up_n (by first | decide | omega | assumption) ?_)
            · rw [hm]; repeat (first | assumption | exact up_s _ _ _ | refine up_n (by first | decide | omega | assumption) ?_)
            · rw [hm]; repeat (first | assumption | exact up_s _ _ _ | refine up_n (by first | decide | omega | assumption) ?_)
            · exact hsn
            · rw [hm]; repeat (first | rfl | refine up_n (by omega) ?_)
          ·
            refine v_aload_n 1 dX3_meet_56 rfl rfl ?_
            refine v_get fl_X3_18 dX3_meet_57 (up_s _ _ _) rfl ?_
            refine v_aload_n 2 dX3_meet_60 rfl rfl ?_
            refine v_callV (c_X1_takeFrom (d + 1) (up_n (by decide) (up_n (by decide) h34)) (up_n (show a ≠ 32 by omega) (up_n (show a ≠ 33 by omega) ha))) cs_X3_37 dX3_meet_61 (up_n (by decide) (up_n (by decide) h34)) rfl rfl (Nat.le_of_ble_eq_true rfl) ?_
            refine rt_k ?_
            refine v_aload_n 1 dX3_meet_64 rfl rfl ?_
            refine v_iload_n 3 dX3_meet_65 rfl rfl ?_
            refine v_put fp_X3_44 dX3_meet_66 (up_n (by decide) (up_s _ _ _)) (Nat.le_of_ble_eq_true rfl) (by first | rfl | decide) (by first | rfl | decide) ?_
            refine v_aload_n 1 dX3_meet_69 rfl rfl ?_
            refine v_aload_n 2 dX3_meet_70 rfl rfl ?_
            refine v_callV (c_X3_remember d (up_s _ _ _) (up_n (by decide) (up_n (by decide) (up_n (by decide) (up_n (by decide) h35)))) (up_n (by decide) (up_n (by decide) (up_n (by decide) (up_n (by decide) h36)))) (up_n (show a ≠ 32 by omega) (up_n (show a ≠ 34 by omega) (up_n (show a ≠ 32 by omega) (up_n (show a ≠ 33 by omega) ha)))) hs hlen (by omega) (by omega) (by omega)) cs_X3_47 dX3_meet_71 (up_s _ _ _) rfl rfl (Nat.le_of_ble_eq_true rfl) ?_
            rintro _ m ⟨rfl, s', t', hm, hsn⟩
            refine v_vret dX3_meet_74 rfl ?_
            refine ⟨rfl, ⟨s', t', ?_, ?_, ?_, ?_, ?_, ?_⟩, fun i hi => ?_⟩
            · rw [hm, up_s]; simp only [meetO, if_neg c4, if_pos c14, if_neg c25, if_pos (Int32.not_le.mp c25), if_pos c42, if_neg c53, if_pos (Int32.not_le.mp c53)]
            · rw [hm]; simp only [meetO, if_neg c4, if_pos c14, if_neg c25, if_pos (Int32.not_le.mp c25), if_pos c42, if_neg c53, if_pos (Int32.not_le.mp c53)]; repeat (first | assumption | exact up_s _ _ _ | refine up_n (by first | decide | omega | assumption) ?_)
            · rw [hm]; simp only [meetO, if_neg c4, if_pos c14, if_neg c25, if_pos (Int32.not_le.mp c25), if_pos c42, if_neg c53, if_pos (Int32.not_le.mp c53)]; repeat (first | assumption | exact up_s _ _ _ | refine up_n (by first | decide | omega | assumption) ?_)
            · rw [hm]; repeat (first | assumption | exact up_s _ _ _ | refine up_n (by first | decide | omega | assumption) ?_)
            · rw [hm]; repeat (first | assumption | exact up_s _ _ _ | refine up_n (by first | decide | omega | assumption) ?_)
            · exact hsn
            · rw [hm]; repeat (first | rfl | refine up_n (by omega) ?_)
  ·
    refine v_iconst (v := 1) dX3_meet_7 (by first | rfl | decide) ?_
    refine v_goto (tgt := 12) dX3_meet_8 (by decide) ?_
    refine v_istore_n dX3_meet_12 rfl (by decide) (fun x3 e_x3 => ?_)
    refine v_ls (ls' := [(3, .int x3), (0, .ref 32), (1, .ref a), (2, .int k)]) rfl ?_
    subst e_x3
    refine v_iload_n 0 dX3_meet_13 rfl rfl ?_
    refine v_if_ne (tgt := 28) dX3_meet_14 (by decide) (fun c14 => ?_) (fun c14 => ?_)
    ·
      refine v_aload_n 1 dX3_meet_28 rfl rfl ?_
      refine v_get fl_X3_12 dX3_meet_29 h32 rfl ?_
      refine v_aload_n 2 dX3_meet_32 rfl rfl ?_
      refine v_callV (c_X1_takeFrom (d + 1) h33 ha) cs_X3_37 dX3_meet_33 h33 rfl rfl (Nat.le_of_ble_eq_true rfl) ?_
      refine rt_k ?_
      refine v_aload_n 1 dX3_meet_36 rfl rfl ?_
      refine v_iload_n 3 dX3_meet_37 rfl rfl ?_
      refine v_put fp_X3_41 dX3_meet_38 (up_n (by decide) h32) (Nat.le_of_ble_eq_true rfl) (by first | rfl | decide) (by first | rfl | decide) ?_
      refine v_iload_n 0 dX3_meet_41 rfl rfl ?_
      refine v_if_ne (tgt := 56) dX3_meet_42 (by decide) (fun c42 => ?_) (fun c42 => ?_)
      ·
        refine v_aload_n 1 dX3_meet_56 rfl rfl ?_
        refine v_get fl_X3_18 dX3_meet_57 (up_s _ _ _) rfl ?_
        refine v_aload_n 2 dX3_meet_60 rfl rfl ?_
        refine v_callV (c_X1_takeFrom (d + 1) (up_n (by decide) (up_n (by decide) h34)) (up_n (show a ≠ 32 by omega) (up_n (show a ≠ 33 by omega) ha))) cs_X3_37 dX3_meet_61 (up_n (by decide) (up_n (by decide) h34)) rfl rfl (Nat.le_of_ble_eq_true rfl) ?_
        refine rt_k ?_
        refine v_aload_n 1 dX3_meet_64 rfl rfl ?_
        refine v_iload_n 3 dX3_meet_65 rfl rfl ?_
        refine v_put fp_X3_44 dX3_meet_66 (up_n (by decide) (up_s _ _ _)) (Nat.le_of_ble_eq_true rfl) (by first | rfl | decide) (by first | rfl | decide) ?_
        refine v_aload_n 1 dX3_meet_69 rfl rfl ?_
        refine v_aload_n 2 dX3_meet_70 rfl rfl ?_
        refine v_callV (c_X3_remember d (up_s _ _ _) (up_n (by decide) (up_n (by decide) (up_n (by decide) (up_n (by decide) h35)))) (up_n (by decide) (up_n (by decide) (up_n (by decide) (up_n (by decide) h36)))) (up_n (show a ≠ 32 by omega) (up_n (show a ≠ 34 by omega) (up_n (show a ≠ 32 by omega) (up_n (show a ≠ 33 by omega) ha)))) hs hlen (by omega) (by omega) (by omega)) cs_X3_47 dX3_meet_71 (up_s _ _ _) rfl rfl (Nat.le_of_ble_eq_true rfl) ?_
        rintro _ m ⟨rfl, s', t', hm, hsn⟩
        refine v_vret dX3_meet_74 rfl ?_
        refine ⟨rfl, ⟨s', t', ?_, ?_, ?_, ?_, ?_, ?_⟩, fun i hi => ?_⟩
        · rw [hm, up_s]; simp only [meetO, if_pos c4, if_neg c14, if_neg c42]
        · rw [hm]; simp only [meetO, if_pos c4, if_neg c14, if_neg c42]; repeat (first | assumption | exact up_s _ _ _ | refine up_n (by first | decide | omega | assumption) ?_)
        · rw [hm]; simp only [meetO, if_pos c4, if_neg c14, if_neg c42]; repeat (first | assumption | exact up_s _ _ _ | refine up_n (by first | decide | omega | assumption) ?_)
        · rw [hm]; repeat (first | assumption | exact up_s _ _ _ | refine up_n (by first | decide | omega | assumption) ?_)
        · rw [hm]; repeat (first | assumption | exact up_s _ _ _ | refine up_n (by first | decide | omega | assumption) ?_)
        · exact hsn
        · rw [hm]; repeat (first | rfl | refine up_n (by omega) ?_)
      · exact absurd c42 (by decide)
    · exact absurd c14 (by decide)

def comF : Int32 → List (LT × Nat) → Int32
  | w, [] => w
  | w, x :: r => comF (maxO w (nI x.2)) r
def comO (c : OC) : Int32 := comF 0 c.1
set_option maxRecDepth 20000 in
set_option maxHeartbeats 4000000 in
theorem com_loop {G : Cx} (d : Nat) {μ : Hp} {lm mm : Int32} {s : Nat → Int64} {t : Nat → Int32} {ls : List (LT × Nat)} (h32 : μ 32 = some (outC lm mm (nI ls.length))) (h36 : μ 36 = some (arI 120 t)) (hs : Sn ls s t) (hlen : ls.length ≤ 120) : ∀ (m : Nat) (j : Nat) (w : Int32), j + m = ls.length → V G M_X3_common (d + 1) 0 0 (Rt (some (.int (comF w (ls.drop j)))) μ) 4 [(2, .int (nI j)), (1, .int w), (0, .ref 32)] [] (μ) := by
  intro m
  induction m with
  | zero =>
    intro j w hj
    refine v_iload_n 0 dX3_common_4 rfl rfl ?_
    refine v_aload_n 2 dX3_common_5 rfl rfl ?_
    refine v_get fl_X3_29 dX3_common_6 h32 rfl ?_
    refine v_icmp_ge (tgt := 29) dX3_common_9 (by decide) (fun c9 => ?_) (fun c9 => ?_)
    ·
      refine v_iload_n 1 dX3_common_29 rfl rfl ?_
      refine v_iret dX3_common_30 rfl (by first | rfl | decide | exact nar_b (by first | assumption | rfl)) ?_
      exact ⟨by rw [List.drop_of_length_le (by omega)]; rfl, rfl⟩
    · exact absurd ((nI_leI (by omega) (by omega)).mpr (by omega)) c9
  | succ m ih =>
    intro j w hj
    refine v_iload_n 0 dX3_common_4 rfl rfl ?_
    refine v_aload_n 2 dX3_common_5 rfl rfl ?_
    refine v_get fl_X3_29 dX3_common_6 h32 rfl ?_
    refine v_icmp_ge (tgt := 29) dX3_common_9 (by decide) (fun c9 => ?_) (fun c9 => ?_)
    · have := (nI_leI (by omega) (by omega)).mp c9
      omega
    ·
      refine v_iload_n 1 dX3_common_12 rfl rfl ?_
      refine v_aload_n 2 dX3_common_13 rfl rfl ?_
      refine v_get fl_X3_25 dX3_common_14 h32 rfl ?_
      refine v_iload_n 0 dX3_common_17 rfl rfl ?_
      refine v_iald dX3_common_18 h36 (nI_in' (by omega)) ?_
      refine v_callS (c_J9_max_7cf53 d ) cs_X3_58 dX3_common_19 rfl rfl (Nat.le_of_ble_eq_true rfl) ?_
      refine rt_k ?_
      refine v_istore_n dX3_common_22 rfl (by decide) (fun y e_y => ?_)
      refine v_ls (ls' := [(1, .int y), (2, .int (nI j)), (0, .ref 32)]) rfl ?_
      refine v_iinc (v := 1) 1 dX3_common_23 rfl rfl (by decide) (fun z e_z => ?_)
      refine v_ls (ls' := [(2, .int z), (1, .int y), (0, .ref 32)]) rfl ?_
      rw [nI_1] at e_z
      subst e_z
      refine v_goto (tgt := 4) dX3_common_26 (by decide) ?_
      have hjj : ls[j]? = some (ls[j].1, ls[j].2) := List.getElem?_eq_getElem (by omega)
      rw [clamp (by omega), (hs j _ _ hjj).2] at e_y
      rw [show ls.drop j = ls[j] :: ls.drop (j + 1) from List.drop_eq_getElem_cons (by omega)]
      subst e_y
      exact ih (j + 1) _ (by omega)
      

set_option maxRecDepth 20000 in
set_option maxHeartbeats 4000000 in
theorem c_X3_common {G : Cx} (d : Nat) {μ : Hp} {c : OC} (hc : Oc c μ) (hlen : c.1.length ≤ 120) : Ct G (d + 1) 0 0 M_X3_common [.ref 32] μ (Rt (some (.int (comO c))) μ) := by
  refine Ct.ofV (by decide +kernel) (Nat.le_of_ble_eq_true rfl) ?_
  refine v_ls (ls' := [(0, .ref 32)]) rfl ?_
  obtain ⟨s, t, h32, h33, h34, h35, h36, hs⟩ := hc
  refine v_iconst (v := 0) dX3_common_0 (by first | rfl | decide) ?_
  refine v_istore_n dX3_common_1 rfl (by decide) (fun x1 e_x1 => ?_)
  refine v_ls (ls' := [(1, .int x1), (0, .ref 32)]) rfl ?_
  subst e_x1
  refine v_iconst (v := 0) dX3_common_2 (by first | rfl | decide) ?_
  refine v_istore_n dX3_common_3 rfl (by decide) (fun x2 e_x2 => ?_)
  refine v_ls (ls' := [(2, .int x2), (1, _), (0, .ref 32)]) rfl ?_
  subst e_x2
  exact com_loop d h32 h36 hs hlen c.1.length 0 0 (by omega)
  

