def nxM (tp : List Int32) (k : Nat) : Int32 := if k < tp.length then tp.getD k 0 else -1
abbrev Tb1 (tp : List Int32) : Prop := ∀ c ∈ tp, 0 < c ∧ c < 128
theorem nx_cases {tp : List Int32} (hT : Tb1 tp) (k : Nat) : (k < tp.length ∧ nxM tp k = nxP tp k ∧ ∃ b, 0 < b ∧ b < 128 ∧ nxP tp k = nI b) ∨ (tp.length ≤ k ∧ nxM tp k = -1 ∧ nxP tp k = 0) := by
  by_cases h : k < tp.length
  · left
    refine ⟨h, if_pos h, ?_⟩
    have e : tp.getD k 0 = tp[k] := by simp [List.getD, List.getElem?_eq_getElem h]
    obtain ⟨h1, h2⟩ := hT _ (List.getElem_mem h)
    rw [← e] at h1 h2
    obtain ⟨b, hb, hb2⟩ := nI_of (x := tp.getD k 0) (Int32.not_lt.mpr (Int32.le_of_lt h1))
    rw [hb2] at h1 h2
    have g1 := (nI_ltI (a := 0) (by decide) hb).mp h1
    have g2 := (nI_ltI (b := 128) hb (by decide)).mp h2
    exact ⟨b, g1, g2, hb2⟩
  · right
    refine ⟨by omega, if_neg h, ?_⟩
    show tp.getD k 0 = 0
    simp [List.getD, List.getElem?_eq_none (show tp.length ≤ k by omega)]
theorem fr_32 (x a b : Int32) : frO x.toInt64 a.toInt64 b.toInt64 = if x < a then 0 else if b < x then 0 else 1 := by
  have h1 : x.toInt64 < a.toInt64 ↔ x < a := by rw [Int64.lt_iff_toInt_lt, Int32.lt_iff_toInt_lt, Int32.toInt_toInt64, Int32.toInt_toInt64]
  have h2 : b.toInt64 < x.toInt64 ↔ b < x := by rw [Int64.lt_iff_toInt_lt, Int32.lt_iff_toInt_lt, Int32.toInt_toInt64, Int32.toInt_toInt64]
  unfold frO
  simp only [h1, h2]
theorem fig_tab : ∀ b, b < 128 → ∀ m, m < 10 → (((if nI b < 48 + nI 0 then 0 else if 48 + nI m < nI b then 0 else 1 : Int32) = 0 ↔ (if nI b - 48 < 0 then (-1 : Int32) else if nI b - 48 ≤ nI m then nI b - 48 else -1) < 0)) := by decide +kernel
theorem fig_tab2 : ∀ b, b < 128 → (((if nI b < 48 + 2 then 0 else if 48 + 4 < nI b then 0 else 1 : Int32) = 0 ↔ nI b < 50 ∨ 52 < nI b)) := by decide +kernel
theorem fig_tab3 : ∀ b, b < 128 → ∀ m, m < 10 → ¬ (if nI b - 48 < 0 then (-1 : Int32) else if nI b - 48 ≤ nI m then nI b - 48 else -1) < 0 → (if nI b - 48 < 0 then (-1 : Int32) else if nI b - 48 ≤ nI m then nI b - 48 else -1) = nI (b - 48) ∧ b - 48 ≤ m ∧ nI b - 48 = nI (b - 48) := by decide +kernel
theorem fr_b (v a b : Int64) : frO v a b = 0 ∨ frO v a b = 1 := by
  unfold frO
  split
  · exact Or.inl rfl
  · split
    · exact Or.inl rfl
    · exact Or.inr rfl
theorem isf {tp : List Int32} (hT : Tb1 tp) {m : Nat} (hm : m < 10) (k : Nat) : frO (nxM tp k).toInt64 (48 + nI 0).toInt64 (48 + nI m).toInt64 = 0 ↔ figP tp k (nI m) < 0 := by
  rw [fr_32]
  unfold figP
  rcases nx_cases hT k with ⟨h1, h2, b, h3, h4, h5⟩ | ⟨h1, h2, h3⟩
  · rw [h2, h5]
    exact fig_tab b h4 m hm
  · rw [h2, h3, if_pos (show (-1 : Int32) < 48 + nI 0 by decide), if_pos (show (0 : Int32) - 48 < 0 by decide)]
    exact ⟨fun _ => by decide, fun _ => rfl⟩
theorem isf24 {tp : List Int32} (hT : Tb1 tp) (k : Nat) : frO (nxM tp k).toInt64 (48 + 2 : Int32).toInt64 (48 + 4 : Int32).toInt64 = 0 ↔ nxP tp k < 50 ∨ 52 < nxP tp k := by
  rw [fr_32]
  rcases nx_cases hT k with ⟨h1, h2, b, h3, h4, h5⟩ | ⟨h1, h2, h3⟩
  · rw [h2, h5]
    exact fig_tab2 b h4
  · rw [h2, h3]
    exact ⟨fun _ => by decide, fun _ => by decide⟩
theorem fig_nat {tp : List Int32} (hT : Tb1 tp) {m : Nat} (hm : m < 10) {k : Nat} (h : ¬ figP tp k (nI m) < 0) : ∃ a, a ≤ m ∧ figP tp k (nI m) = nI a ∧ nxP tp k - 48 = nI a ∧ k < tp.length := by
  rcases nx_cases hT k with ⟨h1, h2, b, h3, h4, h5⟩ | ⟨h1, h2, h3⟩
  · unfold figP at h ⊢
    rw [h5] at h ⊢
    obtain ⟨q1, q2, q3⟩ := fig_tab3 b h4 m hm h
    exact ⟨b - 48, q2, q1, q3, h1⟩
  · exact absurd (fig_lt h) (by omega)
theorem nx_eq {tp : List Int32} (hT : Tb1 tp) {k : Nat} {c : Int32} (h0 : ¬ c = 0) (h1 : ¬ c = -1) : nxM tp k = c ↔ nxP tp k = c := by
  rcases nx_cases hT k with ⟨_, h2, _⟩ | ⟨_, h2, h3⟩
  · rw [h2]
  · rw [h2, h3]
    exact ⟨fun z => absurd z.symm h1, fun z => absurd z.symm h0⟩
theorem in17_n {x : Nat} (h : x < 1000) : inO (nI x) 17 = 0 ↔ ¬ nI x < 17 := by
  have h1 : ¬ nI x < 0 := fun z => absurd ((nI_ltI (b := 0) (by omega) (by decide)).mp z) (by omega)
  unfold inO
  rw [if_neg h1]
  by_cases q : nI x < 17
  · rw [if_neg (Int32.not_le.mpr q)]
    exact ⟨fun z => absurd z (by decide), fun z => absurd q z⟩
  · rw [if_pos (Int32.not_lt.mp q)]
    exact ⟨fun _ => q, fun _ => rfl⟩
/-! a FILTER told, without the lists -/
def fxN (tp : List Int32) (kind an : Int32) (k : Nat) : Bool × Nat × Int32 := if tfO kind = 0 then (true, k, cdO kind an 0) else if (numP tp k).1 < 0 then (false, (numP tp k).2, 0) else (true, (numP tp k).2, cdO kind an (numP tp k).1)
def fxP (tp : List Int32) (kind : Int32) (k : Nat) : Bool × Nat × Int32 := if taO kind = 0 then fxN tp kind 0 k else if figP tp k 3 < 0 then (false, k, 0) else if tfO kind = 0 then fxN tp kind (figP tp k 3) (k + 1) else if nxP tp (k + 1) = 44 then fxN tp kind (figP tp k 3) (k + 2) else (false, k + 1, 0)
def fxI (tp : List Int32) (k : Nat) : Bool × Nat × Int32 := if ixP (nxP tp k) < 0 then (false, k, 0) else fxP tp (ixP (nxP tp k)) (k + 1)
abbrev fxL (x : Bool × Nat × Int32) (s : PS) : Bool × PS := (x.1, x.2.1, s.2.1, if x.1 = true then s.2.2 ++ [x.2.2] else s.2.2)
theorem filN_fx (tp : List Int32) (kind an : Int32) (k : Nat) (s : PS) : filN tp kind an (k, s.2) = fxL (fxN tp kind an k) s := by
  unfold filN fxN fxL
  split
  · rfl
  · split <;> rfl
theorem filP_fx (tp : List Int32) (kind : Int32) (k : Nat) (s : PS) : filP tp kind (k, s.2) = fxL (fxP tp kind k) s := by
  unfold filP fxP
  split
  · exact filN_fx tp kind 0 k s
  · split
    · rfl
    · split
      · exact filN_fx tp kind _ (k + 1) s
      · split
        · exact filN_fx tp kind _ (k + 2) s
        · rfl
theorem fx_f {c : Int32} (h1 : taO c = 0) (h2 : ¬ tfO c = 0) (tp : List Int32) (k : Nat) : fxP tp c k = if (numP tp k).1 < 0 then (false, (numP tp k).2, 0) else (true, (numP tp k).2, cdO c 0 (numP tp k).1) := by
  unfold fxP fxN
  rw [if_pos h1, if_neg h2]
theorem fx_a {c : Int32} (h1 : ¬ taO c = 0) (h2 : tfO c = 0) (tp : List Int32) (k : Nat) : fxP tp c k = if figP tp k 3 < 0 then (false, k, 0) else (true, k + 1, cdO c (figP tp k 3) 0) := by
  unfold fxP fxN
  rw [if_neg h1, if_pos h2, if_pos h2]
theorem fx_af {c : Int32} (h1 : ¬ taO c = 0) (h2 : ¬ tfO c = 0) (tp : List Int32) (k : Nat) : fxP tp c k = if figP tp k 3 < 0 then (false, k, 0) else if nxP tp (k + 1) = 44 then (if (numP tp (k + 2)).1 < 0 then (false, (numP tp (k + 2)).2, 0) else (true, (numP tp (k + 2)).2, cdO c (figP tp k 3) (numP tp (k + 2)).1)) else (false, k + 1, 0) := by
  unfold fxP fxN
  rw [if_neg h1, if_neg h2, if_neg h2]
set_option maxRecDepth 20000 in
set_option maxHeartbeats 4000000 in
theorem c_X7_next {G : Cx} (d : Nat) {μ : Hp} {tp : List Int32} {t : Nat → Int32} {k : Nat} {m un lr mr hr fa op tr sg hm hi : Int32} {co wh : Int64} (h60 : μ 60 = some (modC m co wh un lr mr hr (nI tp.length) (nI k) fa op tr sg hm hi)) (h75 : μ 75 = some (arI 60 t)) (hp : Pl tp t) (ht60 : tp.length ≤ 60) (hk : k ≤ tp.length) : Ct G (d) 0 0 M_X7_next [.ref 60] μ (Rt (some (.int (nxM tp k))) μ) := by
  refine Ct.ofV (by decide +kernel) (Nat.le_of_ble_eq_true rfl) ?_
  refine v_ls (ls' := [(0, .ref 60)]) rfl ?_
  refine v_aload_n 0 dX7_next_0 rfl rfl ?_
  refine v_get fl_X7_331 dX7_next_1 h60 rfl ?_
  refine v_aload_n 0 dX7_next_4 rfl rfl ?_
  refine v_get fl_X7_328 dX7_next_5 h60 rfl ?_
  refine v_icmp_ge (tgt := 23) dX7_next_8 (by decide) (fun hc8 => ?_) (fun hc8 => ?_)
  ·
    refine v_iconst (v := -1) dX7_next_23 (by first | rfl | decide) ?_
    refine v_iret dX7_next_24 rfl (by first | rfl | decide | exact nar_b (by first | assumption | rfl)) ?_
    exact ⟨by rw [show nxM tp k = -1 from if_neg (fun z => absurd ((nI_leI (by omega) (by omega)).mp hc8) (by omega))], rfl⟩
  ·
    refine v_aload_n 0 dX7_next_11 rfl rfl ?_
    refine v_get fl_X7_58 dX7_next_12 h60 rfl ?_
    refine v_aload_n 0 dX7_next_15 rfl rfl ?_
    refine v_get fl_X7_331 dX7_next_16 h60 rfl ?_
    have hkl : k < tp.length := Nat.lt_of_not_le (fun z => hc8 ((nI_leI (by omega) (by omega)).mpr z))
    refine v_iald dX7_next_19 h75 (nI_in' (by omega)) ?_
    refine v_goto (tgt := 24) dX7_next_20 (by decide) ?_
    refine v_iret dX7_next_24 rfl (by first | rfl | decide | exact nar_b (by first | assumption | rfl)) ?_
    exact ⟨by rw [show nxM tp k = tp.getD k 0 from if_pos hkl, getD_at hp hkl, clamp (by omega)], rfl⟩

set_option maxRecDepth 20000 in
set_option maxHeartbeats 4000000 in
theorem c_X7_isFigure {G : Cx} (d : Nat) {μ : Hp} {tp : List Int32} {t : Nat → Int32} {k : Nat} {m un lr mr hr fa op tr sg hm hi : Int32} {co wh : Int64} {a b : Int32} (h60 : μ 60 = some (modC m co wh un lr mr hr (nI tp.length) (nI k) fa op tr sg hm hi)) (h75 : μ 75 = some (arI 60 t)) (hp : Pl tp t) (ht60 : tp.length ≤ 60) (hk : k ≤ tp.length) : Ct G (d + 1) 0 0 M_X7_isFigure [.ref 60, .int a, .int b] μ (Rt (some (.int (frO (nxM tp k).toInt64 (48 + a).toInt64 (48 + b).toInt64))) μ) := by
  refine Ct.ofV (by decide +kernel) (Nat.le_of_ble_eq_true rfl) ?_
  refine v_ls (ls' := [(0, .ref 60), (1, .int a), (2, .int b)]) rfl ?_
  refine v_aload_n 0 dX7_isFigure_0 rfl rfl ?_
  refine v_callV (c_X7_next d h60 h75 hp ht60 (hk)) cs_X7_334 dX7_isFigure_1 h60 rfl rfl (Nat.le_of_ble_eq_true rfl) ?_
  refine rt_k ?_
  refine v_i2l dX7_isFigure_4 ?_
  refine v_bipush (v := 48) dX7_isFigure_5 (by first | rfl | decide) ?_
  refine v_iload_n 1 dX7_isFigure_7 rfl rfl ?_
  refine v_iadd dX7_isFigure_8 ?_
  refine v_i2l dX7_isFigure_9 ?_
  refine v_bipush (v := 48) dX7_isFigure_10 (by first | rfl | decide) ?_
  refine v_iload_n 2 dX7_isFigure_12 rfl rfl ?_
  refine v_iadd dX7_isFigure_13 ?_
  refine v_i2l dX7_isFigure_14 ?_
  refine v_callS (c_X7_in d) cs_X7_95 dX7_isFigure_15 rfl rfl (Nat.le_of_ble_eq_true rfl) ?_
  refine rt_k ?_
  refine v_iret dX7_isFigure_18 rfl (nar_b (fr_b _ _ _)) ?_
  exact ⟨rfl, rfl⟩

set_option maxRecDepth 20000 in
set_option maxHeartbeats 4000000 in
theorem c_X7_faulty {G : Cx} (d : Nat) {μ : Hp} {pl : Int32} {m un lr mr hr le at9 fa op tr sg hm hi : Int32} {co wh : Int64} (h60 : μ 60 = some (modC m co wh un lr mr hr le at9 fa op tr sg hm hi)) : Ct G (d) 0 0 M_X7_faulty [.ref 60, .int pl] μ (Rt none (up μ 60 (modC m co wh un lr mr hr le at9 (if fa < 0 then pl else fa) op tr sg hm hi))) := by
  refine Ct.ofV (by decide +kernel) (Nat.le_of_ble_eq_true rfl) ?_
  refine v_ls (ls' := [(0, .ref 60), (1, .int pl)]) rfl ?_
  refine v_aload_n 0 dX7_faulty_0 rfl rfl ?_
  refine v_aload_n 0 dX7_faulty_1 rfl rfl ?_
  refine v_get fl_X7_338 dX7_faulty_2 h60 rfl ?_
  refine v_if_ge (tgt := 12) dX7_faulty_5 (by decide) (fun hc5 => ?_) (fun hc5 => ?_)
  ·
    refine v_aload_n 0 dX7_faulty_12 rfl rfl ?_
    refine v_get fl_X7_338 dX7_faulty_13 h60 rfl ?_
    refine v_put fp_X7_338 dX7_faulty_16 h60 (Nat.le_of_ble_eq_true rfl) (by first | rfl | decide) (by first | rfl | decide) ?_
    refine v_vret dX7_faulty_19 rfl ?_
    exact ⟨rfl, by rw [if_neg (Int32.not_lt.mpr hc5)]; rfl⟩
  ·
    refine v_iload_n 1 dX7_faulty_8 rfl rfl ?_
    refine v_goto (tgt := 16) dX7_faulty_9 (by decide) ?_
    refine v_put fp_X7_338 dX7_faulty_16 h60 (Nat.le_of_ble_eq_true rfl) (by first | rfl | decide) (by first | rfl | decide) ?_
    refine v_vret dX7_faulty_19 rfl ?_
    exact ⟨rfl, by rw [if_pos (Int32.not_le.mp hc5)]; rfl⟩

set_option maxRecDepth 20000 in
set_option maxHeartbeats 4000000 in
theorem c_X7_figureTold {G : Cx} (d : Nat) {μ : Hp} {tp : List Int32} {t : Nat → Int32} {k : Nat} {m un lr mr hr fa op tr sg hm hi : Int32} {co wh : Int64} (h60 : μ 60 = some (modC m co wh un lr mr hr (nI tp.length) (nI k) fa op tr sg hm hi)) (h75 : μ 75 = some (arI 60 t)) (hp : Pl tp t) (ht60 : tp.length ≤ 60) (hk : k ≤ tp.length) (hT : Tb1 tp) : Ct G (d + 2) 0 0 M_X7_figureTold [.ref 60] μ (fun r μ' => ∃ (v : Int32) (k' : Nat) (fa' : Int32), r = some (.int v) ∧ μ' = up μ 60 (modC m co wh un lr mr hr (nI tp.length) (nI k') fa' op tr sg hm hi) ∧ k' ≤ tp.length ∧ (fa < 0 → ((numP tp k).1 < 0 → (v < 0 ∧ fa' = fa ∧ k' = (numP tp k).2) ∨ (¬ v < 0 ∧ fa' = nI (numP tp k).2)) ∧ (¬ (numP tp k).1 < 0 → v = (numP tp k).1 ∧ fa' = fa ∧ k' = (numP tp k).2)) ∧ (¬ fa < 0 → fa' = fa)) := by
  refine Ct.ofV (by decide +kernel) (Nat.le_of_ble_eq_true rfl) ?_
  refine v_ls (ls' := [(0, .ref 60)]) rfl ?_
  refine v_aload_n 0 dX7_figureTold_0 rfl rfl ?_
  refine v_iconst (v := 0) dX7_figureTold_1 (by first | rfl | decide) ?_
  refine v_bipush (v := 9) dX7_figureTold_2 (by first | rfl | decide) ?_
  refine v_callV (c_X7_isFigure d h60 h75 hp ht60 (hk)) cs_X7_341 dX7_figureTold_4 h60 rfl rfl (Nat.le_of_ble_eq_true rfl) ?_
  refine rt_k ?_
  refine v_if_ne (tgt := 12) dX7_figureTold_7 (by decide) (fun hc7 => ?_) (fun hc7 => ?_)
  ·
    have hq1 : ¬ figP tp k 9 < 0 := fun z => hc7 ((isf hT (m := 9) (by decide) k).mpr z)
    obtain ⟨a, ha1, ha2, ha3, hkl⟩ := fig_nat hT (m := 9) (by decide) hq1
    have ha2 : figP tp k 9 = nI a := ha2
    refine v_aload_n 0 dX7_figureTold_12 rfl rfl ?_
    refine v_get fl_X7_58 dX7_figureTold_13 h60 rfl ?_
    refine v_aload_n 0 dX7_figureTold_16 rfl rfl ?_
    refine v_get fl_X7_331 dX7_figureTold_17 h60 rfl ?_
    refine v_iald dX7_figureTold_20 h75 (nI_in' (by omega)) ?_
    refine v_bipush (v := 48) dX7_figureTold_21 (by first | rfl | decide) ?_
    refine v_isub dX7_figureTold_23 ?_
    refine v_istore_n dX7_figureTold_24 rfl (by decide) (fun y1 e_y1 => ?_)
    refine v_ls (ls' := [(1, .int y1), (0, .ref 60)]) rfl ?_
    rw [clamp (show k < 2 ^ 31 by omega), ← getD_at hp hkl, show tp.getD k 0 - 48 = figP tp k 9 from ha3.trans ha2.symm] at e_y1
    refine v_aload_n 1 dX7_figureTold_25 rfl rfl ?_
    refine v_dup dX7_figureTold_26 rfl ?_
    refine v_get fl_X7_331 dX7_figureTold_27 h60 rfl ?_
    refine v_iconst (v := 1) dX7_figureTold_30 (by first | rfl | decide) ?_
    refine v_iadd dX7_figureTold_31 ?_
    refine v_put fp_X7_331 dX7_figureTold_32 h60 (Nat.le_of_ble_eq_true rfl) (by first | rfl | decide) (by first | rfl | decide) ?_
    rw [nI_1]
    refine v_aload_n 1 dX7_figureTold_35 rfl rfl ?_
    refine v_iconst (v := 0) dX7_figureTold_36 (by first | rfl | decide) ?_
    refine v_bipush (v := 9) dX7_figureTold_37 (by first | rfl | decide) ?_
    refine v_callV (c_X7_isFigure d (up_s _ _ _) (up_n (by decide) h75) hp ht60 (by omega)) cs_X7_341 dX7_figureTold_39 (up_s _ _ _) rfl rfl (Nat.le_of_ble_eq_true rfl) ?_
    refine rt_k ?_
    refine v_if_eq (tgt := 87) dX7_figureTold_42 (by decide) (fun hc42 => ?_) (fun hc42 => ?_)
    ·
      refine v_iload_n 0 dX7_figureTold_87 rfl rfl ?_
      refine v_iret dX7_figureTold_88 rfl (by first | rfl | decide | exact nar_b (by first | assumption | rfl)) ?_
      have hq2 : figP tp (k + 1) 9 < 0 := (isf hT (m := 9) (by decide) (k + 1)).mp hc42
      have hN : numP tp k = (figP tp k 9, k + 1) := by unfold numP; rw [if_neg hq1, if_pos hq2]
      refine ⟨_, k + 1, fa, rfl, rfl, by omega, fun _ => ⟨fun z => ?_, fun _ => ⟨?_, rfl, by rw [hN]⟩⟩, fun _ => rfl⟩
      · rw [hN] at z; exact absurd z hq1
      · rw [hN]; exact e_y1
    ·
      have hkl2 : k + 1 < tp.length := fig_lt (fun z => hc42 ((isf hT (m := 9) (by decide) (k + 1)).mpr z))
      refine v_bipush (v := 10) dX7_figureTold_45 (by first | rfl | decide) ?_
      refine v_iload_n 0 dX7_figureTold_47 rfl rfl ?_
      refine v_imul dX7_figureTold_48 ?_
      refine v_aload_n 1 dX7_figureTold_49 rfl rfl ?_
      refine v_get fl_X7_58 dX7_figureTold_50 (up_s _ _ _) rfl ?_
      refine v_aload_n 1 dX7_figureTold_53 rfl rfl ?_
      refine v_get fl_X7_331 dX7_figureTold_54 (up_s _ _ _) rfl ?_
      refine v_iald dX7_figureTold_57 (up_n (by decide) h75) (nI_in' (by omega)) ?_
      refine v_iadd dX7_figureTold_58 ?_
      refine v_bipush (v := 48) dX7_figureTold_59 (by first | rfl | decide) ?_
      refine v_isub dX7_figureTold_61 ?_
      
      refine v_istore_n dX7_figureTold_62 rfl (by decide) (fun y2 e_y2 => ?_)
      refine v_ls (ls' := [(1, .int y2), (0, .ref 60)]) rfl ?_
      rw [clamp (show k + 1 < 2 ^ 31 by omega), ← getD_at hp hkl2] at e_y2
      refine v_iload_n 0 dX7_figureTold_63 rfl rfl ?_
      refine v_bipush (v := 17) dX7_figureTold_64 (by first | rfl | decide) ?_
      refine v_icmp_lt (tgt := 77) dX7_figureTold_66 (by decide) (fun hc66 => ?_) (fun hc66 => ?_)
      ·
        refine v_aload_n 1 dX7_figureTold_77 rfl rfl ?_
        refine v_dup dX7_figureTold_78 rfl ?_
        refine v_get fl_X7_331 dX7_figureTold_79 (up_s _ _ _) rfl ?_
        refine v_iconst (v := 1) dX7_figureTold_82 (by first | rfl | decide) ?_
        refine v_iadd dX7_figureTold_83 ?_
        refine v_put fp_X7_331 dX7_figureTold_84 (up_s _ _ _) (Nat.le_of_ble_eq_true rfl) (by first | rfl | decide) (by first | rfl | decide) ?_
        refine v_hp (up_up _ _ _ _) ?_
        rw [nI_1]
        refine v_iload_n 0 dX7_figureTold_87 rfl rfl ?_
        refine v_iret dX7_figureTold_88 rfl (by first | rfl | decide | exact nar_b (by first | assumption | rfl)) ?_
        have hq2 : ¬ figP tp (k + 1) 9 < 0 := fun z => hc42 ((isf hT (m := 9) (by decide) (k + 1)).mpr z)
        obtain ⟨b, hb1, hb2, hb3, hb4⟩ := fig_nat hT (m := 9) (by decide) hq2
        have hb2 : figP tp (k + 1) 9 = nI b := hb2
        have hv : y2 = 10 * figP tp k 9 + figP tp (k + 1) 9 := by rw [e_y2, e_y1, hb2, ← hb3]; grind
        have hv2 : y2 = nI (10 * a + b) := by rw [hv, ha2, hb2, show (10 : Int32) = nI 10 from rfl, pk_mul, nI_add]
        have hN : numP tp k = (y2, k + 2) := by
          unfold numP
          rw [if_neg hq1, if_neg hq2, ← hv, if_neg]
          rw [hv2]
          refine fun z => (in17_n (by omega)).mp z ?_
          rw [← hv2]; exact hc66
        have hnn : ¬ y2 < 0 := fun z => by rw [hv2] at z; exact absurd ((nI_ltI (b := 0) (by omega) (by decide)).mp z) (by omega)
        exact ⟨y2, k + 2, fa, rfl, rfl, by omega, fun _ => ⟨fun z => absurd (show (y2, k + 2).1 < 0 by rw [← hN]; exact z) hnn, fun _ => ⟨by rw [hN], rfl, by rw [hN]⟩⟩, fun _ => rfl⟩
      ·
        refine v_aload_n 1 dX7_figureTold_69 rfl rfl ?_
        refine v_aload_n 1 dX7_figureTold_70 rfl rfl ?_
        refine v_get fl_X7_331 dX7_figureTold_71 (up_s _ _ _) rfl ?_
        refine v_callV (c_X7_faulty (d + 1) (up_s _ _ _)) cs_X7_344 dX7_figureTold_74 (up_s _ _ _) rfl rfl (Nat.le_of_ble_eq_true rfl) ?_
        refine rt_k ?_
        refine v_hp (up_up _ _ _ _) ?_
        refine v_aload_n 1 dX7_figureTold_77 rfl rfl ?_
        refine v_dup dX7_figureTold_78 rfl ?_
        refine v_get fl_X7_331 dX7_figureTold_79 (up_s _ _ _) rfl ?_
        refine v_iconst (v := 1) dX7_figureTold_82 (by first | rfl | decide) ?_
        refine v_iadd dX7_figureTold_83 ?_
        refine v_put fp_X7_331 dX7_figureTold_84 (up_s _ _ _) (Nat.le_of_ble_eq_true rfl) (by first | rfl | decide) (by first | rfl | decide) ?_
        refine v_hp (up_up _ _ _ _) ?_
        rw [nI_1]
        refine v_iload_n 0 dX7_figureTold_87 rfl rfl ?_
        refine v_iret dX7_figureTold_88 rfl (by first | rfl | decide | exact nar_b (by first | assumption | rfl)) ?_
        have hq2 : ¬ figP tp (k + 1) 9 < 0 := fun z => hc42 ((isf hT (m := 9) (by decide) (k + 1)).mpr z)
        obtain ⟨b, hb1, hb2, hb3, hb4⟩ := fig_nat hT (m := 9) (by decide) hq2
        have hb2 : figP tp (k + 1) 9 = nI b := hb2
        have hv : y2 = 10 * figP tp k 9 + figP tp (k + 1) 9 := by rw [e_y2, e_y1, hb2, ← hb3]; grind
        have hv2 : y2 = nI (10 * a + b) := by rw [hv, ha2, hb2, show (10 : Int32) = nI 10 from rfl, pk_mul, nI_add]
        have hN : numP tp k = (-1, k + 1) := by
          unfold numP
          rw [if_neg hq1, if_neg hq2, ← hv, if_pos]
          rw [hv2]
          refine (in17_n (by omega)).mpr ?_
          rw [← hv2]; exact hc66
        have hnn : ¬ y2 < 0 := fun z => by rw [hv2] at z; exact absurd ((nI_ltI (b := 0) (by omega) (by decide)).mp z) (by omega)
        refine ⟨y2, k + 2, _, rfl, rfl, by omega, fun hf => ⟨fun _ => Or.inr ⟨hnn, ?_⟩, fun z => absurd (show (numP tp k).1 < 0 by rw [hN]; exact (by decide : (-1 : Int32) < 0)) z⟩, fun hf => if_neg hf⟩
        rw [if_pos hf, hN]
  ·
    refine v_iconst (v := -1) dX7_figureTold_10 (by first | rfl | decide) ?_
    refine v_iret dX7_figureTold_11 rfl (by first | rfl | decide | exact nar_b (by first | assumption | rfl)) ?_
    have hq1 : figP tp k 9 < 0 := (isf hT (m := 9) (by decide) k).mp hc7
    have hN : numP tp k = (-1, k) := by unfold numP; rw [if_pos hq1]
    exact ⟨-1, k, fa, rfl, (up_id h60).symm, hk, fun _ => ⟨fun _ => Or.inl ⟨by decide, rfl, by rw [hN]⟩, fun z => absurd (show (numP tp k).1 < 0 by rw [hN]; exact (by decide : (-1 : Int32) < 0)) z⟩, fun _ => rfl⟩

