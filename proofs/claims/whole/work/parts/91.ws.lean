/-! ===== what stays true of a state ===== -/
def AllV (cs : List Int32) : Prop := ∀ c ∈ cs, Vc c
theorem vc_0 : Vc 0 := ⟨0, 0, 0, by decide, by decide, by decide, by decide⟩
theorem AllV.app {cs : List Int32} {c : Int32} (h : AllV cs) (hc : Vc c) : AllV (cs ++ [c]) := fun x hx => by
  rcases List.mem_append.mp hx with hx | hx
  · exact h x hx
  · rw [List.mem_singleton.mp hx]
    exact hc
theorem AllV.at {cs : List Int32} (h : AllV cs) (n : Nat) : Vc (cs.getD n 0) := by
  by_cases hn : n < cs.length
  · apply h
    rw [List.getD_eq_getElem?_getD, List.getElem?_eq_getElem hn]
    exact List.getElem_mem _
  · rw [List.getD_eq_getElem?_getD, List.getElem?_eq_none (by omega)]
    exact vc_0
theorem AllV.rpt : ∀ (m n : Nat) (cs : List Int32), AllV cs → AllV (rptP m n cs)
  | 0, _, _, h => h
  | m + 1, n, cs, h => AllV.rpt m (n + 1) (cs ++ [cs.getD n 0]) (h.app (h.at n))
theorem fig_nn {tp : List Int32} {k m : Nat} (hm : m < 100) (h : ¬ figP tp k (nI m) < 0) : ∃ a, a ≤ m ∧ figP tp k (nI m) = nI a := by
  unfold figP at h ⊢
  by_cases h1 : nxP tp k - 48 < 0
  · rw [if_pos h1] at h
    exact absurd (show (-1 : Int32) < 0 by decide) h
  · rw [if_neg h1] at h ⊢
    by_cases h2 : nxP tp k - 48 ≤ nI m
    · rw [if_pos h2]
      obtain ⟨j, hj, e⟩ := nI_of h1
      rw [e] at h2 ⊢
      exact ⟨j, (nI_leI hj (by omega)).mp h2, rfl⟩
    · rw [if_neg h2] at h
      exact absurd (show (-1 : Int32) < 0 by decide) h
theorem num_nn {tp : List Int32} {k : Nat} (h : ¬ (numP tp k).1 < 0) : ∃ f, f < 17 ∧ (numP tp k).1 = nI f := by
  unfold numP at h ⊢
  by_cases h1 : figP tp k 9 < 0
  · rw [if_pos h1] at h
    exact absurd (show (-1 : Int32) < 0 by decide) h
  · rw [if_neg h1] at h ⊢
    by_cases h2 : figP tp (k + 1) 9 < 0
    · rw [if_pos h2]
      obtain ⟨a, ha, e⟩ := fig_nn (m := 9) (by decide) h1
      exact ⟨a, by omega, e⟩
    · rw [if_neg h2] at h ⊢
      by_cases h3 : inO (10 * figP tp k 9 + figP tp (k + 1) 9) 17 = 0
      · rw [if_pos h3] at h
        exact absurd (show (-1 : Int32) < 0 by decide) h
      · rw [if_neg h3]
        obtain ⟨f, hf, e⟩ := in_ix (n := 17) (by decide) h3
        exact ⟨f, hf, e⟩
theorem ix_vn {c : Int32} (h : ¬ ixP c < 0) : ∃ k, k < 7 ∧ ixP c = nI k := by
  unfold ixP at h ⊢
  by_cases h0 : c = 103
  · rw [if_pos h0]; exact ⟨0, by decide, rfl⟩
  rw [if_neg h0] at h ⊢
  by_cases h1 : c = 121
  · rw [if_pos h1]; exact ⟨1, by decide, rfl⟩
  rw [if_neg h1] at h ⊢
  by_cases h2 : c = 115
  · rw [if_pos h2]; exact ⟨2, by decide, rfl⟩
  rw [if_neg h2] at h ⊢
  by_cases h3 : c = 112
  · rw [if_pos h3]; exact ⟨3, by decide, rfl⟩
  rw [if_neg h3] at h ⊢
  by_cases h4 : c = 119
  · rw [if_pos h4]; exact ⟨4, by decide, rfl⟩
  rw [if_neg h4] at h ⊢
  by_cases h5 : c = 114
  · rw [if_pos h5]; exact ⟨5, by decide, rfl⟩
  rw [if_neg h5] at h ⊢
  by_cases h6 : c = 102
  · rw [if_pos h6]; exact ⟨6, by decide, rfl⟩
  rw [if_neg h6] at h
  exact absurd (show (-1 : Int32) < 0 by decide) h
theorem filN_v {tp : List Int32} {kind angle : Int32} {s : PS} {k a : Nat} (hk : k < 7) (ha : a < 4) (e1 : kind = nI k) (e2 : angle = nI a) (h : AllV s.2.2) : AllV (filN tp kind angle s).2.2.2 := by
  unfold filN
  by_cases h1 : tfO kind = 0
  · rw [if_pos h1]
    exact h.app (by rw [e1, e2]; exact Vc.mk (f := 0) hk ha (by decide))
  · rw [if_neg h1]
    by_cases h2 : (numP tp s.1).1 < 0
    · rw [if_pos h2]
      exact h
    · rw [if_neg h2]
      obtain ⟨f, hf, e⟩ := num_nn h2
      exact h.app (by rw [e1, e2, e]; exact Vc.mk hk ha hf)
theorem filP_v {tp : List Int32} {kind : Int32} {s : PS} {k : Nat} (hk : k < 7) (e1 : kind = nI k) (h : AllV s.2.2) : AllV (filP tp kind s).2.2.2 := by
  unfold filP
  by_cases h1 : taO kind = 0
  · rw [if_pos h1]
    exact filN_v (a := 0) hk (by decide) e1 rfl h
  rw [if_neg h1]
  by_cases h2 : figP tp s.1 3 < 0
  · rw [if_pos h2]
    exact h
  rw [if_neg h2]
  obtain ⟨a, ha, e2⟩ := fig_nn (m := 3) (by decide) h2
  by_cases h3 : tfO kind = 0
  · rw [if_pos h3]
    exact filN_v (s := (s.1 + 1, s.2)) hk (by omega) e1 e2 h
  rw [if_neg h3]
  by_cases h4 : nxP tp (s.1 + 1) = 44
  · rw [if_pos h4]
    exact filN_v (s := (s.1 + 2, s.2)) hk (by omega) e1 e2 h
  · rw [if_neg h4]
    exact h
theorem grpP_v {tp : List Int32} {rec : PS → Bool × PS} (hr : ∀ s, AllV s.2.2 → AllV (rec s).2.2.2) {s : PS} (h : AllV s.2.2) : AllV (grpP tp rec s).2.2.2 := by
  unfold grpP
  by_cases h1 : nxP tp (s.1 + 1) = 40
  · rw [if_pos h1]
    have h2 := hr (s.1 + 2, s.2.1 ++ [s.1 + 1], s.2.2) h
    generalize rec (s.1 + 2, s.2.1 ++ [s.1 + 1], s.2.2) = x at h2 ⊢
    obtain ⟨b, s2⟩ := x
    cases b
    · exact h2
    · show AllV (if nxP tp s2.1 = 41 then ((true, (s2.1 + 1, s.2.1, rptP ((s2.2.2.length - s.2.2.length) * ((nxP tp s.1 - 48).toNatClampNeg - 1)) s.2.2.length s2.2.2)) : Bool × PS) else (false, s2)).2.2.2
      by_cases h3 : nxP tp s2.1 = 41
      · rw [if_pos h3]
        exact AllV.rpt _ _ _ h2
      · rw [if_neg h3]
        exact h2
  · rw [if_neg h1]
    exact h
theorem itemP_v {tp : List Int32} {g : Nat} {rec : PS → Bool × PS} (hr : ∀ s, AllV s.2.2 → AllV (rec s).2.2.2) {s : PS} (h : AllV s.2.2) : AllV (itemP tp g rec s).2.2.2 := by
  unfold itemP
  by_cases h1 : ixP (nxP tp s.1) < 0
  · rw [if_pos h1]
    by_cases h2 : nxP tp s.1 < 50
    · rw [if_pos h2]
      exact h
    rw [if_neg h2]
    by_cases h3 : 52 < nxP tp s.1
    · rw [if_pos h3]
      exact h
    rw [if_neg h3]
    by_cases h4 : g = 0
    · rw [if_pos h4]
      exact h
    · rw [if_neg h4]
      exact grpP_v hr h
  · rw [if_neg h1]
    obtain ⟨k, hk, e⟩ := ix_vn h1
    exact filP_v (s := (s.1 + 1, s.2)) hk e h
theorem itmsL_v {tp : List Int32} {g : Nat} {rec : PS → Bool × PS} (hr : ∀ s, AllV s.2.2 → AllV (rec s).2.2.2) : ∀ (m : Nat) (s : PS), AllV s.2.2 → AllV (itmsL tp g rec m s).2.2.2
  | 0, s, h => h
  | m + 1, s, h => by
    have h1 := itemP_v (tp := tp) (g := g) hr h
    unfold itmsL
    generalize itemP tp g rec s = x at h1 ⊢
    obtain ⟨b, s1⟩ := x
    cases b
    · exact h1
    · show AllV (if nxP tp s1.1 = 59 then itmsL tp g rec m (s1.1 + 1, s1.2) else (true, s1)).2.2.2
      by_cases h3 : nxP tp s1.1 = 59
      · rw [if_pos h3]
        exact itmsL_v hr m (s1.1 + 1, s1.2) h1
      · rw [if_neg h3]
        exact h1
theorem itmsP_v (tp : List Int32) : ∀ (g : Nat) (s : PS), AllV s.2.2 → AllV (itmsP tp g s).2.2.2
  | 0, s, h => itmsL_v (fun s h => h) 60 s h
  | g + 1, s, h => itmsL_v (itmsP_v tp g) 60 s h
theorem txt_v (tp : List Int32) : AllV (txtP tp).2.2.2 := by
  have h := itmsP_v tp 3 (0, [], []) (fun c hc => by cases hc)
  unfold txtP
  generalize itmsP tp 3 (0, [], []) = x at h ⊢
  obtain ⟨b, s⟩ := x
  cases b <;> exact h
/-! benches -/
def Wb (K : Nat) (b : BN) : Prop := (Wp b.2.1 ∧ Ph 1000 0 b.1) ∧ (∀ j, j < 8 → B32 K (b.2.2.1 j)) ∧ Wr b.2.2.2.1 ∧ Wk b.2.2.2.2
def Ws (K : Nat) (σ : ST) : Prop := Wb K (sB σ) ∧ (∀ b, sI σ = some b → Wb K b) ∧ Wz (sZ σ) ∧ (∀ c ∈ sT σ, 0 < c ∧ c < 128) ∧ Ww (sW σ)
theorem Wb.mono {K K' : Nat} {b : BN} (h : Wb K b) (hk : K ≤ K') : Wb K' b := ⟨h.1, fun j hj => (h.2.1 j hj).mono hk, h.2.2⟩
theorem Ws.mono {K K' : Nat} {σ : ST} (h : Ws K σ) (hk : K ≤ K') : Ws K' σ := ⟨h.1.mono hk, fun b hb => (h.2.1 b hb).mono hk, h.2.2⟩
theorem ph_lv {L : LT} (h : Ph 1000 0 L) : lvO L 4 = 0 := by
  have h1 := h.2.2.2.1
  have h2 := h.2.2.2.2
  have e : L.2.2.2.2 = 0 := Int32.toInt_inj.mp (by rw [show (0 : Int32).toInt = 0 from rfl]; omega)
  show L.2.2.2.2.toInt64 = 0
  rw [e]
  rfl
theorem ph_eb {L : LT} (h : Ph 1000 0 L) (n : Nat) : Eb n L := ⟨h.2.2.2.1, by have := h.2.2.2.2; omega⟩
theorem ws_P {K : Nat} {σ : ST} {l : List Int32} (h : Ws K σ) (hl : Wp l) : Ws K (toP σ l) := ⟨⟨⟨hl, h.1.1.2⟩, h.1.2⟩, h.2⟩
theorem ws_M {K : Nat} {σ : ST} {L : LT} (h : Ws K σ) (hl : Ph 1000 0 L) : Ws K (toM σ L) := ⟨⟨⟨h.1.1.1, hl⟩, h.1.2⟩, h.2⟩
theorem ws_F {K : Nat} {σ : ST} {f : Nat → UInt32} (h : Ws K σ) (hl : ∀ j, j < 8 → B32 K (f j)) : Ws K (toF σ f) := ⟨⟨h.1.1, hl, h.1.2.2⟩, h.2⟩
theorem ws_R {K : Nat} {σ : ST} {f : Nat → Nat → Int32} (h : Ws K σ) (hl : Wr f) : Ws K (toR σ f) := ⟨⟨h.1.1, h.1.2.1, hl, h.1.2.2.2⟩, h.2⟩
theorem ws_K {K : Nat} {σ : ST} {f : Nat → Int32} (h : Ws K σ) (hl : Wk f) : Ws K (toK σ f) := ⟨⟨h.1.1, h.1.2.1, h.1.2.2.1, hl⟩, h.2⟩
theorem ws_L {K : Nat} {σ : ST} {f : Nat → Nat → Int64} (h : Ws K σ) : Ws K (toL σ f) := h
theorem ws_Z {K : Nat} {σ : ST} {z : Nat → Int32} (h : Ws K σ) (hl : Wz z) : Ws K (toZ σ z) := ⟨h.1, h.2.1, hl, h.2.2.2⟩
theorem ws_T {K : Nat} {σ : ST} {t : List Int32} (h : Ws K σ) (hl : ∀ c ∈ t, 0 < c ∧ c < 128) : Ws K (toT σ t) := ⟨h.1, h.2.1, h.2.2.1, hl, h.2.2.2.2⟩
theorem ws_W {K : Nat} {σ : ST} {w : Nat × (Nat → Int32) × (Nat → Int32)} (h : Ws K σ) (hl : w.1 ≤ 4) : Ws K (toW σ w) := ⟨h.1, h.2.1, h.2.2.1, h.2.2.2.1, hl⟩
theorem ws_lamp {K : Nat} {σ : ST} (h : Ws K σ) (i q u v : Int32) : Ws K (rLamp σ i q u v).2 := by
  unfold rLamp
  by_cases h1 : i < 0
  · rw [if_pos h1]; exact h
  rw [if_neg h1]
  by_cases h2 : 1000 < i
  · rw [if_pos h2]; exact h
  rw [if_neg h2]
  by_cases h3 : mayO (i.toInt64, q.toInt64, u.toInt64, v.toInt64, 0) = 0
  · rw [if_pos h3]; exact h
  rw [if_neg h3]
  refine ws_M h ?_
  have e1 : i.toInt64.toInt = i.toInt := Int32.toInt_toInt64 i
  have k1 : 0 ≤ i.toInt := by
    rw [Int32.lt_iff_toInt_lt, Int32.toInt_zero] at h1
    omega
  have k2 : i.toInt ≤ 1000 := by
    rw [Int32.lt_iff_toInt_lt, show (1000 : Int32).toInt = 1000 from rfl] at h2
    omega
  have hm : MayP (i.toInt64, q.toInt64, u.toInt64, v.toInt64, 0) := Classical.byContradiction (fun z => h3 ((may_iff (by rw [e1]; exact k1) (by rw [e1]; omega)).mpr z))
  exact ⟨by show 0 ≤ i.toInt64.toInt; omega, by show i.toInt64.toInt ≤ 1000; omega, hm.2.2.2, by show (0 : Int) ≤ (0 : Int32).toInt; decide, by show (0 : Int32).toInt ≤ 0; decide⟩
theorem ws_app {K : Nat} {σ : ST} (h : Ws K σ) {c : Int32} (hc : Vc c) : Ws K (rApp σ c).2 := by
  unfold rApp
  by_cases h1 : (sP σ).length = 8
  · rw [if_pos h1]; exact h
  rw [if_neg h1]
  have h8 := h.1.1.1.1
  refine ws_P h ⟨?_, AllV.app h.1.1.1.2 hc⟩
  rw [List.length_append, List.length_singleton]
  have h8 : (sP σ).length ≤ 8 := h8
  omega
theorem ws_add {K : Nat} {σ : ST} (h : Ws K σ) (k a f : Int32) : Ws K (rAdd σ k a f).2 := by
  unfold rAdd
  by_cases h1 : inO k 7 = 0
  · rw [if_pos h1]; exact h
  rw [if_neg h1]
  by_cases h2 : inO a 4 = 0
  · rw [if_pos h2]; exact h
  rw [if_neg h2]
  by_cases h3 : inO f 17 = 0
  · rw [if_pos h3]; exact h
  rw [if_neg h3]
  obtain ⟨k9, hk, rfl⟩ := in_ix (n := 7) (by decide) h1
  obtain ⟨a9, ha, rfl⟩ := in_ix (n := 4) (by decide) h2
  obtain ⟨f9, hf, rfl⟩ := in_ix (n := 17) (by decide) h3
  exact ws_app h (Vc.mk hk ha hf)
theorem wp_set {l : List Int32} (h : Wp l) {c : Int32} (hc : Vc c) (n : Nat) : Wp (l.set n c) := by
  refine ⟨by rw [List.length_set]; exact h.1, fun x hx => ?_⟩
  rcases List.mem_or_eq_of_mem_set hx with hx | rfl
  · exact h.2 x hx
  · exact hc
theorem ws_change {K : Nat} {σ : ST} (h : Ws K σ) (i w v : Int32) : Ws K (rChange σ i w v).2 := by
  unfold rChange
  by_cases h1 : inO i (sN σ) = 0
  · rw [if_pos h1]; exact h
  rw [if_neg h1]
  by_cases h2 : inO w 3 = 0
  · rw [if_pos h2]; exact h
  rw [if_neg h2]
  by_cases h3 : inO v (nmO w) = 0
  · rw [if_pos h3]; exact h
  rw [if_neg h3]
  have hc : Vc (atP σ i) := AllV.at h.1.1.1.2 _
  refine ws_P h (wp_set h.1.1.1 ?_ _)
  obtain ⟨k9, hk, ek⟩ := hc.kd
  obtain ⟨a9, ha, ea⟩ := hc.an
  obtain ⟨f9, hf, ef⟩ := hc.fg
  generalize atP σ i = c at hc ek ea ef
  obtain ⟨w9, hw, rfl⟩ := in_ix (n := 3) (by decide) h2
  have hw3 : w9 = 0 ∨ w9 = 1 ∨ w9 = 2 := by omega
  rcases hw3 with rfl | rfl | rfl
  · obtain ⟨v9, hv, rfl⟩ := in_ix (n := 7) (by decide) (show ¬ inO v (nI 7) = 0 from h3)
    show Vc (cdO (nI v9) (anO c) (fgO c))
    rw [ea, ef]
    exact Vc.mk hv ha hf
  · obtain ⟨v9, hv, rfl⟩ := in_ix (n := 4) (by decide) (show ¬ inO v (nI 4) = 0 from h3)
    show Vc (cdO (kdO c) (nI v9) (fgO c))
    rw [ek, ef]
    exact Vc.mk hk hv hf
  · obtain ⟨v9, hv, rfl⟩ := in_ix (n := 17) (by decide) (show ¬ inO v (nI 17) = 0 from h3)
    show Vc (cdO (kdO c) (anO c) (nI v9))
    rw [ek, ea]
    exact Vc.mk hk ha hv
theorem ws_turn {K : Nat} {σ : ST} (h : Ws K σ) (i y : Int32) : Ws K (rTurn σ i y).2 := by
  unfold rTurn
  by_cases h1 : inO i (sN σ) = 0
  · rw [if_pos h1]; exact h
  rw [if_neg h1]
  have hc : Vc (atP σ i) := AllV.at h.1.1.1.2 _
  refine ws_P h (wp_set h.1.1.1 ?_ _)
  obtain ⟨k9, hk, ek⟩ := hc.kd
  obtain ⟨f9, hf, ef⟩ := hc.fg
  rw [ek, ef]
  unfold trnO
  exact Vc.mk hk (by omega) hf
theorem ws_move {K : Nat} {σ : ST} (h : Ws K σ) (i j : Int32) : Ws K (rMove σ i j).2 := by
  unfold rMove
  by_cases h1 : inO i (sN σ) = 0
  · rw [if_pos h1]; exact h
  rw [if_neg h1]
  by_cases h2 : inO j (sN σ) = 0
  · rw [if_pos h2]; exact h
  rw [if_neg h2]
  by_cases h3 : i = j
  · rw [if_pos h3]; exact h
  rw [if_neg h3]
  have hc : Vc (atP σ i) := AllV.at h.1.1.1.2 _
  have h8 : (sP σ).length ≤ 8 := h.1.1.1.1
  obtain ⟨n, hn, rfl⟩ := in_ix (n := (sP σ).length) (by omega) h1
  refine ws_P h ⟨?_, fun x hx => ?_⟩
  · refine Nat.le_trans List.length_insertIdx_le_succ ?_
    rw [clamp (by omega), List.length_eraseIdx_of_lt hn]
    omega
  · by_cases hle : j.toNatClampNeg ≤ ((sP σ).eraseIdx (nI n).toNatClampNeg).length
    · rcases (List.mem_insertIdx hle).mp hx with rfl | hx
      · exact hc
      · exact h.1.1.1.2 x (List.mem_of_mem_eraseIdx hx)
    · rw [List.insertIdx_of_length_lt (by omega)] at hx
      exact h.1.1.1.2 x (List.mem_of_mem_eraseIdx hx)
theorem ws_cut {K : Nat} {σ : ST} (h : Ws K σ) (i : Int32) : Ws K (rCut σ i).2 := by
  unfold rCut
  by_cases h1 : inO i (sN σ) = 0
  · rw [if_pos h1]; exact h
  rw [if_neg h1]
  have h8 : (sP σ).length ≤ 8 := h.1.1.1.1
  exact ws_P h ⟨Nat.le_trans (List.length_eraseIdx_le _ _) h8, fun x hx => h.1.1.1.2 x (List.mem_of_mem_eraseIdx hx)⟩
theorem ws_clear {K : Nat} {σ : ST} (h : Ws K σ) : Ws K (rClear σ).2 := ws_P h ⟨Nat.zero_le _, fun c hc => by cases hc⟩
theorem ws_degree {K : Nat} {σ : ST} (h : Ws K σ) (k p : Int32) : Ws K (rDegree σ k p).2 := by
  unfold rDegree
  by_cases h1 : beO k (sN σ) = 0
  · rw [if_pos h1]; exact h
  rw [if_neg h1]
  by_cases h2 : fpO p = 0
  · rw [if_pos h2]; exact h
  rw [if_neg h2]
  generalize behO σ k.toNatClampNeg = B
  unfold degO
  by_cases h3 : B.1 = 0
  · rw [if_pos h3]; exact h
  rw [if_neg h3]
  obtain ⟨S, hS⟩ : ∃ S, shrO B = S := ⟨_, rfl⟩
  rw [hS]
  obtain ⟨x, hx⟩ : ∃ x, fstO S = x := ⟨_, rfl⟩
  rw [hx]
  by_cases h4 : x < 0
  · rw [if_pos h4]; exact h
  · rw [if_neg h4]; exact ws_W h (show 1 ≤ 4 by omega)
theorem ws_sort {K : Nat} {σ : ST} (h : Ws K σ) (k : Int32) : Ws K (rSort σ k).2 := by
  unfold rSort
  by_cases h1 : beO k (sN σ) = 0
  · rw [if_pos h1]; exact h
  rw [if_neg h1]
  generalize behO σ k.toNatClampNeg = B
  unfold srtO
  by_cases h3 : B.1 = 0
  · rw [if_pos h3]; exact h
  rw [if_neg h3]
  by_cases h5 : B.2.1 = 0 ∧ B.2.2.1 = 0 ∧ B.2.2.2.1 = 0
  · rw [if_pos h5]; exact h
  rw [if_neg h5]
  obtain ⟨S, hS⟩ : ∃ S, shrO B = S := ⟨_, rfl⟩
  rw [hS]
  obtain ⟨x, hx⟩ : ∃ x, fstO S = x := ⟨_, rfl⟩
  rw [hx]
  by_cases h4 : x < 0
  · rw [if_pos h4]; exact h
  · rw [if_neg h4]; exact ws_W h (show 1 ≤ 4 by omega)
theorem wz_upd {z : Nat → Int32} (h : Wz z) {n : Int32} (hn : n = -1 ∨ ∃ k, k ≤ 12 ∧ n = nI k) (t : Nat) : Wz (upd z t n) := fun r hr => by
  by_cases e : r = t
  · subst e
    rw [pk_us]
    exact hn
  · rw [pk_un e]
    exact h r hr
theorem ws_mk {K : Nat} {σ : ST} (h : Ws K σ) {n : Int32} (hn : n = -1 ∨ ∃ k, k ≤ 12 ∧ n = nI k) (t : Nat) (f : Nat → Int64) : Ws K (mkL σ t n f) := ws_Z (ws_L h) (wz_upd h.2.2.1 hn t)
theorem ws_list {K : Nat} {σ : ST} (h : Ws K σ) (t n : Int32) : Ws K (rList σ t n).2 := by
  unfold rList
  by_cases h1 : inO t 3 = 0
  · rw [if_pos h1]; exact h
  rw [if_neg h1]
  by_cases h2 : 12 < n
  · rw [if_pos h2]; exact h
  rw [if_neg h2]
  by_cases h3 : n < -1
  · rw [if_pos h3]; exact h
  rw [if_neg h3]
  refine ws_mk h ?_ _ _
  by_cases h4 : n < 0
  · refine Or.inl (Int32.toInt_inj.mp ?_)
    rw [Int32.lt_iff_toInt_lt] at h3 h4
    rw [show (-1 : Int32).toInt = -1 from rfl] at h3 ⊢
    rw [show (0 : Int32).toInt = 0 from rfl] at h4
    omega
  · obtain ⟨j, hj, rfl⟩ := nI_of h4
    exact Or.inr ⟨j, Nat.not_lt.mp (fun z => h2 ((nI_ltI (a := 12) (by decide) hj).mpr z)), rfl⟩
theorem ws_put {K : Nat} {σ : ST} (h : Ws K σ) (t i : Int32) (v : Int64) : Ws K (rPut σ t i v).2 := by
  unfold rPut
  by_cases h1 : inO t 3 = 0
  · rw [if_pos h1]; exact h
  rw [if_neg h1]
  by_cases h2 : zAt σ t = -1
  · rw [if_pos h2]; exact h
  rw [if_neg h2]
  by_cases h3 : inO i (zAt σ t) = 0
  · rw [if_pos h3]; exact h
  rw [if_neg h3]
  exact ws_L h
theorem ws_lay {K : Nat} {σ : ST} (h : Ws K σ) (t k : Int32) : Ws K (rLay σ t k).2 := by
  unfold rLay
  by_cases h1 : inO t 3 = 0
  · rw [if_pos h1]; exact h
  rw [if_neg h1]
  by_cases h2 : beO k (sN σ) = 0
  · rw [if_pos h2]; exact h
  rw [if_neg h2]
  exact ws_mk h (Or.inr ⟨5, by decide, rfl⟩) _ _
theorem ws_readings {K : Nat} {σ : ST} (h : Ws K σ) (t : Int32) : Ws K (rReadings σ t).2 := by
  unfold rReadings
  by_cases h1 : inO t 3 = 0
  · rw [if_pos h1]; exact h
  rw [if_neg h1]
  exact ws_mk h (Or.inr ⟨5, by decide, rfl⟩) _ _
theorem fm_upd {K : Nat} {f : Nat → UInt32} (h : ∀ j, j < 8 → B32 K (f j)) {x : UInt32} (hx : B32 K x) (n : Nat) : ∀ j, j < 8 → B32 K (vf_upd f n x j) := fun j hj => by
  by_cases e : j = n
  · rw [show vf_upd f n x j = x from if_pos e]
    exact hx
  · rw [show vf_upd f n x j = f j from if_neg e]
    exact h j hj
theorem ws_expose {K : Nat} {σ : ST} (h : Ws K σ) (hK : K < 8192) (c : Int32) : Ws (K + 1) (rExpose σ c).2 := by
  unfold rExpose
  by_cases h1 : inO c 8 = 0
  · rw [if_pos h1]; exact h.mono (by omega)
  rw [if_neg h1]
  obtain ⟨n, hn, rfl⟩ := in_ix (n := 8) (by decide) h1
  have h8 : (sP σ).length ≤ 8 := h.1.1.1.1
  refine ws_F (h.mono (Nat.le_succ K)) (fm_upd (fun j hj => (h.1.2.1 j hj).mono (Nat.le_succ K)) ?_ _)
  have hcn : (nI n).toNatClampNeg = n := clamp (by omega)
  show B32 (K + 1) (FP.fadd (sF σ (nI n).toNatClampNeg) (allM σ))
  rw [hcn]
  exact (h.1.2.1 n hn).add (B64.d2f (mea_b (run8_ph h.1.1.2 (fun c hc => h.1.1.1.2 c (List.mem_of_mem_take hc)) (by rw [List.length_take]; omega))) (by decide)) (by omega)
theorem ws_dim {K : Nat} {σ : ST} (h : Ws K σ) (hK : K < 8192) (c n : Int32) : Ws K (rDim σ c n).2 := by
  unfold rDim
  by_cases h1 : inO c 8 = 0
  · rw [if_pos h1]; exact h
  rw [if_neg h1]
  by_cases h2 : inO n 17 = 0
  · rw [if_pos h2]; exact h
  rw [if_neg h2]
  obtain ⟨m, hm, rfl⟩ := in_ix (n := 8) (by decide) h1
  obtain ⟨b, hb, rfl⟩ := in_ix (n := 17) (by decide) h2
  refine ws_F h (fm_upd h.1.2.1 ?_ _)
  have hcn : (nI m).toNatClampNeg = m := clamp (by omega)
  show B32 K (dimO (sF σ (nI m).toNatClampNeg) (nI b))
  rw [hcn]
  exact ((h.1.2.1 m hm).dim hb (by omega)).2
theorem wr_row {f : Nat → Nat → Int32} (h : Wr f) {r : Nat} {g : Nat → Int32} (hg : ∀ i, i < 4 → g i = -1 ∨ Vc (g i)) : Wr (rowU f r g) := fun q hq i hi => by
  by_cases e : q = r
  · rw [show rowU f r g q = g from if_pos e]
    exact hg i hi
  · rw [show rowU f r g q = f q from if_neg e]
    exact h q hq i hi
theorem ws_putR {K : Nat} {σ : ST} (h : Ws K σ) {r i c : Int32} (hr : r.toNatClampNeg < 3) (hc : c = -1 ∨ Vc c) : Ws K (putR σ r i c) := by
  refine ws_R h (wr_row h.1.2.2.1 (fun j hj => ?_))
  by_cases e : j = i.toNatClampNeg
  · rw [e, pk_us]
    exact hc
  · rw [pk_un e]
    exact h.1.2.2.1 _ hr j hj
theorem ws_store {K : Nat} {σ : ST} (h : Ws K σ) (r i k : Int32) : Ws K (rStore σ r i k).2 := by
  unfold rStore
  by_cases h1 : inO r 3 = 0
  · rw [if_pos h1]; exact h
  rw [if_neg h1]
  by_cases h2 : inO k (sN σ) = 0
  · rw [if_pos h2]; exact h
  rw [if_neg h2]
  by_cases h3 : inO i 4 = 0
  · rw [if_pos h3]; exact h
  rw [if_neg h3]
  by_cases h4 : tkO (kAt σ r) (kdO (atP σ k)) = 0
  · rw [if_pos h4]; exact h
  rw [if_neg h4]
  obtain ⟨m, hm, rfl⟩ := in_ix (n := 3) (by decide) h1
  exact ws_putR h (by rw [clamp (by omega)]; exact hm) (Or.inr (AllV.at h.1.1.1.2 _))
theorem rkc_r {σ : ST} {r i : Int32} (h : ¬ rkcO σ r i < 0) : ∃ m n, m < 3 ∧ n < 4 ∧ r = nI m ∧ i = nI n ∧ rkcO σ r i = sR σ m n ∧ ¬ sR σ m n = -1 := by
  unfold rkcO at h ⊢
  by_cases h1 : inO r 3 = 0
  · rw [if_pos h1] at h
    exact absurd (show (-1 : Int32) < 0 by decide) h
  rw [if_neg h1] at h ⊢
  by_cases h2 : inO i 4 = 0
  · rw [if_pos h2] at h
    exact absurd (show (-13 : Int32) < 0 by decide) h
  rw [if_neg h2] at h ⊢
  by_cases h3 : rAt σ r i = -1
  · rw [if_pos h3] at h
    exact absurd (show (-5 : Int32) < 0 by decide) h
  rw [if_neg h3]
  obtain ⟨m, hm, rfl⟩ := in_ix (n := 3) (by decide) h1
  obtain ⟨n, hn, rfl⟩ := in_ix (n := 4) (by decide) h2
  have e1 : (nI m).toNatClampNeg = m := clamp (by omega)
  have e2 : (nI n).toNatClampNeg = n := clamp (by omega)
  have e3 : rAt σ (nI m) (nI n) = sR σ m n := by
    show sR σ (nI m).toNatClampNeg (nI n).toNatClampNeg = _
    rw [e1, e2]
  rw [e3] at h3 ⊢
  exact ⟨m, n, hm, hn, rfl, rfl, rfl, h3⟩
theorem ws_empty {K : Nat} {σ : ST} (h : Ws K σ) (r i : Int32) : Ws K (rEmpty σ r i).2 := by
  show Ws K (if rkcO σ r i < 0 then σ else putR σ r i (-1))
  by_cases h1 : rkcO σ r i < 0
  · rw [if_pos h1]; exact h
  rw [if_neg h1]
  obtain ⟨m, n, hm, hn, rfl, rfl, -⟩ := rkc_r h1
  exact ws_putR h (by rw [clamp (by omega)]; exact hm) (Or.inl rfl)
theorem ws_fetch {K : Nat} {σ : ST} (h : Ws K σ) (r i : Int32) : Ws K (rFetch σ r i).2 := by
  unfold rFetch
  by_cases h1 : rkcO σ r i < 0
  · rw [if_pos h1]; exact h
  rw [if_neg h1]
  obtain ⟨m, n, hm, hn, -, -, e, hne⟩ := rkc_r h1
  rw [e]
  exact ws_app h ((h.1.2.2.1 m hm n hn).resolve_left hne)
theorem ws_copy {K : Nat} {σ : ST} (h : Ws K σ) (r y : Int32) : Ws K (rCopy σ r y).2 := by
  unfold rCopy
  by_cases h1 : inO r 3 = 0
  · rw [if_pos h1]; exact h
  rw [if_neg h1]
  by_cases h2 : inO y 3 = 0
  · rw [if_pos h2]; exact h
  rw [if_neg h2]
  obtain ⟨m, hm, rfl⟩ := in_ix (n := 3) (by decide) h1
  have e1 : (nI m).toNatClampNeg = m := clamp (by omega)
  have hm1 : (nI m).toNatClampNeg < 3 := by rw [e1]; exact hm
  refine ws_K (ws_R h (wr_row h.1.2.2.1 (fun i hi => h.1.2.2.1 _ hm1 i hi))) (fun q hq => ?_)
  by_cases e : q = y.toNatClampNeg
  · rw [e, pk_us]
    exact h.1.2.2.2 _ hm1
  · rw [pk_un e]
    exact h.1.2.2.2 q hq
theorem ws_feed {K : Nat} {σ : ST} (h : Ws K σ) (c : Int32) : Ws K (rFeed σ c).2 := by
  unfold rFeed
  by_cases h1 : c < 1
  · rw [if_pos h1]; exact h
  rw [if_neg h1]
  by_cases h2 : 127 < c
  · rw [if_pos h2]; exact h
  rw [if_neg h2]
  by_cases h3 : (sT σ).length = 60
  · rw [if_pos h3]; exact h
  rw [if_neg h3]
  refine ws_T h (fun x hx => ?_)
  rcases List.mem_append.mp hx with hx | hx
  · exact h.2.2.2.1 x hx
  · rw [List.mem_singleton.mp hx]
    rw [Int32.lt_iff_toInt_lt] at h1 h2
    rw [Int32.lt_iff_toInt_lt, Int32.lt_iff_toInt_lt]
    rw [show (1 : Int32).toInt = 1 from rfl] at h1
    rw [show (127 : Int32).toInt = 127 from rfl] at h2
    rw [show (0 : Int32).toInt = 0 from rfl, show (128 : Int32).toInt = 128 from rfl]
    omega
theorem ws_wipe {K : Nat} {σ : ST} (h : Ws K σ) : Ws K (rWipe σ).2 := ws_T h (fun c hc => by cases hc)
theorem flt_len (w : Nat × (Nat → Int32) × (Nat → Int32)) (s : PS) (h : s.2.1.length ≤ 3) : (fltW w s).1 ≤ 4 := by
  have h1 : ∀ (l : List Nat) (w : Nat × (Nat → Int32) × (Nat → Int32)), (l.foldl (fun w k => notW w 2 (nI k)) w).1 = w.1 + l.length := by
    intro l
    induction l with
    | nil => intro w; rfl
    | cons x r ih =>
      intro w
      rw [List.foldl_cons, ih, List.length_cons]
      show w.1 + 1 + r.length = _
      omega
  show (s.2.1.foldl (fun w k => notW w 2 (nI k)) (0, w.2)).1 + 1 ≤ 4
  rw [h1]
  show 0 + s.2.1.length + 1 ≤ 4
  omega
theorem ws_read {K : Nat} {σ : ST} (h : Ws K σ) : Ws K (rRead σ).2 := by
  have h1 := (txt_ok (sT σ)).1
  have h2 := txt_v (sT σ)
  have hT : Ws K (toT σ []) := ws_T h (fun c hc => by cases hc)
  unfold rRead
  generalize txtP (sT σ) = x at h1 h2 ⊢
  obtain ⟨b, s⟩ := x
  cases b
  · exact ws_W hT (flt_len _ _ h1)
  · show Ws K (if 8 < s.2.2.length then ((-4 : Int32), toW (toT σ []) (notW (0, (sW σ).2) 3 (nI s.2.2.length))) else (nI s.2.2.length, toP (toT σ []) s.2.2)).2
    by_cases h3 : 8 < s.2.2.length
    · rw [if_pos h3]
      exact ws_W hT (show 0 + 1 ≤ 4 by omega)
    · rw [if_neg h3]
      exact ws_P hT ⟨by omega, h2⟩
theorem ws_image {K : Nat} {σ : ST} (h : Ws K σ) : Ws K (rImage σ).2 := ⟨h.1, fun b hb => by cases hb; exact h.1, h.2.2⟩
theorem ws_undo {K : Nat} {σ : ST} (h : Ws K σ) : Ws K (rUndo σ).2 := by
  unfold rUndo
  have h1 := h.2.1
  cases e : sI σ with
  | none => exact h
  | some b => exact ⟨h1 b e, fun b' hb => h1 b' hb, h.2.2⟩
theorem ws_st0 : Ws 0 st0 := by
  refine ⟨⟨⟨⟨Nat.zero_le _, fun c hc => by cases hc⟩, ?_⟩, fun j hj => ?_, fun r hr i hi => Or.inl rfl, fun r hr => ?_⟩, fun b hb => (by cases hb), fun t ht => Or.inl rfl, fun c hc => (by cases hc), Nat.zero_le _⟩
  · exact ⟨by decide, by decide, by decide, by decide, by decide⟩
  · exact b0_32
  · show nI r = 0 ∨ nI r = 1 ∨ nI r = 2
    rcases (by omega : r = 0 ∨ r = 1 ∨ r = 2) with rfl | rfl | rfl
    · exact Or.inl rfl
    · exact Or.inr (Or.inl rfl)
    · exact Or.inr (Or.inr rfl)
