def cntL (k : Nat) : Nat → Nat → Nat
  | 0, _ => 1
  | r + 1, u => ((List.range' 0 k).map (fun i => if u.testBit i then 0 else cntL k r (u ||| 2 ^ i))).sum
theorem ordL_len (l : List Int32) : ∀ (r u : Nat) (dg : Int32) (L : LT), (ordL l r u dg L).length = cntL l.length r u
  | 0, _, _, _ => rfl
  | r + 1, u, dg, L => by
    show ((List.range' 0 l.length).flatMap _).length = ((List.range' 0 l.length).map _).sum
    rw [List.length_flatMap]
    congr 1
    apply List.map_congr_left
    intro i _
    split
    · rfl
    · exact ordL_len l r _ _ _
theorem cnt_0 : cntL 0 0 0 = 1 := rfl
theorem cnt_1 : cntL 1 1 0 = 1 := by decide +kernel
theorem cnt_2 : cntL 2 2 0 = 2 := by decide +kernel
theorem cnt_3 : cntL 3 3 0 = 6 := by decide +kernel
theorem cnt_4 : cntL 4 4 0 = 24 := by decide +kernel
theorem c5_1 : ∀ u, u < 32 → cntL 5 1 u = 5 - ((List.range' 0 5).map (fun i => if u.testBit i then 1 else 0)).sum := by decide +kernel
theorem c5_2 : ∀ u, u < 32 → cntL 5 2 u = (let n := 5 - ((List.range' 0 5).map (fun i => if u.testBit i then 1 else 0)).sum; n * (n - 1)) := by decide +kernel
theorem cnt_5 : cntL 5 5 0 = 120 := by decide +kernel
theorem cnt_ok (k : Nat) (h : k < 6) : 1 ≤ cntL k k 0 ∧ cntL k k 0 ≤ 120 := by
  rcases (by omega : k = 0 ∨ k = 1 ∨ k = 2 ∨ k = 3 ∨ k = 4 ∨ k = 5) with rfl | rfl | rfl | rfl | rfl | rfl
  · rw [cnt_0]; decide
  · rw [cnt_1]; decide
  · rw [cnt_2]; decide
  · rw [cnt_3]; decide
  · rw [cnt_4]; decide
  · rw [cnt_5]; decide
theorem meet_0 (a b x : LT × Int32) : meetO ([], a, b) x = ([(x.1, 1)], x, x) := by
  have h : nI ([] : List (LT × Nat)).length = 0 := by decide
  unfold meetO
  simp only [h, if_true, remO]
def ordersO (l : List Int32) (L : LT) : OC := (ordL l l.length 0 0 L).foldl meetO ([], (L, 0), (L, 0))
theorem ords_eq {l : List Int32} {L : LT} (h5 : l.length ≤ 5) (a b : LT × Int32) : (ordL l l.length 0 0 L).foldl meetO ([], a, b) = ordersO l L := by
  have h1 := (cnt_ok l.length (by omega)).1
  rw [← ordL_len l l.length 0 0 L] at h1
  unfold ordersO
  cases hx : ordL l l.length 0 0 L with
  | nil => rw [hx] at h1; simp at h1
  | cons x r =>
    rw [List.foldl_cons, List.foldl_cons, meet_0, meet_0]
theorem ords_len {l : List Int32} {L : LT} (h5 : l.length ≤ 5) : (ordersO l L).1.length ≤ 120 := by
  have h1 := (cnt_ok l.length (by omega)).2
  rw [← ordL_len l l.length 0 0 L] at h1
  have := meet_len (ordL l l.length 0 0 L) ([], (L, 0), (L, 0))
  simp only [List.length_nil] at this
  unfold ordersO
  omega
set_option maxRecDepth 20000 in
set_option maxHeartbeats 4000000 in
theorem c_X2_meetAll {G : Cx} (d : Nat) {μ : Hp} {l : List Int32} {p : Nat → Int32} {L : LT} {c : OC} (hl : Pl l p) (h5 : l.length ≤ 5) (hb : Ob l p μ) (h2 : μ 2 = some (ligL L)) (hc : Oc c μ) : Ct G (d + 10) 0 0 M_X2_meetAll [.ref 37, .ref 1, .ref 32] μ (OPost (ordersO l L) 38 μ) := by
  refine Ct.ofV (by decide +kernel) (Nat.le_of_ble_eq_true rfl) ?_
  refine v_ls (ls' := [(0, .ref 37), (1, .ref 1), (2, .ref 32)]) rfl ?_
  obtain ⟨h1, h3, h37, h38, hx⟩ := id hb
  obtain ⟨K, hK⟩ := hx 0 (by omega)
  obtain ⟨s, t, h32, h33, h34, h35, h36, hs⟩ := id hc
  refine v_aload_n 2 dX2_meetAll_0 rfl rfl ?_
  refine v_callV (c_X3_forget (d + 9) h32) cs_X2_18 dX2_meetAll_1 h32 rfl rfl (Nat.le_of_ble_eq_true rfl) ?_
  refine rt_k ?_
  refine v_aload_n 0 dX2_meetAll_4 rfl rfl ?_
  refine v_get fl_X2_11 dX2_meetAll_5 (up_n (by decide) h37) rfl ?_
  refine v_iconst (v := 0) dX2_meetAll_8 (by first | rfl | decide) ?_
  refine v_aald dX2_meetAll_9 (up_n (by decide) h38) rfl rfl (nI_in' (k := 0) (by decide)) (row39 (k := 0) rfl (by decide) rfl) ?_
  refine v_aload_n 1 dX2_meetAll_10 rfl rfl ?_
  refine v_get fl_X2_23 dX2_meetAll_11 (up_n (by decide) h1) rfl ?_
  refine v_callV (c_X1_takeFrom (d + 8) (up_n (by decide) hK) (up_n (by decide) h2)) cs_X2_29 dX2_meetAll_14 (up_n (by decide) hK) rfl rfl (Nat.le_of_ble_eq_true rfl) ?_
  refine rt_k ?_
  refine v_aload_n 0 dX2_meetAll_17 rfl rfl ?_
  refine v_aload_n 1 dX2_meetAll_18 rfl rfl ?_
  refine v_aload_n 2 dX2_meetAll_19 rfl rfl ?_
  refine v_iconst (v := 0) dX2_meetAll_20 (by first | rfl | decide) ?_
  refine v_iconst (v := 0) dX2_meetAll_21 (by first | rfl | decide) ?_
  refine v_iconst (v := 0) dX2_meetAll_22 (by first | rfl | decide) ?_
  refine v_callV (d := d + 9) (mc := 0) (ms := 0) (mc' := 0) (ms' := 0) (P' := OPost ((ordL l l.length 0 0 L).foldl meetO ([], c.2.1, c.2.2)) (39 + 0) (up (up μ 32 (outC c.2.1.2 c.2.2.2 0)) 39 (ligL L))) (M' := M_X2_goOn) (avs := [.ref 1, .ref 32, .int (nI 0), .int (nI 0), .int 0]) (st := []) (by
      have hgo := c_X2_goOn (G := G) (d + 5 - l.length) hl h5 l.length 0 0 0 L ([], c.2.1, c.2.2) (up (up μ 32 (outC c.2.1.2 c.2.2.2 0)) 39 (ligL L)) (by omega) (by decide) (Ob.kept (n := 38) hb (fun i hi => up_n (by omega) (up_n (by omega) rfl)) (by omega) (fun x hx9 => by
        by_cases e : x = 0
        · subst e; exact ⟨_, up_s _ _ _⟩
        · obtain ⟨K, hK9⟩ := hx x hx9
          exact ⟨K, up_n (by omega) (up_n (by omega) hK9)⟩)) (up_s _ _ _) ⟨s, t, up_n (by decide) (up_s _ _ _), up_n (by decide) (up_n (by decide) h33), up_n (by decide) (up_n (by decide) h34), up_n (by decide) (up_n (by decide) h35), up_n (by decide) (up_n (by decide) h36), fun j _ _ hj => by simp at hj⟩ (by rw [ordL_len]; exact (by have := (cnt_ok l.length (by omega)).2; simpa using this))
      rw [show d + 5 - l.length + l.length + 4 = d + 9 by omega] at hgo
      exact hgo) cs_X2_33 dX2_meetAll_23 (up_n (by decide) (up_n (by decide) h37)) rfl rfl (Nat.le_of_ble_eq_true rfl) ?_
  rintro _ m ⟨rfl, hc2, hf2, hx2⟩
  refine v_vret dX2_meetAll_26 rfl ?_
  rw [ords_eq h5] at hc2
  exact ⟨rfl, hc2, fun i hi => (hf2 i (by omega)).trans (up_n (by omega) (up_n (by omega) rfl)), hx2⟩

