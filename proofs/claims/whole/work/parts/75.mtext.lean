def tlL (tp : List Int32) (g : Nat) (rec : PS → Bool × PS) (m : Nat) (x : Bool × PS) : Bool × PS := match x with
  | (false, s1) => (false, s1)
  | (true, s1) => if nxP tp s1.1 = 59 then itmsL tp g rec m (s1.1 + 1, s1.2) else (true, s1)
theorem tlL_s (tp : List Int32) (g : Nat) (rec : PS → Bool × PS) (m : Nat) (s : PS) : itmsL tp g rec (m + 1) s = tlL tp g rec m (itemP tp g rec s) := rfl
theorem tlL_f (tp : List Int32) (g : Nat) (rec : PS → Bool × PS) (m : Nat) (s : PS) : tlL tp g rec m (false, s) = (false, s) := rfl
theorem tlL_t {tp : List Int32} {g : Nat} {rec : PS → Bool × PS} {m : Nat} {s : PS} (h : nxP tp s.1 = 59) : tlL tp g rec m (true, s) = itmsL tp g rec m (s.1 + 1, s.2) := by
  show (if nxP tp s.1 = 59 then _ else _) = _
  rw [if_pos h]
theorem tlL_n {tp : List Int32} {g : Nat} {rec : PS → Bool × PS} {m : Nat} {s : PS} (h : ¬ nxP tp s.1 = 59) : tlL tp g rec m (true, s) = (true, s) := by
  show (if nxP tp s.1 = 59 then _ else _) = _
  rw [if_neg h]
set_option maxRecDepth 20000 in
set_option maxHeartbeats 4000000 in
theorem tt_loop {G : Cx} (d : Nat) {tp : List Int32} {rec : PS → Bool × PS} {g : Nat} {m un lr mr hr tr sg hm hi : Int32} {co wh : Int64} (HI : ∀ (s : PS) (μ : Hp), s.2.1.length + g = 3 → Rm m un lr mr hr tr sg hm hi co wh tp s μ → Bu g s → Ct G (d + 4) 0 0 M_X7_itemTold [.ref 60, .int (nI s.2.2.length)] μ (RQ m un lr mr hr tr sg hm hi co wh tp (itemP tp g rec s) μ)) (hGd : ∀ g', g = g' + 1 → ∀ s, Gd g' s (rec s)) (hT : Tb1 tp) : ∀ (k9 : Nat) (x : Bool × PS) (v v1 : Int32) (μ : Hp), (x.1 = true → v = nI x.2.2.2.length ∧ Rm m un lr mr hr tr sg hm hi co wh tp x.2 μ ∧ Bu g x.2 ∧ x.2.2.1.length + g = 3 ∧ tp.length ≤ k9 + x.2.1) → (x.1 = false → Rf m un lr mr hr tr sg hm hi co wh tp x.2 μ) → V G M_X7_textTold (d + 5) 0 0 (RQ m un lr mr hr tr sg hm hi co wh tp (tlL tp g rec k9 x) μ) 6 [(2, .int v), (0, .ref 60), (1, .int v1)] [] μ := by
  intro k9
  induction k9 with
  | zero =>
    intro x v v1 μ hok hbad
    obtain ⟨b, s1⟩ := x
    cases b with
    | true =>
      obtain ⟨ev, hRm, hbx, hdx, hpx⟩ := hok rfl
      obtain ⟨t, ops, tc, h60, h75, h76, h77, hp, ht60, hk, hop, h8⟩ := id hRm
      have hlen := hbx.len
      have hk : s1.1 ≤ tp.length := hk
      refine v_aload_n 1 dX7_textTold_6 rfl rfl ?_
      refine v_get fl_X7_338 dX7_textTold_7 h60 rfl ?_
      refine v_if_ge (tgt := 41) dX7_textTold_10 (by decide) (fun hc10 => ?_) (fun hc10 => ?_)
      · exact absurd hc10 (by decide)
      ·
        refine v_aload_n 1 dX7_textTold_13 rfl rfl ?_
        refine v_callV (c_X7_next (d + 4) h60 h75 hp ht60 hk) cs_X7_334 dX7_textTold_14 h60 rfl rfl (Nat.le_of_ble_eq_true rfl) ?_
        refine rt_k ?_
        refine v_bipush (v := 59) dX7_textTold_17 (by first | rfl | decide) ?_
        refine v_icmp_ne (tgt := 41) dX7_textTold_19 (by decide) (fun hc19 => ?_) (fun hc19 => ?_)
        ·
          refine v_iload_n 0 dX7_textTold_41 rfl rfl ?_
          refine v_iret dX7_textTold_42 rfl (by first | rfl | decide | exact nar_b (by first | assumption | rfl)) ?_
          have hn59 : ¬ nxP tp s1.1 = 59 := fun z => hc19 ((nx_eq hT (by decide) (by decide)).mpr z)
          rw [tlL_n hn59]
          exact ⟨v, rfl, fun _ => ⟨ev, hRm⟩, fun z => (by cases (show true = false from z)), fun _ _ _ _ => rfl⟩
        · have h9 := (nx_eq hT (by decide) (by decide)).mp hc19
          have := nx_lt (tp := tp) (k := s1.1) (by rw [h9]; decide)
          have hpx : tp.length ≤ 0 + s1.1 := hpx
          omega
    | false =>
      obtain ⟨t, ops, tc, at2, h60, h75, h76, h77, ht60, hk, hop⟩ := hbad rfl
      have hk : s1.1 ≤ tp.length := hk
      refine v_aload_n 1 dX7_textTold_6 rfl rfl ?_
      refine v_get fl_X7_338 dX7_textTold_7 h60 rfl ?_
      refine v_if_ge (tgt := 41) dX7_textTold_10 (by decide) (fun hc10 => ?_) (fun hc10 => ?_)
      ·
        refine v_iload_n 0 dX7_textTold_41 rfl rfl ?_
        refine v_iret dX7_textTold_42 rfl (by first | rfl | decide | exact nar_b (by first | assumption | rfl)) ?_
        rw [tlL_f]
        exact ⟨v, rfl, fun z => (by cases (show false = true from z)), fun _ => hbad rfl, fun _ _ _ _ => rfl⟩
      · exact absurd (Int32.not_lt.mp (nn0 (by omega))) hc10
  | succ k9 ih =>
    intro x v v1 μ hok hbad
    obtain ⟨b, s1⟩ := x
    cases b with
    | true =>
      obtain ⟨ev, hRm, hbx, hdx, hpx⟩ := hok rfl
      obtain ⟨t, ops, tc, h60, h75, h76, h77, hp, ht60, hk, hop, h8⟩ := id hRm
      have hlen := hbx.len
      have hk : s1.1 ≤ tp.length := hk
      refine v_aload_n 1 dX7_textTold_6 rfl rfl ?_
      refine v_get fl_X7_338 dX7_textTold_7 h60 rfl ?_
      refine v_if_ge (tgt := 41) dX7_textTold_10 (by decide) (fun hc10 => ?_) (fun hc10 => ?_)
      · exact absurd hc10 (by decide)
      ·
        refine v_aload_n 1 dX7_textTold_13 rfl rfl ?_
        refine v_callV (c_X7_next (d + 4) h60 h75 hp ht60 hk) cs_X7_334 dX7_textTold_14 h60 rfl rfl (Nat.le_of_ble_eq_true rfl) ?_
        refine rt_k ?_
        refine v_bipush (v := 59) dX7_textTold_17 (by first | rfl | decide) ?_
        refine v_icmp_ne (tgt := 41) dX7_textTold_19 (by decide) (fun hc19 => ?_) (fun hc19 => ?_)
        ·
          refine v_iload_n 0 dX7_textTold_41 rfl rfl ?_
          refine v_iret dX7_textTold_42 rfl (by first | rfl | decide | exact nar_b (by first | assumption | rfl)) ?_
          have hn59 : ¬ nxP tp s1.1 = 59 := fun z => hc19 ((nx_eq hT (by decide) (by decide)).mpr z)
          rw [tlL_n hn59]
          exact ⟨v, rfl, fun _ => ⟨ev, hRm⟩, fun z => (by cases (show true = false from z)), fun _ _ _ _ => rfl⟩
        ·
          refine v_aload_n 1 dX7_textTold_22 rfl rfl ?_
          refine v_dup dX7_textTold_23 rfl ?_
          refine v_get fl_X7_331 dX7_textTold_24 h60 rfl ?_
          refine v_iconst (v := 1) dX7_textTold_27 (by first | rfl | decide) ?_
          refine v_iadd dX7_textTold_28 ?_
          refine v_put fp_X7_331 dX7_textTold_29 h60 (Nat.le_of_ble_eq_true rfl) (by first | rfl | decide) (by first | rfl | decide) ?_
          rw [nI_1]
          refine v_aload_n 1 dX7_textTold_32 rfl rfl ?_
          refine v_iload_n 0 dX7_textTold_33 rfl rfl ?_
          have h9 : nxP tp s1.1 = 59 := (nx_eq hT (by decide) (by decide)).mp hc19
          have hkl : s1.1 < tp.length := nx_lt (by rw [h9]; decide)
          have hRm2 : Rm m un lr mr hr tr sg hm hi co wh tp (s1.1 + 1, s1.2) (up μ 60 (modC m co wh un lr mr hr (nI tp.length) (nI (s1.1 + 1)) (-1) (nI s1.2.1.length) tr sg hm hi)) := ⟨t, ops, tc, up_s _ _ _, up_n (by decide) h75, up_n (by decide) h76, up_n (by decide) h77, hp, ht60, hkl, hop, h8⟩
          have hb2 : Bu g (s1.1 + 1, s1.2) := hbx.after ⟨by show s1.1 ≤ s1.1 + 1; omega, by show s1.2.2.length ≤ s1.2.2.length + _; omega⟩ (by show s1.1 + 1 ≤ 60; omega)
          subst ev
          refine v_hp (show _ = up μ 60 (modC m co wh un lr mr hr (nI tp.length) (nI (s1.1 + 1)) (-1) (nI s1.2.1.length) tr sg hm hi) from rfl) ?_
          refine v_callV (M' := M_X7_itemTold) (avs := [.int (nI s1.2.2.length)]) (st := []) (HI (s1.1 + 1, s1.2) _ hdx hRm2 hb2) cs_X7_353 dX7_textTold_34 (up_s _ _ _) rfl rfl (Nat.le_of_ble_eq_true rfl) ?_
          rintro _ m2 ⟨v2, rfl, ht2, hf2, hfr2⟩
          have hgd := item_Gd (tp := tp) hGd (s1.1 + 1, s1.2)
          have hr3 : ∀ i, i ≠ 60 → i ≠ 76 → i ≠ 77 → m2 i = μ i := fun i a b c => (hfr2 i a b c).trans (up_n a rfl)
          refine v_istore_n dX7_textTold_37 rfl (by decide) (fun y2 e_y2 => ?_)
          refine v_ls (ls' := [(2, .int y2), (0, .ref 60), (1, .int v1)]) rfl ?_
          subst e_y2
          refine v_goto (tgt := 6) dX7_textTold_38 (by decide) ?_
          rw [tlL_t h9, tlL_s]
          refine v_pick [0, 1, 2] rfl ?_
          refine v_post (ih (itemP tp g rec (s1.1 + 1, s1.2)) _ v1 m2 (fun hb => ?_) hf2) ?_
          · obtain ⟨q1, q2⟩ := ht2 hb
            obtain ⟨d1, d2, d3, d4⟩ := hgd
            obtain ⟨d4, d5, d6⟩ := d4 hb
            have d6 : s1.1 + 1 < (itemP tp g rec (s1.1 + 1, s1.2)).2.1 := d6
            obtain ⟨_, _, _, _, _, _, _, _, _, hk3, _, _⟩ := id q2
            have hpx : tp.length ≤ k9 + 1 + s1.1 := hpx
            refine ⟨q1, q2, hb2.after ⟨d1, d2⟩ (by omega), ?_, by omega⟩
            rw [d4]
            exact hdx
          · rintro r9 m9 ⟨v9, q1, q2, q3, q4⟩
            exact ⟨v9, q1, q2, q3, fun i a b c => (q4 i a b c).trans (hr3 i a b c)⟩
          
    | false =>
      obtain ⟨t, ops, tc, at2, h60, h75, h76, h77, ht60, hk, hop⟩ := hbad rfl
      have hk : s1.1 ≤ tp.length := hk
      refine v_aload_n 1 dX7_textTold_6 rfl rfl ?_
      refine v_get fl_X7_338 dX7_textTold_7 h60 rfl ?_
      refine v_if_ge (tgt := 41) dX7_textTold_10 (by decide) (fun hc10 => ?_) (fun hc10 => ?_)
      ·
        refine v_iload_n 0 dX7_textTold_41 rfl rfl ?_
        refine v_iret dX7_textTold_42 rfl (by first | rfl | decide | exact nar_b (by first | assumption | rfl)) ?_
        rw [tlL_f]
        exact ⟨v, rfl, fun z => (by cases (show false = true from z)), fun _ => hbad rfl, fun _ _ _ _ => rfl⟩
      · exact absurd (Int32.not_lt.mp (nn0 (by omega))) hc10

set_option maxRecDepth 20000 in
set_option maxHeartbeats 4000000 in
theorem c_X7_textTold {G : Cx} (d : Nat) {μ : Hp} {s : PS} {tp : List Int32} {rec : PS → Bool × PS} {g : Nat} {m un lr mr hr tr sg hm hi : Int32} {co wh : Int64} (HI : ∀ (s : PS) (μ : Hp), s.2.1.length + g = 3 → Rm m un lr mr hr tr sg hm hi co wh tp s μ → Bu g s → Ct G (d + 4) 0 0 M_X7_itemTold [.ref 60, .int (nI s.2.2.length)] μ (RQ m un lr mr hr tr sg hm hi co wh tp (itemP tp g rec s) μ)) (hGd : ∀ g', g = g' + 1 → ∀ s, Gd g' s (rec s)) (hT : Tb1 tp) (hrm : Rm m un lr mr hr tr sg hm hi co wh tp s μ) (hb : Bu g s) (hd3 : s.2.1.length + g = 3) : Ct G (d + 5) 0 0 M_X7_textTold [.ref 60, .int (nI s.2.2.length)] μ (RQ m un lr mr hr tr sg hm hi co wh tp (itmsL tp g rec 60 s) μ) := by
  refine Ct.ofV (by decide +kernel) (Nat.le_of_ble_eq_true rfl) ?_
  refine v_ls (ls' := [(0, .ref 60), (1, .int (nI s.2.2.length))]) rfl ?_
  obtain ⟨t, ops, tc, h60, h75, h76, h77, hp, ht60, hk, hop, h8⟩ := id hrm
  refine v_aload_n 0 dX7_textTold_0 rfl rfl ?_
  refine v_iload_n 1 dX7_textTold_1 rfl rfl ?_
  refine v_callV (M' := M_X7_itemTold) (avs := [.int (nI s.2.2.length)]) (st := []) (HI s _ hd3 hrm hb) cs_X7_353 dX7_textTold_2 h60 rfl rfl (Nat.le_of_ble_eq_true rfl) ?_
  rintro _ m2 ⟨v2, rfl, ht2, hf2, hfr2⟩
  have hgd := item_Gd (tp := tp) hGd s
  refine v_istore_n dX7_textTold_5 rfl (by decide) (fun y2 e_y2 => ?_)
  refine v_ls (ls' := [(2, .int y2), (0, .ref 60), (1, .int (nI s.2.2.length))]) rfl ?_
  subst e_y2
  rw [show (60 : Nat) = 59 + 1 from rfl, tlL_s]
  refine v_post (tt_loop d HI hGd hT 59 (itemP tp g rec s) _ _ m2 (fun hb9 => ?_) hf2) ?_
  · obtain ⟨q1, q2⟩ := ht2 hb9
    obtain ⟨d1, d2, d3, d4⟩ := hgd
    obtain ⟨d4, d5, d6⟩ := d4 hb9
    obtain ⟨_, _, _, _, _, _, _, _, _, hk3, _, _⟩ := id q2
    refine ⟨q1, q2, hb.after ⟨d1, d2⟩ (by omega), ?_, by omega⟩
    rw [d4]
    exact hd3
  · rintro r9 m9 ⟨v9, q1, q2, q3, q4⟩
    exact ⟨v9, q1, q2, q3, fun i a b c => (q4 i a b c).trans (hfr2 i a b c)⟩
  

set_option maxRecDepth 20000 in
set_option maxHeartbeats 4000000 in
theorem c_texts {G : Cx} (d : Nat) {tp : List Int32} {m un lr mr hr tr sg hm hi : Int32} {co wh : Int64} (hT : Tb1 tp) : ∀ (g : Nat) (s : PS) (μ : Hp), s.2.1.length + g = 3 → Rm m un lr mr hr tr sg hm hi co wh tp s μ → Bu g s → Ct G (d + 2 * g + 5) 0 0 M_X7_textTold [.ref 60, .int (nI s.2.2.length)] μ (RQ m un lr mr hr tr sg hm hi co wh tp (itmsP tp g s) μ)
  | 0, s, μ, hd3, hrm, hb => c_X7_textTold (d + 2 * 0) (fun s μ hd3 hrm hb => c_X7_itemTold (d + 2 * 0) (fun g' h => by omega) (fun g' h => by omega) hrm hb hd3 hT) (fun g' h => by omega) hT hrm hb hd3
  | g + 1, s, μ, hd3, hrm, hb => c_X7_textTold (d + 2 * (g + 1)) (fun s μ hd3 hrm hb => c_X7_itemTold (d + 2 * (g + 1)) (fun g' h s μ hd3 hrm hb => by
      obtain rfl : g = g' := by omega
      have := c_texts (d := d) (G := G) hT g s μ hd3 hrm hb
      rw [show d + 2 * g + 5 = d + 2 * (g + 1) + 3 by omega] at this
      exact this) (fun g' h => by
      obtain rfl : g = g' := by omega
      exact itmsP_Gd tp g) hrm hb hd3 hT) (fun g' h => by
      obtain rfl : g = g' := by omega
      exact itmsP_Gd tp g) hT hrm hb hd3
