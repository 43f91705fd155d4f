theorem rpt_len : ∀ (m n : Nat) (cs : List Int32), (rptP m n cs).length = cs.length + m
  | 0, _, _ => rfl
  | m + 1, n, cs => by
    rw [rptP, rpt_len m (n + 1), List.length_append, List.length_singleton]
    omega
set_option maxRecDepth 20000 in
set_option maxHeartbeats 4000000 in
theorem repeat_loop {G : Cx} (d : Nat) {f0 mo : Nat} {n k p : Int32} (hfm : f0 + mo < 2 ^ 20) : ∀ (m : Nat) (j : Nat) (cs : List Int32) (cd : Nat → Int32) (μ : Hp), j + m = f0 + mo → j < cs.length → cs.length + m < 2 ^ 20 → μ 25 = some (redC n k p (nI cs.length)) → μ 28 = some (arI 8 cd) → C8 cs cd → V G M_X4_repeat (d + 1) 0 0 (fun r μ' => r = none ∧ ∃ cd', μ' = up (up μ 28 (arI 8 cd')) 25 (redC n k p (nI (cs.length + m))) ∧ C8 (rptP m j cs) cd') 2 [(3, .int (nI j)), (0, .ref 25), (1, .int (nI f0)), (2, .int (nI mo))] [] (μ) := by
  intro m
  induction m with
  | zero =>
    intro j cs cd μ hj hjc hcm h25 h28 h8
    refine v_iload_n 0 dX4_repeat_2 rfl rfl ?_
    refine v_iload_n 2 dX4_repeat_3 rfl rfl ?_
    refine v_iload_n 3 dX4_repeat_4 rfl rfl ?_
    refine v_iadd dX4_repeat_5 ?_
    rw [nI_add]
    refine v_icmp_ge (tgt := 35) dX4_repeat_6 (by decide) (fun hc6 => ?_) (fun hc6 => ?_)
    ·
      refine v_vret dX4_repeat_35 rfl ?_
      exact ⟨rfl, cd, by rw [up_id h28]; exact (up_id h25).symm, h8⟩
    · exact absurd ((nI_leI (by omega) (by omega)).mpr (by omega)) hc6
  | succ m ih =>
    intro j cs cd μ hj hjc hcm h25 h28 h8
    refine v_iload_n 0 dX4_repeat_2 rfl rfl ?_
    refine v_iload_n 2 dX4_repeat_3 rfl rfl ?_
    refine v_iload_n 3 dX4_repeat_4 rfl rfl ?_
    refine v_iadd dX4_repeat_5 ?_
    rw [nI_add]
    refine v_icmp_ge (tgt := 35) dX4_repeat_6 (by decide) (fun hc6 => ?_) (fun hc6 => ?_)
    · have := (nI_leI (by omega) (by omega)).mp hc6
      omega
    ·
      refine v_aload_n 1 dX4_repeat_9 rfl rfl ?_
      refine v_iload_n 0 dX4_repeat_10 rfl rfl ?_
      refine v_bipush (v := 8) dX4_repeat_11 (by first | rfl | decide) ?_
      refine v_icmp_ge (tgt := 25) dX4_repeat_13 (by decide) (fun hc13 => ?_) (fun hc13 => ?_)
      ·
        refine v_iconst (v := 0) dX4_repeat_25 (by first | rfl | decide) ?_
        refine v_callV (c_X4_keep d h25 h28 h8 (by omega)) cs_X4_71 dX4_repeat_26 h25 rfl rfl (Nat.le_of_ble_eq_true rfl) ?_
        rintro _ m2 ⟨rfl, cd2, hm2, hcd2⟩
        refine v_iinc (v := 1) 0 dX4_repeat_29 rfl rfl (by decide) (fun z e_z => ?_)
        refine v_ls (ls' := [(3, .int z), (0, .ref 25), (1, .int (nI f0)), (2, .int (nI mo))]) rfl ?_
        rw [nI_1] at e_z
        subst e_z
        refine v_goto (tgt := 2) dX4_repeat_32 (by decide) ?_
        have hk8 : C8 (cs ++ [cs.getD j 0]) cd2 := hcd2 _ (fun hlt => by
          have := (nI_leI (a := 8) (by decide) (by omega)).mp hc13
          omega)
        have hl2 : (cs ++ [cs.getD j 0]).length = cs.length + 1 := by rw [List.length_append]; rfl
        have h25b : m2 25 = some (redC n k p (nI (cs ++ [cs.getD j 0]).length)) := by rw [hm2, up_s, hl2]
        have h28b : m2 28 = some (arI 8 cd2) := by rw [hm2]; exact up_n (by decide) (up_s _ _ _)
        refine v_post (ih (j + 1) _ cd2 m2 (by omega) (by omega) (by omega) h25b h28b hk8) ?_
        rintro r2 m3 ⟨hr2, cd3, hm3, h83⟩
        refine ⟨hr2, cd3, ?_, h83⟩
        rw [hm3, hm2, hl2, up_comm _ (by decide) _ _, up_up, up_comm _ (by decide) _ _, up_up, show cs.length + 1 + m = cs.length + (m + 1) by omega]
        
      ·
        refine v_aload_n 1 dX4_repeat_16 rfl rfl ?_
        refine v_get fl_X4_18 dX4_repeat_17 h25 rfl ?_
        refine v_iload_n 0 dX4_repeat_20 rfl rfl ?_
        refine v_iald dX4_repeat_21 h28 (nI_in' (by have := (nI_ltI (b := 8) (by omega) (by decide)).mp (Int32.not_le.mp hc13); omega)) ?_
        refine v_goto (tgt := 26) dX4_repeat_22 (by decide) ?_
        refine v_callV (c_X4_keep d h25 h28 h8 (by omega)) cs_X4_71 dX4_repeat_26 h25 rfl rfl (Nat.le_of_ble_eq_true rfl) ?_
        rintro _ m2 ⟨rfl, cd2, hm2, hcd2⟩
        refine v_iinc (v := 1) 0 dX4_repeat_29 rfl rfl (by decide) (fun z e_z => ?_)
        refine v_ls (ls' := [(3, .int z), (0, .ref 25), (1, .int (nI f0)), (2, .int (nI mo))]) rfl ?_
        rw [nI_1] at e_z
        subst e_z
        refine v_goto (tgt := 2) dX4_repeat_32 (by decide) ?_
        have hk8 : C8 (cs ++ [cs.getD j 0]) cd2 := hcd2 _ (fun hlt => by
          rw [clamp (by omega)]
          exact (h8 j (by have := (nI_ltI (b := 8) (by omega) (by decide)).mp (Int32.not_le.mp hc13); omega) hjc).symm)
        have hl2 : (cs ++ [cs.getD j 0]).length = cs.length + 1 := by rw [List.length_append]; rfl
        have h25b : m2 25 = some (redC n k p (nI (cs ++ [cs.getD j 0]).length)) := by rw [hm2, up_s, hl2]
        have h28b : m2 28 = some (arI 8 cd2) := by rw [hm2]; exact up_n (by decide) (up_s _ _ _)
        refine v_post (ih (j + 1) _ cd2 m2 (by omega) (by omega) (by omega) h25b h28b hk8) ?_
        rintro r2 m3 ⟨hr2, cd3, hm3, h83⟩
        refine ⟨hr2, cd3, ?_, h83⟩
        rw [hm3, hm2, hl2, up_comm _ (by decide) _ _, up_up, up_comm _ (by decide) _ _, up_up, show cs.length + 1 + m = cs.length + (m + 1) by omega]
        

set_option maxRecDepth 20000 in
set_option maxHeartbeats 4000000 in
theorem c_X4_repeat {G : Cx} (d : Nat) {μ : Hp} {cs : List Int32} {cd : Nat → Int32} {f0 mo : Nat} {n k p : Int32} (hfc : f0 < cs.length) (hcm : cs.length + mo < 2 ^ 20) (h25 : μ 25 = some (redC n k p (nI cs.length))) (h28 : μ 28 = some (arI 8 cd)) (h8 : C8 cs cd) : Ct G (d + 1) 0 0 M_X4_repeat [.ref 25, .int (nI f0), .int (nI mo)] μ (fun r μ' => r = none ∧ ∃ cd', μ' = up (up μ 28 (arI 8 cd')) 25 (redC n k p (nI (cs.length + mo))) ∧ C8 (rptP mo f0 cs) cd') := by
  refine Ct.ofV (by decide +kernel) (Nat.le_of_ble_eq_true rfl) ?_
  refine v_ls (ls' := [(0, .ref 25), (1, .int (nI f0)), (2, .int (nI mo))]) rfl ?_
  refine v_iload_n 1 dX4_repeat_0 rfl rfl ?_
  refine v_istore_n dX4_repeat_1 rfl (by decide) (fun x3 e_x3 => ?_)
  refine v_ls (ls' := [(3, .int x3), (0, .ref 25), (1, .int (nI f0)), (2, .int (nI mo))]) rfl ?_
  subst e_x3
  exact repeat_loop d (by omega) mo f0 cs cd μ (by omega) hfc (by omega) h25 h28 h8
  

def Gd (g : Nat) (s : PS) (x : Bool × PS) : Prop := s.1 ≤ x.2.1 ∧ x.2.2.2.length ≤ s.2.2.length + (x.2.1 - s.1) * 4 ^ g ∧ s.2.2.length ≤ x.2.2.2.length ∧ (x.1 = true → x.2.2.1 = s.2.1 ∧ s.2.2.length < x.2.2.2.length ∧ s.1 < x.2.1)
theorem num_ge (tp : List Int32) (k : Nat) : k ≤ (numP tp k).2 := by
  unfold numP
  split
  · exact Nat.le_refl _
  · split
    · exact Nat.le_succ _
    · split
      · exact Nat.le_succ _
      · show k ≤ k + 2; omega
theorem filN_ok (tp : List Int32) (kind an : Int32) (s : PS) : s.1 ≤ (filN tp kind an s).2.1 ∧ (filN tp kind an s).2.2.2.length ≤ s.2.2.length + 1 ∧ s.2.2.length ≤ (filN tp kind an s).2.2.2.length ∧ ((filN tp kind an s).1 = true → (filN tp kind an s).2.2.1 = s.2.1 ∧ (filN tp kind an s).2.2.2.length = s.2.2.length + 1) := by
  have h := num_ge tp s.1
  unfold filN
  split
  · exact ⟨Nat.le_refl _, by simp, by simp, fun _ => ⟨rfl, by simp⟩⟩
  · split
    · exact ⟨h, Nat.le_succ _, Nat.le_refl _, fun z => by cases z⟩
    · exact ⟨h, by simp, by simp, fun _ => ⟨rfl, by simp⟩⟩
theorem filP_ok (tp : List Int32) (kind : Int32) (s : PS) : s.1 ≤ (filP tp kind s).2.1 ∧ (filP tp kind s).2.2.2.length ≤ s.2.2.length + 1 ∧ s.2.2.length ≤ (filP tp kind s).2.2.2.length ∧ ((filP tp kind s).1 = true → (filP tp kind s).2.2.1 = s.2.1 ∧ (filP tp kind s).2.2.2.length = s.2.2.length + 1) := by
  unfold filP
  split
  · exact filN_ok tp kind 0 s
  · split
    · exact ⟨Nat.le_refl _, Nat.le_succ _, Nat.le_refl _, fun z => by cases z⟩
    · split
      · have h := filN_ok tp kind (figP tp s.1 3) (s.1 + 1, s.2)
        exact ⟨Nat.le_trans (Nat.le_succ _) h.1, h.2⟩
      · split
        · have h := filN_ok tp kind (figP tp s.1 3) (s.1 + 2, s.2)
          exact ⟨Nat.le_trans (Nat.le_add_right _ 2) h.1, h.2⟩
        · exact ⟨Nat.le_succ _, Nat.le_succ _, Nat.le_refl _, fun z => by cases z⟩
theorem one_le_p4 (g : Nat) : 1 ≤ 4 ^ g := Nat.pow_pos (by decide)
theorem fil_Gd (tp : List Int32) (kind : Int32) (g : Nat) (s : PS) : Gd g s (filP tp kind (s.1 + 1, s.2)) := by
  obtain ⟨h1, h2, h3, h4⟩ := filP_ok tp kind (s.1 + 1, s.2)
  have h1 : s.1 + 1 ≤ (filP tp kind (s.1 + 1, s.2)).2.1 := h1
  have h5 : 1 * 1 ≤ ((filP tp kind (s.1 + 1, s.2)).2.1 - s.1) * 4 ^ g := Nat.mul_le_mul (by omega) (one_le_p4 g)
  refine ⟨by omega, ?_, h3, fun z => ?_⟩
  · have h2 : _ ≤ s.2.2.length + 1 := h2
    omega
  · obtain ⟨h6, h7⟩ := h4 z
    have h7 : _ = s.2.2.length + 1 := h7
    exact ⟨h6, by omega, by omega⟩
theorem tms_le {tp : List Int32} {k : Nat} (h1 : ¬ nxP tp k < 50) (h2 : ¬ 52 < nxP tp k) : ∃ T, 2 ≤ T ∧ T ≤ 4 ∧ nxP tp k - 48 = nI T := by
  revert h1 h2
  generalize nxP tp k = x
  intro h1 h2
  rw [Int32.lt_iff_toInt_lt] at h1 h2
  rw [show (50 : Int32).toInt = 50 from rfl] at h1
  rw [show (52 : Int32).toInt = 52 from rfl] at h2
  refine ⟨(x.toInt - 48).toNat, by omega, by omega, ?_⟩
  apply Int32.toInt_inj.mp
  rw [Int32.toInt_sub, nI_toInt (by omega), show (48 : Int32).toInt = 48 from rfl, Int.bmod_eq_of_le (by simp; omega) (by simp; omega)]
  omega
theorem grp_Gd {tp : List Int32} {rec : PS → Bool × PS} {g : Nat} (hr : ∀ s, Gd g s (rec s)) (s : PS) (h1 : ¬ nxP tp s.1 < 50) (h2 : ¬ 52 < nxP tp s.1) : Gd (g + 1) s (grpP tp rec s) := by
  obtain ⟨T, hT1, hT2, hT⟩ := tms_le h1 h2
  unfold grpP
  split
  · have h := hr (s.1 + 2, s.2.1 ++ [s.1 + 1], s.2.2)
    revert h
    generalize rec (s.1 + 2, s.2.1 ++ [s.1 + 1], s.2.2) = x
    obtain ⟨b, s2⟩ := x
    rintro ⟨q1, q2, q3, q4⟩
    have q1 : s.1 + 2 ≤ s2.1 := q1
    have q2 : s2.2.2.length ≤ s.2.2.length + (s2.1 - (s.1 + 2)) * 4 ^ g := q2
    have q3 : s.2.2.length ≤ s2.2.2.length := q3
    have hp : 4 ^ (g + 1) = 4 * 4 ^ g := by rw [Nat.pow_succ, Nat.mul_comm]
    have hm : (s2.1 - (s.1 + 2)) * 4 ^ g * 4 ≤ (s2.1 - s.1) * 4 ^ (g + 1) := by
      rw [hp, Nat.mul_comm 4, ← Nat.mul_assoc]
      exact Nat.mul_le_mul_right _ (Nat.mul_le_mul_right _ (by omega))
    have hm1 : (s2.1 - (s.1 + 2)) * 4 ^ g * 4 ≤ (s2.1 + 1 - s.1) * 4 ^ (g + 1) := by
      rw [hp, Nat.mul_comm 4, ← Nat.mul_assoc]
      exact Nat.mul_le_mul_right _ (Nat.mul_le_mul_right _ (by omega))
    cases b with
    | false =>
      refine ⟨by show s.1 ≤ s2.1; omega, ?_, q3, fun z => by cases z⟩
      show s2.2.2.length ≤ s.2.2.length + (s2.1 - s.1) * 4 ^ (g + 1)
      omega
    | true =>
      obtain ⟨q5, q6, q7⟩ := q4 rfl
      have q6 : s.2.2.length < s2.2.2.length := q6
      show Gd (g + 1) s (if nxP tp s2.1 = 41 then _ else _)
      split
      · rw [hT, clamp (by omega)]
        have hl := rpt_len ((s2.2.2.length - s.2.2.length) * (T - 1)) s.2.2.length s2.2.2
        have hx : (s2.2.2.length - s.2.2.length) * (T - 1) ≤ (s2.2.2.length - s.2.2.length) * 3 := Nat.mul_le_mul_left _ (by omega)
        refine ⟨by show s.1 ≤ s2.1 + 1; omega, ?_, ?_, fun _ => ⟨rfl, ?_, by show s.1 < s2.1 + 1; omega⟩⟩
        · show (rptP _ _ _).length ≤ s.2.2.length + (s2.1 + 1 - s.1) * 4 ^ (g + 1)
          omega
        · show _ ≤ (rptP _ _ _).length
          omega
        · show _ < (rptP _ _ _).length
          omega
      · refine ⟨by show s.1 ≤ s2.1; omega, ?_, q3, fun z => by cases z⟩
        show s2.2.2.length ≤ s.2.2.length + (s2.1 - s.1) * 4 ^ (g + 1)
        omega
  · exact ⟨Nat.le_succ _, Nat.le_add_right _ _, Nat.le_refl _, fun z => by cases z⟩
theorem Gd_0 (g : Nat) (s : PS) : Gd g s (false, s) := ⟨Nat.le_refl _, Nat.le_add_right _ _, Nat.le_refl _, fun z => by cases z⟩
theorem item_Gd {tp : List Int32} {rec : PS → Bool × PS} {g : Nat} (hr : ∀ g', g = g' + 1 → ∀ s, Gd g' s (rec s)) (s : PS) : Gd g s (itemP tp g rec s) := by
  unfold itemP
  split
  · split
    · exact Gd_0 g s
    · rename_i h1
      split
      · exact Gd_0 g s
      · rename_i h2
        split
        · exact Gd_0 g s
        · rename_i h3
          obtain ⟨g', rfl⟩ : ∃ g', g = g' + 1 := ⟨g - 1, by omega⟩
          exact grp_Gd (hr g' rfl) s h1 h2
  · exact fil_Gd tp _ g s
theorem Gd.next {g : Nat} {s s1 : PS} {x : Bool × PS} (h : Gd g s (true, s1)) (h2 : Gd g (s1.1 + 1, s1.2) x) : Gd g s x := by
  obtain ⟨a1, a2, a3, a4⟩ := h
  obtain ⟨b1, b2, b3, b4⟩ := h2
  have a1 : s.1 ≤ s1.1 := a1
  have a2 : s1.2.2.length ≤ s.2.2.length + (s1.1 - s.1) * 4 ^ g := a2
  have a3 : s.2.2.length ≤ s1.2.2.length := a3
  have b1 : s1.1 + 1 ≤ x.2.1 := b1
  have b2 : x.2.2.2.length ≤ s1.2.2.length + (x.2.1 - (s1.1 + 1)) * 4 ^ g := b2
  have b3 : s1.2.2.length ≤ x.2.2.2.length := b3
  have e : (s1.1 - s.1) * 4 ^ g + (x.2.1 - (s1.1 + 1)) * 4 ^ g ≤ (x.2.1 - s.1) * 4 ^ g := by
    rw [← Nat.add_mul]
    exact Nat.mul_le_mul_right _ (by omega)
  refine ⟨by omega, by omega, by omega, fun z => ?_⟩
  obtain ⟨c1, c2, c3⟩ := a4 rfl
  obtain ⟨d1, d2, d3⟩ := b4 z
  have c1 : s1.2.1 = s.2.1 := c1
  have d1 : x.2.2.1 = s1.2.1 := d1
  have d2 : s1.2.2.length < x.2.2.2.length := d2
  have d3 : s1.1 + 1 < x.2.1 := d3
  have c3 : s.1 < s1.1 := c3
  exact ⟨d1.trans c1, by omega, by omega⟩
theorem itmsL_Gd {tp : List Int32} {rec : PS → Bool × PS} {g : Nat} (hr : ∀ g', g = g' + 1 → ∀ s, Gd g' s (rec s)) : ∀ (m : Nat) (s : PS), Gd g s (itmsL tp g rec m s)
  | 0, s => Gd_0 g s
  | m + 1, s => by
    have h := item_Gd (tp := tp) hr s
    unfold itmsL
    revert h
    generalize itemP tp g rec s = x
    obtain ⟨b, s1⟩ := x
    intro h
    cases b with
    | false => exact h
    | true =>
      show Gd g s (if nxP tp s1.1 = 59 then _ else _)
      split
      · exact h.next (itmsL_Gd hr m _)
      · exact h
theorem itmsP_Gd (tp : List Int32) : ∀ (g : Nat) (s : PS), Gd g s (itmsP tp g s)
  | 0, s => itmsL_Gd (fun _ h => by omega) 60 s
  | g + 1, s => itmsL_Gd (fun g' h s => by obtain rfl : g = g' := (by omega); exact itmsP_Gd tp g s) 60 s
/-- room for the FILTERS that are still to come -/
def Bu (g : Nat) (s : PS) : Prop := s.2.2.length + (60 - s.1) * 4 ^ g ≤ 4000
theorem Bu.after {g : Nat} {s s1 : PS} (h : Bu g s) (hg : s.1 ≤ s1.1 ∧ s1.2.2.length ≤ s.2.2.length + (s1.1 - s.1) * 4 ^ g) (h60 : s1.1 ≤ 60) : Bu g s1 := by
  unfold Bu at h ⊢
  have e : (s1.1 - s.1) * 4 ^ g + (60 - s1.1) * 4 ^ g = (60 - s.1) * 4 ^ g := by
    rw [← Nat.add_mul]
    congr 1
    omega
  omega
theorem Bu.len {g : Nat} {s : PS} (h : Bu g s) : s.2.2.length ≤ 4000 := by unfold Bu at h; omega
set_option maxRecDepth 20000 in
set_option maxHeartbeats 4000000 in
theorem c_X4_readsGroup {G : Cx} (d : Nat) {μ : Hp} {s : PS} {tp : List Int32} {rec : PS → Bool × PS} {g : Nat} (IH : ∀ (s : PS) (μ : Hp), s.2.1.length + g = 3 → Rd tp s μ → Bu g s → Ct G (d + 2) 0 0 M_X4_readsItems [.ref 25] μ (RP tp (rec s) μ)) (hG : ∀ s, Gd g s (rec s)) (hr : Rd tp s μ) (hb : Bu (g + 1) s) (hd3 : s.2.1.length + (g + 1) = 3) (hn1 : ¬ nxP tp s.1 < 50) (hn2 : ¬ 52 < nxP tp s.1) : Ct G (d + 3) 0 0 M_X4_readsGroup [.ref 25] μ (RP tp (grpP tp rec s) μ) := by
  refine Ct.ofV (by decide +kernel) (Nat.le_of_ble_eq_true rfl) ?_
  refine v_ls (ls' := [(0, .ref 25)]) rfl ?_
  obtain ⟨t, ops, cd, h25, h26, h27, h28, hp, h60, hkl, hop, h8⟩ := id hr
  obtain ⟨T, hT1, hT2, hT⟩ := tms_le hn1 hn2
  refine v_aload_n 0 dX4_readsGroup_0 rfl rfl ?_
  refine v_iconst (v := 4) dX4_readsGroup_1 (by first | rfl | decide) ?_
  refine v_callV (c_X4_takeFigure (d + 1) h25 h26 hp h60 (by omega)) cs_X4_64 dX4_readsGroup_2 h25 rfl rfl (Nat.le_of_ble_eq_true rfl) ?_
  refine rt_k ?_
  have hfg : figP tp s.1 4 = nI T := by
    have e1 : figP tp s.1 4 = nxP tp s.1 - 48 := by
      unfold figP
      rw [hT, if_neg (nI_pos (by omega)), if_pos (show nI T ≤ 4 from (nI_leI (b := 4) (by omega) (by decide)).mpr hT2)]
    rw [e1, hT]
  have hfn : ¬ figP tp s.1 4 < 0 := by rw [hfg]; exact nI_pos (by omega)
  have hl0 := fig_lt hfn
  rw [if_neg hfn, hfg]
  refine v_istore_n dX4_readsGroup_5 rfl (by decide) (fun x1_1 e_x1_1 => ?_)
  refine v_ls (ls' := [(1, .int x1_1), (0, .ref 25)]) rfl ?_
  subst e_x1_1
  refine v_aload_n 1 dX4_readsGroup_6 rfl rfl ?_
  refine v_callV (c_X4_next (d + 2) (up_s _ _ _) (up_n (by decide) h26) hp h60 (by omega)) cs_X4_38 dX4_readsGroup_7 (up_s _ _ _) rfl rfl (Nat.le_of_ble_eq_true rfl) ?_
  refine rt_k ?_
  refine v_bipush (v := 40) dX4_readsGroup_10 (by first | rfl | decide) ?_
  refine v_icmp_eq (tgt := 17) dX4_readsGroup_12 (by decide) (fun hc12 => ?_) (fun hc12 => ?_)
  ·
    have hl1 := nx_lt (tp := tp) (k := s.1 + 1) (by rw [hc12]; decide)
    refine v_aload_n 1 dX4_readsGroup_17 rfl rfl ?_
    refine v_get fl_X4_15 dX4_readsGroup_18 (up_s _ _ _) rfl ?_
    refine v_aload_n 1 dX4_readsGroup_21 rfl rfl ?_
    refine v_get fl_X4_25 dX4_readsGroup_22 (up_s _ _ _) rfl ?_
    refine v_aload_n 1 dX4_readsGroup_25 rfl rfl ?_
    refine v_get fl_X4_21 dX4_readsGroup_26 (up_s _ _ _) rfl ?_
    refine v_iast dX4_readsGroup_29 (up_n (by decide) h27) (nI_in' (by omega)) ?_
    refine v_aload_n 1 dX4_readsGroup_30 rfl rfl ?_
    refine v_dup dX4_readsGroup_31 rfl ?_
    refine v_get fl_X4_25 dX4_readsGroup_32 (up_n (by decide) (up_s _ _ _)) rfl ?_
    refine v_iconst (v := 1) dX4_readsGroup_35 (by first | rfl | decide) ?_
    refine v_iadd dX4_readsGroup_36 ?_
    refine v_put fp_X4_25 dX4_readsGroup_37 (up_n (by decide) (up_s _ _ _)) (Nat.le_of_ble_eq_true rfl) (by first | rfl | decide) (by first | rfl | decide) ?_
    refine v_aload_n 1 dX4_readsGroup_40 rfl rfl ?_
    refine v_dup dX4_readsGroup_41 rfl ?_
    refine v_get fl_X4_21 dX4_readsGroup_42 (up_s _ _ _) rfl ?_
    refine v_iconst (v := 1) dX4_readsGroup_45 (by first | rfl | decide) ?_
    refine v_iadd dX4_readsGroup_46 ?_
    refine v_put fp_X4_21 dX4_readsGroup_47 (up_s _ _ _) (Nat.le_of_ble_eq_true rfl) (by first | rfl | decide) (by first | rfl | decide) ?_
    refine v_hp (up_up _ _ _ _) ?_
    refine v_aload_n 1 dX4_readsGroup_50 rfl rfl ?_
    refine v_get fl_X4_28 dX4_readsGroup_51 (up_s _ _ _) rfl ?_
    refine v_istore_n dX4_readsGroup_54 rfl (by decide) (fun x2 e_x2 => ?_)
    refine v_ls (ls' := [(2, .int x2), (1, _), (0, .ref 25)]) rfl ?_
    subst e_x2
    refine v_aload_n 2 dX4_readsGroup_55 rfl rfl ?_
    have hs2 : (s.2.1 ++ [s.1 + 1]).length = s.2.1.length + 1 := by rw [List.length_append]; rfl
    refine v_hp (μ' := up (up (up μ 25 (redC (nI tp.length) (nI (s.1 + 1)) (nI s.2.1.length) (nI s.2.2.length))) 27 (arI 3 (upd ops (nI s.2.1.length).toNatClampNeg (nI (s.1 + 1))))) 25 (redC (nI tp.length) (nI (s.1 + 1) + 1) (nI s.2.1.length + 1) (nI s.2.2.length))) rfl ?_
    generalize hm0 : up (up (up μ 25 (redC (nI tp.length) (nI (s.1 + 1)) (nI s.2.1.length) (nI s.2.2.length))) 27 (arI 3 (upd ops (nI s.2.1.length).toNatClampNeg (nI (s.1 + 1))))) 25 (redC (nI tp.length) (nI (s.1 + 1) + 1) (nI s.2.1.length + 1) (nI s.2.2.length)) = m0
    have hRd : Rd tp (s.1 + 2, s.2.1 ++ [s.1 + 1], s.2.2) m0 := by
      refine ⟨t, upd ops s.2.1.length (nI (s.1 + 1)), cd, ?_, ?_, ?_, ?_, hp, h60, hl1, fun j hj => ?_, h8⟩
      · rw [← hm0, up_s, nI_1, nI_1, hs2]
      · rw [← hm0]; repeat (first | assumption | exact up_s _ _ _ | refine up_n (by decide) ?_)
      · rw [← hm0, clamp (by omega)]; exact up_n (by decide) (up_s _ _ _)
      · rw [← hm0]; repeat (first | assumption | exact up_s _ _ _ | refine up_n (by decide) ?_)
      · rw [hs2] at hj
        show (if j = s.2.1.length then _ else ops j) = nI ((s.2.1 ++ [s.1 + 1]).getD j 0)
        by_cases e : j = s.2.1.length
        · rw [if_pos e, e]
          simp
        · rw [if_neg e, hop j (by omega), List.getD_eq_getElem?_getD, List.getD_eq_getElem?_getD, List.getElem?_append_left (by omega)]
    have hfr0 : ∀ i, i < 25 ∨ 28 < i → m0 i = μ i := by rw [← hm0]; exact fun i hi => by repeat (first | rfl | refine up_n (by omega) ?_)
    have hbu : Bu g (s.1 + 2, s.2.1 ++ [s.1 + 1], s.2.2) := by
      unfold Bu at hb ⊢
      have : (60 - (s.1 + 2)) * 4 ^ g ≤ (60 - s.1) * 4 ^ (g + 1) := Nat.mul_le_mul (by omega) (Nat.pow_le_pow_right (by decide) (by omega))
      show s.2.2.length + (60 - (s.1 + 2)) * 4 ^ g ≤ 4000
      omega
    have h25z : m0 25 = some (redC (nI tp.length) (nI (s.1 + 1) + 1) (nI s.2.1.length + 1) (nI s.2.2.length)) := by rw [← hm0, up_s]
    refine v_callV (IH _ m0 (by show (s.2.1 ++ [s.1 + 1]).length + g = 3; omega) hRd hbu) cs_X4_31 dX4_readsGroup_56 h25z rfl rfl (Nat.le_of_ble_eq_true rfl) ?_
    have hg := hG (s.1 + 2, s.2.1 ++ [s.1 + 1], s.2.2)
    have hgrp : grpP tp rec s = (match rec (s.1 + 2, s.2.1 ++ [s.1 + 1], s.2.2) with
        | (false, s2) => (false, s2)
        | (true, s2) => if nxP tp s2.1 = 41 then (true, (s2.1 + 1, s.2.1, rptP ((s2.2.2.length - s.2.2.length) * ((nxP tp s.1 - 48).toNatClampNeg - 1)) s.2.2.length s2.2.2)) else (false, s2)) := by simp only [grpP, if_pos hc12]; rfl
    rw [hgrp]
    revert hg
    generalize rec (s.1 + 2, s.2.1 ++ [s.1 + 1], s.2.2) = x
    obtain ⟨b, s2⟩ := x
    intro hg
    rintro _ m1 ⟨rfl, hRd1, hfr1⟩
    obtain ⟨t1, ops1, cd1, g25, g26, g27, g28, hp1, -, hkl1, hop1, h81⟩ := id hRd1
    refine v_if_eq (tgt := 71) dX4_readsGroup_59 (by decide) (fun hc59 => ?_) (fun hc59 => ?_)
    ·
      refine v_iconst (v := 0) dX4_readsGroup_71 (by first | rfl | decide) ?_
      refine v_iret dX4_readsGroup_72 rfl (by first | rfl | decide | exact nar_b (by first | assumption | rfl)) ?_
      obtain rfl : b = false := by cases b with
        | false => rfl
        | true => exact absurd hc59 (show ¬ (1 : Int32) = 0 by decide)
      exact ⟨rfl, hRd1, fun i hi => (hfr1 i hi).trans (hfr0 i hi)⟩
    ·
      refine v_aload_n 2 dX4_readsGroup_62 rfl rfl ?_
      refine v_bipush (v := 41) dX4_readsGroup_63 (by first | rfl | decide) ?_
      obtain rfl : b = true := by cases b with
        | true => rfl
        | false => exact absurd rfl hc59
      obtain ⟨e1, e2, e3⟩ := hg.2.2.2 rfl
      have e1 : s2.2.1 = s.2.1 ++ [s.1 + 1] := e1
      have e2 : s.2.2.length < s2.2.2.length := e2
      have e4 : s2.2.1.length = s.2.1.length + 1 := by rw [e1]; exact hs2
      refine v_callV (c_X4_takes (d + 1) g25 g26 hp1 h60 (by omega)) cs_X4_45 dX4_readsGroup_65 g25 rfl rfl (Nat.le_of_ble_eq_true rfl) ?_
      refine rt_k ?_
      refine v_if_ne (tgt := 73) dX4_readsGroup_68 (by decide) (fun hc68 => ?_) (fun hc68 => ?_)
      ·
        have hg2 : nxP tp s2.1 = 41 := by
          by_cases z : nxP tp s2.1 = 41
          · exact z
          · exact absurd (if_neg z) hc68
        have hl2 := nx_lt (tp := tp) (k := s2.1) (by rw [hg2]; decide)
        rw [if_pos hg2]
        refine v_aload_n 2 dX4_readsGroup_73 rfl rfl ?_
        refine v_dup dX4_readsGroup_74 rfl ?_
        refine v_get fl_X4_25 dX4_readsGroup_75 (up_s _ _ _) rfl ?_
        refine v_iconst (v := 1) dX4_readsGroup_78 (by first | rfl | decide) ?_
        refine v_isub dX4_readsGroup_79 ?_
        refine v_put fp_X4_25 dX4_readsGroup_80 (up_s _ _ _) (Nat.le_of_ble_eq_true rfl) (by first | rfl | decide) (by first | rfl | decide) ?_
        refine v_hp (up_up _ _ _ _) ?_
        refine v_aload_n 2 dX4_readsGroup_83 rfl rfl ?_
        refine v_iload_n 0 dX4_readsGroup_84 rfl rfl ?_
        refine v_aload_n 2 dX4_readsGroup_85 rfl rfl ?_
        refine v_get fl_X4_28 dX4_readsGroup_86 (up_s _ _ _) rfl ?_
        refine v_iload_n 0 dX4_readsGroup_89 rfl rfl ?_
        refine v_isub dX4_readsGroup_90 ?_
        refine v_iload_n 1 dX4_readsGroup_91 rfl rfl ?_
        refine v_iconst (v := 1) dX4_readsGroup_92 (by first | rfl | decide) ?_
        refine v_isub dX4_readsGroup_93 ?_
        refine v_imul dX4_readsGroup_94 ?_
        have hmul : (nI s2.2.2.length - nI s.2.2.length) * (nI T - 1) = nI ((s2.2.2.length - s.2.2.length) * (T - 1)) := by
          rw [nI_sub1 (by omega), pk_sub (by omega), pk_mul]
        have hb2 := hb.len
        have hbl : s2.2.2.length ≤ 4000 := by
          have := hg.2.1
          have := hbu.after (s1 := s2) ⟨hg.1, hg.2.1⟩ (by omega)
          exact this.len
        have hx : (s2.2.2.length - s.2.2.length) * (T - 1) ≤ 4000 * 3 := Nat.mul_le_mul (by omega) (by omega)
        rw [hmul]
        refine v_callV (c_X4_repeat (d + 1) e2 (by omega) (up_s _ _ _) (up_n (by decide) g28) h81) cs_X4_67 dX4_readsGroup_95 (up_s _ _ _) rfl rfl (Nat.le_of_ble_eq_true rfl) ?_
        rintro _ m3 ⟨rfl, cd3, hm3, h83⟩
        refine v_iconst (v := 1) dX4_readsGroup_98 (by first | rfl | decide) ?_
        refine v_iret dX4_readsGroup_99 rfl (by first | rfl | decide | exact nar_b (by first | assumption | rfl)) ?_
        show RP tp (if nxP tp s2.1 = 41 then _ else _) μ _ _
        rw [if_pos hg2, hT, clamp (by omega)]
        refine ⟨rfl, ⟨t1, ops1, cd3, ?_, ?_, ?_, ?_, hp1, h60, hl2, fun j hj => ?_, h83⟩, fun i hi => ?_⟩
        · rw [hm3, up_s, e4, nI_pred, rpt_len]
        · rw [hm3]; repeat (first | assumption | exact up_s _ _ _ | refine up_n (by decide) ?_)
        · rw [hm3]; repeat (first | assumption | exact up_s _ _ _ | refine up_n (by decide) ?_)
        · rw [hm3]; repeat (first | assumption | exact up_s _ _ _ | refine up_n (by decide) ?_)
        · have hj : j < s.2.1.length := hj
          rw [hop1 j (show j < s2.2.1.length by omega), e1, List.getD_eq_getElem?_getD, List.getElem?_append_left hj, ← List.getD_eq_getElem?_getD]
        · rw [hm3]
          refine Eq.trans ?_ ((hfr1 i hi).trans (hfr0 i hi))
          repeat (first | rfl | refine up_n (by omega) ?_)
      ·
        refine v_iconst (v := 0) dX4_readsGroup_71 (by first | rfl | decide) ?_
        refine v_iret dX4_readsGroup_72 rfl (by first | rfl | decide | exact nar_b (by first | assumption | rfl)) ?_
        have hg2 : ¬ nxP tp s2.1 = 41 := fun z => by rw [if_pos z] at hc68; exact absurd hc68 (by decide)
        rw [if_neg hg2]
        show RP tp (if nxP tp s2.1 = 41 then _ else _) μ _ _
        rw [if_neg hg2]
        exact ⟨rfl, ⟨t1, ops1, cd1, by rw [up_s], by repeat (first | assumption | exact up_s _ _ _ | refine up_n (by decide) ?_), by repeat (first | assumption | exact up_s _ _ _ | refine up_n (by decide) ?_), by repeat (first | assumption | exact up_s _ _ _ | refine up_n (by decide) ?_), hp1, h60, hkl1, hop1, h81⟩, fun i hi => ((up_n (by omega) rfl).trans (hfr1 i hi)).trans (hfr0 i hi)⟩
  ·
    refine v_iconst (v := 0) dX4_readsGroup_15 (by first | rfl | decide) ?_
    refine v_iret dX4_readsGroup_16 rfl (by first | rfl | decide | exact nar_b (by first | assumption | rfl)) ?_
    have hF : grpP tp rec s = (false, (s.1 + 1, s.2)) := by simp only [grpP, if_neg hc12]
    rw [hF]
    exact ⟨rfl, ⟨t, ops, cd, by rw [up_s], by repeat (first | assumption | exact up_s _ _ _ | refine up_n (by decide) ?_), by repeat (first | assumption | exact up_s _ _ _ | refine up_n (by decide) ?_), by repeat (first | assumption | exact up_s _ _ _ | refine up_n (by decide) ?_), hp, h60, by show s.1 + 1 ≤ _; omega, hop, h8⟩, fun i hi => by repeat (first | rfl | refine up_n (by omega) ?_)⟩

