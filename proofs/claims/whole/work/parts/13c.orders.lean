/-- all orders from here on: r more to stand, used ones as bits, digits so far, the light so far -/
def ordL (l : List Int32) : Nat → Nat → Int32 → LT → List (LT × Int32)
  | 0, _, dg, L => [(L, dg)]
  | r + 1, u, dg, L => (List.range' 0 l.length).flatMap (fun i => if u.testBit i then [] else ordL l r (u ||| 2 ^ i) (10 * dg + nI i + 1) (passO (l.getD i 0) L))
def ordT (l : List Int32) (r u : Nat) (dg : Int32) (L : LT) (j : Nat) : List (LT × Int32) := (List.range' j (l.length - j)).flatMap (fun i => if u.testBit i then [] else ordL l r (u ||| 2 ^ i) (10 * dg + nI i + 1) (passO (l.getD i 0) L))
theorem ordT_0 (l : List Int32) (r u : Nat) (dg : Int32) (L : LT) : ordL l (r + 1) u dg L = ordT l r u dg L 0 := rfl
theorem ordT_e {l : List Int32} {r u : Nat} {dg : Int32} {L : LT} {j : Nat} (h : l.length ≤ j) : ordT l r u dg L j = [] := by
  unfold ordT
  rw [show l.length - j = 0 by omega]
  rfl
theorem ordT_s {l : List Int32} {r u : Nat} {dg : Int32} {L : LT} {j : Nat} (h : j < l.length) : ordT l r u dg L j = (if u.testBit j then [] else ordL l r (u ||| 2 ^ j) (10 * dg + nI j + 1) (passO (l.getD j 0) L)) ++ ordT l r u dg L (j + 1) := by
  unfold ordT
  rw [show l.length - j = (l.length - (j + 1)) + 1 by omega, List.range'_succ, List.flatMap_cons]
theorem bit_and : ∀ u, u < 32 → ∀ j, j < 5 → (nI u &&& ((1 : Int32) <<< (nI j &&& 31)) = 0 ↔ u.testBit j = false) := by decide +kernel
theorem bit_or : ∀ u, u < 32 → ∀ j, j < 5 → (nI u ||| ((1 : Int32) <<< (nI j &&& 31)) = nI (u ||| 2 ^ j) ∧ u ||| 2 ^ j < 32) := by decide +kernel
theorem meet_len : ∀ (xs : List (LT × Int32)) (c : OC), (xs.foldl meetO c).1.length ≤ c.1.length + xs.length
  | [], c => Nat.le_refl _
  | x :: r, c => by
    have h1 := meet_len r (meetO c x)
    have h2 : (meetO c x).1.length ≤ c.1.length + 1 := remO_len x.1 c.1
    rw [List.foldl_cons, List.length_cons]
    omega
/-- what the orders stand on -/
def Ob (l : List Int32) (p : Nat → Int32) (μ : Hp) : Prop := μ 1 = some (benC 2 3 (nI l.length) 4 5 9) ∧ μ 3 = some (arI 8 p) ∧ μ 37 = some (.inr (3, [.ref 38])) ∧ μ 38 = some (arR 6 6 (rowF 39 6)) ∧ ∀ x, x ≤ 5 → ∃ K, μ (39 + x) = some (ligL K)
theorem Ob.kept {l : List Int32} {p : Nat → Int32} {μ μ' : Hp} {n : Nat} (h : Ob l p μ) (hf : ∀ i, i < 32 ∨ (36 < i ∧ i ≤ n) ∨ 44 < i → μ' i = μ i) (hn : 38 ≤ n) (hx : ∀ x, x ≤ 5 → ∃ K, μ' (39 + x) = some (ligL K)) : Ob l p μ' := by
  obtain ⟨h1, h2, h3, h4, -⟩ := h
  exact ⟨(hf 1 (by omega)).trans h1, (hf 3 (by omega)).trans h2, (hf 37 (by omega)).trans h3, (hf 38 (by omega)).trans h4, hx⟩
def OPost (c' : OC) (n : Nat) (μ : Hp) : Option Value → Hp → Prop := fun r μ' => r = none ∧ Oc c' μ' ∧ (∀ i, i < 32 ∨ (36 < i ∧ i ≤ n) ∨ 44 < i → μ' i = μ i) ∧ ∀ x, x ≤ 5 → ∃ K, μ' (39 + x) = some (ligL K)
theorem row39 {f : Nat → Option Nat} {k n : Nat} (hf : f = rowF 39 6) (hk : k < 6) (hn : n = 39 + k) : f (nI k).toNatClampNeg = some n := by rw [hf, clamp (by omega), hn]; exact if_pos hk
theorem getD_at {l : List Int32} {p : Nat → Int32} (h : Pl l p) {j : Nat} (hj : j < l.length) : l.getD j 0 = p j := by
  rw [List.getD_eq_getElem?_getD, h j hj]; rfl
set_option maxRecDepth 20000 in
set_option maxHeartbeats 4000000 in
theorem goOn_loop {G : Cx} (d : Nat) {l : List Int32} {p : Nat → Int32} {dp u r : Nat} {dg : Int32} {L : LT} (hl : Pl l p) (h5 : l.length ≤ 5) (hu : u < 32) (hdp : dp + (r + 1) = l.length) (IH : ∀ (dp u : Nat) (dg : Int32) (L : LT) (c : OC) (μ : Hp), dp + r = l.length → u < 32 → Ob l p μ → μ (39 + dp) = some (ligL L) → Oc c μ → c.1.length + (ordL l r u dg L).length ≤ 120 → Ct G (d + r + 4) 0 0 M_X2_goOn [.ref 37, .ref 1, .ref 32, .int (nI dp), .int (nI u), .int dg] μ (OPost ((ordL l r u dg L).foldl meetO c) (39 + dp) μ)) : ∀ (m : Nat) (j : Nat) (c : OC) (μ : Hp), j + m = l.length → Ob l p μ → μ (39 + dp) = some (ligL L) → Oc c μ → c.1.length + (ordT l r u dg L j).length ≤ 120 → V G M_X2_goOn (d + r + 5) 0 0 (OPost ((ordT l r u dg L j).foldl meetO c) (39 + dp) μ) 29 [(6, .int (nI j)), (0, .ref 37), (1, .ref 1), (2, .ref 32), (3, .int (nI dp)), (4, .int (nI u)), (5, .int dg)] [] (μ) := by
  intro m
  induction m with
  | zero =>
    intro j c μ hj hb hL hc hn
    obtain ⟨h1, h3, h37, h38, hx⟩ := id hb
    obtain ⟨K, hK⟩ := hx (dp + 1) (by omega)
    refine v_iload 0 dX2_goOn_29 rfl ?_
    refine v_aload_n 2 dX2_goOn_31 rfl rfl ?_
    refine v_get fl_X2_37 dX2_goOn_32 h1 rfl ?_
    refine v_icmp_ge (tgt := 115) dX2_goOn_35 (by decide) (fun c35 => ?_) (fun c35 => ?_)
    ·
      refine v_vret dX2_goOn_115 rfl ?_
      rw [ordT_e (by omega)]
      exact ⟨rfl, hc, fun i _ => rfl, hx⟩
    · exact absurd ((nI_leI (by omega) (by omega)).mpr (by omega)) c35
  | succ m ih =>
    intro j c μ hj hb hL hc hn
    obtain ⟨h1, h3, h37, h38, hx⟩ := id hb
    obtain ⟨K, hK⟩ := hx (dp + 1) (by omega)
    refine v_iload 0 dX2_goOn_29 rfl ?_
    refine v_aload_n 2 dX2_goOn_31 rfl rfl ?_
    refine v_get fl_X2_37 dX2_goOn_32 h1 rfl ?_
    refine v_icmp_ge (tgt := 115) dX2_goOn_35 (by decide) (fun c35 => ?_) (fun c35 => ?_)
    · have := (nI_leI (by omega) (by omega)).mp c35
      omega
    ·
      refine v_iload 5 dX2_goOn_38 rfl ?_
      refine v_iconst (v := 1) dX2_goOn_40 (by first | rfl | decide) ?_
      refine v_iload 0 dX2_goOn_41 rfl ?_
      refine v_ishl dX2_goOn_43 ?_
      refine v_iand dX2_goOn_44 ?_
      refine v_if_ne (tgt := 109) dX2_goOn_45 (by decide) (fun c45 => ?_) (fun c45 => ?_)
      ·
        refine v_iinc (v := 1) 0 dX2_goOn_109 rfl rfl (by decide) (fun z e_z => ?_)
        refine v_ls (ls' := [(6, .int z), (0, .ref 37), (1, .ref 1), (2, .ref 32), (3, .int (nI dp)), (4, .int (nI u)), (5, .int dg)]) rfl ?_
        first
          | (have hbit : u.testBit j = true := by
               cases hb9 : u.testBit j with
               | false => exact absurd ((bit_and u hu j (by omega)).mpr hb9) c45
               | true => rfl
             rw [nI_1] at e_z
             subst e_z
             refine v_goto (tgt := 29) dX2_goOn_112 (by decide) ?_
             refine v_post (ih (j + 1) c μ (by omega) hb hL hc (by rw [ordT_s (by omega), if_pos hbit] at hn; exact hn)) ?_
             intro r2 m hm
             rw [ordT_s (by omega), if_pos hbit]
             exact hm)
        
      ·
        have hbit : ¬ u.testBit j = true := by rw [(bit_and u hu j (by omega)).mp c45]; decide
        refine v_aload_n 1 dX2_goOn_48 rfl rfl ?_
        refine v_get fl_X2_11 dX2_goOn_49 h37 rfl ?_
        refine v_iload_n 4 dX2_goOn_52 rfl rfl ?_
        refine v_iconst (v := 1) dX2_goOn_53 (by first | rfl | decide) ?_
        refine v_iadd dX2_goOn_54 ?_
        refine v_aald dX2_goOn_55 h38 rfl rfl (by rw [nI_1]; exact nI_in' (by omega)) (by rw [nI_1]; exact row39 rfl (by omega) rfl) ?_
        refine v_aload_n 1 dX2_goOn_56 rfl rfl ?_
        refine v_get fl_X2_11 dX2_goOn_57 h37 rfl ?_
        refine v_iload_n 4 dX2_goOn_60 rfl rfl ?_
        refine v_aald dX2_goOn_61 h38 rfl rfl (nI_in' (by omega)) (row39 rfl (by omega) rfl) ?_
        refine v_callV (c_X1_takeFrom ((d + r) + 3) hK hL) cs_X2_29 dX2_goOn_62 hK rfl rfl (Nat.le_of_ble_eq_true rfl) ?_
        refine rt_k ?_
        refine v_aload_n 1 dX2_goOn_65 rfl rfl ?_
        refine v_get fl_X2_11 dX2_goOn_66 (up_n (by omega) h37) rfl ?_
        refine v_iload_n 4 dX2_goOn_69 rfl rfl ?_
        refine v_iconst (v := 1) dX2_goOn_70 (by first | rfl | decide) ?_
        refine v_iadd dX2_goOn_71 ?_
        refine v_aald dX2_goOn_72 (up_n (by omega) h38) rfl rfl (by rw [nI_1]; exact nI_in' (by omega)) (by rw [nI_1]; exact row39 rfl (by omega) rfl) ?_
        refine v_aload_n 2 dX2_goOn_73 rfl rfl ?_
        refine v_get fl_X2_45 dX2_goOn_74 (up_n (by omega) h1) rfl ?_
        refine v_iload 0 dX2_goOn_77 rfl ?_
        refine v_iald dX2_goOn_79 (up_n (by omega) h3) (nI_in' (by omega)) ?_
        refine v_callV (c_X1_pass ((d + r) + 2) (up_s _ _ _)) cs_X2_49 dX2_goOn_80 (up_s _ _ _) rfl rfl (Nat.le_of_ble_eq_true rfl) ?_
        refine rt_k ?_
        refine v_hp (up_up _ _ _ _) ?_
        refine v_aload_n 1 dX2_goOn_83 rfl rfl ?_
        refine v_aload_n 2 dX2_goOn_84 rfl rfl ?_
        refine v_aload_n 3 dX2_goOn_85 rfl rfl ?_
        refine v_iload_n 4 dX2_goOn_86 rfl rfl ?_
        refine v_iconst (v := 1) dX2_goOn_87 (by first | rfl | decide) ?_
        refine v_iadd dX2_goOn_88 ?_
        refine v_iload 5 dX2_goOn_89 rfl ?_
        refine v_iconst (v := 1) dX2_goOn_91 (by first | rfl | decide) ?_
        refine v_iload 0 dX2_goOn_92 rfl ?_
        refine v_ishl dX2_goOn_94 ?_
        refine v_ior dX2_goOn_95 ?_
        refine v_bipush (v := 10) dX2_goOn_96 (by first | rfl | decide) ?_
        refine v_iload 6 dX2_goOn_98 rfl ?_
        refine v_imul dX2_goOn_100 ?_
        refine v_iload 0 dX2_goOn_101 rfl ?_
        refine v_iadd dX2_goOn_103 ?_
        refine v_iconst (v := 1) dX2_goOn_104 (by first | rfl | decide) ?_
        refine v_iadd dX2_goOn_105 ?_
        refine v_callV (M' := M_X2_goOn) (avs := [.ref 1, .ref 32, .int (nI (dp + 1)), .int (nI (u ||| 2 ^ j)), .int (10 * dg + nI j + 1)]) (st := []) (IH (dp + 1) (u ||| 2 ^ j) (10 * dg + nI j + 1) (passO (l.getD j 0) L) c _ (by omega) (bit_or u hu j (by omega)).2 (Ob.kept (n := 39 + dp) hb (fun i hi => by repeat (first | rfl | refine up_n (by omega) ?_)) (by omega) (fun x hx9 => by
              by_cases e : x = dp + 1
              · subst e; exact ⟨_, up_s _ _ _⟩
              · obtain ⟨K, hK9⟩ := hx x hx9
                exact ⟨K, up_n (by omega) hK9⟩)) (by rw [up_s, getD_at hl (by omega), clamp (by omega)]) (hc.kept (fun i h1 h2 => by repeat (first | rfl | refine up_n (by omega) ?_))) (by rw [ordT_s (by omega), if_neg hbit, List.length_append] at hn; omega)) cs_X2_33 dX2_goOn_106 (up_n (by omega) h37) rfl (by rw [← (bit_or u hu j (by omega)).1, ← nI_1]; rfl) (Nat.le_of_ble_eq_true rfl) ?_
        rintro _ m2 ⟨rfl, hc2, hf2, hx2⟩
        refine v_iinc (v := 1) 0 dX2_goOn_109 rfl rfl (by decide) (fun z e_z => ?_)
        refine v_ls (ls' := [(6, .int z), (0, .ref 37), (1, .ref 1), (2, .ref 32), (3, .int (nI dp)), (4, .int (nI u)), (5, .int dg)]) rfl ?_
        have hL2 : m2 (39 + dp) = some (ligL L) := ((hf2 _ (by omega)).trans (up_n (by omega) hL))
        have hfr : ∀ i, i < 32 ∨ (36 < i ∧ i ≤ 39 + dp) ∨ 44 < i → m2 i = μ i := fun i hi => (hf2 i (by omega)).trans (by repeat (first | rfl | refine up_n (by omega) ?_))
        rw [nI_1] at e_z
        subst e_z
        refine v_goto (tgt := 29) dX2_goOn_112 (by decide) ?_
        refine v_post (ih (j + 1) _ m2 (by omega) (Ob.kept (n := 39 + dp) hb (fun i hi => hfr i hi) (by omega) hx2) hL2 hc2 (by rw [ordT_s (by omega), if_neg hbit, List.length_append] at hn; have := meet_len (ordL l r (u ||| 2 ^ j) (10 * dg + nI j + 1) (passO (l.getD j 0) L)) c; omega)) ?_
        intro r2 m hm
        rw [ordT_s (by omega), if_neg hbit, List.foldl_append]
        exact ⟨hm.1, hm.2.1, fun i hi => (hm.2.2.1 i hi).trans (hfr i hi), hm.2.2.2⟩
        

set_option maxRecDepth 20000 in
set_option maxHeartbeats 4000000 in
theorem c_X2_goOn {G : Cx} (d : Nat) {l : List Int32} {p : Nat → Int32} (hl : Pl l p) (h5 : l.length ≤ 5) : ∀ (r dp u : Nat) (dg : Int32) (L : LT) (c : OC) (μ : Hp), dp + r = l.length → u < 32 → Ob l p μ → μ (39 + dp) = some (ligL L) → Oc c μ → c.1.length + (ordL l r u dg L).length ≤ 120 → Ct G (d + r + 4) 0 0 M_X2_goOn [.ref 37, .ref 1, .ref 32, .int (nI dp), .int (nI u), .int dg] μ (OPost ((ordL l r u dg L).foldl meetO c) (39 + dp) μ) := by
  intro r
  induction r with
  | zero =>
    intro dp u dg L c μ hdp hu hb hL hc hn
    obtain ⟨h1, h3, h37, h38, hx⟩ := id hb
    obtain ⟨_, _, hc32, _⟩ := id hc
    refine Ct.ofV (by decide +kernel) (Nat.le_of_ble_eq_true rfl) ?_
    refine v_ls (ls' := [(0, .ref 37), (1, .ref 1), (2, .ref 32), (3, .int (nI dp)), (4, .int (nI u)), (5, .int dg)]) rfl ?_
    refine v_iload_n 3 dX2_goOn_0 rfl rfl ?_
    refine v_aload_n 1 dX2_goOn_1 rfl rfl ?_
    refine v_get fl_X2_37 dX2_goOn_2 h1 rfl ?_
    refine v_icmp_ge (tgt := 13) dX2_goOn_5 (by decide) (fun c5 => ?_) (fun c5 => ?_)
    ·
      refine v_aload_n 2 dX2_goOn_13 rfl rfl ?_
      refine v_aload_n 0 dX2_goOn_14 rfl rfl ?_
      refine v_get fl_X2_11 dX2_goOn_15 h37 rfl ?_
      refine v_iload_n 3 dX2_goOn_18 rfl rfl ?_
      refine v_aald dX2_goOn_19 h38 rfl rfl (nI_in' (by omega)) (row39 rfl (by omega) rfl) ?_
      refine v_iload 5 dX2_goOn_20 rfl ?_
      refine v_callV (c_X3_meet (d + 0) hc hL (by simp [ordL] at hn; omega) (by omega)) cs_X2_41 dX2_goOn_22 hc32 rfl rfl (Nat.le_of_ble_eq_true rfl) ?_
      rintro _ m ⟨rfl, hc2, hf2⟩
      refine v_vret dX2_goOn_25 rfl ?_
      exact ⟨rfl, hc2, fun i hi => hf2 i (by omega), fun x hx9 => by
        obtain ⟨K, hK⟩ := hx x hx9
        exact ⟨K, (hf2 _ (by omega)).trans hK⟩⟩
    · exact absurd ((nI_leI (by omega) (by omega)).mpr (by omega)) c5
  | succ r ih =>
    intro dp u dg L c μ hdp hu hb hL hc hn
    obtain ⟨h1, h3, h37, h38, hx⟩ := id hb
    refine Ct.ofV (by decide +kernel) (Nat.le_of_ble_eq_true rfl) ?_
    refine v_ls (ls' := [(0, .ref 37), (1, .ref 1), (2, .ref 32), (3, .int (nI dp)), (4, .int (nI u)), (5, .int dg)]) rfl ?_
    refine v_iload_n 3 dX2_goOn_0 rfl rfl ?_
    refine v_aload_n 1 dX2_goOn_1 rfl rfl ?_
    refine v_get fl_X2_37 dX2_goOn_2 h1 rfl ?_
    refine v_icmp_ge (tgt := 13) dX2_goOn_5 (by decide) (fun c5 => ?_) (fun c5 => ?_)
    · have := (nI_leI (by omega) (by omega)).mp c5
      omega
    ·
      refine v_iload_n 3 dX2_goOn_8 rfl rfl ?_
      refine v_iconst (v := 5) dX2_goOn_9 (by first | rfl | decide) ?_
      refine v_icmp_lt (tgt := 26) dX2_goOn_10 (by decide) (fun c10 => ?_) (fun c10 => ?_)
      ·
        refine v_iconst (v := 0) dX2_goOn_26 (by first | rfl | decide) ?_
        refine v_istore dX2_goOn_27 (by decide) (fun x6 e_x6 => ?_)
        refine v_ls (ls' := [(6, .int x6), (0, .ref 37), (1, .ref 1), (2, .ref 32), (3, .int (nI dp)), (4, .int (nI u)), (5, .int dg)]) rfl ?_
        subst e_x6
        exact goOn_loop d hl h5 hu hdp ih l.length 0 c μ (by omega) hb hL hc hn
        
      · exact absurd ((nI_ltI (b := 5) (by omega) (by decide)).mpr (by omega)) c10

theorem flen {f : Nat → List (LT × Int32)} {b : Nat} : ∀ (xs : List Nat), (∀ i ∈ xs, (f i).length ≤ b) → (xs.flatMap f).length ≤ xs.length * b
  | [], _ => by simp
  | x :: r, h => by
    rw [List.flatMap_cons, List.length_append, List.length_cons]
    have h1 := h x List.mem_cons_self
    have h2 := flen r (fun i hi => h i (List.mem_cons_of_mem _ hi))
    have : (r.length + 1) * b = r.length * b + b := Nat.succ_mul _ _
    omega
