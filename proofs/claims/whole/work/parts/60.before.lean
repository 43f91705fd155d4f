theorem neg_par (x : Int64) : (-x).toInt % 2 = 0 ↔ x.toInt % 2 = 0 := by
  have h : (-x).toInt % 18446744073709551616 = (-x.toInt) % 18446744073709551616 := by
    rw [Int64.toInt_neg]
    exact Int.bmod_emod
  omega
/-- in its LOWEST form -/
def Lw (L : LT) : Prop := L.2.2.2.2 ≤ 0 ∨ ¬ evnO L
theorem Lw.low {L : LT} (h : Lw L) : lowO L = L := by
  unfold lowO
  cases L.2.2.2.2.toNatClampNeg with
  | zero => rfl
  | succ n =>
    show (if L.2.2.2.2 ≤ 0 then L else if evnO L then lowN n (halfO L) else L) = L
    by_cases q : L.2.2.2.2 ≤ 0
    · rw [if_pos q]
    · rw [if_neg q, if_neg (h.resolve_left q)]
theorem low_lw : ∀ (n : Nat) (L : LT), L.2.2.2.2.toNatClampNeg = n → Lw (lowN n L)
  | 0, L, h => by
    refine Or.inl ?_
    show L.2.2.2.2 ≤ 0
    by_cases q : L.2.2.2.2 ≤ 0
    · exact q
    · obtain ⟨m, h1, -⟩ := tnc_pos q
      omega
  | n + 1, L, h => by
    show Lw (if L.2.2.2.2 ≤ 0 then L else if evnO L then lowN n (halfO L) else L)
    by_cases q : L.2.2.2.2 ≤ 0
    · rw [if_pos q]; exact Or.inl q
    · rw [if_neg q]
      by_cases e : evnO L
      · rw [if_pos e]
        obtain ⟨m, h1, h2⟩ := tnc_pos q
        exact low_lw n (halfO L) (by show (L.2.2.2.2 - 1).toNatClampNeg = n; omega)
      · rw [if_neg e]; exact Or.inr e
theorem turn_evn (a : Int32) (L : LT) : evnO (turnO a L) ↔ evnO L := by
  rw [evn_iff, evn_iff]
  unfold turnO
  have n1 := neg_par L.2.1
  have n2 := neg_par L.2.2.1
  have n3 := neg_par L.2.2.2.1
  split
  · constructor <;> (rintro ⟨q1, q2, q3, q4⟩; exact ⟨q1, q2, by first | exact q4 | exact n2.mp q4 | exact n2.mpr q4, by first | exact q3 | exact n2.mpr q3 | exact n2.mp q3⟩)
  · split
    · constructor
      · rintro ⟨q1, q2, q3, q4⟩; exact ⟨q1, q4, q3, n3.mp q2⟩
      · rintro ⟨q1, q2, q3, q4⟩; exact ⟨q1, n3.mpr q4, q3, q2⟩
    · split
      · constructor
        · rintro ⟨q1, q2, q3, q4⟩; exact ⟨q1, q2, q4, n3.mp q3⟩
        · rintro ⟨q1, q2, q3, q4⟩; exact ⟨q1, q2, n3.mpr q4, q3⟩
      · split
        · constructor
          · rintro ⟨q1, q2, q3, q4⟩; exact ⟨q1, n1.mp q4, q3, q2⟩
          · rintro ⟨q1, q2, q3, q4⟩; exact ⟨q1, q4, q3, n1.mpr q2⟩
        · constructor
          · rintro ⟨q1, q2, q3, q4⟩; exact ⟨q1, q3, n2.mp q2, q4⟩
          · rintro ⟨q1, q2, q3, q4⟩; exact ⟨q1, n2.mpr q3, q2, q4⟩
theorem turn_e5 (a : Int32) (L : LT) : (turnO a L).2.2.2.2 = L.2.2.2.2 := by
  unfold turnO
  split
  · rfl
  · split
    · rfl
    · split
      · rfl
      · split <;> rfl
theorem Lw.turn {L : LT} (h : Lw L) (a : Int32) : Lw (turnO a L) := by
  unfold Lw
  rw [turn_e5, turn_evn]
  exact h
theorem Lw.turns {a : Int32} : ∀ (n : Nat) {L : LT}, Lw L → Lw (turnsO n a L)
  | 0, _, h => h
  | n + 1, _, h => Lw.turns n (h.turn a)
theorem bak_num : ∀ f, f < 17 → (4 : Int32) - irem (nI f) 4 = nI (4 - f % 4) ∧ irem (4 - irem (nI f) 4) 4 = nI ((4 - f % 4) % 4) := by decide +kernel
theorem goO_turn {c : Int32} (h : kdO c = 4 ∨ kdO c = 5) (L : LT) : goO c L = turnsO (qtO c).toNatClampNeg (if kdO c = 5 then 4 else anO c) L := by
  unfold goO
  rcases h with h | h
  · rw [if_neg (show ¬ kdO c = 1 by rw [h]; decide), if_neg (show ¬ kdO c = 2 by rw [h]; decide), if_neg (show ¬ kdO c = 3 by rw [h]; decide), if_pos (show kdO c = 4 from h)]
  · rw [if_neg (show ¬ kdO c = 1 by rw [h]; decide), if_neg (show ¬ kdO c = 2 by rw [h]; decide), if_neg (show ¬ kdO c = 3 by rw [h]; decide), if_neg (show ¬ kdO c = 4 by rw [h]; decide)]
    exact if_pos h
theorem goO_glass {c : Int32} (h : kdO c = 0) (L : LT) : goO c L = L := by
  unfold goO
  rw [if_neg (show ¬ kdO c = 1 by rw [h]; decide), if_neg (show ¬ kdO c = 2 by rw [h]; decide), if_neg (show ¬ kdO c = 3 by rw [h]; decide), if_neg (show ¬ kdO c = 4 by rw [h]; decide), if_neg (show ¬ kdO c = 5 by rw [h]; decide), if_neg (show ¬ kdO c = 6 by rw [h]; decide)]
theorem bak_c {c : Int32} (h : Vc c) : ∃ n, n < 4 ∧ irem (4 - irem (fgO c) 4) 4 = nI n ∧ kdO (bakC c) = kdO c ∧ anO (bakC c) = anO c ∧ qtO (bakC c) = nI n := by
  obtain ⟨k, a, f, hk, ha, hf, rfl⟩ := h
  obtain ⟨p1, p2, p3, -⟩ := vc_parts k hk a ha f hf
  have key : bakC (cdO (nI k) (nI a) (nI f)) = cdO (nI k) (nI a) (nI (4 - f % 4)) := by
    show cdO (kdO _) (anO _) (4 - irem (fgO _) 4) = _
    rw [p1, p2, p3, (bak_num f hf).1]
  obtain ⟨q1, q2, q3, -⟩ := vc_parts k hk a ha (4 - f % 4) (by omega)
  refine ⟨(4 - f % 4) % 4, by omega, ?_, ?_, ?_, ?_⟩
  · rw [p3]; exact (bak_num f hf).2
  · rw [key, q1, p1]
  · rw [key, q2, p2]
  · rw [key]
    show irem (fgO (cdO (nI k) (nI a) (nI (4 - f % 4)))) 4 = _
    rw [q3]
    exact vc_qt _ (by omega)
theorem pass_bak {c : Int32} {L : LT} (h : Vc c) (hL : Lw L) (hk : kdO c = 4 ∨ kdO c = 5) : ∃ n, n < 4 ∧ irem (4 - irem (fgO c) 4) 4 = nI n ∧ passO (bakC c) L = turnsO n (if kdO c = 5 then 4 else anO c) L ∧ Lw (turnsO n (if kdO c = 5 then 4 else anO c) L) := by
  obtain ⟨n, hn, h1, h2, h3, h4⟩ := bak_c h
  have e : goO (bakC c) L = turnsO n (if kdO c = 5 then 4 else anO c) L := by
    rw [goO_turn (by rw [h2]; exact hk), h4, clamp (by omega), h2, h3]
  refine ⟨n, hn, h1, ?_, hL.turns n⟩
  show lowO (goO (bakC c) L) = _
  rw [e]
  exact (hL.turns n).low
theorem pass_bak0 {c : Int32} {L : LT} (h : Vc c) (hL : Lw L) (hk : kdO c = 0) : passO (bakC c) L = L := by
  obtain ⟨n, hn, h1, h2, h3, h4⟩ := bak_c h
  show lowO (goO (bakC c) L) = _
  rw [goO_glass (by rw [h2]; exact hk)]
  exact hL.low
theorem tel_lw (f : Nat → Int64) : Lw (telO f) := low_lw _ _ rfl
theorem tak7_rev {l : List Int32} {j : Nat} (h : j < l.length) : ((l.take (j + 1)).reverse.map bakC) = bakC (l.getD j 0) :: ((l.take j).reverse.map bakC) := by
  have e : l.getD j 0 = l[j] := by simp [List.getD, List.getElem?_eq_getElem h]
  rw [List.take_succ_eq_append_getElem h, e, List.reverse_append, List.map_append]
  rfl
theorem all_take {l : List Int32} {j : Nat} (h : j < l.length) : (∀ c ∈ l.take (j + 1), kdO c = 0 ∨ prO (kdO c) ≠ 0) ↔ (kdO (l.getD j 0) = 0 ∨ prO (kdO (l.getD j 0)) ≠ 0) ∧ ∀ c ∈ l.take j, kdO c = 0 ∨ prO (kdO c) ≠ 0 := by
  have e : l.getD j 0 = l[j] := by simp [List.getD, List.getElem?_eq_getElem h]
  rw [List.take_succ_eq_append_getElem h, e]
  constructor
  · intro q
    exact ⟨q _ (List.mem_append_right _ List.mem_cons_self), fun c hc => q c (List.mem_append_left _ hc)⟩
  · rintro ⟨q1, q2⟩ c hc
    rcases List.mem_append.mp hc with z | z
    · exact q2 c z
    · rw [List.mem_singleton.mp z]; exact q1
/-- what is left to answer from FILTER j on, backwards -/
def befA (σ : ST) (w : Int32) (j : Nat) (L : LT) : Int64 := if ∀ c ∈ (sP σ).take j, kdO c = 0 ∨ prO (kdO c) ≠ 0 then partO (runO (((sP σ).take j).reverse.map bakC) L) w else VD
theorem befA_0 (σ : ST) (w : Int32) (L : LT) : befA σ w 0 L = partO L w := by
  unfold befA
  rw [if_pos (fun c hc => by simp at hc)]
  rfl
theorem befA_s {σ : ST} {w : Int32} {j : Nat} {L : LT} (h : j < (sP σ).length) (hk : kdO ((sP σ).getD j 0) = 0 ∨ prO (kdO ((sP σ).getD j 0)) ≠ 0) : befA σ w (j + 1) L = befA σ w j (passO (bakC ((sP σ).getD j 0)) L) := by
  unfold befA
  rw [tak7_rev h, runO_cons]
  by_cases q : ∀ c ∈ (sP σ).take j, kdO c = 0 ∨ prO (kdO c) ≠ 0
  · rw [if_pos q, if_pos ((all_take h).mpr ⟨hk, q⟩)]
  · rw [if_neg q, if_neg (fun z => q ((all_take h).mp z).2)]
theorem befA_n {σ : ST} {w : Int32} {j : Nat} {L : LT} (h : j < (sP σ).length) (hk : ¬ (kdO ((sP σ).getD j 0) = 0 ∨ prO (kdO ((sP σ).getD j 0)) ≠ 0)) : befA σ w (j + 1) L = VD := by
  unfold befA
  rw [if_neg (fun z => hk ((all_take h).mp z).1)]
theorem pr_45 {k : Int32} (h : k = 4 ∨ k = 5) : prO k ≠ 0 := by
  rcases h with rfl | rfl <;> decide
theorem pr_no {k : Int32} (h0 : ¬ k = 0) (h4 : ¬ k = 4) (h5 : ¬ k = 5) : ¬ (k = 0 ∨ prO k ≠ 0) := by
  rintro (z | z)
  · exact h0 z
  · apply z
    show (if k = 4 then (1 : Int32) else if k = 5 then 1 else 0) = 0
    rw [if_neg h4, if_neg h5]
set_option maxRecDepth 20000 in
set_option maxHeartbeats 4000000 in
theorem bef7_loop {G : Cx} (d : Nat) {σ : ST} {μ0 : Hp} (hw : Wp (sP σ)) {t w : Int32} (hw5 : ¬ inO w 5 = 0) : ∀ (k9 : Nat) (x : Int32) (L : LT) (μ : Hp), x = nI k9 - 1 → k9 ≤ (sP σ).length → Lw L → Mo σ μ → Fp μ μ0 → μ 63 = some (mlg L) → V G M_X7_before (d + 3) 0 0 (Pm σ (.long (befA σ w k9 L)) μ0) 31 [(3, .int x), (0, .ref 60), (1, .int t), (2, .int w)] [] (μ) := by
  intro k9
  induction k9 with
  | zero =>
    intro x L μ hx hj hlw h hF h63b
    obtain ⟨co, wh, un, lr, mr, hr, at9, fa, op, sg, hm, p, tt, ro, og, tc, op9, sp, nw, se, le, mo, ot, h60, h61, h62, h63, h64, h65, h66, h67, h68, h69, h70, h71, h72, h73, h74, h75, h76, h77, h78, h79, h80, hmk, hpl, htp, ht60⟩ := id h
    have hl8 := hw.1
    refine v_iload_n 0 dX7_before_31 rfl rfl ?_
    refine v_if_lt (tgt := 110) dX7_before_32 (by decide) (fun hc32 => ?_) (fun hc32 => ?_)
    ·
      refine v_aload_n 1 dX7_before_110 rfl rfl ?_
      refine v_get fl_X7_21 dX7_before_111 h60 rfl ?_
      refine v_iload_n 3 dX7_before_114 rfl rfl ?_
      refine v_lald dX7_before_115 h63b (in5 hw5) ?_
      refine v_lret dX7_before_116 rfl ?_
      rw [befA_0, ← lv_part L hw5]
      exact ⟨rfl, h, hF⟩
    · exact absurd (by rw [hx]; decide) hc32
  | succ k9 ih =>
    intro x L μ hx hj hlw h hF h63b
    obtain ⟨co, wh, un, lr, mr, hr, at9, fa, op, sg, hm, p, tt, ro, og, tc, op9, sp, nw, se, le, mo, ot, h60, h61, h62, h63, h64, h65, h66, h67, h68, h69, h70, h71, h72, h73, h74, h75, h76, h77, h78, h79, h80, hmk, hpl, htp, ht60⟩ := id h
    have hl8 := hw.1
    refine v_iload_n 0 dX7_before_31 rfl rfl ?_
    refine v_if_lt (tgt := 110) dX7_before_32 (by decide) (fun hc32 => ?_) (fun hc32 => ?_)
    · rw [hx, nI_sub1 (by omega)] at hc32
      exact absurd ((nI_ltI (b := 0) (by omega) (by decide)).mp hc32) (by omega)
    ·
      obtain rfl : x = nI k9 := hx.trans (nI_sub1 (by omega))
      have hk9 : k9 < (sP σ).length := by omega
      have hvc := hw.at hk9
      refine v_aload_n 1 dX7_before_35 rfl rfl ?_
      refine v_get fl_X7_17 dX7_before_36 h60 rfl ?_
      refine v_iload_n 0 dX7_before_39 rfl rfl ?_
      refine v_iald dX7_before_40 h62 (nI_in' (by omega)) ?_
      rw [clamp (show k9 < 2 ^ 31 by omega), ← getD_at hpl (show k9 < (sP σ).length by omega)]
      refine v_callS (c_X7_kindOf (d + 2) ) cs_X7_101 dX7_before_41 rfl rfl (Nat.le_of_ble_eq_true rfl) ?_
      refine rt_k ?_
      refine v_istore dX7_before_44 (by decide) (fun y4 e_y4 => ?_)
      refine v_ls (ls' := [(4, .int y4), (3, .int (nI k9)), (0, .ref 60), (1, .int t), (2, .int w)]) rfl ?_
      subst e_y4
      refine v_iload 0 dX7_before_46 rfl ?_
      refine v_if_eq (tgt := 67) dX7_before_48 (by decide) (fun hc48 => ?_) (fun hc48 => ?_)
      ·
        refine v_aload_n 2 dX7_before_67 rfl rfl ?_
        refine v_get fl_X7_21 dX7_before_68 h60 rfl ?_
        refine v_aload_n 2 dX7_before_71 rfl rfl ?_
        refine v_get fl_X7_17 dX7_before_72 h60 rfl ?_
        refine v_iload_n 1 dX7_before_75 rfl rfl ?_
        refine v_iald dX7_before_76 h62 (nI_in' (by omega)) ?_
        refine v_iload 0 dX7_before_77 rfl ?_
        refine v_if_ne (tgt := 86) dX7_before_79 (by decide) (fun hc79 => ?_) (fun hc79 => ?_)
        · exact absurd hc48 hc79
        ·
          refine v_iconst (v := 0) dX7_before_82 (by first | rfl | decide) ?_
          refine v_goto (tgt := 101) dX7_before_83 (by decide) ?_
          rw [clamp (show k9 < 2 ^ 31 by omega), ← getD_at hpl (show k9 < (sP σ).length by omega)]
          refine v_callS (c_X7_quarters d (n := 0) h63b hvc (by omega)) cs_X7_132 dX7_before_101 rfl rfl (Nat.le_of_ble_eq_true rfl) ?_
          refine rt_k ?_
          refine v_iinc (v := -1) 1 dX7_before_104 rfl rfl (by decide) (fun z e_z => ?_)
          refine v_ls (ls' := [(3, .int z), (4, .int (kdO ((sP σ).getD k9 0))), (0, .ref 60), (1, .int t), (2, .int w)]) rfl ?_
          have hS := befA_s (σ := σ) (w := w) (L := L) hk9 (Or.inl hc48)
          rw [pass_bak0 hvc hlw hc48] at hS
          rw [hS]
          refine v_goto (tgt := 31) dX7_before_107 (by decide) ?_
          refine v_pick [0, 2, 3, 4] rfl ?_
          exact ih z _ _ (by rw [e_z, Int32.sub_eq_add_neg]) (by omega) (hlw) (h.now _) (hF.up (by decide) _) (up_s _ _ _)
          
      ·
        refine v_iload 0 dX7_before_51 rfl ?_
        refine v_iconst (v := 4) dX7_before_53 (by first | rfl | decide) ?_
        refine v_icmp_eq (tgt := 67) dX7_before_54 (by decide) (fun hc54 => ?_) (fun hc54 => ?_)
        ·
          refine v_aload_n 2 dX7_before_67 rfl rfl ?_
          refine v_get fl_X7_21 dX7_before_68 h60 rfl ?_
          refine v_aload_n 2 dX7_before_71 rfl rfl ?_
          refine v_get fl_X7_17 dX7_before_72 h60 rfl ?_
          refine v_iload_n 1 dX7_before_75 rfl rfl ?_
          refine v_iald dX7_before_76 h62 (nI_in' (by omega)) ?_
          refine v_iload 0 dX7_before_77 rfl ?_
          refine v_if_ne (tgt := 86) dX7_before_79 (by decide) (fun hc79 => ?_) (fun hc79 => ?_)
          ·
            refine v_iconst (v := 4) dX7_before_86 (by first | rfl | decide) ?_
            refine v_aload_n 2 dX7_before_87 rfl rfl ?_
            refine v_get fl_X7_17 dX7_before_88 h60 rfl ?_
            refine v_iload_n 1 dX7_before_91 rfl rfl ?_
            refine v_iald dX7_before_92 h62 (nI_in' (by omega)) ?_
            
            refine v_callS (c_X7_figureOf (d + 2) ) cs_X7_105 dX7_before_93 rfl rfl (Nat.le_of_ble_eq_true rfl) ?_
            refine rt_k ?_
            refine v_iconst (v := 4) dX7_before_96 (by first | rfl | decide) ?_
            refine v_irem dX7_before_97 (by decide) ?_
            refine v_isub dX7_before_98 ?_
            refine v_iconst (v := 4) dX7_before_99 (by first | rfl | decide) ?_
            refine v_irem dX7_before_100 (by decide) ?_
            rw [clamp (show k9 < 2 ^ 31 by omega), ← getD_at hpl (show k9 < (sP σ).length by omega)]
            obtain ⟨n9, hn9, hn1, hn2, hn3⟩ := pass_bak hvc hlw ((Or.inl hc54))
            refine v_callS (st := []) (c_X7_quarters d (n := n9) h63b hvc (by omega)) cs_X7_132 dX7_before_101 rfl (by rw [← hn1]; rfl) (Nat.le_of_ble_eq_true rfl) ?_
            refine rt_k ?_
            refine v_iinc (v := -1) 1 dX7_before_104 rfl rfl (by decide) (fun z e_z => ?_)
            refine v_ls (ls' := [(3, .int z), (4, .int (kdO ((sP σ).getD k9 0))), (0, .ref 60), (1, .int t), (2, .int w)]) rfl ?_
            have hS := befA_s (σ := σ) (w := w) (L := L) hk9 (Or.inr (pr_45 (Or.inl hc54)))
            rw [hn2] at hS
            rw [hS]
            refine v_goto (tgt := 31) dX7_before_107 (by decide) ?_
            refine v_pick [0, 2, 3, 4] rfl ?_
            exact ih z _ _ (by rw [e_z, Int32.sub_eq_add_neg]) (by omega) (hn3) (h.now _) (hF.up (by decide) _) (up_s _ _ _)
            
          · exact absurd hc79 hc48
        ·
          refine v_iload 0 dX7_before_57 rfl ?_
          refine v_iconst (v := 5) dX7_before_59 (by first | rfl | decide) ?_
          refine v_icmp_eq (tgt := 67) dX7_before_60 (by decide) (fun hc60 => ?_) (fun hc60 => ?_)
          ·
            refine v_aload_n 2 dX7_before_67 rfl rfl ?_
            refine v_get fl_X7_21 dX7_before_68 h60 rfl ?_
            refine v_aload_n 2 dX7_before_71 rfl rfl ?_
            refine v_get fl_X7_17 dX7_before_72 h60 rfl ?_
            refine v_iload_n 1 dX7_before_75 rfl rfl ?_
            refine v_iald dX7_before_76 h62 (nI_in' (by omega)) ?_
            refine v_iload 0 dX7_before_77 rfl ?_
            refine v_if_ne (tgt := 86) dX7_before_79 (by decide) (fun hc79 => ?_) (fun hc79 => ?_)
            ·
              refine v_iconst (v := 4) dX7_before_86 (by first | rfl | decide) ?_
              refine v_aload_n 2 dX7_before_87 rfl rfl ?_
              refine v_get fl_X7_17 dX7_before_88 h60 rfl ?_
              refine v_iload_n 1 dX7_before_91 rfl rfl ?_
              refine v_iald dX7_before_92 h62 (nI_in' (by omega)) ?_
              
              refine v_callS (c_X7_figureOf (d + 2) ) cs_X7_105 dX7_before_93 rfl rfl (Nat.le_of_ble_eq_true rfl) ?_
              refine rt_k ?_
              refine v_iconst (v := 4) dX7_before_96 (by first | rfl | decide) ?_
              refine v_irem dX7_before_97 (by decide) ?_
              refine v_isub dX7_before_98 ?_
              refine v_iconst (v := 4) dX7_before_99 (by first | rfl | decide) ?_
              refine v_irem dX7_before_100 (by decide) ?_
              rw [clamp (show k9 < 2 ^ 31 by omega), ← getD_at hpl (show k9 < (sP σ).length by omega)]
              obtain ⟨n9, hn9, hn1, hn2, hn3⟩ := pass_bak hvc hlw ((Or.inr hc60))
              refine v_callS (st := []) (c_X7_quarters d (n := n9) h63b hvc (by omega)) cs_X7_132 dX7_before_101 rfl (by rw [← hn1]; rfl) (Nat.le_of_ble_eq_true rfl) ?_
              refine rt_k ?_
              refine v_iinc (v := -1) 1 dX7_before_104 rfl rfl (by decide) (fun z e_z => ?_)
              refine v_ls (ls' := [(3, .int z), (4, .int (kdO ((sP σ).getD k9 0))), (0, .ref 60), (1, .int t), (2, .int w)]) rfl ?_
              have hS := befA_s (σ := σ) (w := w) (L := L) hk9 (Or.inr (pr_45 (Or.inr hc60)))
              rw [hn2] at hS
              rw [hS]
              refine v_goto (tgt := 31) dX7_before_107 (by decide) ?_
              refine v_pick [0, 2, 3, 4] rfl ?_
              exact ih z _ _ (by rw [e_z, Int32.sub_eq_add_neg]) (by omega) (hn3) (h.now _) (hF.up (by decide) _) (up_s _ _ _)
              
            · exact absurd hc79 hc48
          ·
            refine v_ldc2 kc_X7_193 dX7_before_63 ?_
            refine v_lret dX7_before_66 rfl ?_
            rw [befA_n hk9 (pr_no hc48 hc54 hc60)]
            exact ⟨rfl, h, hF⟩

set_option maxRecDepth 20000 in
set_option maxHeartbeats 4000000 in
theorem c_X7_before {G : Cx} (d : Nat) {μ : Hp} {σ : ST} {t : Int32} {w : Int32} (h : Mo σ μ) (hw : Wp (sP σ)) : Ct G (d + 4) 0 0 M_X7_before [.ref 60, .int t, .int w] μ (Pm (σ) (.long (rBefore σ t w)) μ) := by
  refine Ct.ofV (by decide +kernel) (Nat.le_of_ble_eq_true rfl) ?_
  refine v_ls (ls' := [(0, .ref 60), (1, .int t), (2, .int w)]) rfl ?_
  obtain ⟨co, wh, un, lr, mr, hr, at9, fa, op, sg, hm, p, tt, ro, og, tc, op9, sp, nw, se, le, mo, ot, h60, h61, h62, h63, h64, h65, h66, h67, h68, h69, h70, h71, h72, h73, h74, h75, h76, h77, h78, h79, h80, hmk, hpl, htp, ht60⟩ := id h
  have hl8 := hw.1
  refine v_iload_n 2 dX7_before_0 rfl rfl ?_
  refine v_i2l dX7_before_1 ?_
  refine v_lconst (v := 0) dX7_before_2 (by first | rfl | decide) ?_
  refine v_ldc2 kc_X7_191 dX7_before_3 ?_
  refine v_callS (c_X7_inL (d + 3) 4 5 4 (by decide) rfl rfl) cs_X7_95 dX7_before_6 rfl rfl (Nat.le_of_ble_eq_true rfl) ?_
  refine rt_k ?_
  refine v_if_eq (tgt := 20) dX7_before_9 (by decide) (fun hc9 => ?_) (fun hc9 => ?_)
  ·
    refine v_ldc2 kc_X7_193 dX7_before_20 ?_
    refine v_lret dX7_before_23 rfl ?_
    have hE : rBefore σ t w = VD := by
      by_cases q1 : inO t 3 = 0
      · simp only [rBefore, if_pos q1]
      · first
          | (simp only [rBefore, if_neg q1, if_pos hc9]; done)
          | (rw [tt_tls q1] at hc17; simp only [rBefore, if_neg q1, if_neg hc9, if_pos hc17]; done)
    rw [hE]
    exact ⟨rfl, h, Fp.rf μ⟩
  ·
    refine v_aload_n 0 dX7_before_12 rfl rfl ?_
    refine v_iload_n 1 dX7_before_13 rfl rfl ?_
    refine v_callV (c_X7_tellsLight d h60 h63 h70 h71) cs_X7_284 dX7_before_14 h60 rfl rfl (Nat.le_of_ble_eq_true rfl) ?_
    rintro _ _ ⟨rfl, g9, rfl, hg9⟩
    refine v_if_ne (tgt := 24) dX7_before_17 (by decide) (fun hc17 => ?_) (fun hc17 => ?_)
    ·
      obtain rfl := hg9 hc17
      obtain ⟨q1, q2, q3⟩ := tt_ok hc17
      refine v_aload_n 0 dX7_before_24 rfl rfl ?_
      refine v_get fl_X7_91 dX7_before_25 (up_n (by decide) h60) rfl ?_
      refine v_iconst (v := 1) dX7_before_28 (by first | rfl | decide) ?_
      refine v_isub dX7_before_29 ?_
      refine v_istore_n dX7_before_30 rfl (by decide) (fun x3 e_x3 => ?_)
      refine v_ls (ls' := [(3, .int x3), (0, .ref 60), (1, .int t), (2, .int w)]) rfl ?_
      have hE : rBefore σ t w = befA σ w (sP σ).length (telO (lAt σ t)) := by
        simp only [rBefore, if_neg q1, if_neg hc9, if_neg q2, befA, List.take_length, bakL]
      rw [hE]
      exact bef7_loop (d + 1) hw hc9 (sP σ).length x3 (telO (lAt σ t)) _ e_x3 (Nat.le_refl _) (tel_lw _) (h.now _) (fun i hi => by repeat (first | rfl | refine up_n (by omega) ?_)) (up_s _ _ _)
      
    ·
      refine v_ldc2 kc_X7_193 dX7_before_20 ?_
      refine v_lret dX7_before_23 rfl ?_
      have hE : rBefore σ t w = VD := by
        by_cases q1 : inO t 3 = 0
        · simp only [rBefore, if_pos q1]
        · first
            | (simp only [rBefore, if_neg q1, if_pos hc9]; done)
            | (rw [tt_tls q1] at hc17; simp only [rBefore, if_neg q1, if_neg hc9, if_pos hc17]; done)
      rw [hE]
      exact ⟨rfl, h.now _, fun i hi => by repeat (first | rfl | refine up_n (by omega) ?_)⟩

