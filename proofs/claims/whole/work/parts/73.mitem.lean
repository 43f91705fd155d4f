def Rm (m un lr mr hr tr sg hm hi : Int32) (co wh : Int64) (tp : List Int32) (s : PS) (μ : Hp) : Prop := ∃ t ops tc : Nat → Int32, μ 60 = some (modC m co wh un lr mr hr (nI tp.length) (nI s.1) (-1) (nI s.2.1.length) tr sg hm hi) ∧ μ 75 = some (arI 60 t) ∧ μ 76 = some (arI 3 ops) ∧ μ 77 = some (arI 8 tc) ∧ Pl tp t ∧ tp.length ≤ 60 ∧ s.1 ≤ tp.length ∧ (∀ j, j < s.2.1.length → ops j = nI (s.2.1.getD j 0)) ∧ C8 s.2.2 tc
def Rf (m un lr mr hr tr sg hm hi : Int32) (co wh : Int64) (tp : List Int32) (s : PS) (μ : Hp) : Prop := ∃ (t ops tc : Nat → Int32) (at9 : Int32), μ 60 = some (modC m co wh un lr mr hr (nI tp.length) at9 (nI s.1) (nI s.2.1.length) tr sg hm hi) ∧ μ 75 = some (arI 60 t) ∧ μ 76 = some (arI 3 ops) ∧ μ 77 = some (arI 8 tc) ∧ tp.length ≤ 60 ∧ s.1 ≤ tp.length ∧ ∀ j, j < s.2.1.length → ops j = nI (s.2.1.getD j 0)
def RQ (m un lr mr hr tr sg hm hi : Int32) (co wh : Int64) (tp : List Int32) (x : Bool × PS) (μ : Hp) : Option Value → Hp → Prop := fun r μ' => ∃ v : Int32, r = some (.int v) ∧ (x.1 = true → v = nI x.2.2.2.length ∧ Rm m un lr mr hr tr sg hm hi co wh tp x.2 μ') ∧ (x.1 = false → Rf m un lr mr hr tr sg hm hi co wh tp x.2 μ') ∧ ∀ i, i ≠ 60 → i ≠ 76 → i ≠ 77 → μ' i = μ i
theorem nn0 {k : Nat} (h : k < 2 ^ 31) : ¬ nI k < 0 := fun z => absurd ((nI_ltI (b := 0) h (by decide)).mp z) (by omega)
theorem item_fx {tp : List Int32} {g : Nat} {rec : PS → Bool × PS} {s : PS} (h : (nxP tp s.1 < 50 ∨ 52 < nxP tp s.1) ∨ g = 0) : itemP tp g rec s = fxL (fxI tp s.1) s := by
  unfold itemP fxI
  by_cases q : ixP (nxP tp s.1) < 0
  · rw [if_pos q, if_pos q]
    have e : fxL (false, s.1, 0) s = (false, s) := rfl
    rw [e]
    by_cases a : nxP tp s.1 < 50
    · rw [if_pos a]
    · rw [if_neg a]
      by_cases b : 52 < nxP tp s.1
      · rw [if_pos b]
      · rw [if_neg b]
        rcases h with (h | h) | h
        · exact absurd h a
        · exact absurd h b
        · rw [if_pos h]
  · rw [if_neg q, if_neg q]
    exact filP_fx tp _ (s.1 + 1) s
theorem ix_fig {c : Int32} (h1 : ¬ c < 50) (h2 : ¬ 52 < c) : ixP c < 0 := by
  unfold ixP
  have a1 : ¬ c = 103 := fun z => h2 (by rw [z]; decide)
  have a2 : ¬ c = 121 := fun z => h2 (by rw [z]; decide)
  have a3 : ¬ c = 115 := fun z => h2 (by rw [z]; decide)
  have a4 : ¬ c = 112 := fun z => h2 (by rw [z]; decide)
  have a5 : ¬ c = 119 := fun z => h2 (by rw [z]; decide)
  have a6 : ¬ c = 114 := fun z => h2 (by rw [z]; decide)
  have a7 : ¬ c = 102 := fun z => h2 (by rw [z]; decide)
  rw [if_neg a1, if_neg a2, if_neg a3, if_neg a4, if_neg a5, if_neg a6, if_neg a7]
  decide
theorem item_grp {tp : List Int32} {g : Nat} {rec : PS → Bool × PS} {s : PS} (h1 : ¬ nxP tp s.1 < 50) (h2 : ¬ 52 < nxP tp s.1) (hg : ¬ g = 0) : itemP tp g rec s = grpP tp rec s := by
  unfold itemP
  rw [if_pos (ix_fig h1 h2), if_neg h1, if_neg h2, if_neg hg]
theorem rpt_pre : ∀ (m n : Nat) (cs : List Int32) (j : Nat), j < cs.length → (rptP m n cs).getD j 0 = cs.getD j 0
  | 0, _, _, _, _ => rfl
  | m + 1, n, cs, j, h => by
    show (rptP m (n + 1) (cs ++ [cs.getD n 0])).getD j 0 = _
    rw [rpt_pre m (n + 1) _ j (by rw [List.length_append]; omega)]
    simp [List.getD, List.getElem?_append_left h]
theorem nI_subn {a b : Nat} (h : b ≤ a) (ha : a < 2 ^ 31) : nI a - nI b = nI (a - b) := by
  apply Int32.toInt_inj.mp
  rw [i32_sub (by rw [nI_toInt ha, nI_toInt (by omega)]; omega) (by rw [nI_toInt ha, nI_toInt (by omega)]; omega), nI_toInt ha, nI_toInt (by omega), nI_toInt (by omega)]
  omega
set_option maxRecDepth 20000 in
set_option maxHeartbeats 4000000 in
theorem rp_loop {G : Cx} (d : Nat) {μ : Hp} {n T a0 : Nat} {b3 : Int32} {m un lr mr hr le at9 fa op tr sg hm hi : Int32} {co wh : Int64} (h60 : μ 60 = some (modC m co wh un lr mr hr le at9 fa op tr sg hm hi)) (hn0 : 0 < n) (hsum : a0 + n * T < 100000) : ∀ (k9 : Nat) (fr : Nat) (cs : List Int32) (tc : Nat → Int32), cs.length + k9 = a0 + n * T → cs.length = fr + n → C8 cs tc → V G M_X7_itemTold (d + 0) 0 0 (fun r μ' => r = some (.int (nI (a0 + n * T))) ∧ ∃ tc', μ' = up μ 77 (arI 8 tc') ∧ C8 (rptP k9 fr cs) tc') 188 [(5, .int (nI cs.length)), (4, .int (nI n)), (3, .int b3), (2, .int (nI T)), (0, .ref 60), (1, .int (nI a0))] [] (up μ 77 (arI 8 tc)) := by
  intro k9
  induction k9 with
  | zero =>
    intro fr cs tc hj hfr h8
    refine v_iload 0 dX7_itemTold_188 rfl ?_
    refine v_iload_n 5 dX7_itemTold_190 rfl rfl ?_
    refine v_iload 1 dX7_itemTold_191 rfl ?_
    refine v_iload_n 3 dX7_itemTold_193 rfl rfl ?_
    refine v_imul dX7_itemTold_194 ?_
    refine v_iadd dX7_itemTold_195 ?_
    rw [pk_mul, nI_add]
    refine v_icmp_ge (tgt := 229) dX7_itemTold_196 (by decide) (fun hc196 => ?_) (fun hc196 => ?_)
    ·
      refine v_iload_n 5 dX7_itemTold_229 rfl rfl ?_
      refine v_iload 1 dX7_itemTold_230 rfl ?_
      refine v_iload_n 3 dX7_itemTold_232 rfl rfl ?_
      refine v_imul dX7_itemTold_233 ?_
      refine v_iadd dX7_itemTold_234 ?_
      rw [pk_mul, nI_add]
      refine v_iret dX7_itemTold_235 rfl (by first | rfl | decide | exact nar_b (by first | assumption | rfl)) ?_
      exact ⟨rfl, tc, rfl, h8⟩
    · exact absurd ((nI_leI (by omega) (by omega)).mpr (by omega)) hc196
  | succ k9 ih =>
    intro fr cs tc hj hfr h8
    refine v_iload 0 dX7_itemTold_188 rfl ?_
    refine v_iload_n 5 dX7_itemTold_190 rfl rfl ?_
    refine v_iload 1 dX7_itemTold_191 rfl ?_
    refine v_iload_n 3 dX7_itemTold_193 rfl rfl ?_
    refine v_imul dX7_itemTold_194 ?_
    refine v_iadd dX7_itemTold_195 ?_
    rw [pk_mul, nI_add]
    refine v_icmp_ge (tgt := 229) dX7_itemTold_196 (by decide) (fun hc196 => ?_) (fun hc196 => ?_)
    · have := (nI_leI (by omega) (by omega)).mp hc196
      omega
    ·
      refine v_iload 0 dX7_itemTold_199 rfl ?_
      refine v_bipush (v := 8) dX7_itemTold_201 (by first | rfl | decide) ?_
      refine v_icmp_ge (tgt := 229) dX7_itemTold_203 (by decide) (fun hc203 => ?_) (fun hc203 => ?_)
      ·
        refine v_iload_n 5 dX7_itemTold_229 rfl rfl ?_
        refine v_iload 1 dX7_itemTold_230 rfl ?_
        refine v_iload_n 3 dX7_itemTold_232 rfl rfl ?_
        refine v_imul dX7_itemTold_233 ?_
        refine v_iadd dX7_itemTold_234 ?_
        rw [pk_mul, nI_add]
        refine v_iret dX7_itemTold_235 rfl (by first | rfl | decide | exact nar_b (by first | assumption | rfl)) ?_
        have hl8 := (nI_leI (a := 8) (by decide) (by omega)).mp hc203
        exact ⟨rfl, tc, rfl, fun j j8 hj => by rw [rpt_pre _ _ _ j (by omega)]; exact h8 j j8 (by omega)⟩
      ·
        refine v_aload_n 4 dX7_itemTold_206 rfl rfl ?_
        refine v_get fl_X7_64 dX7_itemTold_207 (up_n (by decide) h60) rfl ?_
        refine v_iload 0 dX7_itemTold_210 rfl ?_
        refine v_aload_n 4 dX7_itemTold_212 rfl rfl ?_
        refine v_get fl_X7_64 dX7_itemTold_213 (up_n (by decide) h60) rfl ?_
        refine v_iload 0 dX7_itemTold_216 rfl ?_
        refine v_iload 1 dX7_itemTold_218 rfl ?_
        refine v_isub dX7_itemTold_220 ?_
        rw [nI_subn (show n ≤ cs.length by omega) (by omega)]
        refine v_iald dX7_itemTold_221 (up_s _ _ _) (nI_in' (by have : ¬ 8 ≤ cs.length := fun z => hc203 ((nI_leI (a := 8) (by decide) (by omega)).mpr z); omega)) ?_
        refine v_iast dX7_itemTold_222 (up_s _ _ _) (nI_in' (by have : ¬ 8 ≤ cs.length := fun z => hc203 ((nI_leI (a := 8) (by decide) (by omega)).mpr z); omega)) ?_
        refine v_hp (up_up _ _ _ _) ?_
        refine v_iinc (v := 1) 0 dX7_itemTold_223 rfl rfl (by decide) (fun z e_z => ?_)
        refine v_ls (ls' := [(5, .int z), (4, .int (nI n)), (3, .int b3), (2, .int (nI T)), (0, .ref 60), (1, .int (nI a0))]) rfl ?_
        have hl8 : ¬ 8 ≤ cs.length := fun z => hc203 ((nI_leI (a := 8) (by decide) (by omega)).mpr z)
        rw [nI_1] at e_z
        subst e_z
        refine v_goto (tgt := 188) dX7_itemTold_226 (by decide) ?_
        rw [clamp (show cs.length < 2 ^ 31 by omega), clamp (show cs.length - n < 2 ^ 31 by omega), show cs.length - n = fr by omega, h8 fr (by omega) (by omega)]
        have hq := ih (fr + 1) (cs ++ [cs.getD fr 0]) (upd tc cs.length (cs.getD fr 0)) (by rw [List.length_append, List.length_singleton]; omega) (by rw [List.length_append, List.length_singleton]; omega) (h8.keep _)
        rw [List.length_append, List.length_singleton] at hq
        exact hq
        

