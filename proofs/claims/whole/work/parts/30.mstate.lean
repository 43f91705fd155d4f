/-! ===== the reference's cells ===== -/
def lsF (f : Nat → Nat → Int64) : Nat → Int64 := fun j => f (j / 12) (j % 12)
def rkF (f : Nat → Nat → Int32) : Nat → Int32 := fun j => f (j / 4) (j % 4)
def MK (o : Option BN) (hm : Int32) (μ : Hp) : Prop := ∃ (g1 : Nat → Int64) (g2 g4 g5 : Nat → Int32) (g3 : Nat → UInt32), μ 81 = some (arJ 5 g1) ∧ μ 82 = some (arI 8 g2) ∧ μ 83 = some (arF 8 g3) ∧ μ 84 = some (arI 12 g4) ∧ μ 85 = some (arI 3 g5) ∧ ∀ b : BN, o = some b → g1 = lvO b.1 ∧ Pl b.2.1 g2 ∧ g3 = b.2.2.1 ∧ g4 = rkF b.2.2.2.1 ∧ g5 = b.2.2.2.2 ∧ hm = nI b.2.1.length
theorem MK.kept {o : Option BN} {hm : Int32} {μ μ2 : Hp} (h : MK o hm μ) (hf : ∀ i, 81 ≤ i → i ≤ 85 → μ2 i = μ i) : MK o hm μ2 := by
  obtain ⟨g1, g2, g4, g5, g3, h1, h2, h3, h4, h5, h6⟩ := h
  exact ⟨g1, g2, g4, g5, g3, (hf _ (by omega) (by omega)).trans h1, (hf _ (by omega) (by omega)).trans h2, (hf _ (by omega) (by omega)).trans h3, (hf _ (by omega) (by omega)).trans h4, (hf _ (by omega) (by omega)).trans h5, h6⟩
/-- the reference's cells hold σ -/
def Mo (σ : ST) (μ : Hp) : Prop := ∃ (co wh : Int64) (un lr mr hr at9 fa op sg hm : Int32) (p t ro og tc op9 sp : Nat → Int32) (nw se le mo ot : Nat → Int64), μ 60 = some (modC (nI (sP σ).length) co wh un lr mr hr (nI (sT σ).length) at9 fa op (nI (sW σ).1) sg hm (hiO (sI σ))) ∧ μ 61 = some (mlg (sM σ)) ∧ μ 62 = some (arI 8 p) ∧ μ 63 = some (arJ 5 nw) ∧ μ 64 = some (arI 5 ro) ∧ μ 65 = some (arJ 600 se) ∧ μ 66 = some (arI 120 og) ∧ μ 67 = some (arJ 5 le) ∧ μ 68 = some (arJ 5 mo) ∧ μ 69 = some (arJ 5 ot) ∧ μ 70 = some (arJ 36 (lsF (sL σ))) ∧ μ 71 = some (arI 3 (sZ σ)) ∧ μ 72 = some (arF 8 (sF σ)) ∧ μ 73 = some (arI 12 (rkF (sR σ))) ∧ μ 74 = some (arI 3 (sK σ)) ∧ μ 75 = some (arI 60 t) ∧ μ 76 = some (arI 3 op9) ∧ μ 77 = some (arI 8 tc) ∧ μ 78 = some (arI 4 (sW σ).2.1) ∧ μ 79 = some (arI 4 (sW σ).2.2) ∧ μ 80 = some (arI 48 sp) ∧ MK (sI σ) hm μ ∧ Pl (sP σ) p ∧ Pl (sT σ) t ∧ (sT σ).length ≤ 60
/-- nothing of the class has changed -/
def Fp (μ2 μ : Hp) : Prop := ∀ i, i < 60 → μ2 i = μ i
theorem Fp.rf (μ : Hp) : Fp μ μ := fun _ _ => rfl
theorem Fp.up {μ2 μ : Hp} (h : Fp μ2 μ) {k : Nat} (hk : 60 ≤ k) (e : va_E) : Fp (up μ2 k e) μ := fun i hi => (up_n (by omega) rfl).trans (h i hi)
def Pm (σ : ST) (v : Value) (μ : Hp) : Option Value → Hp → Prop := fun r μ2 => r = some v ∧ Mo σ μ2 ∧ Fp μ2 μ
theorem be_in (x : Int32) (n : Nat) (hn : n < 2 ^ 30) : inO x (nI (n + 1)) = beO x (nI n) := by
  unfold inO beO
  by_cases h : x < 0
  · rw [if_pos h, if_pos h]
  · rw [if_neg h, if_neg h]
    have h2 : nI (n + 1) ≤ x ↔ ¬ x ≤ nI n := by
      rw [Int32.le_iff_toInt_le, Int32.le_iff_toInt_le, nI_toInt (by omega), nI_toInt (by omega)]
      omega
    by_cases q : x ≤ nI n
    · rw [if_pos q, if_neg (fun z => h2.mp z q)]
    · rw [if_neg q, if_pos (h2.mpr q)]
theorem c_X7_inL {G : Cx} (d n : Nat) (b : Int32) (y : Int64) (hn : n + 1 < 2 ^ 31) (hb : b = nI (n + 1)) (hy : y = (nI n).toInt64) {μ : Hp} {x : Int32} : Ct G d 0 0 M_X7_in [.long x.toInt64, .long 0, .long y] μ (Rt (some (.int (inO x b))) μ) := by
  subst hb hy
  exact c_X7_inN d n hn
theorem c_X7_isBeh {G : Cx} (d : Nat) {μ : Hp} {i : Int32} {k : Nat} {un lr mr hr le at9 fa op tr sg hm hi : Int32} {co wh : Int64} (h60 : μ 60 = some (modC (nI k) co wh un lr mr hr le at9 fa op tr sg hm hi)) (hk : k < 2 ^ 30) : Ct G (d + 1) 0 0 M_X7_isBehind [.ref 60, .int i] μ (Rt (some (.int (beO i (nI k)))) μ) := by
  rw [← be_in i k hk]
  exact c_X7_isBehind d h60 hk
theorem Mo.now {σ : ST} {μ : Hp} (h : Mo σ μ) (f : Nat → Int64) : Mo σ (up μ 63 (arJ 5 f)) := by
  obtain ⟨co, wh, un, lr, mr, hr, at9, fa, op, sg, hm, p, t, ro, og, tc, op9, sp, nw, se, le, mo, ot, h60, h61, h62, h63, h64, h65, h66, h67, h68, h69, h70, h71, h72, h73, h74, h75, h76, h77, h78, h79, h80, hmk, hp, ht, h9⟩ := h
  exact ⟨co, wh, un, lr, mr, hr, at9, fa, op, sg, hm, p, t, ro, og, tc, op9, sp, f, se, le, mo, ot, up_n (by decide) h60, up_n (by decide) h61, up_n (by decide) h62, up_s _ _ _, up_n (by decide) h64, up_n (by decide) h65, up_n (by decide) h66, up_n (by decide) h67, up_n (by decide) h68, up_n (by decide) h69, up_n (by decide) h70, up_n (by decide) h71, up_n (by decide) h72, up_n (by decide) h73, up_n (by decide) h74, up_n (by decide) h75, up_n (by decide) h76, up_n (by decide) h77, up_n (by decide) h78, up_n (by decide) h79, up_n (by decide) h80, hmk.kept (fun i a b => up_n (by omega) rfl), hp, ht, h9⟩
