section ROWS2
variable {G : Cx} {M : MD} {d mc ms : Nat} {P : Option Value → Hp → Prop} {pc : Nat} {ls : List (Nat × Value)} {st : List Value} {μ : Hp}
theorem v_lc_eq {x y : Int64} {off : Int} {tgt : Nat} (hd : decode M.2.1 pc = .ok (.lcmp, 1)) (hd2 : decode M.2.1 (pc + 1) = .ok (.ifCond .eq off, 3)) (ht : ((pc + 1 : Nat) : Int) + off = (tgt : Int)) (ka : x = y → V G M d mc ms P tgt ls st μ) (kb : ¬ x = y → V G M d mc ms P (pc + 4) ls st μ) : V G M d mc ms P pc ls (.long y :: .long x :: st) μ :=
  v_lcmp hd (v_if_eq hd2 ht (fun h => ka ((lg_cmp_eq x y).mp h)) (fun h => kb (fun q => h ((lg_cmp_eq x y).mpr q))))
theorem v_lc_lt {x y : Int64} {off : Int} {tgt : Nat} (hd : decode M.2.1 pc = .ok (.lcmp, 1)) (hd2 : decode M.2.1 (pc + 1) = .ok (.ifCond .lt off, 3)) (ht : ((pc + 1 : Nat) : Int) + off = (tgt : Int)) (ka : x < y → V G M d mc ms P tgt ls st μ) (kb : ¬ x < y → V G M d mc ms P (pc + 4) ls st μ) : V G M d mc ms P pc ls (.long y :: .long x :: st) μ :=
  v_lcmp hd (v_if_lt hd2 ht (fun h => ka ((lg_cmp_lt x y).mp h)) (fun h => kb (fun q => h ((lg_cmp_lt x y).mpr q))))
theorem v_lc_ge {x y : Int64} {off : Int} {tgt : Nat} (hd : decode M.2.1 pc = .ok (.lcmp, 1)) (hd2 : decode M.2.1 (pc + 1) = .ok (.ifCond .ge off, 3)) (ht : ((pc + 1 : Nat) : Int) + off = (tgt : Int)) (ka : y ≤ x → V G M d mc ms P tgt ls st μ) (kb : ¬ y ≤ x → V G M d mc ms P (pc + 4) ls st μ) : V G M d mc ms P pc ls (.long y :: .long x :: st) μ :=
  v_lcmp hd (v_if_ge hd2 ht (fun h => ka ((lg_cmp_ge x y).mp h)) (fun h => kb (fun q => h ((lg_cmp_ge x y).mpr q))))
theorem v_lc_gt {x y : Int64} {off : Int} {tgt : Nat} (hd : decode M.2.1 pc = .ok (.lcmp, 1)) (hd2 : decode M.2.1 (pc + 1) = .ok (.ifCond .gt off, 3)) (ht : ((pc + 1 : Nat) : Int) + off = (tgt : Int)) (ka : y < x → V G M d mc ms P tgt ls st μ) (kb : ¬ y < x → V G M d mc ms P (pc + 4) ls st μ) : V G M d mc ms P pc ls (.long y :: .long x :: st) μ :=
  v_lcmp hd (v_if_gt hd2 ht (fun h => ka ((lg_cmp_gt x y).mp h)) (fun h => kb (fun q => h ((lg_cmp_gt x y).mpr q))))
theorem v_lc_le {x y : Int64} {off : Int} {tgt : Nat} (hd : decode M.2.1 pc = .ok (.lcmp, 1)) (hd2 : decode M.2.1 (pc + 1) = .ok (.ifCond .le off, 3)) (ht : ((pc + 1 : Nat) : Int) + off = (tgt : Int)) (ka : x ≤ y → V G M d mc ms P tgt ls st μ) (kb : ¬ x ≤ y → V G M d mc ms P (pc + 4) ls st μ) : V G M d mc ms P pc ls (.long y :: .long x :: st) μ :=
  v_lcmp hd (v_if_le hd2 ht (fun h => ka ((lg_cmp_le x y).mp h)) (fun h => kb (fun q => h ((lg_cmp_le x y).mpr q))))
theorem v_lc_ne {x y : Int64} {off : Int} {tgt : Nat} (hd : decode M.2.1 pc = .ok (.lcmp, 1)) (hd2 : decode M.2.1 (pc + 1) = .ok (.ifCond .ne off, 3)) (ht : ((pc + 1 : Nat) : Int) + off = (tgt : Int)) (ka : ¬ x = y → V G M d mc ms P tgt ls st μ) (kb : x = y → V G M d mc ms P (pc + 4) ls st μ) : V G M d mc ms P pc ls (.long y :: .long x :: st) μ :=
  v_lcmp hd (v_if_ne hd2 ht (fun h => ka (fun q => h ((lg_cmp_eq x y).mpr q))) (fun h => kb ((lg_cmp_eq x y).mp h)))
theorem v_ldc {idx : Nat} {v : Int32} (h : Cond.constant M.1.cls idx v ∈ gw) (hd : decode M.2.1 pc = .ok (.ldc idx, 2)) (k : V G M d mc ms P (pc + 2) ls (.int v :: st) μ) : V G M d mc ms P pc ls st μ :=
  V.to k (fun h => oks_c okv_i h) (fun F _ _ _ _ w => lv_ldc F.1 F.2.1 F.2.2.2.2.1 (F.2.2.2.2.2.2.2.1 _ h) hd w)
theorem v_ldcw {idx : Nat} {v : Int32} (h : Cond.constant M.1.cls idx v ∈ gw) (hd : decode M.2.1 pc = .ok (.ldc_w idx, 3)) (k : V G M d mc ms P (pc + 3) ls (.int v :: st) μ) : V G M d mc ms P pc ls st μ :=
  V.to k (fun h => oks_c okv_i h) (fun F _ _ _ _ w => lv_ldcw F.1 F.2.1 F.2.2.2.2.1 (F.2.2.2.2.2.2.2.1 _ h) hd w)
theorem v_ldcf {idx : Nat} {v : UInt32} (h : Cond.constantFloat M.1.cls idx v ∈ gw) (hd : decode M.2.1 pc = .ok (.ldc idx, 2)) (k : V G M d mc ms P (pc + 2) ls (.float v :: st) μ) : V G M d mc ms P pc ls st μ :=
  V.to k (fun h => oks_c okv_f h) (fun F _ _ _ _ w => lv_ldcf F.1 F.2.1 F.2.2.2.2.1 (F.2.2.2.2.2.2.2.1 _ h) hd w)
theorem v_ldc2 {idx : Nat} {v : Int64} (h : Cond.constantLong M.1.cls idx v ∈ gw) (hd : decode M.2.1 pc = .ok (.ldc2_w idx, 3)) (k : V G M d mc ms P (pc + 3) ls (.long v :: st) μ) : V G M d mc ms P pc ls st μ :=
  V.to k (fun h => oks_c okv_l h) (fun F _ _ _ _ w => lv_ldc2 F.1 F.2.1 F.2.2.2.2.1 (F.2.2.2.2.2.2.2.1 _ h) hd w)
theorem v_ldc2d {idx : Nat} {v : UInt64} (h : Cond.constantDouble M.1.cls idx v ∈ gw) (hd : decode M.2.1 pc = .ok (.ldc2_w idx, 3)) (k : V G M d mc ms P (pc + 3) ls (.double v :: st) μ) : V G M d mc ms P pc ls st μ :=
  V.to k (fun h => oks_c okv_d h) (fun F _ _ _ _ w => lv_ldc2d F.1 F.2.1 F.2.2.2.2.1 (F.2.2.2.2.2.2.2.1 _ h) hd w)
/-- Object.<init> -/
theorem v_obj {idx a : Nat} (h1 : Cond.methodLink M.1.cls idx objectInit ∈ gw) (hd : decode M.2.1 pc = .ok (.invokespecial idx, 3)) (h8 : (st.map fun v => v.category).sum ≤ 8) (k : V G M (d + 1) mc ms P (pc + 3) ls st μ) : V G M (d + 1) mc ms P pc ls (.ref a :: st) μ :=
  fun p l e R s m args below meth c Q ad H locs cells slots sl F hW hS hR hl hs hsl q1 q2 hE => W.objInit F.1 F.2.1 F.2.2.2.2.1 (F.2.2.2.2.2.2.2.1 _ h1) (F.2.2.2.2.2.2.2.1 _ (gwAt 94 (by decide +kernel) rfl)) (F.2.2.2.2.2.2.2.1 _ (gwAt 95 (by decide +kernel) rfl)) rfl (hsl.1.trans F.2.2.1.symm) rfl hd (by have := F.2.2.2.2.2.2.2.2.2.1; omega) (by have := F.2.2.2.2.2.2.2.2.2.2; have := cat_x ad st h8; show 2 * 0 + _ + 12 ≤ _; omega) (k p l e R s m args below meth c Q ad H locs cells slots sl F hW hS hR hl (oks_t hs) hsl q1 q2 hE)
end ROWS2
theorem cs_X6_3 : Cond.methodLink RX6 3 objectInit ∈ gw := gwAt 93 (by decide +kernel) rfl
theorem cs_X0_3 : Cond.methodLink RX0 3 objectInit ∈ gw := gwAt 101 (by decide +kernel) rfl
theorem cs_X1_3 : Cond.methodLink RX1 3 objectInit ∈ gw := gwAt 107 (by decide +kernel) rfl
theorem cs_X2_3 : Cond.methodLink RX2 3 objectInit ∈ gw := gwAt 260 (by decide +kernel) rfl
theorem cs_X3_3 : Cond.methodLink RX3 3 objectInit ∈ gw := gwAt 225 (by decide +kernel) rfl
theorem cs_X4_3 : Cond.methodLink RX4 3 objectInit ∈ gw := gwAt 170 (by decide +kernel) rfl
theorem cs_X5_3 : Cond.methodLink RX5 3 objectInit ∈ gw := gwAt 206 (by decide +kernel) rfl
theorem cs_X7_3 : Cond.methodLink RX7 3 objectInit ∈ gw := gwAt 1172 (by decide +kernel) rfl
theorem cs_J5_3 : Cond.methodLink RJ5 3 objectInit ∈ gw := gwAt 276 (by decide +kernel) rfl
theorem sw_lo {x k : Int32} {lo : Int} (h : x.toInt < lo) (hk : lo ≤ k.toInt) : ¬ x = k := fun e => by rw [e] at h; omega
theorem sw_hi {x k : Int32} {hi : Int} (h : hi < x.toInt) (hk : k.toInt ≤ hi) : ¬ x = k := fun e => by rw [e] at h; omega
theorem rt_k {r : Option Value} {m : Hp} {K : Option Value → Hp → Prop} (h : K r m) : ∀ r2 m2, Rt r m r2 m2 → K r2 m2 := by
  rintro _ _ ⟨rfl, rfl⟩
  exact h
theorem nar_b {v : Int32} (h : v = 0 ∨ v = 1) : narrow .boolean (.int v) = .int v := by rcases h with rfl | rfl <;> decide
theorem nar_ite {c : Prop} [Decidable c] : narrow .boolean (.int (if c then 1 else 0)) = .int (if c then 1 else 0) := by split <;> decide
