theorem at_nI {σ : ST} {p : Nat → Int32} {k : Nat} (h : Pl (sP σ) p) (hk : k < (sP σ).length) (h8 : (sP σ).length ≤ 8) : atP σ (nI k) = p k := by
  show (sP σ).getD (nI k).toNatClampNeg 0 = p k
  rw [clamp (by omega)]
  exact getD_at h hk
theorem Lx.row {f : Nat → Nat → Int64} {z : Nat → Int32} {μ : Hp} (h : Lx f z μ) {k : Nat} (hk : k < 3) : μ (21 + k) = some (arJ 12 (f k)) := by
  match k, hk with
  | 0, _ => exact h.2.1
  | 1, _ => exact h.2.2.1
  | 2, _ => exact h.2.2.2.1
theorem Bn1.row {L : LT} {l : List Int32} {f : Nat → UInt32} {r : Nat → Nat → Int32} {t : Nat → Int32} {μ : Hp} (h : Bn1 L l f r t μ) {k : Nat} (hk : k < 3) : μ (6 + k) = some (arI 4 (r k)) := by
  obtain ⟨p, h1, h2, h3, h4, h5, h6, h7, h8, h9, hp⟩ := h
  match k, hk with
  | 0, _ => exact h6
  | 1, _ => exact h7
  | 2, _ => exact h8
theorem Vc.eq {c : Int32} (h : Vc c) : c = cdO (kdO c) (anO c) (fgO c) := by
  obtain ⟨k, a, f, hk, ha, hf, rfl⟩ := h
  obtain ⟨h1, h2, h3, -⟩ := vc_parts k hk a ha f hf
  rw [h1, h2, h3]
def flmO (x y : Int32) : Int32 := if 0 ≤ x ^^^ y then irem x y else if irem x y = 0 then irem x y else irem x y + y
theorem xor4 (x : Int32) : 0 ≤ x ^^^ 4 ↔ 0 ≤ x := by
  have h : ∀ z : Int32, 0 ≤ z ↔ z.toBitVec.msb = false := fun z => by
    rw [Int32.le_iff_toInt_le, BitVec.msb_eq_toInt]
    show 0 ≤ z.toInt ↔ decide (z.toInt < 0) = false
    rw [decide_eq_false_iff_not]
    omega
  rw [h, h]
  show (x.toBitVec ^^^ (4 : Int32).toBitVec).msb = false ↔ _
  rw [BitVec.msb_xor, show (4 : Int32).toBitVec.msb = false from rfl, Bool.xor_false]
theorem irem_mod (x y : Int32) : irem x y = x % y := by
  apply Int32.toInt_inj.mp
  show (x - x / y * y).toInt = _
  rw [Int32.toInt_sub, Int32.toInt_mul, Int32.toInt_div, Int32.toInt_mod, Int.bmod_mul_bmod, Int.sub_bmod_bmod]
  rw [show x.toInt - x.toInt.tdiv y.toInt * y.toInt = x.toInt.tmod y.toInt by rw [Int.tmod_def, Int.mul_comm]]
  rw [← Int32.toInt_mod]
  have h1 := (x % y).toInt_lt
  have h2 := (x % y).le_toInt
  revert h1 h2
  generalize (x % y).toInt = z
  intro h1 h2
  exact Int.bmod_eq_of_le (by simp; omega) (by simp; omega)
theorem flm_trn (a y : Int32) : flmO (a + y) 4 = trnO a y := by
  unfold flmO trnO
  rw [irem_mod]
  have hx : (a + y).toInt % 4 = (a.toInt + y.toInt) % 4 := by
    rw [Int32.toInt_add]
    have := Int.bmod_emod (x := a.toInt + y.toInt) (m := 2 ^ 32)
    omega
  have hm : ((a + y) % 4).toInt = (a + y).toInt.tmod 4 := Int32.toInt_mod _ _
  have ht := Int.tmod_add_mul_tdiv (a + y).toInt 4
  have h0 : (0 ≤ (a + y) ^^^ 4) ↔ 0 ≤ (a + y).toInt := by rw [xor4, Int32.le_iff_toInt_le]; exact Iff.rfl
  have hz : ((a + y) % 4 = 0) ↔ (a + y).toInt.tmod 4 = 0 := by rw [← Int32.toInt_inj, hm]; exact Iff.rfl
  rw [← hx]
  generalize hX : (a + y).toInt = X at *
  have hr : X.tmod 4 = X % 4 - (if 0 ≤ X ∨ (4 : Int) ∣ X then 0 else 4) := by
    rw [Int.tmod_eq_emod]
    split <;> rfl
  apply Int32.toInt_inj.mp
  have hlt : 0 ≤ X % 4 ∧ X % 4 < 4 := ⟨Int.emod_nonneg _ (by decide), Int.emod_lt_of_pos _ (by decide)⟩
  rw [nI_toInt (by omega)]
  by_cases q1 : 0 ≤ (a + y) ^^^ 4
  · rw [if_pos q1, hm, hr, if_pos (Or.inl (h0.mp q1))]
    omega
  · have q2 : ¬ 0 ≤ X := fun z => q1 (h0.mpr z)
    rw [if_neg q1]
    by_cases q3 : (a + y) % 4 = 0
    · rw [if_pos q3, q3]
      have := hz.mp q3
      show (0 : Int) = _
      rw [hr] at this
      split at this
      · omega
      · omega
    · rw [if_neg q3, Int32.toInt_add, hm]
      have q4 : ¬ (4 : Int) ∣ X := fun z => q3 (hz.mpr (by rw [hr, if_pos (Or.inr z)]; omega))
      rw [hr, if_neg (fun z => z.elim q2 q4), show (4 : Int32).toInt = 4 from rfl]
      rw [Int.bmod_eq_of_le (by simp; omega) (by simp; omega)]
      omega
set_option maxRecDepth 20000 in
set_option maxHeartbeats 4000000 in
theorem c_X6_lamp {G : Cx} (d : Nat) {μ : Hp} {σ : ST} {i : Int32} {q : Int32} {u : Int32} {v : Int32} (h : Cl σ μ) (hw : Wp (sP σ)) : Ct G (d + 2) 0 0 M_X6_lamp [.ref 0, .int i, .int q, .int u, .int v] μ (Po ((rLamp σ i q u v).2) (.int ((rLamp σ i q u v).1)) μ) := by
  refine Ct.ofV (by decide +kernel) (Nat.le_of_ble_eq_true rfl) ?_
  refine v_ls (ls' := [(0, .ref 0), (1, .int i), (2, .int q), (3, .int u), (4, .int v)]) rfl ?_
  obtain ⟨h0, ⟨p, h1, h2, h3, h4, h5, h6, h7, h8, h9, hpl⟩, ⟨bk, hbk, pk, k11, k12, k13, k14, k15, k16, k17, k18, k19, hpk⟩, ⟨h20, h21, h22, h23, h24⟩, ⟨tt, ops, cd, kk, pp, ff, h25, h26, h27, h28, htp, ht60⟩, ⟨h29, h30, h31⟩, ⟨⟨oc, hoc⟩, h37, h38, h39⟩, hsx, ⟨B0, B1, B2, h50, h51, h52⟩⟩ := id h
  have hl8 := hw.1
  refine v_iload_n 1 dX6_lamp_0 rfl rfl ?_
  refine v_if_lt (tgt := 11) dX6_lamp_1 (by decide) (fun hc1 => ?_) (fun hc1 => ?_)
  ·
    refine v_bipush (v := -2) dX6_lamp_11 (by first | rfl | decide) ?_
    refine v_iret dX6_lamp_13 rfl (by first | rfl | decide | exact nar_b (by first | assumption | rfl)) ?_
    have hE : rLamp σ i q u v = (-2, σ) := by
      first | (simp only [rLamp, if_pos hc1, if_neg (Int32.not_le.mpr hc1)]; done) | grind [rLamp]
    rw [hE]
    exact ⟨rfl, h, Fo.rf μ⟩
  ·
    refine v_iload_n 1 dX6_lamp_4 rfl rfl ?_
    refine v_sipush (v := 1000) dX6_lamp_5 (by first | rfl | decide) ?_
    refine v_icmp_le (tgt := 14) dX6_lamp_8 (by decide) (fun hc8 => ?_) (fun hc8 => ?_)
    ·
      refine v_aload_n 0 dX6_lamp_14 rfl rfl ?_
      refine v_get fl_X6_68 dX6_lamp_15 h0 rfl ?_
      refine v_iload_n 1 dX6_lamp_18 rfl rfl ?_
      refine v_i2l dX6_lamp_19 ?_
      refine v_iload_n 2 dX6_lamp_20 rfl rfl ?_
      refine v_i2l dX6_lamp_21 ?_
      refine v_iload_n 3 dX6_lamp_22 rfl rfl ?_
      refine v_i2l dX6_lamp_23 ?_
      refine v_iload 4 dX6_lamp_24 rfl ?_
      refine v_i2l dX6_lamp_26 ?_
      refine v_iconst (v := 0) dX6_lamp_27 (by first | rfl | decide) ?_
      refine v_callV (c_X1_become (d + 1) h50) cs_X6_78 dX6_lamp_28 h50 rfl rfl (Nat.le_of_ble_eq_true rfl) ?_
      refine rt_k ?_
      refine v_aload_n 0 dX6_lamp_31 rfl rfl ?_
      refine v_get fl_X6_68 dX6_lamp_32 (up_n (by decide) h0) rfl ?_
      refine v_callV (c_X1_mayBe d (up_s _ _ _)) cs_X6_82 dX6_lamp_35 (up_s _ _ _) rfl rfl (Nat.le_of_ble_eq_true rfl) ?_
      refine rt_k ?_
      refine v_if_ne (tgt := 44) dX6_lamp_38 (by decide) (fun hc38 => ?_) (fun hc38 => ?_)
      ·
        refine v_aload_n 0 dX6_lamp_44 rfl rfl ?_
        refine v_get fl_X6_12 dX6_lamp_45 (up_n (by decide) h0) rfl ?_
        refine v_get fl_X6_86 dX6_lamp_48 (up_n (by decide) h1) rfl ?_
        refine v_aload_n 0 dX6_lamp_51 rfl rfl ?_
        refine v_get fl_X6_68 dX6_lamp_52 (up_n (by decide) h0) rfl ?_
        refine v_callV (c_X1_takeFrom d (up_n (by decide) h2) (up_s _ _ _)) cs_X6_89 dX6_lamp_55 (up_n (by decide) h2) rfl rfl (Nat.le_of_ble_eq_true rfl) ?_
        refine rt_k ?_
        refine v_iconst (v := 1) dX6_lamp_58 (by first | rfl | decide) ?_
        refine v_iret dX6_lamp_59 rfl (by first | rfl | decide | exact nar_b (by first | assumption | rfl)) ?_
        have hE : rLamp σ i q u v = (1, toM σ (i.toInt64, q.toInt64, u.toInt64, v.toInt64, 0)) := by
          first | (simp only [rLamp, if_neg hc1, if_pos (Int32.not_lt.mp hc1), if_pos hc8, if_neg (Int32.not_lt.mpr hc8), if_neg hc38]; done) | grind [rLamp]
        rw [hE]
        exact ⟨rfl, (h.beam _).lamp _, fun i hi => by repeat (first | rfl | refine up_n (by omega) ?_)⟩
      ·
        refine v_bipush (v := -2) dX6_lamp_41 (by first | rfl | decide) ?_
        refine v_iret dX6_lamp_43 rfl (by first | rfl | decide | exact nar_b (by first | assumption | rfl)) ?_
        have hE : rLamp σ i q u v = (-2, σ) := by
          first | (simp only [rLamp, if_neg hc1, if_pos (Int32.not_lt.mp hc1), if_pos hc8, if_neg (Int32.not_lt.mpr hc8), if_pos hc38]; done) | grind [rLamp]
        rw [hE]
        exact ⟨rfl, h.beam _, fun i hi => by repeat (first | rfl | refine up_n (by omega) ?_)⟩
    ·
      refine v_bipush (v := -2) dX6_lamp_11 (by first | rfl | decide) ?_
      refine v_iret dX6_lamp_13 rfl (by first | rfl | decide | exact nar_b (by first | assumption | rfl)) ?_
      have hE : rLamp σ i q u v = (-2, σ) := by
        first | (simp only [rLamp, if_neg hc1, if_pos (Int32.not_lt.mp hc1), if_neg hc8, if_pos (Int32.not_le.mp hc8)]; done) | grind [rLamp]
      rw [hE]
      exact ⟨rfl, h, Fo.rf μ⟩

set_option maxRecDepth 20000 in
set_option maxHeartbeats 4000000 in
theorem c_X6_add {G : Cx} (d : Nat) {μ : Hp} {σ : ST} {k : Int32} {a : Int32} {f : Int32} (h : Cl σ μ) (hw : Wp (sP σ)) : Ct G (d + 1) 0 0 M_X6_add [.ref 0, .int k, .int a, .int f] μ (Po ((rAdd σ k a f).2) (.int ((rAdd σ k a f).1)) μ) := by
  refine Ct.ofV (by decide +kernel) (Nat.le_of_ble_eq_true rfl) ?_
  refine v_ls (ls' := [(0, .ref 0), (1, .int k), (2, .int a), (3, .int f)]) rfl ?_
  obtain ⟨h0, ⟨p, h1, h2, h3, h4, h5, h6, h7, h8, h9, hpl⟩, ⟨bk, hbk, pk, k11, k12, k13, k14, k15, k16, k17, k18, k19, hpk⟩, ⟨h20, h21, h22, h23, h24⟩, ⟨tt, ops, cd, kk, pp, ff, h25, h26, h27, h28, htp, ht60⟩, ⟨h29, h30, h31⟩, ⟨⟨oc, hoc⟩, h37, h38, h39⟩, hsx, ⟨B0, B1, B2, h50, h51, h52⟩⟩ := id h
  have hl8 := hw.1
  refine v_iload_n 1 dX6_add_0 rfl rfl ?_
  refine v_callS (c_X6_isKind d ) cs_X6_93 dX6_add_1 rfl rfl (Nat.le_of_ble_eq_true rfl) ?_
  refine rt_k ?_
  refine v_if_ne (tgt := 9) dX6_add_4 (by decide) (fun hc4 => ?_) (fun hc4 => ?_)
  ·
    refine v_iload_n 2 dX6_add_9 rfl rfl ?_
    refine v_callS (c_X6_isAngle d ) cs_X6_97 dX6_add_10 rfl rfl (Nat.le_of_ble_eq_true rfl) ?_
    refine rt_k ?_
    refine v_if_eq (tgt := 23) dX6_add_13 (by decide) (fun hc13 => ?_) (fun hc13 => ?_)
    ·
      refine v_bipush (v := -2) dX6_add_23 (by first | rfl | decide) ?_
      refine v_iret dX6_add_25 rfl (by first | rfl | decide | exact nar_b (by first | assumption | rfl)) ?_
      have hE : rAdd σ k a f = (-2, σ) := by
        first | (simp only [rAdd, if_neg hc4, if_pos hc13]; done) | grind [rAdd]
      rw [hE]
      exact ⟨rfl, h, Fo.rf μ⟩
    ·
      refine v_iload_n 3 dX6_add_16 rfl rfl ?_
      refine v_callS (c_X6_isFigure d ) cs_X6_100 dX6_add_17 rfl rfl (Nat.le_of_ble_eq_true rfl) ?_
      refine rt_k ?_
      refine v_if_ne (tgt := 26) dX6_add_20 (by decide) (fun hc20 => ?_) (fun hc20 => ?_)
      ·
        refine v_aload_n 0 dX6_add_26 rfl rfl ?_
        refine v_get fl_X6_12 dX6_add_27 h0 rfl ?_
        refine v_iload_n 1 dX6_add_30 rfl rfl ?_
        refine v_iload_n 2 dX6_add_31 rfl rfl ?_
        refine v_iload_n 3 dX6_add_32 rfl rfl ?_
        refine v_callS (c_X6_codeOf d ) cs_X6_103 dX6_add_33 rfl rfl (Nat.le_of_ble_eq_true rfl) ?_
        refine rt_k ?_
        refine v_callV (c_X0_append d h1 h3 hpl hl8) cs_X6_107 dX6_add_36 h1 rfl rfl (Nat.le_of_ble_eq_true rfl) ?_
        refine rt_k ?_
        refine v_iret dX6_add_39 rfl (by first | rfl | decide | exact nar_b (by first | assumption | rfl)) ?_
        by_cases q8 : (sP σ).length = 8
        · have hE : rAdd σ k a f = (-4, σ) := by simp only [rAdd, rApp, if_neg hc4, if_neg hc13, if_neg hc20, if_pos q8]
          rw [hE]
          refine ⟨by rw [if_pos q8], ?_, ?_⟩
          · rw [if_pos q8]; exact h
          · rw [if_pos q8]; exact Fo.rf μ
        · have hE : rAdd σ k a f = (sN σ, toP σ (sP σ ++ [cdO k a f])) := by simp only [rAdd, rApp, if_neg hc4, if_neg hc13, if_neg hc20, if_neg q8]
          rw [hE]
          refine ⟨by rw [if_neg q8], ?_, ?_⟩
          · rw [if_neg q8]
            have := (h).pile (hpl.app (cdO k a f))
            rw [List.length_append, List.length_singleton] at this
            exact this
          · rw [if_neg q8]; exact fun i hi => by repeat (first | rfl | refine up_n (by omega) ?_)
      ·
        refine v_bipush (v := -2) dX6_add_23 (by first | rfl | decide) ?_
        refine v_iret dX6_add_25 rfl (by first | rfl | decide | exact nar_b (by first | assumption | rfl)) ?_
        have hE : rAdd σ k a f = (-2, σ) := by
          first | (simp only [rAdd, if_neg hc4, if_neg hc13, if_pos hc20]; done) | grind [rAdd]
        rw [hE]
        exact ⟨rfl, h, Fo.rf μ⟩
  ·
    refine v_iconst (v := -1) dX6_add_7 (by first | rfl | decide) ?_
    refine v_iret dX6_add_8 rfl (by first | rfl | decide | exact nar_b (by first | assumption | rfl)) ?_
    have hE : rAdd σ k a f = (-1, σ) := by
      first | (simp only [rAdd, if_pos hc4]; done) | grind [rAdd]
    rw [hE]
    exact ⟨rfl, h, Fo.rf μ⟩

set_option maxRecDepth 20000 in
set_option maxHeartbeats 4000000 in
theorem c_X6_of {G : Cx} (d : Nat) {μ : Hp} {σ : ST} {i : Int32} {w : Int32} (h : Cl σ μ) (hw : Wp (sP σ)) : Ct G (d + 2) 0 0 M_X6_of [.ref 0, .int i, .int w] μ (Rt (some (.int (rOf σ i w))) μ) := by
  refine Ct.ofV (by decide +kernel) (Nat.le_of_ble_eq_true rfl) ?_
  refine v_ls (ls' := [(0, .ref 0), (1, .int i), (2, .int w)]) rfl ?_
  obtain ⟨h0, ⟨p, h1, h2, h3, h4, h5, h6, h7, h8, h9, hpl⟩, ⟨bk, hbk, pk, k11, k12, k13, k14, k15, k16, k17, k18, k19, hpk⟩, ⟨h20, h21, h22, h23, h24⟩, ⟨tt, ops, cd, kk, pp, ff, h25, h26, h27, h28, htp, ht60⟩, ⟨h29, h30, h31⟩, ⟨⟨oc, hoc⟩, h37, h38, h39⟩, hsx, ⟨B0, B1, B2, h50, h51, h52⟩⟩ := id h
  have hl8 := hw.1
  refine v_aload_n 0 dX6_of_0 rfl rfl ?_
  refine v_get fl_X6_12 dX6_of_1 h0 rfl ?_
  refine v_iload_n 1 dX6_of_4 rfl rfl ?_
  refine v_callV (c_X0_has (d + 1) h1) cs_X6_111 dX6_of_5 h1 rfl rfl (Nat.le_of_ble_eq_true rfl) ?_
  refine rt_k ?_
  refine v_if_ne (tgt := 13) dX6_of_8 (by decide) (fun hc8 => ?_) (fun hc8 => ?_)
  ·
    obtain ⟨n, hn9, rfl⟩ := in_ix (by omega) hc8
    refine v_aload_n 0 dX6_of_13 rfl rfl ?_
    refine v_get fl_X6_12 dX6_of_14 h0 rfl ?_
    refine v_get fl_X6_118 dX6_of_17 h1 rfl ?_
    refine v_iload_n 1 dX6_of_20 rfl rfl ?_
    refine v_iald dX6_of_21 h3 (nI_in' (by omega)) ?_
    refine v_istore_n dX6_of_22 rfl (by decide) (fun cc e_cc => ?_)
    refine v_ls (ls' := [(3, .int cc), (0, .ref 0), (1, .int (nI n)), (2, .int w)]) rfl ?_
    have hcc : atP σ (nI n) = cc := by rw [e_cc, clamp (by omega)]; exact at_nI hpl hn9 hl8
    refine v_iload_n 0 dX6_of_23 rfl rfl ?_
    refine v_callS (c_X6_kindOf (d + 1) ) cs_X6_144 dX6_of_24 rfl rfl (Nat.le_of_ble_eq_true rfl) ?_
    refine rt_k ?_
    refine v_istore dX6_of_27 (by decide) (fun x4_1 e_x4_1 => ?_)
    refine v_ls (ls' := [(4, .int x4_1), (3, .int cc), (0, .ref 0), (1, .int (nI n)), (2, .int w)]) rfl ?_
    subst e_x4_1
    refine v_iload 0 dX6_of_29 rfl ?_
    refine v_callS (c_X6_isSheetOrPolar (d + 1) ) cs_X6_147 dX6_of_31 rfl rfl (Nat.le_of_ble_eq_true rfl) ?_
    refine rt_k ?_
    refine v_istore dX6_of_34 (by decide) (fun x5_1 e_x5_1 => ?_)
    refine v_ls (ls' := [(5, .int x5_1), (4, _), (3, .int cc), (0, .ref 0), (1, .int (nI n)), (2, .int w)]) rfl ?_
    subst e_x5_1
    refine v_iload_n 5 dX6_of_36 rfl rfl ?_
    by_cases cl37 : (w).toInt < 0
    · refine v_tableOut (tgt := 143) dX6_of_37 (Or.inl cl37) (by decide) ?_
      have cs37_0 : ¬ w = 0 := sw_lo cl37 (by decide)
      have cs37_1 : ¬ w = 1 := sw_lo cl37 (by decide)
      have cs37_2 : ¬ w = 2 := sw_lo cl37 (by decide)
      have cs37_3 : ¬ w = 3 := sw_lo cl37 (by decide)
      have cs37_4 : ¬ w = 4 := sw_lo cl37 (by decide)
      have cs37_5 : ¬ w = 5 := sw_lo cl37 (by decide)
      have cs37_6 : ¬ w = 6 := sw_lo cl37 (by decide)
      refine v_iconst (v := -1) dX6_of_143 (by first | rfl | decide) ?_
      refine v_iret dX6_of_144 rfl (by first | rfl | decide | exact nar_b (by first | assumption | rfl)) ?_
      exact ⟨by simp only [rOf, if_neg hc8, if_neg cs37_0, if_neg cs37_1, if_neg cs37_2, if_neg cs37_3, if_neg cs37_4, if_neg cs37_5, if_neg cs37_6, ofO, hcc, spO, prO], rfl⟩
    by_cases ch37 : 6 < (w).toInt
    · refine v_tableOut (tgt := 143) dX6_of_37 (Or.inr ch37) (by decide) ?_
      have cs37_0 : ¬ w = 0 := sw_hi ch37 (by decide)
      have cs37_1 : ¬ w = 1 := sw_hi ch37 (by decide)
      have cs37_2 : ¬ w = 2 := sw_hi ch37 (by decide)
      have cs37_3 : ¬ w = 3 := sw_hi ch37 (by decide)
      have cs37_4 : ¬ w = 4 := sw_hi ch37 (by decide)
      have cs37_5 : ¬ w = 5 := sw_hi ch37 (by decide)
      have cs37_6 : ¬ w = 6 := sw_hi ch37 (by decide)
      refine v_iconst (v := -1) dX6_of_143 (by first | rfl | decide) ?_
      refine v_iret dX6_of_144 rfl (by first | rfl | decide | exact nar_b (by first | assumption | rfl)) ?_
      exact ⟨by simp only [rOf, if_neg hc8, if_neg cs37_0, if_neg cs37_1, if_neg cs37_2, if_neg cs37_3, if_neg cs37_4, if_neg cs37_5, if_neg cs37_6, ofO, hcc, spO, prO], rfl⟩
    by_cases cs37_0 : w = 0
    · refine v_tableIn (off := 43) (tgt := 80) dX6_of_37 cl37 ch37 (by rw [cs37_0]; rfl) (by decide) ?_
      refine v_iload 1 dX6_of_80 rfl ?_
      refine v_iret dX6_of_82 rfl (by first | rfl | decide | exact nar_b (by first | assumption | rfl)) ?_
      exact ⟨by simp only [rOf, if_neg hc8, if_pos cs37_0, ofO, hcc, spO, prO], rfl⟩
    by_cases cs37_1 : w = 1
    · refine v_tableIn (off := 46) (tgt := 83) dX6_of_37 cl37 ch37 (by rw [cs37_1]; rfl) (by decide) ?_
      refine v_iload_n 2 dX6_of_83 rfl rfl ?_
      refine v_callS (c_X6_angleOf (d + 1) ) cs_X6_121 dX6_of_84 rfl rfl (Nat.le_of_ble_eq_true rfl) ?_
      refine rt_k ?_
      refine v_iret dX6_of_87 rfl (by first | rfl | decide | exact nar_b (by first | assumption | rfl)) ?_
      exact ⟨by simp only [rOf, if_neg hc8, if_neg cs37_0, if_pos cs37_1, ofO, hcc, spO, prO], rfl⟩
    by_cases cs37_2 : w = 2
    · refine v_tableIn (off := 51) (tgt := 88) dX6_of_37 cl37 ch37 (by rw [cs37_2]; rfl) (by decide) ?_
      refine v_iload_n 2 dX6_of_88 rfl rfl ?_
      refine v_callS (c_X6_figureOf (d + 1) ) cs_X6_150 dX6_of_89 rfl rfl (Nat.le_of_ble_eq_true rfl) ?_
      refine rt_k ?_
      refine v_iret dX6_of_92 rfl (by first | rfl | decide | exact nar_b (by first | assumption | rfl)) ?_
      exact ⟨by simp only [rOf, if_neg hc8, if_neg cs37_0, if_neg cs37_1, if_pos cs37_2, ofO, hcc, spO, prO], rfl⟩
    by_cases cs37_3 : w = 3
    · refine v_tableIn (off := 56) (tgt := 93) dX6_of_37 cl37 ch37 (by rw [cs37_3]; rfl) (by decide) ?_
      refine v_iload 0 dX6_of_93 rfl ?_
      refine v_if_eq (tgt := 105) dX6_of_95 (by decide) (fun hc95 => ?_) (fun hc95 => ?_)
      ·
        refine v_bipush (v := -5) dX6_of_105 (by first | rfl | decide) ?_
        refine v_iret dX6_of_107 rfl (by first | rfl | decide | exact nar_b (by first | assumption | rfl)) ?_
        exact ⟨by simp only [rOf, if_neg hc8, if_neg cs37_0, if_neg cs37_1, if_neg cs37_2, if_pos cs37_3, if_pos hc95, ofO, hcc, spO, prO], rfl⟩
      ·
        refine v_iload_n 2 dX6_of_98 rfl rfl ?_
        refine v_callS (c_X6_alongOf d ) cs_X6_153 dX6_of_99 rfl rfl (Nat.le_of_ble_eq_true rfl) ?_
        refine rt_k ?_
        refine v_goto (tgt := 107) dX6_of_102 (by decide) ?_
        refine v_iret dX6_of_107 rfl (by first | rfl | decide | exact nar_b (by first | assumption | rfl)) ?_
        exact ⟨by simp only [rOf, if_neg hc8, if_neg cs37_0, if_neg cs37_1, if_neg cs37_2, if_pos cs37_3, if_neg hc95, ofO, hcc, spO, prO], rfl⟩
    by_cases cs37_4 : w = 4
    · refine v_tableIn (off := 71) (tgt := 108) dX6_of_37 cl37 ch37 (by rw [cs37_4]; rfl) (by decide) ?_
      refine v_iload 0 dX6_of_108 rfl ?_
      refine v_if_eq (tgt := 120) dX6_of_110 (by decide) (fun hc110 => ?_) (fun hc110 => ?_)
      ·
        refine v_bipush (v := -5) dX6_of_120 (by first | rfl | decide) ?_
        refine v_iret dX6_of_122 rfl (by first | rfl | decide | exact nar_b (by first | assumption | rfl)) ?_
        exact ⟨by simp only [rOf, if_neg hc8, if_neg cs37_0, if_neg cs37_1, if_neg cs37_2, if_neg cs37_3, if_pos cs37_4, if_pos hc110, ofO, hcc, spO, prO], rfl⟩
      ·
        refine v_iload_n 2 dX6_of_113 rfl rfl ?_
        refine v_callS (c_X6_acrossOf d ) cs_X6_156 dX6_of_114 rfl rfl (Nat.le_of_ble_eq_true rfl) ?_
        refine rt_k ?_
        refine v_goto (tgt := 122) dX6_of_117 (by decide) ?_
        refine v_iret dX6_of_122 rfl (by first | rfl | decide | exact nar_b (by first | assumption | rfl)) ?_
        exact ⟨by simp only [rOf, if_neg hc8, if_neg cs37_0, if_neg cs37_1, if_neg cs37_2, if_neg cs37_3, if_pos cs37_4, if_neg hc110, ofO, hcc, spO, prO], rfl⟩
    by_cases cs37_5 : w = 5
    · refine v_tableIn (off := 86) (tgt := 123) dX6_of_37 cl37 ch37 (by rw [cs37_5]; rfl) (by decide) ?_
      refine v_iload 1 dX6_of_123 rfl ?_
      refine v_callS (c_X6_isPlateOrRotator (d + 1) ) cs_X6_159 dX6_of_125 rfl rfl (Nat.le_of_ble_eq_true rfl) ?_
      refine rt_k ?_
      refine v_if_eq (tgt := 138) dX6_of_128 (by decide) (fun hc128 => ?_) (fun hc128 => ?_)
      ·
        refine v_bipush (v := -5) dX6_of_138 (by first | rfl | decide) ?_
        refine v_iret dX6_of_140 rfl (by first | rfl | decide | exact nar_b (by first | assumption | rfl)) ?_
        exact ⟨by simp only [rOf, if_neg hc8, if_neg cs37_0, if_neg cs37_1, if_neg cs37_2, if_neg cs37_3, if_neg cs37_4, if_pos cs37_5, if_pos hc128, ofO, hcc, spO, prO], rfl⟩
      ·
        refine v_iload_n 2 dX6_of_131 rfl rfl ?_
        refine v_callS (c_X6_quartersOf d ) cs_X6_162 dX6_of_132 rfl rfl (Nat.le_of_ble_eq_true rfl) ?_
        refine rt_k ?_
        refine v_goto (tgt := 140) dX6_of_135 (by decide) ?_
        refine v_iret dX6_of_140 rfl (by first | rfl | decide | exact nar_b (by first | assumption | rfl)) ?_
        exact ⟨by simp only [rOf, if_neg hc8, if_neg cs37_0, if_neg cs37_1, if_neg cs37_2, if_neg cs37_3, if_neg cs37_4, if_pos cs37_5, if_neg hc128, ofO, hcc, spO, prO], rfl⟩
    by_cases cs37_6 : w = 6
    · refine v_tableIn (off := 104) (tgt := 141) dX6_of_37 cl37 ch37 (by rw [cs37_6]; rfl) (by decide) ?_
      refine v_iload_n 2 dX6_of_141 rfl rfl ?_
      refine v_iret dX6_of_142 rfl (by first | rfl | decide | exact nar_b (by first | assumption | rfl)) ?_
      exact ⟨by simp only [rOf, if_neg hc8, if_neg cs37_0, if_neg cs37_1, if_neg cs37_2, if_neg cs37_3, if_neg cs37_4, if_neg cs37_5, if_pos cs37_6, ofO, hcc, spO, prO], rfl⟩
    exfalso
    have q37_0 := lv_neT (a := 0) cs37_0 (by decide)
    have q37_1 := lv_neT (a := 1) cs37_1 (by decide)
    have q37_2 := lv_neT (a := 2) cs37_2 (by decide)
    have q37_3 := lv_neT (a := 3) cs37_3 (by decide)
    have q37_4 := lv_neT (a := 4) cs37_4 (by decide)
    have q37_5 := lv_neT (a := 5) cs37_5 (by decide)
    have q37_6 := lv_neT (a := 6) cs37_6 (by decide)
    omega
  ·
    refine v_iconst (v := -1) dX6_of_11 (by first | rfl | decide) ?_
    refine v_iret dX6_of_12 rfl (by first | rfl | decide | exact nar_b (by first | assumption | rfl)) ?_
    exact ⟨by simp only [rOf, if_pos hc8], rfl⟩

set_option maxRecDepth 20000 in
set_option maxHeartbeats 4000000 in
theorem c_X6_change {G : Cx} (d : Nat) {μ : Hp} {σ : ST} {i : Int32} {w : Int32} {v : Int32} (h : Cl σ μ) (hw : Wp (sP σ)) : Ct G (d + 3) 0 0 M_X6_change [.ref 0, .int i, .int w, .int v] μ (Po ((rChange σ i w v).2) (.int ((rChange σ i w v).1)) μ) := by
  refine Ct.ofV (by decide +kernel) (Nat.le_of_ble_eq_true rfl) ?_
  refine v_ls (ls' := [(0, .ref 0), (1, .int i), (2, .int w), (3, .int v)]) rfl ?_
  obtain ⟨h0, ⟨p, h1, h2, h3, h4, h5, h6, h7, h8, h9, hpl⟩, ⟨bk, hbk, pk, k11, k12, k13, k14, k15, k16, k17, k18, k19, hpk⟩, ⟨h20, h21, h22, h23, h24⟩, ⟨tt, ops, cd, kk, pp, ff, h25, h26, h27, h28, htp, ht60⟩, ⟨h29, h30, h31⟩, ⟨⟨oc, hoc⟩, h37, h38, h39⟩, hsx, ⟨B0, B1, B2, h50, h51, h52⟩⟩ := id h
  have hl8 := hw.1
  refine v_aload_n 0 dX6_change_0 rfl rfl ?_
  refine v_get fl_X6_12 dX6_change_1 h0 rfl ?_
  refine v_iload_n 1 dX6_change_4 rfl rfl ?_
  refine v_callV (c_X0_has (d + 2) h1) cs_X6_111 dX6_change_5 h1 rfl rfl (Nat.le_of_ble_eq_true rfl) ?_
  refine rt_k ?_
  refine v_if_eq (tgt := 20) dX6_change_8 (by decide) (fun hc8 => ?_) (fun hc8 => ?_)
  ·
    refine v_iconst (v := -1) dX6_change_20 (by first | rfl | decide) ?_
    refine v_iret dX6_change_21 rfl (by first | rfl | decide | exact nar_b (by first | assumption | rfl)) ?_
    have hE : rChange σ i w v = (-1, σ) := by
      first | (simp only [rChange, if_pos hc8]; done) | grind [rChange]
    rw [hE]
    exact ⟨rfl, h, Fo.rf μ⟩
  ·
    refine v_iload_n 2 dX6_change_11 rfl rfl ?_
    refine v_if_lt (tgt := 20) dX6_change_12 (by decide) (fun hc12 => ?_) (fun hc12 => ?_)
    ·
      refine v_iconst (v := -1) dX6_change_20 (by first | rfl | decide) ?_
      refine v_iret dX6_change_21 rfl (by first | rfl | decide | exact nar_b (by first | assumption | rfl)) ?_
      have hE : rChange σ i w v = (-1, σ) := by
        first | (simp only [rChange, if_neg hc8, if_pos hc12, if_neg (Int32.not_le.mpr hc12)]; done) | grind [rChange]
      rw [hE]
      exact ⟨rfl, h, Fo.rf μ⟩
    ·
      refine v_iload_n 2 dX6_change_15 rfl rfl ?_
      refine v_iconst (v := 2) dX6_change_16 (by first | rfl | decide) ?_
      refine v_icmp_le (tgt := 22) dX6_change_17 (by decide) (fun hc17 => ?_) (fun hc17 => ?_)
      ·
        obtain ⟨n, hn9, rfl⟩ := in_ix (by omega) hc8
        refine v_iload_n 2 dX6_change_22 rfl rfl ?_
        refine v_if_ne (tgt := 31) dX6_change_23 (by decide) (fun hc23 => ?_) (fun hc23 => ?_)
        ·
          refine v_iload_n 2 dX6_change_31 rfl rfl ?_
          refine v_iconst (v := 1) dX6_change_32 (by first | rfl | decide) ?_
          refine v_icmp_ne (tgt := 40) dX6_change_33 (by decide) (fun hc33 => ?_) (fun hc33 => ?_)
          ·
            refine v_bipush (v := 17) dX6_change_40 (by first | rfl | decide) ?_
            refine v_istore dX6_change_42 (by decide) (fun x4_1 e_x4_1 => ?_)
            refine v_ls (ls' := [(4, .int x4_1), (0, .ref 0), (1, .int (nI n)), (2, .int w), (3, .int v)]) rfl ?_
            subst e_x4_1
            refine v_iload_n 4 dX6_change_44 rfl rfl ?_
            refine v_if_lt (tgt := 54) dX6_change_45 (by decide) (fun hc45 => ?_) (fun hc45 => ?_)
            ·
              refine v_bipush (v := -2) dX6_change_54 (by first | rfl | decide) ?_
              refine v_iret dX6_change_56 rfl (by first | rfl | decide | exact nar_b (by first | assumption | rfl)) ?_
              have hE : rChange σ (nI n) w v = (-2, σ) := by
                first | (simp only [rChange, if_neg hc8, if_neg hc12, if_pos (Int32.not_lt.mp hc12), if_pos hc17, if_neg (Int32.not_lt.mpr hc17), if_neg hc23, if_neg hc33, if_pos hc45, if_neg (Int32.not_le.mpr hc45)]; done) | grind [rChange]
              rw [hE]
              exact ⟨rfl, h, Fo.rf μ⟩
            ·
              refine v_iload_n 4 dX6_change_48 rfl rfl ?_
              refine v_iload 0 dX6_change_49 rfl ?_
              refine v_icmp_lt (tgt := 57) dX6_change_51 (by decide) (fun hc51 => ?_) (fun hc51 => ?_)
              ·
                refine v_iload_n 3 dX6_change_57 rfl rfl ?_
                refine v_if_ne (tgt := 70) dX6_change_58 (by decide) (fun hd58 => ?_) (fun hd58 => ?_)
                ·
                  refine v_iload_n 3 dX6_change_70 rfl rfl ?_
                  refine v_iconst (v := 1) dX6_change_71 (by first | rfl | decide) ?_
                  refine v_icmp_ne (tgt := 84) dX6_change_72 (by decide) (fun hd72 => ?_) (fun hd72 => ?_)
                  ·
                    refine v_iconst (v := 0) dX6_change_84 (by first | rfl | decide) ?_
                    refine v_iconst (v := 0) dX6_change_85 (by first | rfl | decide) ?_
                    refine v_iconst (v := 1) dX6_change_86 (by first | rfl | decide) ?_
                    refine v_callS (c_X6_codeOf (d + 2) ) cs_X6_103 dX6_change_87 rfl rfl (Nat.le_of_ble_eq_true rfl) ?_
                    refine rt_k ?_
                    refine v_istore dX6_change_90 (by decide) (fun x5_1 e_x5_1 => ?_)
                    refine v_ls (ls' := [(5, .int x5_1), (4, .int (17)), (0, .ref 0), (1, .int (nI n)), (2, .int w), (3, .int v)]) rfl ?_
                    subst e_x5_1
                    refine v_aload_n 2 dX6_change_92 rfl rfl ?_
                    refine v_iload_n 3 dX6_change_93 rfl rfl ?_
                    refine v_iload_n 4 dX6_change_94 rfl rfl ?_
                    refine v_callV (c_X6_of d h hw) cs_X6_114 dX6_change_95 h0 rfl rfl (Nat.le_of_ble_eq_true rfl) ?_
                    refine rt_k ?_
                    refine v_istore dX6_change_98 (by decide) (fun x6_1 e_x6_1 => ?_)
                    refine v_ls (ls' := [(6, .int x6_1), (5, _), (4, .int (17)), (0, .ref 0), (1, .int (nI n)), (2, .int w), (3, .int v)]) rfl ?_
                    subst e_x6_1
                    refine v_aload_n 3 dX6_change_100 rfl rfl ?_
                    refine v_get fl_X6_12 dX6_change_101 h0 rfl ?_
                    refine v_get fl_X6_118 dX6_change_104 h1 rfl ?_
                    refine v_iload_n 4 dX6_change_107 rfl rfl ?_
                    refine v_dup2_11 dX6_change_108 rfl rfl ?_
                    refine v_iald dX6_change_109 h3 (nI_in' (by omega)) ?_
                    refine v_iload 1 dX6_change_110 rfl ?_
                    refine v_iload_n 6 dX6_change_112 rfl rfl ?_
                    refine v_iload 0 dX6_change_113 rfl ?_
                    refine v_isub dX6_change_115 ?_
                    refine v_imul dX6_change_116 ?_
                    refine v_iadd dX6_change_117 ?_
                    refine v_iast dX6_change_118 h3 (nI_in' (by omega)) ?_
                    refine v_iload 0 dX6_change_119 rfl ?_
                    refine v_iret dX6_change_121 rfl (by first | rfl | decide | exact nar_b (by first | assumption | rfl)) ?_
                    have hw2 : w = 2 := by grind
                    subst hw2
                    have hvc : Vc (p n) := by rw [← getD_at hpl hn9]; exact hw.at hn9
                    have hto : rOf σ (nI n) 2 = fgO (p n) := by
                      simp only [rOf, if_neg hc8, at_nI hpl hn9 hl8]
                      rfl
                    have hx : p n + cdO 0 0 1 * (v - rOf σ (nI n) 2) = witO (p n) 2 v := by
                      rw [hto]
                      have he := hvc.eq
                      show p n + cdO 0 0 1 * (v - fgO (p n)) = cdO (kdO (p n)) (anO (p n)) v
                      generalize kdO (p n) = K at *
                      generalize anO (p n) = A at *
                      generalize fgO (p n) = F at *
                      rw [he]
                      grind
                    have hiv : ¬ inO v (nmO 2) = 0 := by grind
                    have hE : rChange σ (nI n) 2 v = (fgO (p n), toP σ ((sP σ).set n (witO (p n) 2 v))) := by
                      simp only [rChange, if_neg hc8, if_neg hiv, at_nI hpl hn9 hl8, clamp (show n < 2 ^ 31 by omega)]
                      rfl
                    rw [hE]
                    refine ⟨by rw [hto], ?_, fun i hi => by repeat (first | rfl | refine up_n (by omega) ?_)⟩
                    rw [clamp (by omega), hx]
                    exact h.pileS (hpl.set n _) (by rw [List.length_set])
                  · exact absurd hd72 hc33
                · exact absurd hd58 hc23
              ·
                refine v_bipush (v := -2) dX6_change_54 (by first | rfl | decide) ?_
                refine v_iret dX6_change_56 rfl (by first | rfl | decide | exact nar_b (by first | assumption | rfl)) ?_
                have hE : rChange σ (nI n) w v = (-2, σ) := by
                  first | (simp only [rChange, if_neg hc8, if_neg hc12, if_pos (Int32.not_lt.mp hc12), if_pos hc17, if_neg (Int32.not_lt.mpr hc17), if_neg hc23, if_neg hc33, if_neg hc45, if_pos (Int32.not_lt.mp hc45), if_neg hc51, if_pos (Int32.not_lt.mp hc51)]; done) | grind [rChange]
                rw [hE]
                exact ⟨rfl, h, Fo.rf μ⟩
          ·
            refine v_iconst (v := 4) dX6_change_36 (by first | rfl | decide) ?_
            refine v_goto (tgt := 42) dX6_change_37 (by decide) ?_
            refine v_istore dX6_change_42 (by decide) (fun x4_2 e_x4_2 => ?_)
            refine v_ls (ls' := [(4, .int x4_2), (0, .ref 0), (1, .int (nI n)), (2, .int w), (3, .int v)]) rfl ?_
            subst e_x4_2
            refine v_iload_n 4 dX6_change_44 rfl rfl ?_
            refine v_if_lt (tgt := 54) dX6_change_45 (by decide) (fun hc45 => ?_) (fun hc45 => ?_)
            ·
              refine v_bipush (v := -2) dX6_change_54 (by first | rfl | decide) ?_
              refine v_iret dX6_change_56 rfl (by first | rfl | decide | exact nar_b (by first | assumption | rfl)) ?_
              have hE : rChange σ (nI n) w v = (-2, σ) := by
                first | (simp only [rChange, if_neg hc8, if_neg hc12, if_pos (Int32.not_lt.mp hc12), if_pos hc17, if_neg (Int32.not_lt.mpr hc17), if_neg hc23, if_pos hc33, if_pos hc45, if_neg (Int32.not_le.mpr hc45)]; done) | grind [rChange]
              rw [hE]
              exact ⟨rfl, h, Fo.rf μ⟩
            ·
              refine v_iload_n 4 dX6_change_48 rfl rfl ?_
              refine v_iload 0 dX6_change_49 rfl ?_
              refine v_icmp_lt (tgt := 57) dX6_change_51 (by decide) (fun hc51 => ?_) (fun hc51 => ?_)
              ·
                refine v_iload_n 3 dX6_change_57 rfl rfl ?_
                refine v_if_ne (tgt := 70) dX6_change_58 (by decide) (fun hd58 => ?_) (fun hd58 => ?_)
                ·
                  refine v_iload_n 3 dX6_change_70 rfl rfl ?_
                  refine v_iconst (v := 1) dX6_change_71 (by first | rfl | decide) ?_
                  refine v_icmp_ne (tgt := 84) dX6_change_72 (by decide) (fun hd72 => ?_) (fun hd72 => ?_)
                  · exact absurd hc33 hd72
                  ·
                    refine v_iconst (v := 0) dX6_change_75 (by first | rfl | decide) ?_
                    refine v_iconst (v := 1) dX6_change_76 (by first | rfl | decide) ?_
                    refine v_iconst (v := 0) dX6_change_77 (by first | rfl | decide) ?_
                    refine v_callS (c_X6_codeOf (d + 2) ) cs_X6_103 dX6_change_78 rfl rfl (Nat.le_of_ble_eq_true rfl) ?_
                    refine rt_k ?_
                    refine v_goto (tgt := 90) dX6_change_81 (by decide) ?_
                    refine v_istore dX6_change_90 (by decide) (fun x5_2 e_x5_2 => ?_)
                    refine v_ls (ls' := [(5, .int x5_2), (4, .int (4)), (0, .ref 0), (1, .int (nI n)), (2, .int w), (3, .int v)]) rfl ?_
                    subst e_x5_2
                    refine v_aload_n 2 dX6_change_92 rfl rfl ?_
                    refine v_iload_n 3 dX6_change_93 rfl rfl ?_
                    refine v_iload_n 4 dX6_change_94 rfl rfl ?_
                    refine v_callV (c_X6_of d h hw) cs_X6_114 dX6_change_95 h0 rfl rfl (Nat.le_of_ble_eq_true rfl) ?_
                    refine rt_k ?_
                    refine v_istore dX6_change_98 (by decide) (fun x6_2 e_x6_2 => ?_)
                    refine v_ls (ls' := [(6, .int x6_2), (5, _), (4, .int (4)), (0, .ref 0), (1, .int (nI n)), (2, .int w), (3, .int v)]) rfl ?_
                    subst e_x6_2
                    refine v_aload_n 3 dX6_change_100 rfl rfl ?_
                    refine v_get fl_X6_12 dX6_change_101 h0 rfl ?_
                    refine v_get fl_X6_118 dX6_change_104 h1 rfl ?_
                    refine v_iload_n 4 dX6_change_107 rfl rfl ?_
                    refine v_dup2_11 dX6_change_108 rfl rfl ?_
                    refine v_iald dX6_change_109 h3 (nI_in' (by omega)) ?_
                    refine v_iload 1 dX6_change_110 rfl ?_
                    refine v_iload_n 6 dX6_change_112 rfl rfl ?_
                    refine v_iload 0 dX6_change_113 rfl ?_
                    refine v_isub dX6_change_115 ?_
                    refine v_imul dX6_change_116 ?_
                    refine v_iadd dX6_change_117 ?_
                    refine v_iast dX6_change_118 h3 (nI_in' (by omega)) ?_
                    refine v_iload 0 dX6_change_119 rfl ?_
                    refine v_iret dX6_change_121 rfl (by first | rfl | decide | exact nar_b (by first | assumption | rfl)) ?_
                    have hw2 : w = 1 := hc33
                    subst hw2
                    have hvc : Vc (p n) := by rw [← getD_at hpl hn9]; exact hw.at hn9
                    have hto : rOf σ (nI n) 1 = anO (p n) := by
                      simp only [rOf, if_neg hc8, at_nI hpl hn9 hl8]
                      rfl
                    have hx : p n + cdO 0 1 0 * (v - rOf σ (nI n) 1) = witO (p n) 1 v := by
                      rw [hto]
                      have he := hvc.eq
                      show p n + cdO 0 1 0 * (v - anO (p n)) = cdO (kdO (p n)) v (fgO (p n))
                      generalize kdO (p n) = K at *
                      generalize anO (p n) = A at *
                      generalize fgO (p n) = F at *
                      rw [he]
                      grind
                    have hiv : ¬ inO v (nmO 1) = 0 := by grind
                    have hE : rChange σ (nI n) 1 v = (anO (p n), toP σ ((sP σ).set n (witO (p n) 1 v))) := by
                      simp only [rChange, if_neg hc8, if_neg hiv, at_nI hpl hn9 hl8, clamp (show n < 2 ^ 31 by omega)]
                      rfl
                    rw [hE]
                    refine ⟨by rw [hto], ?_, fun i hi => by repeat (first | rfl | refine up_n (by omega) ?_)⟩
                    rw [clamp (by omega), hx]
                    exact h.pileS (hpl.set n _) (by rw [List.length_set])
                · exact absurd hd58 hc23
              ·
                refine v_bipush (v := -2) dX6_change_54 (by first | rfl | decide) ?_
                refine v_iret dX6_change_56 rfl (by first | rfl | decide | exact nar_b (by first | assumption | rfl)) ?_
                have hE : rChange σ (nI n) w v = (-2, σ) := by
                  first | (simp only [rChange, if_neg hc8, if_neg hc12, if_pos (Int32.not_lt.mp hc12), if_pos hc17, if_neg (Int32.not_lt.mpr hc17), if_neg hc23, if_pos hc33, if_neg hc45, if_pos (Int32.not_lt.mp hc45), if_neg hc51, if_pos (Int32.not_lt.mp hc51)]; done) | grind [rChange]
                rw [hE]
                exact ⟨rfl, h, Fo.rf μ⟩
        ·
          refine v_bipush (v := 7) dX6_change_26 (by first | rfl | decide) ?_
          refine v_goto (tgt := 42) dX6_change_28 (by decide) ?_
          refine v_istore dX6_change_42 (by decide) (fun x4_3 e_x4_3 => ?_)
          refine v_ls (ls' := [(4, .int x4_3), (0, .ref 0), (1, .int (nI n)), (2, .int w), (3, .int v)]) rfl ?_
          subst e_x4_3
          refine v_iload_n 4 dX6_change_44 rfl rfl ?_
          refine v_if_lt (tgt := 54) dX6_change_45 (by decide) (fun hc45 => ?_) (fun hc45 => ?_)
          ·
            refine v_bipush (v := -2) dX6_change_54 (by first | rfl | decide) ?_
            refine v_iret dX6_change_56 rfl (by first | rfl | decide | exact nar_b (by first | assumption | rfl)) ?_
            have hE : rChange σ (nI n) w v = (-2, σ) := by
              first | (simp only [rChange, if_neg hc8, if_neg hc12, if_pos (Int32.not_lt.mp hc12), if_pos hc17, if_neg (Int32.not_lt.mpr hc17), if_pos hc23, if_pos hc45, if_neg (Int32.not_le.mpr hc45)]; done) | grind [rChange]
            rw [hE]
            exact ⟨rfl, h, Fo.rf μ⟩
          ·
            refine v_iload_n 4 dX6_change_48 rfl rfl ?_
            refine v_iload 0 dX6_change_49 rfl ?_
            refine v_icmp_lt (tgt := 57) dX6_change_51 (by decide) (fun hc51 => ?_) (fun hc51 => ?_)
            ·
              refine v_iload_n 3 dX6_change_57 rfl rfl ?_
              refine v_if_ne (tgt := 70) dX6_change_58 (by decide) (fun hd58 => ?_) (fun hd58 => ?_)
              · exact absurd hc23 hd58
              ·
                refine v_iconst (v := 1) dX6_change_61 (by first | rfl | decide) ?_
                refine v_iconst (v := 0) dX6_change_62 (by first | rfl | decide) ?_
                refine v_iconst (v := 0) dX6_change_63 (by first | rfl | decide) ?_
                refine v_callS (c_X6_codeOf (d + 2) ) cs_X6_103 dX6_change_64 rfl rfl (Nat.le_of_ble_eq_true rfl) ?_
                refine rt_k ?_
                refine v_goto (tgt := 90) dX6_change_67 (by decide) ?_
                refine v_istore dX6_change_90 (by decide) (fun x5_3 e_x5_3 => ?_)
                refine v_ls (ls' := [(5, .int x5_3), (4, .int (7)), (0, .ref 0), (1, .int (nI n)), (2, .int w), (3, .int v)]) rfl ?_
                subst e_x5_3
                refine v_aload_n 2 dX6_change_92 rfl rfl ?_
                refine v_iload_n 3 dX6_change_93 rfl rfl ?_
                refine v_iload_n 4 dX6_change_94 rfl rfl ?_
                refine v_callV (c_X6_of d h hw) cs_X6_114 dX6_change_95 h0 rfl rfl (Nat.le_of_ble_eq_true rfl) ?_
                refine rt_k ?_
                refine v_istore dX6_change_98 (by decide) (fun x6_3 e_x6_3 => ?_)
                refine v_ls (ls' := [(6, .int x6_3), (5, _), (4, .int (7)), (0, .ref 0), (1, .int (nI n)), (2, .int w), (3, .int v)]) rfl ?_
                subst e_x6_3
                refine v_aload_n 3 dX6_change_100 rfl rfl ?_
                refine v_get fl_X6_12 dX6_change_101 h0 rfl ?_
                refine v_get fl_X6_118 dX6_change_104 h1 rfl ?_
                refine v_iload_n 4 dX6_change_107 rfl rfl ?_
                refine v_dup2_11 dX6_change_108 rfl rfl ?_
                refine v_iald dX6_change_109 h3 (nI_in' (by omega)) ?_
                refine v_iload 1 dX6_change_110 rfl ?_
                refine v_iload_n 6 dX6_change_112 rfl rfl ?_
                refine v_iload 0 dX6_change_113 rfl ?_
                refine v_isub dX6_change_115 ?_
                refine v_imul dX6_change_116 ?_
                refine v_iadd dX6_change_117 ?_
                refine v_iast dX6_change_118 h3 (nI_in' (by omega)) ?_
                refine v_iload 0 dX6_change_119 rfl ?_
                refine v_iret dX6_change_121 rfl (by first | rfl | decide | exact nar_b (by first | assumption | rfl)) ?_
                have hw2 : w = 0 := hc23
                subst hw2
                have hvc : Vc (p n) := by rw [← getD_at hpl hn9]; exact hw.at hn9
                have hto : rOf σ (nI n) 0 = kdO (p n) := by
                  simp only [rOf, if_neg hc8, at_nI hpl hn9 hl8]
                  rfl
                have hx : p n + cdO 1 0 0 * (v - rOf σ (nI n) 0) = witO (p n) 0 v := by
                  rw [hto]
                  have he := hvc.eq
                  show p n + cdO 1 0 0 * (v - kdO (p n)) = cdO v (anO (p n)) (fgO (p n))
                  generalize kdO (p n) = K at *
                  generalize anO (p n) = A at *
                  generalize fgO (p n) = F at *
                  rw [he]
                  grind
                have hiv : ¬ inO v (nmO 0) = 0 := by grind
                have hE : rChange σ (nI n) 0 v = (kdO (p n), toP σ ((sP σ).set n (witO (p n) 0 v))) := by
                  simp only [rChange, if_neg hc8, if_neg hiv, at_nI hpl hn9 hl8, clamp (show n < 2 ^ 31 by omega)]
                  rfl
                rw [hE]
                refine ⟨by rw [hto], ?_, fun i hi => by repeat (first | rfl | refine up_n (by omega) ?_)⟩
                rw [clamp (by omega), hx]
                exact h.pileS (hpl.set n _) (by rw [List.length_set])
            ·
              refine v_bipush (v := -2) dX6_change_54 (by first | rfl | decide) ?_
              refine v_iret dX6_change_56 rfl (by first | rfl | decide | exact nar_b (by first | assumption | rfl)) ?_
              have hE : rChange σ (nI n) w v = (-2, σ) := by
                first | (simp only [rChange, if_neg hc8, if_neg hc12, if_pos (Int32.not_lt.mp hc12), if_pos hc17, if_neg (Int32.not_lt.mpr hc17), if_pos hc23, if_neg hc45, if_pos (Int32.not_lt.mp hc45), if_neg hc51, if_pos (Int32.not_lt.mp hc51)]; done) | grind [rChange]
              rw [hE]
              exact ⟨rfl, h, Fo.rf μ⟩
      ·
        refine v_iconst (v := -1) dX6_change_20 (by first | rfl | decide) ?_
        refine v_iret dX6_change_21 rfl (by first | rfl | decide | exact nar_b (by first | assumption | rfl)) ?_
        have hE : rChange σ i w v = (-1, σ) := by
          first | (simp only [rChange, if_neg hc8, if_neg hc12, if_pos (Int32.not_lt.mp hc12), if_neg hc17, if_pos (Int32.not_le.mp hc17)]; done) | grind [rChange]
        rw [hE]
        exact ⟨rfl, h, Fo.rf μ⟩

set_option maxRecDepth 20000 in
set_option maxHeartbeats 4000000 in
theorem c_J9_floorMod_7cf53 {G : Cx} (d : Nat) {μ : Hp} {x y : Int32} (hy : ¬ y = 0) : Ct G (d) 0 0 M_J9_floorMod_7cf53 [.int x, .int y] μ (Rt (some (.int (flmO x y))) μ) := by
  refine Ct.ofV (by decide +kernel) (Nat.le_of_ble_eq_true rfl) ?_
  refine v_ls (ls' := [(0, .int x), (1, .int y)]) rfl ?_
  refine v_iload_n 0 dJ9_floorMod_7cf53_0 rfl rfl ?_
  refine v_iload_n 1 dJ9_floorMod_7cf53_1 rfl rfl ?_
  refine v_irem dJ9_floorMod_7cf53_2 (hy) ?_
  refine v_istore_n dJ9_floorMod_7cf53_3 rfl (by decide) (fun x2_1 e_x2_1 => ?_)
  refine v_ls (ls' := [(2, .int x2_1), (0, .int x), (1, .int y)]) rfl ?_
  subst e_x2_1
  refine v_iload_n 1 dJ9_floorMod_7cf53_4 rfl rfl ?_
  refine v_iload_n 2 dJ9_floorMod_7cf53_5 rfl rfl ?_
  refine v_ixor dJ9_floorMod_7cf53_6 ?_
  refine v_if_ge (tgt := 18) dJ9_floorMod_7cf53_7 (by decide) (fun hc7 => ?_) (fun hc7 => ?_)
  ·
    refine v_iload_n 0 dJ9_floorMod_7cf53_18 rfl rfl ?_
    refine v_iret dJ9_floorMod_7cf53_19 rfl (by first | rfl | decide | exact nar_b (by first | assumption | rfl)) ?_
    exact ⟨by simp only [flmO, if_pos hc7, if_neg (Int32.not_lt.mpr hc7)], rfl⟩
  ·
    refine v_iload_n 0 dJ9_floorMod_7cf53_10 rfl rfl ?_
    refine v_if_eq (tgt := 18) dJ9_floorMod_7cf53_11 (by decide) (fun hc11 => ?_) (fun hc11 => ?_)
    ·
      refine v_iload_n 0 dJ9_floorMod_7cf53_18 rfl rfl ?_
      refine v_iret dJ9_floorMod_7cf53_19 rfl (by first | rfl | decide | exact nar_b (by first | assumption | rfl)) ?_
      exact ⟨by simp only [flmO, if_neg hc7, if_pos (Int32.not_le.mp hc7), if_pos hc11], rfl⟩
    ·
      refine v_iload_n 0 dJ9_floorMod_7cf53_14 rfl rfl ?_
      refine v_iload_n 2 dJ9_floorMod_7cf53_15 rfl rfl ?_
      refine v_iadd dJ9_floorMod_7cf53_16 ?_
      refine v_iret dJ9_floorMod_7cf53_17 rfl (by first | rfl | decide | exact nar_b (by first | assumption | rfl)) ?_
      exact ⟨by simp only [flmO, if_neg hc7, if_pos (Int32.not_le.mp hc7), if_neg hc11], rfl⟩

set_option maxRecDepth 20000 in
set_option maxHeartbeats 4000000 in
theorem c_X6_turn {G : Cx} (d : Nat) {μ : Hp} {σ : ST} {i : Int32} {y : Int32} (h : Cl σ μ) (hw : Wp (sP σ)) : Ct G (d + 2) 0 0 M_X6_turn [.ref 0, .int i, .int y] μ (Po ((rTurn σ i y).2) (.int ((rTurn σ i y).1)) μ) := by
  refine Ct.ofV (by decide +kernel) (Nat.le_of_ble_eq_true rfl) ?_
  refine v_ls (ls' := [(0, .ref 0), (1, .int i), (2, .int y)]) rfl ?_
  obtain ⟨h0, ⟨p, h1, h2, h3, h4, h5, h6, h7, h8, h9, hpl⟩, ⟨bk, hbk, pk, k11, k12, k13, k14, k15, k16, k17, k18, k19, hpk⟩, ⟨h20, h21, h22, h23, h24⟩, ⟨tt, ops, cd, kk, pp, ff, h25, h26, h27, h28, htp, ht60⟩, ⟨h29, h30, h31⟩, ⟨⟨oc, hoc⟩, h37, h38, h39⟩, hsx, ⟨B0, B1, B2, h50, h51, h52⟩⟩ := id h
  have hl8 := hw.1
  refine v_aload_n 0 dX6_turn_0 rfl rfl ?_
  refine v_get fl_X6_12 dX6_turn_1 h0 rfl ?_
  refine v_iload_n 1 dX6_turn_4 rfl rfl ?_
  refine v_callV (c_X0_has (d + 1) h1) cs_X6_111 dX6_turn_5 h1 rfl rfl (Nat.le_of_ble_eq_true rfl) ?_
  refine rt_k ?_
  refine v_if_ne (tgt := 13) dX6_turn_8 (by decide) (fun hc8 => ?_) (fun hc8 => ?_)
  ·
    obtain ⟨n, hn9, rfl⟩ := in_ix (by omega) hc8
    refine v_aload_n 0 dX6_turn_13 rfl rfl ?_
    refine v_get fl_X6_12 dX6_turn_14 h0 rfl ?_
    refine v_get fl_X6_118 dX6_turn_17 h1 rfl ?_
    refine v_iload_n 1 dX6_turn_20 rfl rfl ?_
    refine v_iald dX6_turn_21 h3 (nI_in' (by omega)) ?_
    refine v_istore_n dX6_turn_22 rfl (by decide) (fun cc e_cc => ?_)
    refine v_ls (ls' := [(3, .int cc), (0, .ref 0), (1, .int (nI n)), (2, .int y)]) rfl ?_
    have hcc : atP σ (nI n) = cc := by rw [e_cc, clamp (by omega)]; exact at_nI hpl hn9 hl8
    refine v_iload_n 0 dX6_turn_23 rfl rfl ?_
    refine v_callS (c_X6_angleOf (d + 1) ) cs_X6_121 dX6_turn_24 rfl rfl (Nat.le_of_ble_eq_true rfl) ?_
    refine rt_k ?_
    refine v_iload_n 3 dX6_turn_27 rfl rfl ?_
    refine v_iadd dX6_turn_28 ?_
    refine v_iconst (v := 4) dX6_turn_29 (by first | rfl | decide) ?_
    refine v_callS (c_J9_floorMod_7cf53 (d + 1) (by decide)) cs_X6_124 dX6_turn_30 rfl rfl (Nat.le_of_ble_eq_true rfl) ?_
    refine rt_k ?_
    rw [flm_trn]
    refine v_istore dX6_turn_33 (by decide) (fun x4_1 e_x4_1 => ?_)
    refine v_ls (ls' := [(4, .int x4_1), (3, .int cc), (0, .ref 0), (1, .int (nI n)), (2, .int y)]) rfl ?_
    subst e_x4_1
    refine v_aload_n 2 dX6_turn_35 rfl rfl ?_
    refine v_get fl_X6_12 dX6_turn_36 h0 rfl ?_
    refine v_get fl_X6_118 dX6_turn_39 h1 rfl ?_
    refine v_iload_n 3 dX6_turn_42 rfl rfl ?_
    refine v_iload_n 1 dX6_turn_43 rfl rfl ?_
    refine v_iload 0 dX6_turn_44 rfl ?_
    refine v_callS (c_X6_withAngle d ) cs_X6_129 dX6_turn_46 rfl rfl (Nat.le_of_ble_eq_true rfl) ?_
    refine rt_k ?_
    refine v_iast dX6_turn_49 h3 (nI_in' (by omega)) ?_
    refine v_iload 0 dX6_turn_50 rfl ?_
    refine v_iret dX6_turn_52 rfl (by first | rfl | decide | exact nar_b (by first | assumption | rfl)) ?_
    have hE : rTurn σ (nI n) y = (trnO (anO cc) y, toP σ ((sP σ).set n (cdO (kdO cc) (trnO (anO cc) y) (fgO cc)))) := by simp only [rTurn, if_neg hc8, hcc, clamp (show n < 2 ^ 31 by omega)]
    rw [hE]
    refine ⟨rfl, ?_, fun i hi => by repeat (first | rfl | refine up_n (by omega) ?_)⟩
    rw [clamp (by omega)]
    exact h.pileS (hpl.set n _) (by rw [List.length_set])
  ·
    refine v_iconst (v := -1) dX6_turn_11 (by first | rfl | decide) ?_
    refine v_iret dX6_turn_12 rfl (by first | rfl | decide | exact nar_b (by first | assumption | rfl)) ?_
    have hE : rTurn σ i y = (-1, σ) := by
      first | (simp only [rTurn, if_pos hc8]; done) | grind [rTurn]
    rw [hE]
    exact ⟨rfl, h, Fo.rf μ⟩

set_option maxRecDepth 20000 in
set_option maxHeartbeats 4000000 in
theorem c_X6_move {G : Cx} (d : Nat) {μ : Hp} {σ : ST} {i : Int32} {j : Int32} (h : Cl σ μ) (hw : Wp (sP σ)) : Ct G (d + 1) 0 0 M_X6_move [.ref 0, .int i, .int j] μ (Po ((rMove σ i j).2) (.int ((rMove σ i j).1)) μ) := by
  refine Ct.ofV (by decide +kernel) (Nat.le_of_ble_eq_true rfl) ?_
  refine v_ls (ls' := [(0, .ref 0), (1, .int i), (2, .int j)]) rfl ?_
  obtain ⟨h0, ⟨p, h1, h2, h3, h4, h5, h6, h7, h8, h9, hpl⟩, ⟨bk, hbk, pk, k11, k12, k13, k14, k15, k16, k17, k18, k19, hpk⟩, ⟨h20, h21, h22, h23, h24⟩, ⟨tt, ops, cd, kk, pp, ff, h25, h26, h27, h28, htp, ht60⟩, ⟨h29, h30, h31⟩, ⟨⟨oc, hoc⟩, h37, h38, h39⟩, hsx, ⟨B0, B1, B2, h50, h51, h52⟩⟩ := id h
  have hl8 := hw.1
  refine v_aload_n 0 dX6_move_0 rfl rfl ?_
  refine v_get fl_X6_12 dX6_move_1 h0 rfl ?_
  refine v_iload_n 1 dX6_move_4 rfl rfl ?_
  refine v_callV (c_X0_has d h1) cs_X6_111 dX6_move_5 h1 rfl rfl (Nat.le_of_ble_eq_true rfl) ?_
  refine rt_k ?_
  refine v_if_eq (tgt := 22) dX6_move_8 (by decide) (fun hc8 => ?_) (fun hc8 => ?_)
  ·
    refine v_iconst (v := -1) dX6_move_22 (by first | rfl | decide) ?_
    refine v_iret dX6_move_23 rfl (by first | rfl | decide | exact nar_b (by first | assumption | rfl)) ?_
    have hE : rMove σ i j = (-1, σ) := by
      first | (simp only [rMove, if_pos hc8]; done) | grind [rMove]
    rw [hE]
    exact ⟨rfl, h, Fo.rf μ⟩
  ·
    refine v_aload_n 0 dX6_move_11 rfl rfl ?_
    refine v_get fl_X6_12 dX6_move_12 h0 rfl ?_
    refine v_iload_n 2 dX6_move_15 rfl rfl ?_
    refine v_callV (c_X0_has d h1) cs_X6_111 dX6_move_16 h1 rfl rfl (Nat.le_of_ble_eq_true rfl) ?_
    refine rt_k ?_
    refine v_if_ne (tgt := 24) dX6_move_19 (by decide) (fun hc19 => ?_) (fun hc19 => ?_)
    ·
      refine v_iload_n 1 dX6_move_24 rfl rfl ?_
      refine v_iload_n 2 dX6_move_25 rfl rfl ?_
      refine v_icmp_ne (tgt := 31) dX6_move_26 (by decide) (fun hc26 => ?_) (fun hc26 => ?_)
      ·
        obtain ⟨n, hn9, rfl⟩ := in_ix (by omega) hc8
        obtain ⟨b, hb9, rfl⟩ := in_ix (by omega) hc19
        refine v_aload_n 0 dX6_move_31 rfl rfl ?_
        refine v_get fl_X6_12 dX6_move_32 h0 rfl ?_
        refine v_get fl_X6_118 dX6_move_35 h1 rfl ?_
        refine v_iload_n 1 dX6_move_38 rfl rfl ?_
        refine v_iald dX6_move_39 h3 (nI_in' (by omega)) ?_
        refine v_istore_n dX6_move_40 rfl (by decide) (fun cc e_cc => ?_)
        refine v_ls (ls' := [(3, .int cc), (0, .ref 0), (1, .int (nI n)), (2, .int (nI b))]) rfl ?_
        have hcc : atP σ (nI n) = cc := by rw [e_cc, clamp (by omega)]; exact at_nI hpl hn9 hl8
        refine v_aload_n 1 dX6_move_41 rfl rfl ?_
        refine v_get fl_X6_12 dX6_move_42 h0 rfl ?_
        refine v_iload_n 2 dX6_move_45 rfl rfl ?_
        refine v_callV (c_X0_takeOut d h1 h3 hpl hl8 hn9) cs_X6_132 dX6_move_46 h1 rfl rfl (Nat.le_of_ble_eq_true rfl) ?_
        rintro _ _ ⟨rfl, q, rfl, hq⟩
        have hc1 : Cl (toP σ ((sP σ).eraseIdx n)) (up (up μ 3 (arI 8 q)) 1 (benC 2 3 (nI ((sP σ).length - 1)) 4 5 9)) := by
          have := h.pile hq
          rw [List.length_eraseIdx_of_lt hn9] at this
          exact this
        refine v_aload_n 1 dX6_move_49 rfl rfl ?_
        refine v_get fl_X6_12 dX6_move_50 (up_n (by decide) (up_n (by decide) h0)) rfl ?_
        refine v_iload_n 3 dX6_move_53 rfl rfl ?_
        refine v_iload_n 0 dX6_move_54 rfl rfl ?_
        refine v_callV (c_X0_putIn d (l := (sP σ).eraseIdx n) (i := b) (c := cc) (by rw [List.length_eraseIdx_of_lt hn9]; exact (up_s _ _ _)) (up_n (by decide) (up_s _ _ _)) hq (by rw [List.length_eraseIdx_of_lt hn9]; omega) (by rw [List.length_eraseIdx_of_lt hn9]; omega)) cs_X6_136 dX6_move_55 (up_s _ _ _) rfl rfl (Nat.le_of_ble_eq_true rfl) ?_
        rintro _ _ ⟨rfl, q2, rfl, hq2⟩
        refine v_iconst (v := 1) dX6_move_58 (by first | rfl | decide) ?_
        refine v_iret dX6_move_59 rfl (by first | rfl | decide | exact nar_b (by first | assumption | rfl)) ?_
        have hE : rMove σ (nI n) (nI b) = (1, toP σ (((sP σ).eraseIdx n).insertIdx b cc)) := by simp only [rMove, if_neg hc8, if_neg hc19, if_neg hc26, hcc, clamp (show n < 2 ^ 31 by omega), clamp (show b < 2 ^ 31 by omega)]
        rw [hE]
        refine ⟨rfl, ?_, fun i hi => by repeat (first | rfl | refine up_n (by omega) ?_)⟩
        have := hc1.pile hq2
        rw [List.length_insertIdx_of_le_length (by rw [List.length_eraseIdx_of_lt hn9]; omega)] at this
        exact this
      ·
        refine v_iconst (v := 0) dX6_move_29 (by first | rfl | decide) ?_
        refine v_iret dX6_move_30 rfl (by first | rfl | decide | exact nar_b (by first | assumption | rfl)) ?_
        have hE : rMove σ i j = (0, σ) := by
          first | (simp only [rMove, if_neg hc8, if_neg hc19, if_pos hc26]; done) | grind [rMove]
        rw [hE]
        exact ⟨rfl, h, Fo.rf μ⟩
    ·
      refine v_iconst (v := -1) dX6_move_22 (by first | rfl | decide) ?_
      refine v_iret dX6_move_23 rfl (by first | rfl | decide | exact nar_b (by first | assumption | rfl)) ?_
      have hE : rMove σ i j = (-1, σ) := by
        first | (simp only [rMove, if_neg hc8, if_pos hc19]; done) | grind [rMove]
      rw [hE]
      exact ⟨rfl, h, Fo.rf μ⟩

set_option maxRecDepth 20000 in
set_option maxHeartbeats 4000000 in
theorem c_X6_cut {G : Cx} (d : Nat) {μ : Hp} {σ : ST} {i : Int32} (h : Cl σ μ) (hw : Wp (sP σ)) : Ct G (d + 1) 0 0 M_X6_cut [.ref 0, .int i] μ (Po ((rCut σ i).2) (.int ((rCut σ i).1)) μ) := by
  refine Ct.ofV (by decide +kernel) (Nat.le_of_ble_eq_true rfl) ?_
  refine v_ls (ls' := [(0, .ref 0), (1, .int i)]) rfl ?_
  obtain ⟨h0, ⟨p, h1, h2, h3, h4, h5, h6, h7, h8, h9, hpl⟩, ⟨bk, hbk, pk, k11, k12, k13, k14, k15, k16, k17, k18, k19, hpk⟩, ⟨h20, h21, h22, h23, h24⟩, ⟨tt, ops, cd, kk, pp, ff, h25, h26, h27, h28, htp, ht60⟩, ⟨h29, h30, h31⟩, ⟨⟨oc, hoc⟩, h37, h38, h39⟩, hsx, ⟨B0, B1, B2, h50, h51, h52⟩⟩ := id h
  have hl8 := hw.1
  refine v_aload_n 0 dX6_cut_0 rfl rfl ?_
  refine v_get fl_X6_12 dX6_cut_1 h0 rfl ?_
  refine v_iload_n 1 dX6_cut_4 rfl rfl ?_
  refine v_callV (c_X0_has d h1) cs_X6_111 dX6_cut_5 h1 rfl rfl (Nat.le_of_ble_eq_true rfl) ?_
  refine rt_k ?_
  refine v_if_ne (tgt := 13) dX6_cut_8 (by decide) (fun hc8 => ?_) (fun hc8 => ?_)
  ·
    obtain ⟨n, hn9, rfl⟩ := in_ix (by omega) hc8
    refine v_aload_n 0 dX6_cut_13 rfl rfl ?_
    refine v_get fl_X6_12 dX6_cut_14 h0 rfl ?_
    refine v_iload_n 1 dX6_cut_17 rfl rfl ?_
    refine v_callV (c_X0_takeOut d h1 h3 hpl hl8 hn9) cs_X6_132 dX6_cut_18 h1 rfl rfl (Nat.le_of_ble_eq_true rfl) ?_
    rintro _ _ ⟨rfl, q, rfl, hq⟩
    have hc1 : Cl (toP σ ((sP σ).eraseIdx n)) (up (up μ 3 (arI 8 q)) 1 (benC 2 3 (nI ((sP σ).length - 1)) 4 5 9)) := by
      have := h.pile hq
      rw [List.length_eraseIdx_of_lt hn9] at this
      exact this
    refine v_aload_n 0 dX6_cut_21 rfl rfl ?_
    refine v_get fl_X6_12 dX6_cut_22 (up_n (by decide) (up_n (by decide) h0)) rfl ?_
    refine v_get fl_X6_140 dX6_cut_25 (up_s _ _ _) rfl ?_
    refine v_iret dX6_cut_28 rfl (by first | rfl | decide | exact nar_b (by first | assumption | rfl)) ?_
    have hE : rCut σ (nI n) = (nI ((sP σ).length - 1), toP σ ((sP σ).eraseIdx n)) := by simp only [rCut, if_neg hc8, clamp (show n < 2 ^ 31 by omega)]
    rw [hE]
    exact ⟨rfl, hc1, fun i hi => by repeat (first | rfl | refine up_n (by omega) ?_)⟩
  ·
    refine v_iconst (v := -1) dX6_cut_11 (by first | rfl | decide) ?_
    refine v_iret dX6_cut_12 rfl (by first | rfl | decide | exact nar_b (by first | assumption | rfl)) ?_
    have hE : rCut σ i = (-1, σ) := by
      first | (simp only [rCut, if_pos hc8]; done) | grind [rCut]
    rw [hE]
    exact ⟨rfl, h, Fo.rf μ⟩

set_option maxRecDepth 20000 in
set_option maxHeartbeats 4000000 in
theorem c_X6_clear {G : Cx} (d : Nat) {μ : Hp} {σ : ST}  (h : Cl σ μ) (hw : Wp (sP σ)) : Ct G (d) 0 0 M_X6_clear [.ref 0] μ (Po ((rClear σ).2) (.int ((rClear σ).1)) μ) := by
  refine Ct.ofV (by decide +kernel) (Nat.le_of_ble_eq_true rfl) ?_
  refine v_ls (ls' := [(0, .ref 0)]) rfl ?_
  obtain ⟨h0, ⟨p, h1, h2, h3, h4, h5, h6, h7, h8, h9, hpl⟩, ⟨bk, hbk, pk, k11, k12, k13, k14, k15, k16, k17, k18, k19, hpk⟩, ⟨h20, h21, h22, h23, h24⟩, ⟨tt, ops, cd, kk, pp, ff, h25, h26, h27, h28, htp, ht60⟩, ⟨h29, h30, h31⟩, ⟨⟨oc, hoc⟩, h37, h38, h39⟩, hsx, ⟨B0, B1, B2, h50, h51, h52⟩⟩ := id h
  have hl8 := hw.1
  refine v_aload_n 0 dX6_clear_0 rfl rfl ?_
  refine v_get fl_X6_12 dX6_clear_1 h0 rfl ?_
  refine v_get fl_X6_140 dX6_clear_4 h1 rfl ?_
  refine v_istore_n dX6_clear_7 rfl (by decide) (fun x1_1 e_x1_1 => ?_)
  refine v_ls (ls' := [(1, .int x1_1), (0, .ref 0)]) rfl ?_
  subst e_x1_1
  refine v_aload_n 1 dX6_clear_8 rfl rfl ?_
  refine v_get fl_X6_12 dX6_clear_9 h0 rfl ?_
  refine v_iconst (v := 0) dX6_clear_12 (by first | rfl | decide) ?_
  refine v_put fp_X6_140 dX6_clear_13 h1 (Nat.le_of_ble_eq_true rfl) (by first | rfl | decide) (by first | rfl | decide) ?_
  refine v_iload_n 0 dX6_clear_16 rfl rfl ?_
  refine v_iret dX6_clear_17 rfl (by first | rfl | decide | exact nar_b (by first | assumption | rfl)) ?_
  exact ⟨rfl, h.clear, fun i hi => by repeat (first | rfl | refine up_n (by omega) ?_)⟩

def undN : Nat → Int32 → Int32 → Int32
  | 0, _, _ => 0
  | m + 1, a, h => if inO a 7 = 0 then 0 else if a = h then 1 else undN m (kaT a.toNatClampNeg) h
theorem undN_ok : ∀ k, k < 7 → ∀ h, h < 7 → undN 7 (nI k) (nI h) = undO (nI k) (nI h) := by decide +kernel
set_option maxRecDepth 20000 in
set_option maxHeartbeats 4000000 in
theorem under_loop {G : Cx} (d : Nat) {μ : Hp} {i hh : Int32} : ∀ (m : Nat) (j : Nat) (a : Int32), j + m = 7 → V G M_X6_isUnder (d + 1) 0 0 (Rt (some (.int (undN m a hh))) μ) 36 [(4, .int (nI j)), (3, .int a), (0, .ref 0), (1, .int i), (2, .int hh)] [] (μ) := by
  intro m
  induction m with
  | zero =>
    intro j a hj
    refine v_iload 0 dX6_isUnder_36 rfl ?_
    refine v_bipush (v := 7) dX6_isUnder_38 (by first | rfl | decide) ?_
    refine v_icmp_ge (tgt := 69) dX6_isUnder_40 (by decide) (fun hc40 => ?_) (fun hc40 => ?_)
    ·
      refine v_iconst (v := 0) dX6_isUnder_69 (by first | rfl | decide) ?_
      refine v_iret dX6_isUnder_70 rfl (by first | rfl | decide | exact nar_b (by first | assumption | rfl)) ?_
      exact ⟨rfl, rfl⟩
    · exact absurd ((nI_leI (a := 7) (by decide) (by omega)).mpr (by omega)) hc40
  | succ m ih =>
    intro j a hj
    refine v_iload 0 dX6_isUnder_36 rfl ?_
    refine v_bipush (v := 7) dX6_isUnder_38 (by first | rfl | decide) ?_
    refine v_icmp_ge (tgt := 69) dX6_isUnder_40 (by decide) (fun hc40 => ?_) (fun hc40 => ?_)
    · have := (nI_leI (a := 7) (by decide) (by omega)).mp hc40
      omega
    ·
      refine v_iload_n 1 dX6_isUnder_43 rfl rfl ?_
      refine v_callS (c_X6_isKind d ) cs_X6_93 dX6_isUnder_44 rfl rfl (Nat.le_of_ble_eq_true rfl) ?_
      refine rt_k ?_
      refine v_if_eq (tgt := 69) dX6_isUnder_47 (by decide) (fun hc47 => ?_) (fun hc47 => ?_)
      ·
        refine v_iconst (v := 0) dX6_isUnder_69 (by first | rfl | decide) ?_
        refine v_iret dX6_isUnder_70 rfl (by first | rfl | decide | exact nar_b (by first | assumption | rfl)) ?_
        exact ⟨by simp only [undN, if_neg hc40, if_pos (Int32.not_le.mp hc40), if_pos hc47], rfl⟩
      ·
        refine v_iload_n 1 dX6_isUnder_50 rfl rfl ?_
        refine v_iload_n 4 dX6_isUnder_51 rfl rfl ?_
        refine v_icmp_ne (tgt := 57) dX6_isUnder_52 (by decide) (fun hc52 => ?_) (fun hc52 => ?_)
        ·
          refine v_gets (ro_aboveZ G) flo_X6_165 dX6_isUnder_57 (okv_ro (by decide)) ?_
          refine v_iload_n 1 dX6_isUnder_60 rfl rfl ?_
          refine v_roi (ro_above G) dX6_isUnder_61 (by obtain ⟨x9, hx9, hx8⟩ := in_ix (n := 7) (by decide) hc47; rw [hx8]; exact nI_in' hx9) (by decide) ?_
          refine v_istore_n dX6_isUnder_62 rfl (by decide) (fun y e_y => ?_)
          refine v_ls (ls' := [(3, .int y), (4, .int (nI j)), (0, .ref 0), (1, .int i), (2, .int hh)]) rfl ?_
          refine v_iinc (v := 1) 1 dX6_isUnder_63 rfl rfl (by decide) (fun z e_z => ?_)
          refine v_ls (ls' := [(4, .int z), (3, .int y), (0, .ref 0), (1, .int i), (2, .int hh)]) rfl ?_
          rw [nI_1] at e_z
          subst e_z
          refine v_goto (tgt := 36) dX6_isUnder_66 (by decide) ?_
          have hU : undN (m + 1) a hh = undN m y hh := by rw [e_y]; simp only [undN, if_neg hc47, if_neg hc52]
          rw [hU]
          exact ih (j + 1) y (by omega)
          
        ·
          refine v_iconst (v := 1) dX6_isUnder_55 (by first | rfl | decide) ?_
          refine v_iret dX6_isUnder_56 rfl (by first | rfl | decide | exact nar_b (by first | assumption | rfl)) ?_
          exact ⟨by simp only [undN, if_neg hc40, if_pos (Int32.not_le.mp hc40), if_neg hc47, if_pos hc52], rfl⟩

set_option maxRecDepth 20000 in
set_option maxHeartbeats 4000000 in
theorem c_X6_isUnder {G : Cx} (d : Nat) {μ : Hp} {σ : ST} {i : Int32} {hh : Int32} (h : Cl σ μ) (hw : Wp (sP σ)) : Ct G (d + 1) 0 0 M_X6_isUnder [.ref 0, .int i, .int hh] μ (Rt (some (.int (rUnder σ i hh))) μ) := by
  refine Ct.ofV (by decide +kernel) (Nat.le_of_ble_eq_true rfl) ?_
  refine v_ls (ls' := [(0, .ref 0), (1, .int i), (2, .int hh)]) rfl ?_
  obtain ⟨h0, ⟨p, h1, h2, h3, h4, h5, h6, h7, h8, h9, hpl⟩, ⟨bk, hbk, pk, k11, k12, k13, k14, k15, k16, k17, k18, k19, hpk⟩, ⟨h20, h21, h22, h23, h24⟩, ⟨tt, ops, cd, kk, pp, ff, h25, h26, h27, h28, htp, ht60⟩, ⟨h29, h30, h31⟩, ⟨⟨oc, hoc⟩, h37, h38, h39⟩, hsx, ⟨B0, B1, B2, h50, h51, h52⟩⟩ := id h
  have hl8 := hw.1
  refine v_aload_n 0 dX6_isUnder_0 rfl rfl ?_
  refine v_get fl_X6_12 dX6_isUnder_1 h0 rfl ?_
  refine v_iload_n 1 dX6_isUnder_4 rfl rfl ?_
  refine v_callV (c_X0_has d h1) cs_X6_111 dX6_isUnder_5 h1 rfl rfl (Nat.le_of_ble_eq_true rfl) ?_
  refine rt_k ?_
  refine v_if_eq (tgt := 18) dX6_isUnder_8 (by decide) (fun hc8 => ?_) (fun hc8 => ?_)
  ·
    refine v_iconst (v := -1) dX6_isUnder_18 (by first | rfl | decide) ?_
    refine v_iret dX6_isUnder_19 rfl (by first | rfl | decide | exact nar_b (by first | assumption | rfl)) ?_
    exact ⟨by simp only [rUnder, if_pos hc8], rfl⟩
  ·
    refine v_iload_n 2 dX6_isUnder_11 rfl rfl ?_
    refine v_callS (c_X6_isKind d ) cs_X6_93 dX6_isUnder_12 rfl rfl (Nat.le_of_ble_eq_true rfl) ?_
    refine rt_k ?_
    refine v_if_ne (tgt := 20) dX6_isUnder_15 (by decide) (fun hc15 => ?_) (fun hc15 => ?_)
    ·
      obtain ⟨n, hn9, rfl⟩ := in_ix (by omega) hc8
      refine v_aload_n 0 dX6_isUnder_20 rfl rfl ?_
      refine v_get fl_X6_12 dX6_isUnder_21 h0 rfl ?_
      refine v_get fl_X6_118 dX6_isUnder_24 h1 rfl ?_
      refine v_iload_n 1 dX6_isUnder_27 rfl rfl ?_
      refine v_iald dX6_isUnder_28 h3 (nI_in' (by omega)) ?_
      refine v_callS (c_X6_kindOf d ) cs_X6_144 dX6_isUnder_29 rfl rfl (Nat.le_of_ble_eq_true rfl) ?_
      refine rt_k ?_
      refine v_istore_n dX6_isUnder_32 rfl (by decide) (fun a9 e_a9 => ?_)
      refine v_ls (ls' := [(3, .int a9), (0, .ref 0), (1, .int (nI n)), (2, .int hh)]) rfl ?_
      refine v_iconst (v := 0) dX6_isUnder_33 (by first | rfl | decide) ?_
      refine v_istore dX6_isUnder_34 (by decide) (fun x4 e_x4 => ?_)
      refine v_ls (ls' := [(4, .int x4), (3, .int a9), (0, .ref 0), (1, .int (nI n)), (2, .int hh)]) rfl ?_
      subst e_x4
      obtain ⟨k9, hk9, rfl⟩ := in_ix (n := 7) (by decide) hc15
      have hvc : Vc (p n) := by rw [← getD_at hpl hn9]; exact hw.at hn9
      obtain ⟨k8, hk8, he8⟩ := hvc.kd
      have ha : a9 = nI k8 := by rw [e_a9, clamp (by omega)]; exact he8
      have hU : rUnder σ (nI n) (nI k9) = undN 7 a9 (nI k9) := by
        rw [ha, undN_ok k8 hk8 k9 hk9]
        simp only [rUnder, if_neg hc8, if_neg hc15, at_nI hpl hn9 hl8, he8]
      rw [hU]
      refine v_pick [0, 1, 2, 3, 4] rfl ?_
      exact under_loop d 7 0 a9 (by omega)
      
    ·
      refine v_iconst (v := -1) dX6_isUnder_18 (by first | rfl | decide) ?_
      refine v_iret dX6_isUnder_19 rfl (by first | rfl | decide | exact nar_b (by first | assumption | rfl)) ?_
      exact ⟨by simp only [rUnder, if_neg hc8, if_pos hc15], rfl⟩

