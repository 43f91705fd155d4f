theorem fp_in (x : Int32) : inO x 2 = fpO x := by
  have h1 : ¬ x < 0 → ¬ 2 ≤ x → x = 0 ∨ x = 1 := by grind
  unfold fpO
  by_cases h0 : x = 0
  · rw [h0]; decide
  · by_cases h2 : x = 1
    · rw [h2]; decide
    · rw [if_neg h0, if_neg h2]
      unfold inO
      by_cases a : x < 0
      · rw [if_pos a]
      · by_cases b : 2 ≤ x
        · rw [if_neg a, if_pos b]
        · exact ((h1 a b).elim h0 h2).elim
set_option maxRecDepth 20000 in
set_option maxHeartbeats 4000000 in
theorem c_X7_isPart {G : Cx} (d : Nat) {μ : Hp} {x : Int32}  : Ct G (d + 1) 0 0 M_X7_isPart [.int x] μ (Rt (some (.int (fpO x))) μ) := by
  refine Ct.ofV (by decide +kernel) (Nat.le_of_ble_eq_true rfl) ?_
  refine v_ls (ls' := [(0, .int x)]) rfl ?_
  refine v_iload_n 0 dX7_isPart_0 rfl rfl ?_
  refine v_i2l dX7_isPart_1 ?_
  refine v_lconst (v := 0) dX7_isPart_2 (by first | rfl | decide) ?_
  refine v_lconst (v := 1) dX7_isPart_3 (by first | rfl | decide) ?_
  refine v_callS (c_X7_inL d 1 2 1 (by decide) rfl rfl) cs_X7_95 dX7_isPart_4 rfl rfl (Nat.le_of_ble_eq_true rfl) ?_
  refine rt_k ?_
  refine v_iret dX7_isPart_7 rfl (by simp only [inO]; split <;> (try split) <;> decide) ?_
  exact ⟨by rw [fp_in], rfl⟩

set_option maxRecDepth 20000 in
set_option maxHeartbeats 4000000 in
theorem c_X7_lowest {G : Cx} (d : Nat) {μ : Hp} {a b : Int64} {w : Int32} {M : Nat} (ha : -(M : Int) ≤ a.toInt ∧ a.toInt ≤ M) (hb : -(M : Int) ≤ b.toInt ∧ b.toInt ≤ M) (hM : M < 2 ^ 63) (hb0 : ¬ b = 0) : Ct G (d + 1) 0 0 M_X7_lowest [.long a, .long b, .int w] μ (Rt (some (.long (fraO a b w))) μ) := by
  refine Ct.ofV (by decide +kernel) (Nat.le_of_ble_eq_true rfl) ?_
  refine v_ls (ls' := [(0, .long a), (2, .long b), (4, .int w)]) rfl ?_
  have hgf := gcdO_facts ha hb hM
  obtain ⟨g9, hg9⟩ : ∃ g, gcdO a b = g := ⟨_, rfl⟩
  rw [hg9] at hgf
  have hpos := hgf.2.2.2.2 (Or.inr hb0)
  have hnz : ¬ g9 = 0 := fun z => by rw [z] at hpos; exact absurd hpos (by decide)
  have hn1 : ¬ g9 < 1 := fun z => by
    rw [Int64.lt_iff_toInt_lt] at z
    rw [show (1 : Int64).toInt = 1 from rfl] at z
    omega
  have hfr : fraO a b w = if w = 0 then a / g9 else b / g9 := by
    unfold fraO
    rw [hg9, if_neg hn1]
  refine v_lload_n 0 dX7_lowest_0 rfl rfl ?_
  refine v_lload_n 1 dX7_lowest_1 rfl rfl ?_
  refine v_callS (c_X7_common d (fin_abs (by omega) (by omega))) cs_X7_198 dX7_lowest_2 rfl rfl (Nat.le_of_ble_eq_true rfl) ?_
  refine rt_k ?_
  rw [hg9]
  refine v_lstore dX7_lowest_5 (by decide) (fun x5 e_x5 => ?_)
  refine v_ls (ls' := [(5, .long x5), (0, .long a), (2, .long b), (4, .int w)]) rfl ?_
  subst e_x5
  refine v_iload 3 dX7_lowest_7 rfl ?_
  refine v_if_ne (tgt := 19) dX7_lowest_9 (by decide) (fun hc9 => ?_) (fun hc9 => ?_)
  ·
    refine v_lload_n 2 dX7_lowest_19 rfl rfl ?_
    refine v_lload 0 dX7_lowest_20 rfl ?_
    refine v_ldiv dX7_lowest_22 (hnz) ?_
    refine v_lret dX7_lowest_23 rfl ?_
    exact ⟨by rw [hfr, if_neg hc9], rfl⟩
  ·
    refine v_lload_n 1 dX7_lowest_12 rfl rfl ?_
    refine v_lload 0 dX7_lowest_13 rfl ?_
    refine v_ldiv dX7_lowest_15 (hnz) ?_
    refine v_goto (tgt := 23) dX7_lowest_16 (by decide) ?_
    refine v_lret dX7_lowest_23 rfl ?_
    exact ⟨by rw [hfr, if_pos hc9], rfl⟩

theorem pw_le {k n : Nat} (h : k ≤ n) : (2 : Int) ^ k ≤ 2 ^ n := by
  have h1 := Int.ofNat_le.mpr (Nat.pow_le_pow_right (n := 2) (by decide) h)
  rw [Int.natCast_pow, Int.natCast_pow] at h1
  exact h1
theorem shl_mul (x : Int64) (e : Int32) : shlO 1 e * x = shlO x e := by
  apply Int64.toBitVec_inj.mp
  show ((1 : Int64).toBitVec <<< ((e.toInt64 &&& 63).toBitVec.smod 64)) * x.toBitVec = x.toBitVec <<< ((e.toInt64 &&& 63).toBitVec.smod 64)
  rw [BitVec.shiftLeft_eq', BitVec.shiftLeft_eq', BitVec.shiftLeft_eq_mul_twoPow, BitVec.shiftLeft_eq_mul_twoPow, show (1 : Int64).toBitVec = 1#64 from rfl, BitVec.one_mul, BitVec.mul_comm]
theorem shl_int {x : Int64} {e : Int32} {n : Nat} (hx : 0 ≤ x.toInt) (he : 0 ≤ e.toInt ∧ e.toInt ≤ n) (hn : n < 63) (hb : x.toInt * 2 ^ n < 2 ^ 63) : (shlO x e).toInt = x.toInt * 2 ^ e.toInt.toNat := by
  obtain ⟨k, hk, rfl⟩ : ∃ k, k ≤ n ∧ e = nI k := ⟨e.toInt.toNat, by omega, by apply Int32.toInt_inj.mp; rw [nI_toInt (by omega)]; omega⟩
  have hs : (((nI k).toInt64 &&& 63).toBitVec.smod 64).toNat = k := by
    have : ∀ k, k < 63 → (((nI k).toInt64 &&& 63).toBitVec.smod 64).toNat = k := by decide +kernel
    exact this k (by omega)
  rw [nI_toInt (by omega), Int.toNat_natCast]
  have hp : (2 : Int) ^ k ≤ 2 ^ n := pw_le hk
  have hm := Int.mul_le_mul_of_nonneg_left hp hx
  have hnn : 0 ≤ x.toInt * 2 ^ k := Int.mul_nonneg hx (by have := Int.pow_pos (n := 2) (m := k) (by decide); omega)
  show (x.toBitVec <<< (((nI k).toInt64 &&& 63).toBitVec.smod 64)).toInt = _
  rw [BitVec.shiftLeft_eq', hs, BitVec.toInt_shiftLeft]
  have hxn : x.toInt = (x.toBitVec.toNat : Int) := by
    show x.toBitVec.toInt = _
    rw [BitVec.toInt_eq_toNat_cond]
    have hx2 : 0 ≤ x.toBitVec.toInt := hx
    rw [BitVec.toInt_eq_toNat_cond] at hx2
    split
    · rfl
    · rename_i q
      rw [if_neg q] at hx2
      have := x.toBitVec.isLt
      omega
  rw [Nat.shiftLeft_eq, Int.natCast_mul, ← hxn, Int.natCast_pow]
  exact Int.bmod_eq_of_le (by simp; omega) (by simp; omega)
theorem e_rt (e : Int32) : e.toInt64.toInt32 = e := Int32.toInt32_toInt64 e
set_option maxRecDepth 20000 in
set_option maxHeartbeats 4000000 in
theorem c_X7_leftNow {G : Cx} (d : Nat) {μ : Hp} {L B : LT} {w : Int32} {m un lr mr hr le at9 fa op tr sg hm hi : Int32} {co wh : Int64} (h60 : μ 60 = some (modC m co wh un lr mr hr le at9 fa op tr sg hm hi)) (h61 : μ 61 = some (mlg L)) (h63 : μ 63 = some (mlg B)) (hL1 : 0 ≤ L.1.toInt) (hL2 : L.1.toInt ≤ 1000) (hL0 : ¬ L.1 = 0) (hB : Ph 1125899906842624 40 B) : Ct G (d + 2) 0 0 M_X7_leftNow [.ref 60, .int w] μ (Rt (some (.long (fraO B.1 (shlO L.1 B.2.2.2.2) w))) μ) := by
  refine Ct.ofV (by decide +kernel) (Nat.le_of_ble_eq_true rfl) ?_
  refine v_ls (ls' := [(0, .ref 60), (1, .int w)]) rfl ?_
  refine v_aload_n 0 dX7_leftNow_0 rfl rfl ?_
  refine v_get fl_X7_21 dX7_leftNow_1 h60 rfl ?_
  refine v_iconst (v := 0) dX7_leftNow_4 (by first | rfl | decide) ?_
  refine v_lald dX7_leftNow_5 h63 (nI_in' (k := 0) (by decide)) ?_
  refine v_lconst (v := 1) dX7_leftNow_6 (by first | rfl | decide) ?_
  refine v_aload_n 0 dX7_leftNow_7 rfl rfl ?_
  refine v_get fl_X7_21 dX7_leftNow_8 h60 rfl ?_
  refine v_iconst (v := 4) dX7_leftNow_11 (by first | rfl | decide) ?_
  refine v_lald dX7_leftNow_12 h63 (nI_in' (k := 4) (by decide)) ?_
  refine v_l2i dX7_leftNow_13 ?_
  refine v_lshl dX7_leftNow_14 ?_
  refine v_aload_n 0 dX7_leftNow_15 rfl rfl ?_
  refine v_get fl_X7_11 dX7_leftNow_16 h60 rfl ?_
  refine v_iconst (v := 0) dX7_leftNow_19 (by first | rfl | decide) ?_
  refine v_lald dX7_leftNow_20 h61 (nI_in' (k := 0) (by decide)) ?_
  refine v_lmul dX7_leftNow_21 ?_
  refine v_iload_n 1 dX7_leftNow_22 rfl rfl ?_
  have hsh : (1 : Int64) <<< ((lvO B (Int32.toNatClampNeg 4)).toInt32.toInt64 &&& 63) * lvO L (Int32.toNatClampNeg 0) = shlO L.1 B.2.2.2.2 := by
    show (1 : Int64) <<< ((B.2.2.2.2.toInt64).toInt32.toInt64 &&& 63) * L.1 = _
    rw [e_rt]
    exact shl_mul L.1 B.2.2.2.2
  rw [hsh]
  have hsi := shl_int (x := L.1) (e := B.2.2.2.2) (n := 40) hL1 hB.2.2.2 (by decide) (by omega)
  have hp1 : (2 : Int) ^ B.2.2.2.2.toInt.toNat ≤ 2 ^ 40 := pw_le (by have := hB.2.2.2.2; omega)
  have hp0 : 0 < (2 : Int) ^ B.2.2.2.2.toInt.toNat := Int.pow_pos (by decide)
  have hL3 : 0 < L.1.toInt := by
    have : ¬ L.1.toInt = 0 := fun z => hL0 (Int64.toInt_inj.mp z)
    omega
  have hm1 : L.1.toInt * 2 ^ B.2.2.2.2.toInt.toNat ≤ 1000 * 2 ^ 40 := Int.mul_le_mul hL2 hp1 (by omega) (by decide)
  have hm0 : 0 < L.1.toInt * 2 ^ B.2.2.2.2.toInt.toNat := Int.mul_pos hL3 hp0
  have hlA : -((2305843009213693952 : Nat) : Int) ≤ B.1.toInt ∧ B.1.toInt ≤ (2305843009213693952 : Nat) := by have := hB.1; have := hB.2.1; omega
  have hlB : -((2305843009213693952 : Nat) : Int) ≤ (shlO L.1 B.2.2.2.2).toInt ∧ (shlO L.1 B.2.2.2.2).toInt ≤ (2305843009213693952 : Nat) := by rw [hsi]; omega
  have hlC : ¬ shlO L.1 B.2.2.2.2 = 0 := fun z => by
    rw [z] at hsi
    rw [show (0 : Int64).toInt = 0 from rfl] at hsi
    omega
  refine v_callS (c_X7_lowest d (a := B.1) (M := 2305843009213693952) hlA hlB (by decide) hlC) cs_X7_202 dX7_leftNow_23 rfl rfl (Nat.le_of_ble_eq_true rfl) ?_
  refine rt_k ?_
  refine v_lret dX7_leftNow_26 rfl ?_
  exact ⟨rfl, rfl⟩

set_option maxRecDepth 20000 in
set_option maxHeartbeats 4000000 in
theorem c_X7_left {G : Cx} (d : Nat) {μ : Hp} {σ : ST} {k : Int32} {w : Int32} (h : Mo σ μ) (hw : Wp (sP σ)) (heb : Eb 100 (sM σ)) (hph : Ph 1000 0 (sM σ)) : Ct G (d + 5) 0 0 M_X7_left [.ref 60, .int k, .int w] μ (Pm (σ) (.long (rLeft σ k w)) μ) := by
  refine Ct.ofV (by decide +kernel) (Nat.le_of_ble_eq_true rfl) ?_
  refine v_ls (ls' := [(0, .ref 60), (1, .int k), (2, .int w)]) rfl ?_
  obtain ⟨co, wh, un, lr, mr, hr, at9, fa, op, sg, hm, p, tt, ro, og, tc, op9, sp, nw, se, le, mo, ot, h60, h61, h62, h63, h64, h65, h66, h67, h68, h69, h70, h71, h72, h73, h74, h75, h76, h77, h78, h79, h80, hmk, hpl, htp, ht60⟩ := id h
  have hl8 := hw.1
  refine v_aload_n 0 dX7_left_0 rfl rfl ?_
  refine v_iload_n 1 dX7_left_1 rfl rfl ?_
  refine v_callV (c_X7_isBeh (d + 3) h60 (by omega)) cs_X7_188 dX7_left_2 h60 rfl rfl (Nat.le_of_ble_eq_true rfl) ?_
  refine rt_k ?_
  refine v_if_eq (tgt := 26) dX7_left_5 (by decide) (fun hc5 => ?_) (fun hc5 => ?_)
  ·
    refine v_ldc2 kc_X7_193 dX7_left_26 ?_
    refine v_lret dX7_left_29 rfl ?_
    have hE : rLeft σ k w = VD := by
      first
        | (simp only [rLeft, if_pos hc5]; done)
        | (simp only [rLeft, if_neg hc5, if_pos hc12]; done)
        | (simp only [rLeft, lefO, if_neg hc5, if_neg hc12, if_pos (show (sM σ).1 = 0 from hc22)]; done)
    rw [hE]
    exact ⟨rfl, h, Fp.rf μ⟩
  ·
    refine v_iload_n 2 dX7_left_8 rfl rfl ?_
    refine v_callS (c_X7_isPart (d + 3) ) cs_X7_206 dX7_left_9 rfl rfl (Nat.le_of_ble_eq_true rfl) ?_
    refine rt_k ?_
    refine v_if_eq (tgt := 26) dX7_left_12 (by decide) (fun hc12 => ?_) (fun hc12 => ?_)
    ·
      refine v_ldc2 kc_X7_193 dX7_left_26 ?_
      refine v_lret dX7_left_29 rfl ?_
      have hE : rLeft σ k w = VD := by
        first
          | (simp only [rLeft, if_pos hc5]; done)
          | (simp only [rLeft, if_neg hc5, if_pos hc12]; done)
          | (simp only [rLeft, lefO, if_neg hc5, if_neg hc12, if_pos (show (sM σ).1 = 0 from hc22)]; done)
      rw [hE]
      exact ⟨rfl, h, Fp.rf μ⟩
    ·
      refine v_aload_n 0 dX7_left_15 rfl rfl ?_
      refine v_get fl_X7_11 dX7_left_16 h60 rfl ?_
      refine v_iconst (v := 0) dX7_left_19 (by first | rfl | decide) ?_
      refine v_lald dX7_left_20 h61 (nI_in' (k := 0) (by decide)) ?_
      refine v_lconst (v := 0) dX7_left_21 (by first | rfl | decide) ?_
      refine v_lc_ne (tgt := 30) dX7_left_22 dX7_left_23 (by decide) (fun hc22 => ?_) (fun hc22 => ?_)
      ·
        obtain ⟨b, hb9, rfl⟩ := be_ix (by omega) hc5
        have hcb : (nI b).toNatClampNeg = b := clamp (by omega)
        have hB9 : Ph 1125899906842624 40 (behO σ b) := run8_ph hph (fun c hc => hw.2 c (List.mem_of_mem_take hc)) (by rw [List.length_take]; omega)
        refine v_aload_n 0 dX7_left_30 rfl rfl ?_
        refine v_iload_n 1 dX7_left_31 rfl rfl ?_
        refine v_callV (c_X7_behind d h60 h62 hpl hl8 hw.2 (by omega) h61 h63 heb) cs_X7_195 dX7_left_32 h60 rfl rfl (Nat.le_of_ble_eq_true rfl) ?_
        refine rt_k ?_
        refine v_aload_n 0 dX7_left_35 rfl rfl ?_
        refine v_iload_n 2 dX7_left_36 rfl rfl ?_
        refine v_callV (c_X7_leftNow (d + 2) (L := sM σ) (up_n (by decide) h60) (up_n (by decide) h61) (up_s _ _ _) hph.1 hph.2.1 hc22 hB9) cs_X7_209 dX7_left_37 (up_n (by decide) h60) rfl rfl (Nat.le_of_ble_eq_true rfl) ?_
        refine rt_k ?_
        refine v_lret dX7_left_40 rfl ?_
        have hE : rLeft σ (nI b) w = fraO (behO σ b).1 (shlO (sM σ).1 (behO σ b).2.2.2.2) w := by simp only [rLeft, lefO, if_neg hc5, if_neg hc12, hcb, if_neg (show ¬ (sM σ).1 = 0 from hc22)]
        rw [hE]
        exact ⟨rfl, h.now _, fun i hi => by repeat (first | rfl | refine up_n (by omega) ?_)⟩
      ·
        refine v_ldc2 kc_X7_193 dX7_left_26 ?_
        refine v_lret dX7_left_29 rfl ?_
        have hE : rLeft σ k w = VD := by
          first
            | (simp only [rLeft, if_pos hc5]; done)
            | (simp only [rLeft, if_neg hc5, if_pos hc12]; done)
            | (simp only [rLeft, lefO, if_neg hc5, if_neg hc12, if_pos (show (sM σ).1 = 0 from hc22)]; done)
        rw [hE]
        exact ⟨rfl, h, Fp.rf μ⟩

