theorem B64.nrm {k : Nat} {x : UInt64} {c : Nat} {q : Int} (h1 : FP.Core.val64 x = .fin false c q) (h2 : iU c q ≤ k * 2 ^ 1250) (hk : k < 2 ^ 40) (h3 : 2 ^ 1051 ≤ iU c q) : 4503599627370496 ≤ c ∧ -202 ≤ q ∧ q ≤ 40 := by
  have b := bits64 h1
  have hlo : -202 ≤ q := by
    refine Int.not_lt.mp (fun z => ?_)
    have g1 : iU c q < 2 ^ 53 * 2 ^ (q + 1200).toNat := by
      rw [iU_q (by omega)]
      exact Nat.mul_lt_mul_of_pos_right b.2.2.1 (Nat.two_pow_pos _)
    rw [two_m] at g1
    have g2 := Nat.lt_of_le_of_lt h3 g1
    have := (Nat.pow_lt_pow_iff_right (a := 2) (by decide)).mp g2
    omega
  have hc : 4503599627370496 ≤ c := by
    rcases b.2.2.2.2.2 with z | z
    · omega
    · exact z
  refine ⟨hc, hlo, Int.not_lt.mp (fun z => ?_)⟩
  have g1 : 2 ^ 52 * 2 ^ (q + 1200).toNat ≤ iU c q := by
    rw [iU_q (by omega)]
    exact Nat.mul_le_mul_right _ hc
  have g2 : k * 2 ^ 1250 < 2 ^ 40 * 2 ^ 1250 := Nat.mul_lt_mul_of_pos_right hk (Nat.two_pow_pos _)
  have g3 := Nat.lt_of_le_of_lt (Nat.le_trans g1 h2) g2
  rw [two_m, two_m] at g3
  have := (Nat.pow_lt_pow_iff_right (a := 2) (by decide)).mp g3
  omega
theorem db_fin {x : UInt64} {c : Nat} {q : Int} {P : Int32} {D : Int64} (h1 : FP.Core.val64 x = .fin false c q) (hc : 4503599627370496 ≤ c) (hq : -202 ≤ q) (hq2 : q ≤ 40) (hP : P.toInt = q + 52) (hD : D.toInt = ((c - 4503599627370496 : Nat) : Int)) : ((P + 1023).toInt64 <<< ((52 : Int32).toInt64 &&& 63)) + D = x.toInt64 := by
  have b := bits64 h1
  rw [if_neg (by omega)] at b
  have e0 : (1023 : Int32).toInt = 1023 := rfl
  have e1 : (P + 1023).toInt64.toInt = q + 1075 := by rw [Int32.toInt_toInt64, i32_add (by omega) (by omega)]; omega
  have e2 := shl_int (x := (P + 1023).toInt64) (e := 52) (n := 52) (by omega) (by decide) (by decide) (by rw [e1]; omega)
  rw [e1, show ((52 : Int32).toInt.toNat) = 52 from rfl] at e2
  have e3 := u64_int (x := x) (by omega)
  apply Int64.toInt_inj.mp
  show (shlO (P + 1023).toInt64 52 + D).toInt = _
  have e4 : (shlO (P + 1023).toInt64 52).toInt = (q + 1075) * 4503599627370496 := e2
  rw [i64_add (by omega) (by omega), e4, hD, e3]
  omega
theorem u64_0 {x : UInt64} {q : Int} (h1 : FP.Core.val64 x = .fin false 0 q) : x.toInt64 = 0 := by
  have b := (bits64 h1).1
  rw [if_pos (by decide)] at b
  have : x = 0 := UInt64.toNat_inj.mp b
  rw [this]
  rfl
set_option maxRecDepth 20000 in
set_option maxHeartbeats 4000000 in
theorem db_67 {G : Cx} (d : Nat) {μ : Hp} {x : UInt64} {c : Nat} {q : Int} (h1 : FP.Core.val64 x = .fin false c q) (hc : 4503599627370496 ≤ c) (hq1 : -202 ≤ q) (hq2 : q ≤ 40) {y : UInt64} {P : Int32} (hy : FP.Core.val64 y = .fin false c (-52)) (hP : P.toInt = q + 52) : V G M_X6_doubleBits d 0 0 (Rt (some (.long x.toInt64)) μ) 67 [(4, .int P), (2, .double y), (0, .double x)] [] μ := by
  obtain ⟨a, e, s1, s2⟩ := sub_1 hy hc
  have b := bits64 hy
  obtain ⟨a2, e2, s3, s4⟩ := mul_52 s1 (by omega) s2
  have s5 := d2l_n s3 (by omega) s4
  refine v_dload_n 1 dX6_doubleBits_67 rfl rfl ?_
  refine v_dconst1 dX6_doubleBits_68 ?_
  refine v_dsub dX6_doubleBits_69 (n64_fin s1) ?_
  refine v_ldc2d kc_X6_429 dX6_doubleBits_70 ?_
  refine v_dmul dX6_doubleBits_73 (n64_fin s3) ?_
  refine v_d2l dX6_doubleBits_74 ?_
  refine v_lstore dX6_doubleBits_75 (by decide) (fun dg e_dg => ?_)
  refine v_ls (ls' := [(5, .long dg), (4, .int P), (2, .double y), (0, .double x)]) rfl ?_
  refine v_iload 1 dX6_doubleBits_77 rfl ?_
  refine v_sipush (v := 1023) dX6_doubleBits_79 (by first | rfl | decide) ?_
  refine v_iadd dX6_doubleBits_82 ?_
  refine v_i2l dX6_doubleBits_83 ?_
  refine v_bipush (v := 52) dX6_doubleBits_84 (by first | rfl | decide) ?_
  refine v_lshl dX6_doubleBits_86 ?_
  refine v_lload 0 dX6_doubleBits_87 rfl ?_
  refine v_ladd dX6_doubleBits_89 ?_
  refine v_lret dX6_doubleBits_90 rfl ?_
  subst e_dg
  exact ⟨by rw [db_fin h1 hc hq1 hq2 hP s5], rfl⟩

set_option maxRecDepth 20000 in
set_option maxHeartbeats 4000000 in
theorem db_41 {G : Cx} (d : Nat) {μ : Hp} {x : UInt64} {c : Nat} {q : Int} (h1 : FP.Core.val64 x = .fin false c q) (hc : 4503599627370496 ≤ c) (hq1 : -202 ≤ q) (hq2 : q ≤ 40) : ∀ (k9 : Nat) (r : Int) (y : UInt64) (P : Int32), (-52 - r).toNat = k9 → r ≤ -52 → FP.Core.val64 y = .fin false c r → P.toInt = q - r → -202 ≤ r → V G M_X6_doubleBits (d + 0) 0 0 (Rt (some (.long x.toInt64)) μ) 41 [(4, .int P), (2, .double y), (0, .double x)] [] (μ) := by
  intro k9
  induction k9 with
  | zero =>
    intro r y P hm hr hy hP hr2
    refine v_dload_n 1 dX6_doubleBits_41 rfl rfl ?_
    refine v_dconst1 dX6_doubleBits_42 ?_
    refine v_dcmp dX6_doubleBits_43 ?_
    refine v_if_ge (tgt := 67) dX6_doubleBits_44 (by decide) (fun hc44 => ?_) (fun hc44 => ?_)
    ·
      obtain rfl : r = -52 := by omega
      exact db_67 d h1 hc hq1 hq2 hy (by omega)
    · exact absurd ((cmp_1 hy hc).mpr (by omega)) hc44
  | succ k9 ih =>
    intro r y P hm hr hy hP hr2
    refine v_dload_n 1 dX6_doubleBits_41 rfl rfl ?_
    refine v_dconst1 dX6_doubleBits_42 ?_
    refine v_dcmp dX6_doubleBits_43 ?_
    refine v_if_ge (tgt := 67) dX6_doubleBits_44 (by decide) (fun hc44 => ?_) (fun hc44 => ?_)
    · have := (cmp_1 hy hc).mp hc44
      omega
    ·
      refine v_iload 0 dX6_doubleBits_47 rfl ?_
      refine v_sipush (v := -1023) dX6_doubleBits_49 (by first | rfl | decide) ?_
      refine v_icmp_le (tgt := 67) dX6_doubleBits_52 (by decide) (fun hc52 => ?_) (fun hc52 => ?_)
      · have := Int32.le_iff_toInt_le.mp hc52
        rw [show (-1023 : Int32).toInt = -1023 from rfl] at this
        omega
      ·
        refine v_dload_n 1 dX6_doubleBits_55 rfl rfl ?_
        refine v_ldc2d kc_X6_427 dX6_doubleBits_56 ?_
        refine v_dmul dX6_doubleBits_59 (n64_fin (twice_d hy hc (by omega))) ?_
        refine v_dstore_n dX6_doubleBits_60 rfl (by decide) (fun y2 e_y2 => ?_)
        refine v_ls (ls' := [(2, .double y2), (4, .int P), (0, .double x)]) rfl ?_
        refine v_iinc (v := -1) 1 dX6_doubleBits_61 rfl rfl (by decide) (fun z e_z => ?_)
        refine v_ls (ls' := [(4, .int z), (2, .double y2), (0, .double x)]) rfl ?_
        subst e_y2
        refine v_goto (tgt := 41) dX6_doubleBits_64 (by decide) ?_
        refine v_pick [0, 1, 2] rfl ?_
        refine ih (r + 1) _ z (by omega) (by omega) (twice_d hy hc (by omega)) ?_ (by omega)
        rw [e_z, i32_add (by rw [show (-1 : Int32).toInt = -1 from rfl]; omega) (by rw [show (-1 : Int32).toInt = -1 from rfl]; omega), show (-1 : Int32).toInt = -1 from rfl]
        omega
        

set_option maxRecDepth 20000 in
set_option maxHeartbeats 4000000 in
theorem db_13 {G : Cx} (d : Nat) {μ : Hp} {x : UInt64} {c : Nat} {q : Int} (h1 : FP.Core.val64 x = .fin false c q) (hc : 4503599627370496 ≤ c) (hq1 : -202 ≤ q) (hq2 : q ≤ 40) : ∀ (k9 : Nat) (r : Int) (y : UInt64) (P : Int32), (r + 52).toNat = k9 → FP.Core.val64 y = .fin false c r → P.toInt = q - r → -202 ≤ r → r ≤ 40 → P.toInt ≤ 300 → V G M_X6_doubleBits (d + 0) 0 0 (Rt (some (.long x.toInt64)) μ) 13 [(4, .int P), (2, .double y), (0, .double x)] [] (μ) := by
  intro k9
  induction k9 with
  | zero =>
    intro r y P hm hy hP hr2 hr3 hp3
    refine v_dload_n 1 dX6_doubleBits_13 rfl rfl ?_
    refine v_ldc2d kc_X6_427 dX6_doubleBits_14 ?_
    refine v_dcmp dX6_doubleBits_17 ?_
    refine v_if_lt (tgt := 41) dX6_doubleBits_18 (by decide) (fun hc18 => ?_) (fun hc18 => ?_)
    ·
      exact db_41 d h1 hc hq1 hq2 _ r y P rfl (by omega) hy hP hr2
    · exact absurd ((cmp_2 hy hc).mpr (by omega)) hc18
  | succ k9 ih =>
    intro r y P hm hy hP hr2 hr3 hp3
    refine v_dload_n 1 dX6_doubleBits_13 rfl rfl ?_
    refine v_ldc2d kc_X6_427 dX6_doubleBits_14 ?_
    refine v_dcmp dX6_doubleBits_17 ?_
    refine v_if_lt (tgt := 41) dX6_doubleBits_18 (by decide) (fun hc18 => ?_) (fun hc18 => ?_)
    · have := (cmp_2 hy hc).mp hc18
      omega
    ·
      refine v_iload 0 dX6_doubleBits_21 rfl ?_
      refine v_sipush (v := 1023) dX6_doubleBits_23 (by first | rfl | decide) ?_
      refine v_icmp_ge (tgt := 41) dX6_doubleBits_26 (by decide) (fun hc26 => ?_) (fun hc26 => ?_)
      · have := Int32.le_iff_toInt_le.mp hc26
        rw [show (1023 : Int32).toInt = 1023 from rfl] at this
        omega
      ·
        refine v_dload_n 1 dX6_doubleBits_29 rfl rfl ?_
        refine v_ldc2d kc_X6_427 dX6_doubleBits_30 ?_
        refine v_ddiv dX6_doubleBits_33 (n64_fin (half_d hy hc (by omega))) ?_
        refine v_dstore_n dX6_doubleBits_34 rfl (by decide) (fun y2 e_y2 => ?_)
        refine v_ls (ls' := [(2, .double y2), (4, .int P), (0, .double x)]) rfl ?_
        refine v_iinc (v := 1) 1 dX6_doubleBits_35 rfl rfl (by decide) (fun z e_z => ?_)
        refine v_ls (ls' := [(4, .int z), (2, .double y2), (0, .double x)]) rfl ?_
        subst e_y2
        have ez : z.toInt = P.toInt + 1 := by
          rw [e_z, i32_add (by rw [show (1 : Int32).toInt = 1 from rfl]; omega) (by rw [show (1 : Int32).toInt = 1 from rfl]; omega), show (1 : Int32).toInt = 1 from rfl]
        refine v_goto (tgt := 13) dX6_doubleBits_38 (by decide) ?_
        refine v_pick [0, 1, 2] rfl ?_
        exact ih (r - 1) _ z (by omega) (half_d hy hc (by omega)) (by omega) (by omega) (by omega) (by omega)
        

set_option maxRecDepth 20000 in
set_option maxHeartbeats 4000000 in
theorem c_X6_doubleBits {G : Cx} (d : Nat) {μ : Hp} {k : Nat} {x : UInt64} (h : B64 k x) (hk : k < 2 ^ 40) : Ct G (d) 0 0 M_X6_doubleBits [.double x] μ (Rt (some (.long x.toInt64)) μ) := by
  refine Ct.ofV (by decide +kernel) (Nat.le_of_ble_eq_true rfl) ?_
  refine v_ls (ls' := [(0, .double x)]) rfl ?_
  obtain ⟨c, q, h1, h2, h3⟩ := h
  have b := bits64 h1
  refine v_dload_n 0 dX6_doubleBits_0 rfl rfl ?_
  refine v_dconst0 dX6_doubleBits_1 ?_
  refine v_dcmp dX6_doubleBits_2 ?_
  refine v_if_gt (tgt := 8) dX6_doubleBits_3 (by decide) (fun hc3 => ?_) (fun hc3 => ?_)
  ·
    have hc0 : ¬ c = 0 := (cmp_0 h1).mp hc3
    obtain ⟨n1, n2, n3⟩ := B64.nrm h1 h2 hk (h3.resolve_left hc0)
    refine v_dload_n 0 dX6_doubleBits_8 rfl rfl ?_
    refine v_dstore_n dX6_doubleBits_9 rfl (by decide) (fun y2 e_y2 => ?_)
    refine v_ls (ls' := [(2, .double y2), (0, .double x)]) rfl ?_
    refine v_iconst (v := 0) dX6_doubleBits_10 (by first | rfl | decide) ?_
    refine v_istore dX6_doubleBits_11 (by decide) (fun y4 e_y4 => ?_)
    refine v_ls (ls' := [(4, .int y4), (2, .double y2), (0, .double x)]) rfl ?_
    subst e_y4
    rw [e_y2]
    exact db_13 d h1 n1 n2 n3 _ q x 0 rfl h1 (by rw [show (0 : Int32).toInt = 0 from rfl]; omega) n2 n3 (by decide)
    
  ·
    refine v_lconst (v := 0) dX6_doubleBits_6 (by first | rfl | decide) ?_
    refine v_lret dX6_doubleBits_7 rfl ?_
    have hc0 : c = 0 := Classical.byContradiction (fun z => hc3 ((cmp_0 h1).mpr z))
    subst hc0
    exact ⟨by rw [u64_0 h1], rfl⟩

theorem shl_23 : ∀ a, a < 256 → (nI a <<< ((23 : Int32) &&& 31)) = nI (a * 8388608) := by decide +kernel
theorem fb_num {x : UInt32} {c : Nat} {q : Int} (h : FP.Core.val32 x = .fin false c q) (hc : ¬ c = 0) : ∃ k : Nat, 29 ≤ k ∧ k ≤ 52 ∧ 4503599627370496 ≤ c * 2 ^ k ∧ c * 2 ^ k < 9007199254740992 ∧ (8388608 ≤ c → k = 29) ∧ (c < 8388608 → 30 ≤ k) ∧ ¬ (FP.f2d x).toInt64 = 0 ∧ (((FP.f2d x).toInt64 >>> ((52 : Int32).toInt64 &&& 63)).toInt32 - 1023).toInt = q - k + 52 ∧ ((FP.f2d x).toInt64 &&& 4503599627370495).toInt = ((c * 2 ^ k - 4503599627370496 : Nat) : Int) := by
  obtain ⟨k, k1, k2, k3, k4, k5, k6, k7⟩ := f2d_k h hc
  have b := bits32 h
  have b2 := bits64 k5
  rw [if_neg (by omega)] at b2
  refine ⟨k, k1, k2, k3, k4, k6, k7, ?_⟩
  have e := u64_int (x := FP.f2d x) (by omega)
  generalize (FP.f2d x).toInt64 = w at e ⊢
  generalize (FP.f2d x).toNat = n at e b2
  generalize c * 2 ^ k = m at *
  have hs := shr_int w (k := 52) (by decide)
  have hs : (w >>> ((52 : Int32).toInt64 &&& 63)).toInt = w.toInt / 2 ^ 52 := hs
  have hs2 : (w >>> ((52 : Int32).toInt64 &&& 63)).toInt = q - k + 1075 := by
    rw [hs, e, show (2 : Int) ^ 52 = 4503599627370496 from rfl]
    omega
  refine ⟨fun z => ?_, ?_, ?_⟩
  · rw [z] at e
    rw [show (0 : Int64).toInt = 0 from rfl] at e
    omega
  · have h3 := l2i_int (x := w >>> ((52 : Int32).toInt64 &&& 63)) (by omega) (by omega)
    rw [i32_sub (by rw [h3, show (1023 : Int32).toInt = 1023 from rfl]; omega) (by rw [h3, show (1023 : Int32).toInt = 1023 from rfl]; omega), h3, hs2, show (1023 : Int32).toInt = 1023 from rfl]
    omega
  · rw [and_mask (by omega), e]
    omega
theorem fb_hi {x : UInt32} {c k : Nat} {q : Int} {P : Int32} {D : Int64} (h : FP.Core.val32 x = .fin false c q) (k1 : 29 ≤ k) (k3 : 4503599627370496 ≤ c * 2 ^ k) (k6 : 8388608 ≤ c → k = 29) (k7 : c < 8388608 → 30 ≤ k) (hP : P.toInt = q - k + 52) (hD : D.toInt = ((c * 2 ^ k - 4503599627370496 : Nat) : Int)) (h9 : ¬ P < -126) : ((P + 127) <<< ((23 : Int32) &&& 31)) + (D >>> ((29 : Int32).toInt64 &&& 63)).toInt32 = x.toInt32 := by
  have b := bits32 h
  have h9 : -126 ≤ P.toInt := by
    have := Int32.le_iff_toInt_le.mp (Int32.not_lt.mp h9)
    rwa [show (-126 : Int32).toInt = -126 from rfl] at this
  have hc : 8388608 ≤ c := by
    refine Nat.le_of_not_lt (fun z => ?_)
    have := k7 z
    omega
  obtain rfl := k6 hc
  have e0 : (127 : Int32).toInt = 127 := rfl
  have e1 : P + 127 = nI (q + 150).toNat := by
    apply Int32.toInt_inj.mp
    rw [i32_add (by omega) (by omega), nI_toInt (by omega)]
    omega
  have hs : (D >>> ((29 : Int32).toInt64 &&& 63)).toInt = D.toInt / 2 ^ 29 := shr_int D (k := 29) (by decide)
  have hs2 : (D >>> ((29 : Int32).toInt64 &&& 63)).toInt = ((c - 8388608 : Nat) : Int) := by
    rw [hs, hD, show (2 : Int) ^ 29 = 536870912 from rfl]
    rw [show (2 : Nat) ^ 29 = 536870912 from rfl]
    omega
  have h3 := l2i_int (x := D >>> ((29 : Int32).toInt64 &&& 63)) (by omega) (by omega)
  rw [e1, shl_23 _ (by omega)]
  have h4 := nI_toInt (n := (q + 150).toNat * 8388608) (by omega)
  have h5 := u32_int (x := x) (by omega)
  rw [if_neg (by omega)] at b
  obtain ⟨b1, b2, b3, b4, b5, -⟩ := b
  rw [hs2] at h3
  apply Int32.toInt_inj.mp
  generalize nI ((q + 150).toNat * 8388608) = u at h4 ⊢
  generalize (D >>> ((29 : Int32).toInt64 &&& 63)).toInt32 = v at h3 ⊢
  clear hD hs hs2 hP e1 k3 k6 k7 k1 h9 e0 h
  have h7 : ((q + 150).toNat : Int) = q + 150 := by omega
  have h8 : u.toInt = (q + 150) * 8388608 := by rw [h4, Int.natCast_mul, h7]; rfl
  clear h4
  rw [i32_add (by omega) (by omega), h8, h3, h5]
  omega
theorem fb_lo {x : UInt32} {c k : Nat} {q : Int} {P : Int32} {D : Int64} (h : FP.Core.val32 x = .fin false c q) (k2 : k ≤ 52) (k3 : 4503599627370496 ≤ c * 2 ^ k) (k4 : c * 2 ^ k < 9007199254740992) (k6 : 8388608 ≤ c → k = 29) (hP : P.toInt = q - k + 52) (hD : D.toInt = ((c * 2 ^ k - 4503599627370496 : Nat) : Int)) (h9 : P < -126) : ((D ||| 4503599627370496) >>> ((29 + -126 - P : Int32).toInt64 &&& 63)).toInt32 = x.toInt32 := by
  have b := bits32 h
  have h9 : P.toInt < -126 := by
    have := Int32.lt_iff_toInt_lt.mp h9
    rwa [show (-126 : Int32).toInt = -126 from rfl] at this
  have hc : c < 8388608 := by
    refine Nat.lt_of_not_le (fun z => ?_)
    have := k6 z
    omega
  have e1 : (29 + -126 - P : Int32) = nI k := by
    apply Int32.toInt_inj.mp
    have e2 : (29 + -126 : Int32).toInt = -97 := by decide
    rw [i32_sub (by omega) (by omega), nI_toInt (by omega)]
    omega
  rw [e1]
  have h5 : (D ||| 4503599627370496).toInt = ((c * 2 ^ k : Nat) : Int) := by
    rw [or_mask (by omega) (by omega), hD]
    omega
  have hs : ((D ||| 4503599627370496) >>> ((nI k).toInt64 &&& 63)).toInt = (c : Int) := by
    have e8 : (2 : Int) ^ k = ((2 ^ k : Nat) : Int) := (Int.natCast_pow 2 k).symm
    rw [shr_int _ (by omega), h5, e8, ← Int.natCast_ediv, Nat.mul_div_cancel _ (Nat.two_pow_pos k)]
  have h3 := l2i_int (x := (D ||| 4503599627370496) >>> ((nI k).toInt64 &&& 63)) (by omega) (by omega)
  have h6 := u32_int (x := x) (by omega)
  rw [if_pos hc] at b
  apply Int32.toInt_inj.mp
  rw [h3, hs, h6]
  omega
theorem u32_0 {x : UInt32} {q : Int} (h1 : FP.Core.val32 x = .fin false 0 q) : x.toInt32 = 0 := by
  have b := (bits32 h1).1
  rw [if_pos (by decide)] at b
  have : x = 0 := UInt32.toNat_inj.mp b
  rw [this]
  rfl
theorem f2d_0 {x : UInt32} {q : Int} (h1 : FP.Core.val32 x = .fin false 0 q) : (FP.f2d x).toInt64 = 0 := by
  obtain ⟨c', q', r1, r2⟩ := f2d_ex h1
  have b := bits64 r1
  have e : c' = 0 := (iU_0 (q := q') (by omega)).mp (r2.trans (Nat.zero_mul _))
  subst e
  exact u64_0 r1
set_option maxRecDepth 20000 in
set_option maxHeartbeats 4000000 in
theorem c_X6_floatBits {G : Cx} (d : Nat) {μ : Hp} {kk : Nat} {x : UInt32} (h : B32 kk x) (hk : kk < 2 ^ 40) : Ct G (d + 1) 0 0 M_X6_floatBits [.float x] μ (Rt (some (.int x.toInt32)) μ) := by
  refine Ct.ofV (by decide +kernel) (Nat.le_of_ble_eq_true rfl) ?_
  refine v_ls (ls' := [(0, .float x)]) rfl ?_
  obtain ⟨c, q, h1, h2⟩ := id h
  refine v_fload_n 0 dX6_floatBits_0 rfl rfl ?_
  refine v_f2d dX6_floatBits_1 (h.f2d.n) ?_
  refine v_callS (c_X6_doubleBits d (h.f2d) (hk)) cs_X6_308 dX6_floatBits_2 rfl rfl (Nat.le_of_ble_eq_true rfl) ?_
  refine rt_k ?_
  refine v_lstore_n dX6_floatBits_5 rfl (by decide) (fun w1 e_w1 => ?_)
  refine v_ls (ls' := [(1, .long w1), (0, .float x)]) rfl ?_
  refine v_lload_n 0 dX6_floatBits_6 rfl rfl ?_
  refine v_lconst (v := 0) dX6_floatBits_7 (by first | rfl | decide) ?_
  refine v_lc_ne (tgt := 14) dX6_floatBits_8 dX6_floatBits_9 (by decide) (fun hc8 => ?_) (fun hc8 => ?_)
  ·
    have hc0 : ¬ c = 0 := fun z => by
      subst z
      exact hc8 (e_w1.trans (f2d_0 h1))
    obtain ⟨k, k1, k2, k3, k4, k6, k7, kz, kP, kD⟩ := fb_num h1 hc0
    rw [← e_w1] at kP kD
    refine v_lload_n 0 dX6_floatBits_14 rfl rfl ?_
    refine v_bipush (v := 52) dX6_floatBits_15 (by first | rfl | decide) ?_
    refine v_lshr dX6_floatBits_17 ?_
    refine v_l2i dX6_floatBits_18 ?_
    refine v_sipush (v := 1023) dX6_floatBits_19 (by first | rfl | decide) ?_
    refine v_isub dX6_floatBits_22 ?_
    refine v_istore_n dX6_floatBits_23 rfl (by decide) (fun pw e_pw => ?_)
    refine v_ls (ls' := [(3, .int pw), (1, .long w1), (0, .float x)]) rfl ?_
    rw [← e_pw] at kP
    refine v_lload_n 1 dX6_floatBits_24 rfl rfl ?_
    refine v_ldc2 kc_X6_431 dX6_floatBits_25 ?_
    refine v_land dX6_floatBits_28 ?_
    refine v_lstore dX6_floatBits_29 (by decide) (fun dg e_dg => ?_)
    refine v_ls (ls' := [(4, .long dg), (3, .int pw), (1, .long w1), (0, .float x)]) rfl ?_
    rw [← e_dg] at kD
    refine v_bipush (v := 29) dX6_floatBits_31 (by first | rfl | decide) ?_
    refine v_istore dX6_floatBits_33 (by decide) (fun y6 e_y6 => ?_)
    refine v_ls (ls' := [(6, .int y6), (4, .long dg), (3, .int pw), (1, .long w1), (0, .float x)]) rfl ?_
    subst e_y6
    refine v_iload_n 2 dX6_floatBits_35 rfl rfl ?_
    refine v_bipush (v := -126) dX6_floatBits_36 (by first | rfl | decide) ?_
    refine v_icmp_lt (tgt := 56) dX6_floatBits_38 (by decide) (fun hc38 => ?_) (fun hc38 => ?_)
    ·
      refine v_lload 1 dX6_floatBits_56 rfl ?_
      refine v_ldc2 kc_X6_433 dX6_floatBits_58 ?_
      refine v_lor dX6_floatBits_61 ?_
      refine v_iload 0 dX6_floatBits_62 rfl ?_
      refine v_bipush (v := -126) dX6_floatBits_64 (by first | rfl | decide) ?_
      refine v_iadd dX6_floatBits_66 ?_
      refine v_iload_n 2 dX6_floatBits_67 rfl rfl ?_
      refine v_isub dX6_floatBits_68 ?_
      refine v_lshr dX6_floatBits_69 ?_
      refine v_l2i dX6_floatBits_70 ?_
      refine v_iret dX6_floatBits_71 rfl (by first | rfl | decide | exact nar_b (by first | assumption | rfl)) ?_
      exact ⟨by rw [fb_lo h1 k2 k3 k4 k6 kP kD hc38], rfl⟩
    ·
      refine v_iload_n 2 dX6_floatBits_41 rfl rfl ?_
      refine v_bipush (v := 127) dX6_floatBits_42 (by first | rfl | decide) ?_
      refine v_iadd dX6_floatBits_44 ?_
      refine v_bipush (v := 23) dX6_floatBits_45 (by first | rfl | decide) ?_
      refine v_ishl dX6_floatBits_47 ?_
      refine v_lload 1 dX6_floatBits_48 rfl ?_
      refine v_iload 0 dX6_floatBits_50 rfl ?_
      refine v_lshr dX6_floatBits_52 ?_
      refine v_l2i dX6_floatBits_53 ?_
      refine v_iadd dX6_floatBits_54 ?_
      refine v_iret dX6_floatBits_55 rfl (by first | rfl | decide | exact nar_b (by first | assumption | rfl)) ?_
      exact ⟨by rw [fb_hi h1 k1 k3 k6 k7 kP kD hc38], rfl⟩
  ·
    refine v_iconst (v := 0) dX6_floatBits_12 (by first | rfl | decide) ?_
    refine v_iret dX6_floatBits_13 rfl (by first | rfl | decide | exact nar_b (by first | assumption | rfl)) ?_
    have hc0 : c = 0 := Classical.byContradiction (fun z => by
      obtain ⟨k, k1, k2, k3, k4, k6, k7, kz, kP, kD⟩ := fb_num h1 z
      exact kz (e_w1.symm.trans hc8))
    subst hc0
    exact ⟨by rw [u32_0 h1], rfl⟩

