set_option maxRecDepth 20000 in
set_option maxHeartbeats 4000000 in
theorem c_J9_max_7cf53 {G : Cx} (d : Nat) {μ : Hp} {a b : Int32}  : Ct G (d) 0 0 M_J9_max_7cf53 [.int a, .int b] μ (Rt (some (.int (maxO a b))) μ) := by
  refine Ct.ofV (by decide +kernel) (Nat.le_of_ble_eq_true rfl) ?_
  refine v_ls (ls' := [(0, .int a), (1, .int b)]) rfl ?_
  refine v_iload_n 0 dJ9_max_7cf53_0 rfl rfl ?_
  refine v_iload_n 1 dJ9_max_7cf53_1 rfl rfl ?_
  refine v_icmp_lt (tgt := 9) dJ9_max_7cf53_2 (by decide) (fun c2 => ?_) (fun c2 => ?_)
  ·
    refine v_iload_n 1 dJ9_max_7cf53_9 rfl rfl ?_
    refine v_iret dJ9_max_7cf53_10 rfl (by first | rfl | decide | exact nar_b (by first | assumption | rfl)) ?_
    exact ⟨by simp only [maxO, absO, cmpO, alO, acO, wiO, ovrO, if_pos c2, if_neg (Int32.not_le.mpr c2)], rfl⟩
  ·
    refine v_iload_n 0 dJ9_max_7cf53_5 rfl rfl ?_
    refine v_goto (tgt := 10) dJ9_max_7cf53_6 (by decide) ?_
    refine v_iret dJ9_max_7cf53_10 rfl (by first | rfl | decide | exact nar_b (by first | assumption | rfl)) ?_
    exact ⟨by simp only [maxO, absO, cmpO, alO, acO, wiO, ovrO, if_neg c2, if_pos (Int32.not_lt.mp c2)], rfl⟩

set_option maxRecDepth 20000 in
set_option maxHeartbeats 4000000 in
theorem c_J9_abs_067f4 {G : Cx} (d : Nat) {μ : Hp} {a : Int64}  : Ct G (d) 0 0 M_J9_abs_067f4 [.long a] μ (Rt (some (.long (absO a))) μ) := by
  refine Ct.ofV (by decide +kernel) (Nat.le_of_ble_eq_true rfl) ?_
  refine v_ls (ls' := [(0, .long a)]) rfl ?_
  refine v_lload_n 0 dJ9_abs_067f4_0 rfl rfl ?_
  refine v_lconst (v := 0) dJ9_abs_067f4_1 (by first | rfl | decide) ?_
  refine v_lc_ge (tgt := 11) dJ9_abs_067f4_2 dJ9_abs_067f4_3 (by decide) (fun c2 => ?_) (fun c2 => ?_)
  ·
    refine v_lload_n 0 dJ9_abs_067f4_11 rfl rfl ?_
    refine v_lret dJ9_abs_067f4_12 rfl ?_
    exact ⟨by simp only [maxO, absO, cmpO, alO, acO, wiO, ovrO, if_pos c2, if_neg (Int64.not_lt.mpr c2)], rfl⟩
  ·
    refine v_lload_n 0 dJ9_abs_067f4_6 rfl rfl ?_
    refine v_lneg dJ9_abs_067f4_7 ?_
    refine v_goto (tgt := 12) dJ9_abs_067f4_8 (by decide) ?_
    refine v_lret dJ9_abs_067f4_12 rfl ?_
    exact ⟨by simp only [maxO, absO, cmpO, alO, acO, wiO, ovrO, if_neg c2, if_pos (Int64.not_le.mp c2)], rfl⟩

set_option maxRecDepth 20000 in
set_option maxHeartbeats 4000000 in
theorem c_J13_compare_74951 {G : Cx} (d : Nat) {μ : Hp} {a b : Int64}  : Ct G (d) 0 0 M_J13_compare_74951 [.long a, .long b] μ (Rt (some (.int (cmpO a b))) μ) := by
  refine Ct.ofV (by decide +kernel) (Nat.le_of_ble_eq_true rfl) ?_
  refine v_ls (ls' := [(0, .long a), (2, .long b)]) rfl ?_
  refine v_lload_n 0 dJ13_compare_74951_0 rfl rfl ?_
  refine v_lload_n 1 dJ13_compare_74951_1 rfl rfl ?_
  refine v_lc_ge (tgt := 10) dJ13_compare_74951_2 dJ13_compare_74951_3 (by decide) (fun c2 => ?_) (fun c2 => ?_)
  ·
    refine v_lload_n 0 dJ13_compare_74951_10 rfl rfl ?_
    refine v_lload_n 1 dJ13_compare_74951_11 rfl rfl ?_
    refine v_lc_ne (tgt := 20) dJ13_compare_74951_12 dJ13_compare_74951_13 (by decide) (fun c12 => ?_) (fun c12 => ?_)
    ·
      refine v_iconst (v := 1) dJ13_compare_74951_20 (by first | rfl | decide) ?_
      refine v_iret dJ13_compare_74951_21 rfl (by first | rfl | decide | exact nar_b (by first | assumption | rfl)) ?_
      exact ⟨by simp only [maxO, absO, cmpO, alO, acO, wiO, ovrO, if_pos c2, if_neg (Int64.not_lt.mpr c2), if_neg c12], rfl⟩
    ·
      refine v_iconst (v := 0) dJ13_compare_74951_16 (by first | rfl | decide) ?_
      refine v_goto (tgt := 21) dJ13_compare_74951_17 (by decide) ?_
      refine v_iret dJ13_compare_74951_21 rfl (by first | rfl | decide | exact nar_b (by first | assumption | rfl)) ?_
      exact ⟨by simp only [maxO, absO, cmpO, alO, acO, wiO, ovrO, if_pos c2, if_neg (Int64.not_lt.mpr c2), if_pos c12], rfl⟩
  ·
    refine v_iconst (v := -1) dJ13_compare_74951_6 (by first | rfl | decide) ?_
    refine v_goto (tgt := 21) dJ13_compare_74951_7 (by decide) ?_
    refine v_iret dJ13_compare_74951_21 rfl (by first | rfl | decide | exact nar_b (by first | assumption | rfl)) ?_
    exact ⟨by simp only [maxO, absO, cmpO, alO, acO, wiO, ovrO, if_neg c2, if_pos (Int64.not_le.mp c2)], rfl⟩

set_option maxRecDepth 20000 in
set_option maxHeartbeats 4000000 in
theorem c_X6_codeOf {G : Cx} (d : Nat) {μ : Hp} {k a f : Int32}  : Ct G (d) 0 0 M_X6_codeOf [.int k, .int a, .int f] μ (Rt (some (.int (cdO k a f))) μ) := by
  refine Ct.ofV (by decide +kernel) (Nat.le_of_ble_eq_true rfl) ?_
  refine v_ls (ls' := [(0, .int k), (1, .int a), (2, .int f)]) rfl ?_
  refine v_sipush (v := 1000) dX6_codeOf_0 (by first | rfl | decide) ?_
  refine v_iload_n 0 dX6_codeOf_3 rfl rfl ?_
  refine v_imul dX6_codeOf_4 ?_
  refine v_bipush (v := 100) dX6_codeOf_5 (by first | rfl | decide) ?_
  refine v_iload_n 1 dX6_codeOf_7 rfl rfl ?_
  refine v_imul dX6_codeOf_8 ?_
  refine v_iadd dX6_codeOf_9 ?_
  refine v_iload_n 2 dX6_codeOf_10 rfl rfl ?_
  refine v_iadd dX6_codeOf_11 ?_
  refine v_iret dX6_codeOf_12 rfl (by first | rfl | decide | exact nar_b (by first | assumption | rfl)) ?_
  exact ⟨rfl, rfl⟩

set_option maxRecDepth 20000 in
set_option maxHeartbeats 4000000 in
theorem c_X6_kindOf {G : Cx} (d : Nat) {μ : Hp} {c : Int32}  : Ct G (d) 0 0 M_X6_kindOf [.int c] μ (Rt (some (.int (kdO c))) μ) := by
  refine Ct.ofV (by decide +kernel) (Nat.le_of_ble_eq_true rfl) ?_
  refine v_ls (ls' := [(0, .int c)]) rfl ?_
  refine v_iload_n 0 dX6_kindOf_0 rfl rfl ?_
  refine v_sipush (v := 1000) dX6_kindOf_1 (by first | rfl | decide) ?_
  refine v_idiv dX6_kindOf_4 (by decide) ?_
  refine v_iret dX6_kindOf_5 rfl (by first | rfl | decide | exact nar_b (by first | assumption | rfl)) ?_
  exact ⟨rfl, rfl⟩

set_option maxRecDepth 20000 in
set_option maxHeartbeats 4000000 in
theorem c_X6_angleOf {G : Cx} (d : Nat) {μ : Hp} {c : Int32}  : Ct G (d) 0 0 M_X6_angleOf [.int c] μ (Rt (some (.int (anO c))) μ) := by
  refine Ct.ofV (by decide +kernel) (Nat.le_of_ble_eq_true rfl) ?_
  refine v_ls (ls' := [(0, .int c)]) rfl ?_
  refine v_iload_n 0 dX6_angleOf_0 rfl rfl ?_
  refine v_bipush (v := 100) dX6_angleOf_1 (by first | rfl | decide) ?_
  refine v_idiv dX6_angleOf_3 (by decide) ?_
  refine v_bipush (v := 10) dX6_angleOf_4 (by first | rfl | decide) ?_
  refine v_irem dX6_angleOf_6 (by decide) ?_
  refine v_iret dX6_angleOf_7 rfl (by first | rfl | decide | exact nar_b (by first | assumption | rfl)) ?_
  exact ⟨rfl, rfl⟩

set_option maxRecDepth 20000 in
set_option maxHeartbeats 4000000 in
theorem c_X6_figureOf {G : Cx} (d : Nat) {μ : Hp} {c : Int32}  : Ct G (d) 0 0 M_X6_figureOf [.int c] μ (Rt (some (.int (fgO c))) μ) := by
  refine Ct.ofV (by decide +kernel) (Nat.le_of_ble_eq_true rfl) ?_
  refine v_ls (ls' := [(0, .int c)]) rfl ?_
  refine v_iload_n 0 dX6_figureOf_0 rfl rfl ?_
  refine v_bipush (v := 100) dX6_figureOf_1 (by first | rfl | decide) ?_
  refine v_irem dX6_figureOf_3 (by decide) ?_
  refine v_iret dX6_figureOf_4 rfl (by first | rfl | decide | exact nar_b (by first | assumption | rfl)) ?_
  exact ⟨rfl, rfl⟩

set_option maxRecDepth 20000 in
set_option maxHeartbeats 4000000 in
theorem c_X6_alongOf {G : Cx} (d : Nat) {μ : Hp} {c : Int32}  : Ct G (d + 1) 0 0 M_X6_alongOf [.int c] μ (Rt (some (.int (alO c))) μ) := by
  refine Ct.ofV (by decide +kernel) (Nat.le_of_ble_eq_true rfl) ?_
  refine v_ls (ls' := [(0, .int c)]) rfl ?_
  refine v_iload_n 0 dX6_alongOf_0 rfl rfl ?_
  refine v_callS (c_X6_kindOf d ) cs_X6_144 dX6_alongOf_1 rfl rfl (Nat.le_of_ble_eq_true rfl) ?_
  refine rt_k ?_
  refine v_iconst (v := 3) dX6_alongOf_4 (by first | rfl | decide) ?_
  refine v_icmp_ne (tgt := 12) dX6_alongOf_5 (by decide) (fun c5 => ?_) (fun c5 => ?_)
  ·
    refine v_iload_n 0 dX6_alongOf_12 rfl rfl ?_
    refine v_callS (c_X6_figureOf d ) cs_X6_150 dX6_alongOf_13 rfl rfl (Nat.le_of_ble_eq_true rfl) ?_
    refine rt_k ?_
    refine v_iconst (v := 4) dX6_alongOf_16 (by first | rfl | decide) ?_
    refine v_idiv dX6_alongOf_17 (by decide) ?_
    refine v_iret dX6_alongOf_18 rfl (by first | rfl | decide | exact nar_b (by first | assumption | rfl)) ?_
    exact ⟨by simp only [maxO, absO, cmpO, alO, acO, wiO, ovrO, if_neg c5], rfl⟩
  ·
    refine v_iconst (v := 4) dX6_alongOf_8 (by first | rfl | decide) ?_
    refine v_goto (tgt := 18) dX6_alongOf_9 (by decide) ?_
    refine v_iret dX6_alongOf_18 rfl (by first | rfl | decide | exact nar_b (by first | assumption | rfl)) ?_
    exact ⟨by simp only [maxO, absO, cmpO, alO, acO, wiO, ovrO, if_pos c5], rfl⟩

set_option maxRecDepth 20000 in
set_option maxHeartbeats 4000000 in
theorem c_X6_acrossOf {G : Cx} (d : Nat) {μ : Hp} {c : Int32}  : Ct G (d + 1) 0 0 M_X6_acrossOf [.int c] μ (Rt (some (.int (acO c))) μ) := by
  refine Ct.ofV (by decide +kernel) (Nat.le_of_ble_eq_true rfl) ?_
  refine v_ls (ls' := [(0, .int c)]) rfl ?_
  refine v_iload_n 0 dX6_acrossOf_0 rfl rfl ?_
  refine v_callS (c_X6_kindOf d ) cs_X6_144 dX6_acrossOf_1 rfl rfl (Nat.le_of_ble_eq_true rfl) ?_
  refine rt_k ?_
  refine v_iconst (v := 3) dX6_acrossOf_4 (by first | rfl | decide) ?_
  refine v_icmp_ne (tgt := 12) dX6_acrossOf_5 (by decide) (fun c5 => ?_) (fun c5 => ?_)
  ·
    refine v_iload_n 0 dX6_acrossOf_12 rfl rfl ?_
    refine v_callS (c_X6_figureOf d ) cs_X6_150 dX6_acrossOf_13 rfl rfl (Nat.le_of_ble_eq_true rfl) ?_
    refine rt_k ?_
    refine v_iconst (v := 4) dX6_acrossOf_16 (by first | rfl | decide) ?_
    refine v_irem dX6_acrossOf_17 (by decide) ?_
    refine v_iret dX6_acrossOf_18 rfl (by first | rfl | decide | exact nar_b (by first | assumption | rfl)) ?_
    exact ⟨by simp only [maxO, absO, cmpO, alO, acO, wiO, ovrO, if_neg c5], rfl⟩
  ·
    refine v_iconst (v := 0) dX6_acrossOf_8 (by first | rfl | decide) ?_
    refine v_goto (tgt := 18) dX6_acrossOf_9 (by decide) ?_
    refine v_iret dX6_acrossOf_18 rfl (by first | rfl | decide | exact nar_b (by first | assumption | rfl)) ?_
    exact ⟨by simp only [maxO, absO, cmpO, alO, acO, wiO, ovrO, if_pos c5], rfl⟩

set_option maxRecDepth 20000 in
set_option maxHeartbeats 4000000 in
theorem c_X6_quartersOf {G : Cx} (d : Nat) {μ : Hp} {c : Int32}  : Ct G (d + 1) 0 0 M_X6_quartersOf [.int c] μ (Rt (some (.int (qtO c))) μ) := by
  refine Ct.ofV (by decide +kernel) (Nat.le_of_ble_eq_true rfl) ?_
  refine v_ls (ls' := [(0, .int c)]) rfl ?_
  refine v_iload_n 0 dX6_quartersOf_0 rfl rfl ?_
  refine v_callS (c_X6_figureOf d ) cs_X6_150 dX6_quartersOf_1 rfl rfl (Nat.le_of_ble_eq_true rfl) ?_
  refine rt_k ?_
  refine v_iconst (v := 4) dX6_quartersOf_4 (by first | rfl | decide) ?_
  refine v_irem dX6_quartersOf_5 (by decide) ?_
  refine v_iret dX6_quartersOf_6 rfl (by first | rfl | decide | exact nar_b (by first | assumption | rfl)) ?_
  exact ⟨rfl, rfl⟩

set_option maxRecDepth 20000 in
set_option maxHeartbeats 4000000 in
theorem gcd_loop {G : Cx} (d : Nat) {μ : Hp} {a b : Int64} : ∀ (n k : Nat) (x8 : Int32) (x4 x6 : Int64), k + n = 200 → x8 = nI k → V G M_X6_commonDivisor d 0 0 (Rt (some (.long (gcdN n x4 x6))) μ) 15 [(8, .int x8), (6, .long x6), (4, .long x4), (0, .long a), (2, .long b)] [] μ := by
  intro n
  induction n with
  | zero =>
    intro k x8 x4 x6 hk e8
    refine v_iload 0 dX6_commonDivisor_15 rfl ?_
    refine v_sipush (v := 200) dX6_commonDivisor_17 (by first | rfl | decide) ?_
    refine v_icmp_ge (tgt := 51) dX6_commonDivisor_20 (by decide) (fun c20 => ?_) (fun c20 => ?_)
    ·
      refine v_lload 2 dX6_commonDivisor_51 rfl ?_
      refine v_lret dX6_commonDivisor_53 rfl ?_
      exact ⟨rfl, rfl⟩
    · exact absurd (by rw [e8, show k = 200 by omega]; decide) c20
  | succ n ih =>
    intro k x8 x4 x6 hk e8
    refine v_iload 0 dX6_commonDivisor_15 rfl ?_
    refine v_sipush (v := 200) dX6_commonDivisor_17 (by first | rfl | decide) ?_
    refine v_icmp_ge (tgt := 51) dX6_commonDivisor_20 (by decide) (fun c20 => ?_) (fun c20 => ?_)
    · exact absurd c20 (by rw [e8]; exact nI_ge (b := 200) (by omega) (by decide))
    ·
      refine v_lload 1 dX6_commonDivisor_23 rfl ?_
      refine v_lconst (v := 0) dX6_commonDivisor_25 (by first | rfl | decide) ?_
      refine v_lc_eq (tgt := 51) dX6_commonDivisor_26 dX6_commonDivisor_27 (by decide) (fun c26 => ?_) (fun c26 => ?_)
      ·
        refine v_lload 2 dX6_commonDivisor_51 rfl ?_
        refine v_lret dX6_commonDivisor_53 rfl ?_
        exact ⟨by simp only [gcdN, if_neg c20, if_pos (Int32.not_le.mp c20), if_pos c26], rfl⟩
      ·
        refine v_lload 2 dX6_commonDivisor_30 rfl ?_
        refine v_lload 1 dX6_commonDivisor_32 rfl ?_
        refine v_lrem dX6_commonDivisor_34 (c26) ?_
        refine v_lstore dX6_commonDivisor_35 (by decide) (fun z9 e_z9 => ?_)
        refine v_ls (ls' := [(9, .long z9), (8, .int x8), (6, .long x6), (4, .long x4), (0, .long a), (2, .long b)]) rfl ?_
        refine v_lload 2 dX6_commonDivisor_37 rfl ?_
        refine v_lstore dX6_commonDivisor_39 (by decide) (fun z4 e_z4 => ?_)
        refine v_ls (ls' := [(4, .long z4), (9, .long z9), (8, .int x8), (6, .long x6), (0, .long a), (2, .long b)]) rfl ?_
        refine v_lload 1 dX6_commonDivisor_41 rfl ?_
        refine v_lstore dX6_commonDivisor_43 (by decide) (fun z6 e_z6 => ?_)
        refine v_ls (ls' := [(6, .long z6), (4, .long z4), (9, .long z9), (8, .int x8), (0, .long a), (2, .long b)]) rfl ?_
        refine v_iinc (v := 1) 3 dX6_commonDivisor_45 rfl rfl (by decide) (fun z8 e_z8 => ?_)
        refine v_ls (ls' := [(8, .int z8), (6, .long z6), (4, .long z4), (9, .long z9), (0, .long a), (2, .long b)]) rfl ?_
        refine v_goto (tgt := 15) dX6_commonDivisor_48 (by decide) ?_
        refine v_pick [0, 1, 2, 4, 5] rfl ?_
        have hg : gcdN (n + 1) x4 x6 = gcdN n z4 z6 := by rw [e_z4, e_z6, e_z9]; simp only [gcdN, if_neg c26]
        rw [hg]
        exact ih (k + 1) z8 z4 z6 (by omega) (by rw [e_z8, e8]; exact nI_1 k)
        

set_option maxRecDepth 20000 in
set_option maxHeartbeats 4000000 in
theorem c_X6_commonDivisor {G : Cx} (d : Nat) {μ : Hp} {a b : Int64}  : Ct G (d + 1) 0 0 M_X6_commonDivisor [.long a, .long b] μ (Rt (some (.long (gcdO a b))) μ) := by
  refine Ct.ofV (by decide +kernel) (Nat.le_of_ble_eq_true rfl) ?_
  refine v_ls (ls' := [(0, .long a), (2, .long b)]) rfl ?_
  refine v_lload_n 0 dX6_commonDivisor_0 rfl rfl ?_
  refine v_callS (c_J9_abs_067f4 d ) cs_X6_413 dX6_commonDivisor_1 rfl rfl (Nat.le_of_ble_eq_true rfl) ?_
  refine rt_k ?_
  refine v_lstore dX6_commonDivisor_4 (by decide) (fun x4 e_x4 => ?_)
  refine v_ls (ls' := [(4, .long x4), (0, .long a), (2, .long b)]) rfl ?_
  refine v_lload_n 2 dX6_commonDivisor_6 rfl rfl ?_
  refine v_callS (c_J9_abs_067f4 d ) cs_X6_413 dX6_commonDivisor_7 rfl rfl (Nat.le_of_ble_eq_true rfl) ?_
  refine rt_k ?_
  refine v_lstore dX6_commonDivisor_10 (by decide) (fun x6 e_x6 => ?_)
  refine v_ls (ls' := [(6, .long x6), (4, .long x4), (0, .long a), (2, .long b)]) rfl ?_
  refine v_iconst (v := 0) dX6_commonDivisor_12 (by first | rfl | decide) ?_
  refine v_istore dX6_commonDivisor_13 (by decide) (fun x8 e_x8 => ?_)
  refine v_ls (ls' := [(8, .int x8), (6, .long x6), (4, .long x4), (0, .long a), (2, .long b)]) rfl ?_
  subst e_x4 e_x6
  exact gcd_loop (d + 1) 200 0 x8 _ _ (by omega) (by rw [e_x8]; rfl)

set_option maxRecDepth 20000 in
set_option maxHeartbeats 4000000 in
theorem c_X1_become {G : Cx} (d : Nat) {μ : Hp} {a : Nat} {L : LT} {i2 q2 u2 v2 : Int64} {e2 : Int32} (h0 : μ a = some (ligL L)) : Ct G (d) 0 0 M_X1_become [.ref a, .long i2, .long q2, .long u2, .long v2, .int e2] μ (Rt none (up μ a (ligL (i2, q2, u2, v2, e2)))) := by
  refine Ct.ofV (by decide +kernel) (Nat.le_of_ble_eq_true rfl) ?_
  refine v_ls (ls' := [(0, .ref a), (1, .long i2), (3, .long q2), (5, .long u2), (7, .long v2), (9, .int e2)]) rfl ?_
  refine v_aload_n 0 dX1_become_0 rfl rfl ?_
  refine v_lload_n 1 dX1_become_1 rfl rfl ?_
  refine v_put fp_X1_9 dX1_become_2 h0 (Nat.le_of_ble_eq_true rfl) (by first | rfl | decide) (by first | rfl | decide) ?_
  refine v_aload_n 0 dX1_become_5 rfl rfl ?_
  refine v_lload_n 2 dX1_become_6 rfl rfl ?_
  refine v_put fp_X1_15 dX1_become_7 (up_s _ _ _) (Nat.le_of_ble_eq_true rfl) (by first | rfl | decide) (by first | rfl | decide) ?_
  refine v_hp (up_up _ _ _ _) ?_
  refine v_aload_n 0 dX1_become_10 rfl rfl ?_
  refine v_lload 3 dX1_become_11 rfl ?_
  refine v_put fp_X1_18 dX1_become_13 (up_s _ _ _) (Nat.le_of_ble_eq_true rfl) (by first | rfl | decide) (by first | rfl | decide) ?_
  refine v_hp (up_up _ _ _ _) ?_
  refine v_aload_n 0 dX1_become_16 rfl rfl ?_
  refine v_lload 4 dX1_become_17 rfl ?_
  refine v_put fp_X1_21 dX1_become_19 (up_s _ _ _) (Nat.le_of_ble_eq_true rfl) (by first | rfl | decide) (by first | rfl | decide) ?_
  refine v_hp (up_up _ _ _ _) ?_
  refine v_aload_n 0 dX1_become_22 rfl rfl ?_
  refine v_iload 5 dX1_become_23 rfl ?_
  refine v_put fp_X1_24 dX1_become_25 (up_s _ _ _) (Nat.le_of_ble_eq_true rfl) (by first | rfl | decide) (by first | rfl | decide) ?_
  refine v_hp (up_up _ _ _ _) ?_
  refine v_vret dX1_become_28 rfl ?_
  exact ⟨rfl, rfl⟩

set_option maxRecDepth 20000 in
set_option maxHeartbeats 4000000 in
theorem c_X1_becomeUnit {G : Cx} (d : Nat) {μ : Hp} {a : Nat} {L : LT} {c : Int32} (h0 : μ a = some (ligL L)) : Ct G (d + 1) 0 0 M_X1_becomeUnit [.ref a, .int c] μ (Rt none (up μ a (ligL (unitO c)))) := by
  refine Ct.ofV (by decide +kernel) (Nat.le_of_ble_eq_true rfl) ?_
  refine v_ls (ls' := [(0, .ref a), (1, .int c)]) rfl ?_
  refine v_aload_n 0 dX1_becomeUnit_0 rfl rfl ?_
  refine v_iload_n 1 dX1_becomeUnit_1 rfl rfl ?_
  refine v_if_ne (tgt := 9) dX1_becomeUnit_2 (by decide) (fun c2 => ?_) (fun c2 => ?_)
  ·
    refine v_lconst (v := 0) dX1_becomeUnit_9 (by first | rfl | decide) ?_
    refine v_iload_n 1 dX1_becomeUnit_10 rfl rfl ?_
    refine v_iconst (v := 1) dX1_becomeUnit_11 (by first | rfl | decide) ?_
    refine v_icmp_ne (tgt := 19) dX1_becomeUnit_12 (by decide) (fun c12 => ?_) (fun c12 => ?_)
    ·
      refine v_lconst (v := 0) dX1_becomeUnit_19 (by first | rfl | decide) ?_
      refine v_iload_n 1 dX1_becomeUnit_20 rfl rfl ?_
      refine v_iconst (v := 2) dX1_becomeUnit_21 (by first | rfl | decide) ?_
      refine v_icmp_ne (tgt := 29) dX1_becomeUnit_22 (by decide) (fun c22 => ?_) (fun c22 => ?_)
      ·
        refine v_lconst (v := 0) dX1_becomeUnit_29 (by first | rfl | decide) ?_
        refine v_iload_n 1 dX1_becomeUnit_30 rfl rfl ?_
        refine v_iconst (v := 3) dX1_becomeUnit_31 (by first | rfl | decide) ?_
        refine v_icmp_ne (tgt := 39) dX1_becomeUnit_32 (by decide) (fun c32 => ?_) (fun c32 => ?_)
        ·
          refine v_lconst (v := 0) dX1_becomeUnit_39 (by first | rfl | decide) ?_
          refine v_iconst (v := 0) dX1_becomeUnit_40 (by first | rfl | decide) ?_
          refine v_callV (c_X1_become d h0) cs_X1_28 dX1_becomeUnit_41 h0 rfl rfl (Nat.le_of_ble_eq_true rfl) ?_
          refine rt_k ?_
          refine v_vret dX1_becomeUnit_44 rfl ?_
          exact ⟨rfl, by simp only [unitO, if_neg c2, if_neg c12, if_neg c22, if_neg c32]⟩
        ·
          refine v_lconst (v := 1) dX1_becomeUnit_35 (by first | rfl | decide) ?_
          refine v_goto (tgt := 40) dX1_becomeUnit_36 (by decide) ?_
          refine v_iconst (v := 0) dX1_becomeUnit_40 (by first | rfl | decide) ?_
          refine v_callV (c_X1_become d h0) cs_X1_28 dX1_becomeUnit_41 h0 rfl rfl (Nat.le_of_ble_eq_true rfl) ?_
          refine rt_k ?_
          refine v_vret dX1_becomeUnit_44 rfl ?_
          exact ⟨rfl, by simp only [unitO, if_neg c2, if_neg c12, if_neg c22, if_pos c32]⟩
      ·
        refine v_lconst (v := 1) dX1_becomeUnit_25 (by first | rfl | decide) ?_
        refine v_goto (tgt := 30) dX1_becomeUnit_26 (by decide) ?_
        refine v_iload_n 1 dX1_becomeUnit_30 rfl rfl ?_
        refine v_iconst (v := 3) dX1_becomeUnit_31 (by first | rfl | decide) ?_
        refine v_icmp_ne (tgt := 39) dX1_becomeUnit_32 (by decide) (fun c32 => ?_) (fun c32 => ?_)
        ·
          refine v_lconst (v := 0) dX1_becomeUnit_39 (by first | rfl | decide) ?_
          refine v_iconst (v := 0) dX1_becomeUnit_40 (by first | rfl | decide) ?_
          refine v_callV (c_X1_become d h0) cs_X1_28 dX1_becomeUnit_41 h0 rfl rfl (Nat.le_of_ble_eq_true rfl) ?_
          refine rt_k ?_
          refine v_vret dX1_becomeUnit_44 rfl ?_
          exact ⟨rfl, by simp only [unitO, if_neg c2, if_neg c12, if_pos c22, if_neg c32]⟩
        ·
          refine v_lconst (v := 1) dX1_becomeUnit_35 (by first | rfl | decide) ?_
          refine v_goto (tgt := 40) dX1_becomeUnit_36 (by decide) ?_
          refine v_iconst (v := 0) dX1_becomeUnit_40 (by first | rfl | decide) ?_
          refine v_callV (c_X1_become d h0) cs_X1_28 dX1_becomeUnit_41 h0 rfl rfl (Nat.le_of_ble_eq_true rfl) ?_
          refine rt_k ?_
          refine v_vret dX1_becomeUnit_44 rfl ?_
          exact ⟨rfl, by simp only [unitO, if_neg c2, if_neg c12, if_pos c22, if_pos c32]⟩
    ·
      refine v_lconst (v := 1) dX1_becomeUnit_15 (by first | rfl | decide) ?_
      refine v_goto (tgt := 20) dX1_becomeUnit_16 (by decide) ?_
      refine v_iload_n 1 dX1_becomeUnit_20 rfl rfl ?_
      refine v_iconst (v := 2) dX1_becomeUnit_21 (by first | rfl | decide) ?_
      refine v_icmp_ne (tgt := 29) dX1_becomeUnit_22 (by decide) (fun c22 => ?_) (fun c22 => ?_)
      ·
        refine v_lconst (v := 0) dX1_becomeUnit_29 (by first | rfl | decide) ?_
        refine v_iload_n 1 dX1_becomeUnit_30 rfl rfl ?_
        refine v_iconst (v := 3) dX1_becomeUnit_31 (by first | rfl | decide) ?_
        refine v_icmp_ne (tgt := 39) dX1_becomeUnit_32 (by decide) (fun c32 => ?_) (fun c32 => ?_)
        ·
          refine v_lconst (v := 0) dX1_becomeUnit_39 (by first | rfl | decide) ?_
          refine v_iconst (v := 0) dX1_becomeUnit_40 (by first | rfl | decide) ?_
          refine v_callV (c_X1_become d h0) cs_X1_28 dX1_becomeUnit_41 h0 rfl rfl (Nat.le_of_ble_eq_true rfl) ?_
          refine rt_k ?_
          refine v_vret dX1_becomeUnit_44 rfl ?_
          exact ⟨rfl, by simp only [unitO, if_neg c2, if_pos c12, if_neg c22, if_neg c32]⟩
        ·
          refine v_lconst (v := 1) dX1_becomeUnit_35 (by first | rfl | decide) ?_
          refine v_goto (tgt := 40) dX1_becomeUnit_36 (by decide) ?_
          refine v_iconst (v := 0) dX1_becomeUnit_40 (by first | rfl | decide) ?_
          refine v_callV (c_X1_become d h0) cs_X1_28 dX1_becomeUnit_41 h0 rfl rfl (Nat.le_of_ble_eq_true rfl) ?_
          refine rt_k ?_
          refine v_vret dX1_becomeUnit_44 rfl ?_
          exact ⟨rfl, by simp only [unitO, if_neg c2, if_pos c12, if_neg c22, if_pos c32]⟩
      ·
        refine v_lconst (v := 1) dX1_becomeUnit_25 (by first | rfl | decide) ?_
        refine v_goto (tgt := 30) dX1_becomeUnit_26 (by decide) ?_
        refine v_iload_n 1 dX1_becomeUnit_30 rfl rfl ?_
        refine v_iconst (v := 3) dX1_becomeUnit_31 (by first | rfl | decide) ?_
        refine v_icmp_ne (tgt := 39) dX1_becomeUnit_32 (by decide) (fun c32 => ?_) (fun c32 => ?_)
        ·
          refine v_lconst (v := 0) dX1_becomeUnit_39 (by first | rfl | decide) ?_
          refine v_iconst (v := 0) dX1_becomeUnit_40 (by first | rfl | decide) ?_
          refine v_callV (c_X1_become d h0) cs_X1_28 dX1_becomeUnit_41 h0 rfl rfl (Nat.le_of_ble_eq_true rfl) ?_
          refine rt_k ?_
          refine v_vret dX1_becomeUnit_44 rfl ?_
          exact ⟨rfl, by simp only [unitO, if_neg c2, if_pos c12, if_pos c22, if_neg c32]⟩
        ·
          refine v_lconst (v := 1) dX1_becomeUnit_35 (by first | rfl | decide) ?_
          refine v_goto (tgt := 40) dX1_becomeUnit_36 (by decide) ?_
          refine v_iconst (v := 0) dX1_becomeUnit_40 (by first | rfl | decide) ?_
          refine v_callV (c_X1_become d h0) cs_X1_28 dX1_becomeUnit_41 h0 rfl rfl (Nat.le_of_ble_eq_true rfl) ?_
          refine rt_k ?_
          refine v_vret dX1_becomeUnit_44 rfl ?_
          exact ⟨rfl, by simp only [unitO, if_neg c2, if_pos c12, if_pos c22, if_pos c32]⟩
  ·
    refine v_lconst (v := 1) dX1_becomeUnit_5 (by first | rfl | decide) ?_
    refine v_goto (tgt := 10) dX1_becomeUnit_6 (by decide) ?_
    refine v_iload_n 1 dX1_becomeUnit_10 rfl rfl ?_
    refine v_iconst (v := 1) dX1_becomeUnit_11 (by first | rfl | decide) ?_
    refine v_icmp_ne (tgt := 19) dX1_becomeUnit_12 (by decide) (fun c12 => ?_) (fun c12 => ?_)
    ·
      refine v_lconst (v := 0) dX1_becomeUnit_19 (by first | rfl | decide) ?_
      refine v_iload_n 1 dX1_becomeUnit_20 rfl rfl ?_
      refine v_iconst (v := 2) dX1_becomeUnit_21 (by first | rfl | decide) ?_
      refine v_icmp_ne (tgt := 29) dX1_becomeUnit_22 (by decide) (fun c22 => ?_) (fun c22 => ?_)
      ·
        refine v_lconst (v := 0) dX1_becomeUnit_29 (by first | rfl | decide) ?_
        refine v_iload_n 1 dX1_becomeUnit_30 rfl rfl ?_
        refine v_iconst (v := 3) dX1_becomeUnit_31 (by first | rfl | decide) ?_
        refine v_icmp_ne (tgt := 39) dX1_becomeUnit_32 (by decide) (fun c32 => ?_) (fun c32 => ?_)
        ·
          refine v_lconst (v := 0) dX1_becomeUnit_39 (by first | rfl | decide) ?_
          refine v_iconst (v := 0) dX1_becomeUnit_40 (by first | rfl | decide) ?_
          refine v_callV (c_X1_become d h0) cs_X1_28 dX1_becomeUnit_41 h0 rfl rfl (Nat.le_of_ble_eq_true rfl) ?_
          refine rt_k ?_
          refine v_vret dX1_becomeUnit_44 rfl ?_
          exact ⟨rfl, by simp only [unitO, if_pos c2, if_neg c12, if_neg c22, if_neg c32]⟩
        ·
          refine v_lconst (v := 1) dX1_becomeUnit_35 (by first | rfl | decide) ?_
          refine v_goto (tgt := 40) dX1_becomeUnit_36 (by decide) ?_
          refine v_iconst (v := 0) dX1_becomeUnit_40 (by first | rfl | decide) ?_
          refine v_callV (c_X1_become d h0) cs_X1_28 dX1_becomeUnit_41 h0 rfl rfl (Nat.le_of_ble_eq_true rfl) ?_
          refine rt_k ?_
          refine v_vret dX1_becomeUnit_44 rfl ?_
          exact ⟨rfl, by simp only [unitO, if_pos c2, if_neg c12, if_neg c22, if_pos c32]⟩
      ·
        refine v_lconst (v := 1) dX1_becomeUnit_25 (by first | rfl | decide) ?_
        refine v_goto (tgt := 30) dX1_becomeUnit_26 (by decide) ?_
        refine v_iload_n 1 dX1_becomeUnit_30 rfl rfl ?_
        refine v_iconst (v := 3) dX1_becomeUnit_31 (by first | rfl | decide) ?_
        refine v_icmp_ne (tgt := 39) dX1_becomeUnit_32 (by decide) (fun c32 => ?_) (fun c32 => ?_)
        ·
          refine v_lconst (v := 0) dX1_becomeUnit_39 (by first | rfl | decide) ?_
          refine v_iconst (v := 0) dX1_becomeUnit_40 (by first | rfl | decide) ?_
          refine v_callV (c_X1_become d h0) cs_X1_28 dX1_becomeUnit_41 h0 rfl rfl (Nat.le_of_ble_eq_true rfl) ?_
          refine rt_k ?_
          refine v_vret dX1_becomeUnit_44 rfl ?_
          exact ⟨rfl, by simp only [unitO, if_pos c2, if_neg c12, if_pos c22, if_neg c32]⟩
        ·
          refine v_lconst (v := 1) dX1_becomeUnit_35 (by first | rfl | decide) ?_
          refine v_goto (tgt := 40) dX1_becomeUnit_36 (by decide) ?_
          refine v_iconst (v := 0) dX1_becomeUnit_40 (by first | rfl | decide) ?_
          refine v_callV (c_X1_become d h0) cs_X1_28 dX1_becomeUnit_41 h0 rfl rfl (Nat.le_of_ble_eq_true rfl) ?_
          refine rt_k ?_
          refine v_vret dX1_becomeUnit_44 rfl ?_
          exact ⟨rfl, by simp only [unitO, if_pos c2, if_neg c12, if_pos c22, if_pos c32]⟩
    ·
      refine v_lconst (v := 1) dX1_becomeUnit_15 (by first | rfl | decide) ?_
      refine v_goto (tgt := 20) dX1_becomeUnit_16 (by decide) ?_
      refine v_iload_n 1 dX1_becomeUnit_20 rfl rfl ?_
      refine v_iconst (v := 2) dX1_becomeUnit_21 (by first | rfl | decide) ?_
      refine v_icmp_ne (tgt := 29) dX1_becomeUnit_22 (by decide) (fun c22 => ?_) (fun c22 => ?_)
      ·
        refine v_lconst (v := 0) dX1_becomeUnit_29 (by first | rfl | decide) ?_
        refine v_iload_n 1 dX1_becomeUnit_30 rfl rfl ?_
        refine v_iconst (v := 3) dX1_becomeUnit_31 (by first | rfl | decide) ?_
        refine v_icmp_ne (tgt := 39) dX1_becomeUnit_32 (by decide) (fun c32 => ?_) (fun c32 => ?_)
        ·
          refine v_lconst (v := 0) dX1_becomeUnit_39 (by first | rfl | decide) ?_
          refine v_iconst (v := 0) dX1_becomeUnit_40 (by first | rfl | decide) ?_
          refine v_callV (c_X1_become d h0) cs_X1_28 dX1_becomeUnit_41 h0 rfl rfl (Nat.le_of_ble_eq_true rfl) ?_
          refine rt_k ?_
          refine v_vret dX1_becomeUnit_44 rfl ?_
          exact ⟨rfl, by simp only [unitO, if_pos c2, if_pos c12, if_neg c22, if_neg c32]⟩
        ·
          refine v_lconst (v := 1) dX1_becomeUnit_35 (by first | rfl | decide) ?_
          refine v_goto (tgt := 40) dX1_becomeUnit_36 (by decide) ?_
          refine v_iconst (v := 0) dX1_becomeUnit_40 (by first | rfl | decide) ?_
          refine v_callV (c_X1_become d h0) cs_X1_28 dX1_becomeUnit_41 h0 rfl rfl (Nat.le_of_ble_eq_true rfl) ?_
          refine rt_k ?_
          refine v_vret dX1_becomeUnit_44 rfl ?_
          exact ⟨rfl, by simp only [unitO, if_pos c2, if_pos c12, if_neg c22, if_pos c32]⟩
      ·
        refine v_lconst (v := 1) dX1_becomeUnit_25 (by first | rfl | decide) ?_
        refine v_goto (tgt := 30) dX1_becomeUnit_26 (by decide) ?_
        refine v_iload_n 1 dX1_becomeUnit_30 rfl rfl ?_
        refine v_iconst (v := 3) dX1_becomeUnit_31 (by first | rfl | decide) ?_
        refine v_icmp_ne (tgt := 39) dX1_becomeUnit_32 (by decide) (fun c32 => ?_) (fun c32 => ?_)
        ·
          refine v_lconst (v := 0) dX1_becomeUnit_39 (by first | rfl | decide) ?_
          refine v_iconst (v := 0) dX1_becomeUnit_40 (by first | rfl | decide) ?_
          refine v_callV (c_X1_become d h0) cs_X1_28 dX1_becomeUnit_41 h0 rfl rfl (Nat.le_of_ble_eq_true rfl) ?_
          refine rt_k ?_
          refine v_vret dX1_becomeUnit_44 rfl ?_
          exact ⟨rfl, by simp only [unitO, if_pos c2, if_pos c12, if_pos c22, if_neg c32]⟩
        ·
          refine v_lconst (v := 1) dX1_becomeUnit_35 (by first | rfl | decide) ?_
          refine v_goto (tgt := 40) dX1_becomeUnit_36 (by decide) ?_
          refine v_iconst (v := 0) dX1_becomeUnit_40 (by first | rfl | decide) ?_
          refine v_callV (c_X1_become d h0) cs_X1_28 dX1_becomeUnit_41 h0 rfl rfl (Nat.le_of_ble_eq_true rfl) ?_
          refine rt_k ?_
          refine v_vret dX1_becomeUnit_44 rfl ?_
          exact ⟨rfl, by simp only [unitO, if_pos c2, if_pos c12, if_pos c22, if_pos c32]⟩

set_option maxRecDepth 20000 in
set_option maxHeartbeats 4000000 in
theorem c_X1_takeFrom {G : Cx} (d : Nat) {μ : Hp} {a b : Nat} {L K : LT} (h0 : μ a = some (ligL L)) (h1 : μ b = some (ligL K)) : Ct G (d + 1) 0 0 M_X1_takeFrom [.ref a, .ref b] μ (Rt none (up μ a (ligL K))) := by
  refine Ct.ofV (by decide +kernel) (Nat.le_of_ble_eq_true rfl) ?_
  refine v_ls (ls' := [(0, .ref a), (1, .ref b)]) rfl ?_
  refine v_aload_n 0 dX1_takeFrom_0 rfl rfl ?_
  refine v_aload_n 1 dX1_takeFrom_1 rfl rfl ?_
  refine v_get fl_X1_9 dX1_takeFrom_2 h1 rfl ?_
  refine v_aload_n 1 dX1_takeFrom_5 rfl rfl ?_
  refine v_get fl_X1_15 dX1_takeFrom_6 h1 rfl ?_
  refine v_aload_n 1 dX1_takeFrom_9 rfl rfl ?_
  refine v_get fl_X1_18 dX1_takeFrom_10 h1 rfl ?_
  refine v_aload_n 1 dX1_takeFrom_13 rfl rfl ?_
  refine v_get fl_X1_21 dX1_takeFrom_14 h1 rfl ?_
  refine v_aload_n 1 dX1_takeFrom_17 rfl rfl ?_
  refine v_get fl_X1_24 dX1_takeFrom_18 h1 rfl ?_
  refine v_callV (c_X1_become d h0) cs_X1_28 dX1_takeFrom_21 h0 rfl rfl (Nat.le_of_ble_eq_true rfl) ?_
  refine rt_k ?_
  refine v_vret dX1_takeFrom_24 rfl ?_
  exact ⟨rfl, rfl⟩

set_option maxRecDepth 20000 in
set_option maxHeartbeats 4000000 in
theorem c_X1_part {G : Cx} (d : Nat) {μ : Hp} {a : Nat} {L : LT} {k : Int32} (h0 : μ a = some (ligL L)) : Ct G (d) 0 0 M_X1_part [.ref a, .int k] μ (Rt (some (.long (partO L k))) μ) := by
  refine Ct.ofV (by decide +kernel) (Nat.le_of_ble_eq_true rfl) ?_
  refine v_ls (ls' := [(0, .ref a), (1, .int k)]) rfl ?_
  refine v_iload_n 1 dX1_part_0 rfl rfl ?_
  by_cases cl1 : (k).toInt < 0
  · refine v_tableOut (tgt := 52) dX1_part_1 (Or.inl cl1) (by decide) ?_
    have cs1_0 : ¬ k = 0 := sw_lo cl1 (by decide)
    have cs1_1 : ¬ k = 1 := sw_lo cl1 (by decide)
    have cs1_2 : ¬ k = 2 := sw_lo cl1 (by decide)
    have cs1_3 : ¬ k = 3 := sw_lo cl1 (by decide)
    refine v_aload_n 0 dX1_part_52 rfl rfl ?_
    refine v_get fl_X1_24 dX1_part_53 h0 rfl ?_
    refine v_i2l dX1_part_56 ?_
    refine v_lret dX1_part_57 rfl ?_
    exact ⟨by simp only [partO, if_neg cs1_0, if_neg cs1_1, if_neg cs1_2, if_neg cs1_3], rfl⟩
  by_cases ch1 : 3 < (k).toInt
  · refine v_tableOut (tgt := 52) dX1_part_1 (Or.inr ch1) (by decide) ?_
    have cs1_0 : ¬ k = 0 := sw_hi ch1 (by decide)
    have cs1_1 : ¬ k = 1 := sw_hi ch1 (by decide)
    have cs1_2 : ¬ k = 2 := sw_hi ch1 (by decide)
    have cs1_3 : ¬ k = 3 := sw_hi ch1 (by decide)
    refine v_aload_n 0 dX1_part_52 rfl rfl ?_
    refine v_get fl_X1_24 dX1_part_53 h0 rfl ?_
    refine v_i2l dX1_part_56 ?_
    refine v_lret dX1_part_57 rfl ?_
    exact ⟨by simp only [partO, if_neg cs1_0, if_neg cs1_1, if_neg cs1_2, if_neg cs1_3], rfl⟩
  by_cases cs1_0 : k = 0
  · refine v_tableIn (off := 31) (tgt := 32) dX1_part_1 cl1 ch1 (by rw [cs1_0]; rfl) (by decide) ?_
    refine v_aload_n 0 dX1_part_32 rfl rfl ?_
    refine v_get fl_X1_9 dX1_part_33 h0 rfl ?_
    refine v_lret dX1_part_36 rfl ?_
    exact ⟨by simp only [partO, if_pos cs1_0], rfl⟩
  by_cases cs1_1 : k = 1
  · refine v_tableIn (off := 36) (tgt := 37) dX1_part_1 cl1 ch1 (by rw [cs1_1]; rfl) (by decide) ?_
    refine v_aload_n 0 dX1_part_37 rfl rfl ?_
    refine v_get fl_X1_15 dX1_part_38 h0 rfl ?_
    refine v_lret dX1_part_41 rfl ?_
    exact ⟨by simp only [partO, if_neg cs1_0, if_pos cs1_1], rfl⟩
  by_cases cs1_2 : k = 2
  · refine v_tableIn (off := 41) (tgt := 42) dX1_part_1 cl1 ch1 (by rw [cs1_2]; rfl) (by decide) ?_
    refine v_aload_n 0 dX1_part_42 rfl rfl ?_
    refine v_get fl_X1_18 dX1_part_43 h0 rfl ?_
    refine v_lret dX1_part_46 rfl ?_
    exact ⟨by simp only [partO, if_neg cs1_0, if_neg cs1_1, if_pos cs1_2], rfl⟩
  by_cases cs1_3 : k = 3
  · refine v_tableIn (off := 46) (tgt := 47) dX1_part_1 cl1 ch1 (by rw [cs1_3]; rfl) (by decide) ?_
    refine v_aload_n 0 dX1_part_47 rfl rfl ?_
    refine v_get fl_X1_21 dX1_part_48 h0 rfl ?_
    refine v_lret dX1_part_51 rfl ?_
    exact ⟨by simp only [partO, if_neg cs1_0, if_neg cs1_1, if_neg cs1_2, if_pos cs1_3], rfl⟩
  exfalso
  have q1_0 := lv_neT (a := 0) cs1_0 (by decide)
  have q1_1 := lv_neT (a := 1) cs1_1 (by decide)
  have q1_2 := lv_neT (a := 2) cs1_2 (by decide)
  have q1_3 := lv_neT (a := 3) cs1_3 (by decide)
  omega

set_option maxRecDepth 20000 in
set_option maxHeartbeats 4000000 in
theorem c_X1_isDark {G : Cx} (d : Nat) {μ : Hp} {a : Nat} {L : LT} (h0 : μ a = some (ligL L)) : Ct G (d) 0 0 M_X1_isDark [.ref a] μ (Rt (some (.int (if L.1 = 0 then 1 else 0))) μ) := by
  refine Ct.ofV (by decide +kernel) (Nat.le_of_ble_eq_true rfl) ?_
  refine v_ls (ls' := [(0, .ref a)]) rfl ?_
  refine v_aload_n 0 dX1_isDark_0 rfl rfl ?_
  refine v_get fl_X1_9 dX1_isDark_1 h0 rfl ?_
  refine v_lconst (v := 0) dX1_isDark_4 (by first | rfl | decide) ?_
  refine v_lc_ne (tgt := 13) dX1_isDark_5 dX1_isDark_6 (by decide) (fun c5 => ?_) (fun c5 => ?_)
  ·
    refine v_iconst (v := 0) dX1_isDark_13 (by first | rfl | decide) ?_
    refine v_iret dX1_isDark_14 rfl (by first | rfl | decide | exact nar_b (by first | assumption | rfl)) ?_
    exact ⟨by simp only [maxO, absO, cmpO, alO, acO, wiO, ovrO, if_neg c5], rfl⟩
  ·
    refine v_iconst (v := 1) dX1_isDark_9 (by first | rfl | decide) ?_
    refine v_goto (tgt := 14) dX1_isDark_10 (by decide) ?_
    refine v_iret dX1_isDark_14 rfl (by first | rfl | decide | exact nar_b (by first | assumption | rfl)) ?_
    exact ⟨by simp only [maxO, absO, cmpO, alO, acO, wiO, ovrO, if_pos c5], rfl⟩

set_option maxRecDepth 20000 in
set_option maxHeartbeats 4000000 in
theorem c_X1_isLike {G : Cx} (d : Nat) {μ : Hp} {a b : Nat} {L K : LT} (h0 : μ a = some (ligL L)) (h1 : μ b = some (ligL K)) : Ct G (d) 0 0 M_X1_isLike [.ref a, .ref b] μ (Rt (some (.int (likeO L K))) μ) := by
  refine Ct.ofV (by decide +kernel) (Nat.le_of_ble_eq_true rfl) ?_
  refine v_ls (ls' := [(0, .ref a), (1, .ref b)]) rfl ?_
  refine v_aload_n 0 dX1_isLike_0 rfl rfl ?_
  refine v_get fl_X1_9 dX1_isLike_1 h0 rfl ?_
  refine v_aload_n 1 dX1_isLike_4 rfl rfl ?_
  refine v_get fl_X1_9 dX1_isLike_5 h1 rfl ?_
  refine v_lc_ne (tgt := 63) dX1_isLike_8 dX1_isLike_9 (by decide) (fun c8 => ?_) (fun c8 => ?_)
  ·
    refine v_iconst (v := 0) dX1_isLike_63 (by first | rfl | decide) ?_
    refine v_iret dX1_isLike_64 rfl (by first | rfl | decide | exact nar_b (by first | assumption | rfl)) ?_
    exact ⟨by simp only [likeO, if_neg c8], rfl⟩
  ·
    refine v_aload_n 0 dX1_isLike_12 rfl rfl ?_
    refine v_get fl_X1_15 dX1_isLike_13 h0 rfl ?_
    refine v_aload_n 1 dX1_isLike_16 rfl rfl ?_
    refine v_get fl_X1_15 dX1_isLike_17 h1 rfl ?_
    refine v_lc_ne (tgt := 63) dX1_isLike_20 dX1_isLike_21 (by decide) (fun c20 => ?_) (fun c20 => ?_)
    ·
      refine v_iconst (v := 0) dX1_isLike_63 (by first | rfl | decide) ?_
      refine v_iret dX1_isLike_64 rfl (by first | rfl | decide | exact nar_b (by first | assumption | rfl)) ?_
      exact ⟨by simp only [likeO, if_pos c8, if_neg c20], rfl⟩
    ·
      refine v_aload_n 0 dX1_isLike_24 rfl rfl ?_
      refine v_get fl_X1_18 dX1_isLike_25 h0 rfl ?_
      refine v_aload_n 1 dX1_isLike_28 rfl rfl ?_
      refine v_get fl_X1_18 dX1_isLike_29 h1 rfl ?_
      refine v_lc_ne (tgt := 63) dX1_isLike_32 dX1_isLike_33 (by decide) (fun c32 => ?_) (fun c32 => ?_)
      ·
        refine v_iconst (v := 0) dX1_isLike_63 (by first | rfl | decide) ?_
        refine v_iret dX1_isLike_64 rfl (by first | rfl | decide | exact nar_b (by first | assumption | rfl)) ?_
        exact ⟨by simp only [likeO, if_pos c8, if_pos c20, if_neg c32], rfl⟩
      ·
        refine v_aload_n 0 dX1_isLike_36 rfl rfl ?_
        refine v_get fl_X1_21 dX1_isLike_37 h0 rfl ?_
        refine v_aload_n 1 dX1_isLike_40 rfl rfl ?_
        refine v_get fl_X1_21 dX1_isLike_41 h1 rfl ?_
        refine v_lc_ne (tgt := 63) dX1_isLike_44 dX1_isLike_45 (by decide) (fun c44 => ?_) (fun c44 => ?_)
        ·
          refine v_iconst (v := 0) dX1_isLike_63 (by first | rfl | decide) ?_
          refine v_iret dX1_isLike_64 rfl (by first | rfl | decide | exact nar_b (by first | assumption | rfl)) ?_
          exact ⟨by simp only [likeO, if_pos c8, if_pos c20, if_pos c32, if_neg c44], rfl⟩
        ·
          refine v_aload_n 0 dX1_isLike_48 rfl rfl ?_
          refine v_get fl_X1_24 dX1_isLike_49 h0 rfl ?_
          refine v_aload_n 1 dX1_isLike_52 rfl rfl ?_
          refine v_get fl_X1_24 dX1_isLike_53 h1 rfl ?_
          refine v_icmp_ne (tgt := 63) dX1_isLike_56 (by decide) (fun c56 => ?_) (fun c56 => ?_)
          ·
            refine v_iconst (v := 0) dX1_isLike_63 (by first | rfl | decide) ?_
            refine v_iret dX1_isLike_64 rfl (by first | rfl | decide | exact nar_b (by first | assumption | rfl)) ?_
            exact ⟨by simp only [likeO, if_pos c8, if_pos c20, if_pos c32, if_pos c44, if_neg c56], rfl⟩
          ·
            refine v_iconst (v := 1) dX1_isLike_59 (by first | rfl | decide) ?_
            refine v_goto (tgt := 64) dX1_isLike_60 (by decide) ?_
            refine v_iret dX1_isLike_64 rfl (by first | rfl | decide | exact nar_b (by first | assumption | rfl)) ?_
            exact ⟨by simp only [likeO, if_pos c8, if_pos c20, if_pos c32, if_pos c44, if_pos c56], rfl⟩

set_option maxRecDepth 20000 in
set_option maxHeartbeats 4000000 in
theorem c_X1_isWithin {G : Cx} (d : Nat) {μ : Hp} {a : Nat} {L : LT} {p : Int64} (h0 : μ a = some (ligL L)) : Ct G (d) 0 0 M_X1_isWithin [.ref a, .long p] μ (Rt (some (.int (wiO L.1 p))) μ) := by
  refine Ct.ofV (by decide +kernel) (Nat.le_of_ble_eq_true rfl) ?_
  refine v_ls (ls' := [(0, .ref a), (1, .long p)]) rfl ?_
  refine v_lload_n 1 dX1_isWithin_0 rfl rfl ?_
  refine v_aload_n 0 dX1_isWithin_1 rfl rfl ?_
  refine v_get fl_X1_9 dX1_isWithin_2 h0 rfl ?_
  refine v_lneg dX1_isWithin_5 ?_
  refine v_lc_lt (tgt := 23) dX1_isWithin_6 dX1_isWithin_7 (by decide) (fun c6 => ?_) (fun c6 => ?_)
  ·
    refine v_iconst (v := 0) dX1_isWithin_23 (by first | rfl | decide) ?_
    refine v_iret dX1_isWithin_24 rfl (by first | rfl | decide | exact nar_b (by first | assumption | rfl)) ?_
    exact ⟨by simp only [maxO, absO, cmpO, alO, acO, wiO, ovrO, if_pos c6, if_neg (Int64.not_le.mpr c6)], rfl⟩
  ·
    refine v_lload_n 1 dX1_isWithin_10 rfl rfl ?_
    refine v_aload_n 0 dX1_isWithin_11 rfl rfl ?_
    refine v_get fl_X1_9 dX1_isWithin_12 h0 rfl ?_
    refine v_lc_gt (tgt := 23) dX1_isWithin_15 dX1_isWithin_16 (by decide) (fun c15 => ?_) (fun c15 => ?_)
    ·
      refine v_iconst (v := 0) dX1_isWithin_23 (by first | rfl | decide) ?_
      refine v_iret dX1_isWithin_24 rfl (by first | rfl | decide | exact nar_b (by first | assumption | rfl)) ?_
      exact ⟨by simp only [maxO, absO, cmpO, alO, acO, wiO, ovrO, if_neg c6, if_pos (Int64.not_lt.mp c6), if_pos c15, if_neg (Int64.not_le.mpr c15)], rfl⟩
    ·
      refine v_iconst (v := 1) dX1_isWithin_19 (by first | rfl | decide) ?_
      refine v_goto (tgt := 24) dX1_isWithin_20 (by decide) ?_
      refine v_iret dX1_isWithin_24 rfl (by first | rfl | decide | exact nar_b (by first | assumption | rfl)) ?_
      exact ⟨by simp only [maxO, absO, cmpO, alO, acO, wiO, ovrO, if_neg c6, if_pos (Int64.not_lt.mp c6), if_neg c15, if_pos (Int64.not_lt.mp c15)], rfl⟩

set_option maxRecDepth 20000 in
set_option maxHeartbeats 4000000 in
theorem c_X1_sumOfSquares {G : Cx} (d : Nat) {μ : Hp} {a : Nat} {L : LT} (h0 : μ a = some (ligL L)) : Ct G (d) 0 0 M_X1_sumOfSquares [.ref a] μ (Rt (some (.long (sqO L))) μ) := by
  refine Ct.ofV (by decide +kernel) (Nat.le_of_ble_eq_true rfl) ?_
  refine v_ls (ls' := [(0, .ref a)]) rfl ?_
  refine v_aload_n 0 dX1_sumOfSquares_0 rfl rfl ?_
  refine v_get fl_X1_15 dX1_sumOfSquares_1 h0 rfl ?_
  refine v_aload_n 0 dX1_sumOfSquares_4 rfl rfl ?_
  refine v_get fl_X1_15 dX1_sumOfSquares_5 h0 rfl ?_
  refine v_lmul dX1_sumOfSquares_8 ?_
  refine v_aload_n 0 dX1_sumOfSquares_9 rfl rfl ?_
  refine v_get fl_X1_18 dX1_sumOfSquares_10 h0 rfl ?_
  refine v_aload_n 0 dX1_sumOfSquares_13 rfl rfl ?_
  refine v_get fl_X1_18 dX1_sumOfSquares_14 h0 rfl ?_
  refine v_lmul dX1_sumOfSquares_17 ?_
  refine v_ladd dX1_sumOfSquares_18 ?_
  refine v_aload_n 0 dX1_sumOfSquares_19 rfl rfl ?_
  refine v_get fl_X1_21 dX1_sumOfSquares_20 h0 rfl ?_
  refine v_aload_n 0 dX1_sumOfSquares_23 rfl rfl ?_
  refine v_get fl_X1_21 dX1_sumOfSquares_24 h0 rfl ?_
  refine v_lmul dX1_sumOfSquares_27 ?_
  refine v_ladd dX1_sumOfSquares_28 ?_
  refine v_lret dX1_sumOfSquares_29 rfl ?_
  exact ⟨rfl, rfl⟩

set_option maxRecDepth 20000 in
set_option maxHeartbeats 4000000 in
theorem c_X1_mayBe {G : Cx} (d : Nat) {μ : Hp} {a : Nat} {L : LT} (h0 : μ a = some (ligL L)) : Ct G (d + 1) 0 0 M_X1_mayBe [.ref a] μ (Rt (some (.int (mayO L))) μ) := by
  refine Ct.ofV (by decide +kernel) (Nat.le_of_ble_eq_true rfl) ?_
  refine v_ls (ls' := [(0, .ref a)]) rfl ?_
  refine v_aload_n 0 dX1_mayBe_0 rfl rfl ?_
  refine v_get fl_X1_9 dX1_mayBe_1 h0 rfl ?_
  refine v_lconst (v := 0) dX1_mayBe_4 (by first | rfl | decide) ?_
  refine v_lc_lt (tgt := 63) dX1_mayBe_5 dX1_mayBe_6 (by decide) (fun c5 => ?_) (fun c5 => ?_)
  ·
    refine v_iconst (v := 0) dX1_mayBe_63 (by first | rfl | decide) ?_
    refine v_iret dX1_mayBe_64 rfl (by first | rfl | decide | exact nar_b (by first | assumption | rfl)) ?_
    exact ⟨by simp only [mayO, if_pos c5, if_neg (Int64.not_le.mpr c5)], rfl⟩
  ·
    refine v_aload_n 0 dX1_mayBe_9 rfl rfl ?_
    refine v_aload_n 0 dX1_mayBe_10 rfl rfl ?_
    refine v_get fl_X1_15 dX1_mayBe_11 h0 rfl ?_
    refine v_callV (c_X1_isWithin d h0) cs_X1_32 dX1_mayBe_14 h0 rfl rfl (Nat.le_of_ble_eq_true rfl) ?_
    refine rt_k ?_
    refine v_if_eq (tgt := 63) dX1_mayBe_17 (by decide) (fun c17 => ?_) (fun c17 => ?_)
    ·
      refine v_iconst (v := 0) dX1_mayBe_63 (by first | rfl | decide) ?_
      refine v_iret dX1_mayBe_64 rfl (by first | rfl | decide | exact nar_b (by first | assumption | rfl)) ?_
      exact ⟨by simp only [mayO, if_neg c5, if_pos (Int64.not_lt.mp c5), if_pos c17], rfl⟩
    ·
      refine v_aload_n 0 dX1_mayBe_20 rfl rfl ?_
      refine v_aload_n 0 dX1_mayBe_21 rfl rfl ?_
      refine v_get fl_X1_18 dX1_mayBe_22 h0 rfl ?_
      refine v_callV (c_X1_isWithin d h0) cs_X1_32 dX1_mayBe_25 h0 rfl rfl (Nat.le_of_ble_eq_true rfl) ?_
      refine rt_k ?_
      refine v_if_eq (tgt := 63) dX1_mayBe_28 (by decide) (fun c28 => ?_) (fun c28 => ?_)
      ·
        refine v_iconst (v := 0) dX1_mayBe_63 (by first | rfl | decide) ?_
        refine v_iret dX1_mayBe_64 rfl (by first | rfl | decide | exact nar_b (by first | assumption | rfl)) ?_
        exact ⟨by simp only [mayO, if_neg c5, if_pos (Int64.not_lt.mp c5), if_neg c17, if_pos c28], rfl⟩
      ·
        refine v_aload_n 0 dX1_mayBe_31 rfl rfl ?_
        refine v_aload_n 0 dX1_mayBe_32 rfl rfl ?_
        refine v_get fl_X1_21 dX1_mayBe_33 h0 rfl ?_
        refine v_callV (c_X1_isWithin d h0) cs_X1_32 dX1_mayBe_36 h0 rfl rfl (Nat.le_of_ble_eq_true rfl) ?_
        refine rt_k ?_
        refine v_if_eq (tgt := 63) dX1_mayBe_39 (by decide) (fun c39 => ?_) (fun c39 => ?_)
        ·
          refine v_iconst (v := 0) dX1_mayBe_63 (by first | rfl | decide) ?_
          refine v_iret dX1_mayBe_64 rfl (by first | rfl | decide | exact nar_b (by first | assumption | rfl)) ?_
          exact ⟨by simp only [mayO, if_neg c5, if_pos (Int64.not_lt.mp c5), if_neg c17, if_neg c28, if_pos c39], rfl⟩
        ·
          refine v_aload_n 0 dX1_mayBe_42 rfl rfl ?_
          refine v_callV (c_X1_sumOfSquares d h0) cs_X1_36 dX1_mayBe_43 h0 rfl rfl (Nat.le_of_ble_eq_true rfl) ?_
          refine rt_k ?_
          refine v_aload_n 0 dX1_mayBe_46 rfl rfl ?_
          refine v_get fl_X1_9 dX1_mayBe_47 h0 rfl ?_
          refine v_aload_n 0 dX1_mayBe_50 rfl rfl ?_
          refine v_get fl_X1_9 dX1_mayBe_51 h0 rfl ?_
          refine v_lmul dX1_mayBe_54 ?_
          refine v_lc_gt (tgt := 63) dX1_mayBe_55 dX1_mayBe_56 (by decide) (fun c55 => ?_) (fun c55 => ?_)
          ·
            refine v_iconst (v := 0) dX1_mayBe_63 (by first | rfl | decide) ?_
            refine v_iret dX1_mayBe_64 rfl (by first | rfl | decide | exact nar_b (by first | assumption | rfl)) ?_
            exact ⟨by simp only [mayO, if_neg c5, if_pos (Int64.not_lt.mp c5), if_neg c17, if_neg c28, if_neg c39, if_pos c55, if_neg (Int64.not_le.mpr c55)], rfl⟩
          ·
            refine v_iconst (v := 1) dX1_mayBe_59 (by first | rfl | decide) ?_
            refine v_goto (tgt := 64) dX1_mayBe_60 (by decide) ?_
            refine v_iret dX1_mayBe_64 rfl (by first | rfl | decide | exact nar_b (by first | assumption | rfl)) ?_
            exact ⟨by simp only [mayO, if_neg c5, if_pos (Int64.not_lt.mp c5), if_neg c17, if_neg c28, if_neg c39, if_neg c55, if_pos (Int64.not_lt.mp c55)], rfl⟩

set_option maxRecDepth 20000 in
set_option maxHeartbeats 4000000 in
theorem c_X1_compareI {G : Cx} (d : Nat) {μ : Hp} {a b : Nat} {L K : LT} (h0 : μ a = some (ligL L)) (h1 : μ b = some (ligL K)) : Ct G (d + 1) 0 0 M_X1_compareI [.ref a, .ref b] μ (Rt (some (.int (cmpI L K))) μ) := by
  refine Ct.ofV (by decide +kernel) (Nat.le_of_ble_eq_true rfl) ?_
  refine v_ls (ls' := [(0, .ref a), (1, .ref b)]) rfl ?_
  refine v_aload_n 0 dX1_compareI_0 rfl rfl ?_
  refine v_get fl_X1_24 dX1_compareI_1 h0 rfl ?_
  refine v_aload_n 1 dX1_compareI_4 rfl rfl ?_
  refine v_get fl_X1_24 dX1_compareI_5 h1 rfl ?_
  refine v_callS (c_J9_max_7cf53 d ) cs_X1_40 dX1_compareI_8 rfl rfl (Nat.le_of_ble_eq_true rfl) ?_
  refine rt_k ?_
  refine v_istore_n dX1_compareI_11 rfl (by decide) (fun x2 e_x2 => ?_)
  refine v_ls (ls' := [(2, .int x2), (0, .ref a), (1, .ref b)]) rfl ?_
  subst e_x2
  refine v_aload_n 1 dX1_compareI_12 rfl rfl ?_
  refine v_get fl_X1_9 dX1_compareI_13 h0 rfl ?_
  refine v_iload_n 0 dX1_compareI_16 rfl rfl ?_
  refine v_aload_n 1 dX1_compareI_17 rfl rfl ?_
  refine v_get fl_X1_24 dX1_compareI_18 h0 rfl ?_
  refine v_isub dX1_compareI_21 ?_
  refine v_lshl dX1_compareI_22 ?_
  refine v_aload_n 2 dX1_compareI_23 rfl rfl ?_
  refine v_get fl_X1_9 dX1_compareI_24 h1 rfl ?_
  refine v_iload_n 0 dX1_compareI_27 rfl rfl ?_
  refine v_aload_n 2 dX1_compareI_28 rfl rfl ?_
  refine v_get fl_X1_24 dX1_compareI_29 h1 rfl ?_
  refine v_isub dX1_compareI_32 ?_
  refine v_lshl dX1_compareI_33 ?_
  refine v_callS (c_J13_compare_74951 d ) cs_X1_46 dX1_compareI_34 rfl rfl (Nat.le_of_ble_eq_true rfl) ?_
  refine rt_k ?_
  refine v_iret dX1_compareI_37 rfl (by first | rfl | decide | exact nar_b (by first | assumption | rfl)) ?_
  exact ⟨rfl, rfl⟩

set_option maxRecDepth 20000 in
set_option maxHeartbeats 4000000 in
theorem low_loop {G : Cx} (d : Nat) {μ : Hp} {a : Nat} : ∀ (n : Nat) (L : LT), L.2.2.2.2.toNatClampNeg = n → V G M_X1_lower d 0 0 (Rt none (up μ a (ligL (lowN n L)))) 0 [(0, .ref a)] [] (up μ a (ligL L)) := by
  intro n
  induction n with
  | zero =>
    intro L hn
    refine v_aload_n 0 dX1_lower_0 rfl rfl ?_
    refine v_get fl_X1_24 dX1_lower_1 (up_s _ _ _) rfl ?_
    refine v_if_le (tgt := 86) dX1_lower_4 (by decide) (fun c4 => ?_) (fun c4 => ?_)
    ·
      refine v_vret dX1_lower_86 rfl ?_
      exact ⟨rfl, rfl⟩
    · obtain ⟨n, h1, -⟩ := tnc_pos c4
      omega
  | succ n ih =>
    intro L hn
    refine v_aload_n 0 dX1_lower_0 rfl rfl ?_
    refine v_get fl_X1_24 dX1_lower_1 (up_s _ _ _) rfl ?_
    refine v_if_le (tgt := 86) dX1_lower_4 (by decide) (fun c4 => ?_) (fun c4 => ?_)
    ·
      refine v_vret dX1_lower_86 rfl ?_
      exact ⟨rfl, by simp only [lowN, if_pos c4, if_neg (Int32.not_lt.mpr c4)]⟩
    ·
      refine v_aload_n 0 dX1_lower_7 rfl rfl ?_
      refine v_get fl_X1_9 dX1_lower_8 (up_s _ _ _) rfl ?_
      refine v_aload_n 0 dX1_lower_11 rfl rfl ?_
      refine v_get fl_X1_15 dX1_lower_12 (up_s _ _ _) rfl ?_
      refine v_lor dX1_lower_15 ?_
      refine v_aload_n 0 dX1_lower_16 rfl rfl ?_
      refine v_get fl_X1_18 dX1_lower_17 (up_s _ _ _) rfl ?_
      refine v_lor dX1_lower_20 ?_
      refine v_aload_n 0 dX1_lower_21 rfl rfl ?_
      refine v_get fl_X1_21 dX1_lower_22 (up_s _ _ _) rfl ?_
      refine v_lor dX1_lower_25 ?_
      refine v_lconst (v := 1) dX1_lower_26 (by first | rfl | decide) ?_
      refine v_land dX1_lower_27 ?_
      refine v_lconst (v := 0) dX1_lower_28 (by first | rfl | decide) ?_
      refine v_lc_ne (tgt := 86) dX1_lower_29 dX1_lower_30 (by decide) (fun c29 => ?_) (fun c29 => ?_)
      ·
        refine v_vret dX1_lower_86 rfl ?_
        exact ⟨rfl, by simp only [lowN, if_neg c4, if_pos (Int32.not_le.mp c4), if_neg c29]⟩
      ·
        refine v_aload_n 0 dX1_lower_33 rfl rfl ?_
        refine v_dup dX1_lower_34 rfl ?_
        refine v_get fl_X1_9 dX1_lower_35 (up_s _ _ _) rfl ?_
        refine v_iconst (v := 1) dX1_lower_38 (by first | rfl | decide) ?_
        refine v_lshr dX1_lower_39 ?_
        refine v_put fp_X1_9 dX1_lower_40 (up_s _ _ _) (Nat.le_of_ble_eq_true rfl) (by first | rfl | decide) (by first | rfl | decide) ?_
        refine v_aload_n 0 dX1_lower_43 rfl rfl ?_
        refine v_dup dX1_lower_44 rfl ?_
        refine v_get fl_X1_15 dX1_lower_45 (up_s _ _ _) rfl ?_
        refine v_iconst (v := 1) dX1_lower_48 (by first | rfl | decide) ?_
        refine v_lshr dX1_lower_49 ?_
        refine v_put fp_X1_15 dX1_lower_50 (up_s _ _ _) (Nat.le_of_ble_eq_true rfl) (by first | rfl | decide) (by first | rfl | decide) ?_
        refine v_hp (up_up _ _ _ _) ?_
        refine v_aload_n 0 dX1_lower_53 rfl rfl ?_
        refine v_dup dX1_lower_54 rfl ?_
        refine v_get fl_X1_18 dX1_lower_55 (up_s _ _ _) rfl ?_
        refine v_iconst (v := 1) dX1_lower_58 (by first | rfl | decide) ?_
        refine v_lshr dX1_lower_59 ?_
        refine v_put fp_X1_18 dX1_lower_60 (up_s _ _ _) (Nat.le_of_ble_eq_true rfl) (by first | rfl | decide) (by first | rfl | decide) ?_
        refine v_hp (up_up _ _ _ _) ?_
        refine v_aload_n 0 dX1_lower_63 rfl rfl ?_
        refine v_dup dX1_lower_64 rfl ?_
        refine v_get fl_X1_21 dX1_lower_65 (up_s _ _ _) rfl ?_
        refine v_iconst (v := 1) dX1_lower_68 (by first | rfl | decide) ?_
        refine v_lshr dX1_lower_69 ?_
        refine v_put fp_X1_21 dX1_lower_70 (up_s _ _ _) (Nat.le_of_ble_eq_true rfl) (by first | rfl | decide) (by first | rfl | decide) ?_
        refine v_hp (up_up _ _ _ _) ?_
        refine v_aload_n 0 dX1_lower_73 rfl rfl ?_
        refine v_dup dX1_lower_74 rfl ?_
        refine v_get fl_X1_24 dX1_lower_75 (up_s _ _ _) rfl ?_
        refine v_iconst (v := 1) dX1_lower_78 (by first | rfl | decide) ?_
        refine v_isub dX1_lower_79 ?_
        refine v_put fp_X1_24 dX1_lower_80 (up_s _ _ _) (Nat.le_of_ble_eq_true rfl) (by first | rfl | decide) (by first | rfl | decide) ?_
        refine v_hp (up_up _ _ _ _) ?_
        refine v_goto (tgt := 0) dX1_lower_83 (by decide) ?_
        have hg : lowN (n + 1) L = lowN n (halfO L) := by simp only [lowN, if_neg c4, if_pos c29]
        rw [hg]
        obtain ⟨n2, h1, h2⟩ := tnc_pos c4
        refine v_hp (up_up _ _ _ _) ?_
        exact ih (halfO L) (by show (L.2.2.2.2 - 1).toNatClampNeg = n; omega)

set_option maxRecDepth 20000 in
set_option maxHeartbeats 4000000 in
theorem c_X1_lower {G : Cx} (d : Nat) {μ : Hp} {a : Nat} {L : LT} (h0 : μ a = some (ligL L)) : Ct G (d) 0 0 M_X1_lower [.ref a] μ (Rt none (up μ a (ligL (lowO L)))) := by
  refine Ct.ofV (by decide +kernel) (Nat.le_of_ble_eq_true rfl) ?_
  refine v_ls (ls' := [(0, .ref a)]) rfl ?_
  refine v_hp (up_id h0).symm ?_
  exact low_loop d _ L rfl

set_option maxRecDepth 20000 in
set_option maxHeartbeats 4000000 in
theorem c_X1_shrink {G : Cx} (d : Nat) {μ : Hp} {a : Nat} {L : LT} (h0 : μ a = some (ligL L)) : Ct G (d + 2) 0 0 M_X1_shrink [.ref a] μ (Rt none (up μ a (ligL (shrO L)))) := by
  refine Ct.ofV (by decide +kernel) (Nat.le_of_ble_eq_true rfl) ?_
  refine v_ls (ls' := [(0, .ref a)]) rfl ?_
  refine v_aload_n 0 dX1_shrink_0 rfl rfl ?_
  refine v_get fl_X1_9 dX1_shrink_1 h0 rfl ?_
  refine v_aload_n 0 dX1_shrink_4 rfl rfl ?_
  refine v_get fl_X1_15 dX1_shrink_5 h0 rfl ?_
  refine v_callSN (c_X6_commonDivisor d ) cs_X1_52 dX1_shrink_8 rfl rfl (Nat.le_of_ble_eq_true rfl) ?_
  refine rt_k ?_
  refine v_aload_n 0 dX1_shrink_11 rfl rfl ?_
  refine v_get fl_X1_18 dX1_shrink_12 h0 rfl ?_
  refine v_aload_n 0 dX1_shrink_15 rfl rfl ?_
  refine v_get fl_X1_21 dX1_shrink_16 h0 rfl ?_
  refine v_callSN (c_X6_commonDivisor d ) cs_X1_52 dX1_shrink_19 rfl rfl (Nat.le_of_ble_eq_true rfl) ?_
  refine rt_k ?_
  refine v_callSN (c_X6_commonDivisor d ) cs_X1_52 dX1_shrink_22 rfl rfl (Nat.le_of_ble_eq_true rfl) ?_
  refine rt_k ?_
  refine v_lstore_n dX1_shrink_25 rfl (by decide) (fun x1_1 e_x1_1 => ?_)
  refine v_ls (ls' := [(1, .long x1_1), (0, .ref a)]) rfl ?_
  subst e_x1_1
  refine v_lload_n 0 dX1_shrink_26 rfl rfl ?_
  refine v_lconst (v := 1) dX1_shrink_27 (by first | rfl | decide) ?_
  refine v_lc_le (tgt := 64) dX1_shrink_28 dX1_shrink_29 (by decide) (fun c28 => ?_) (fun c28 => ?_)
  ·
    refine v_vret dX1_shrink_64 rfl ?_
    exact ⟨rfl, by simp only [shrO, if_pos c28, if_neg (Int64.not_lt.mpr c28), up_id h0]⟩
  ·
    refine v_aload_n 1 dX1_shrink_32 rfl rfl ?_
    refine v_aload_n 1 dX1_shrink_33 rfl rfl ?_
    refine v_get fl_X1_9 dX1_shrink_34 h0 rfl ?_
    refine v_lload_n 0 dX1_shrink_37 rfl rfl ?_
    refine v_ldiv dX1_shrink_38 (fun z => c28 (by rw [z]; decide)) ?_
    refine v_aload_n 1 dX1_shrink_39 rfl rfl ?_
    refine v_get fl_X1_15 dX1_shrink_40 h0 rfl ?_
    refine v_lload_n 0 dX1_shrink_43 rfl rfl ?_
    refine v_ldiv dX1_shrink_44 (fun z => c28 (by rw [z]; decide)) ?_
    refine v_aload_n 1 dX1_shrink_45 rfl rfl ?_
    refine v_get fl_X1_18 dX1_shrink_46 h0 rfl ?_
    refine v_lload_n 0 dX1_shrink_49 rfl rfl ?_
    refine v_ldiv dX1_shrink_50 (fun z => c28 (by rw [z]; decide)) ?_
    refine v_aload_n 1 dX1_shrink_51 rfl rfl ?_
    refine v_get fl_X1_21 dX1_shrink_52 h0 rfl ?_
    refine v_lload_n 0 dX1_shrink_55 rfl rfl ?_
    refine v_ldiv dX1_shrink_56 (fun z => c28 (by rw [z]; decide)) ?_
    refine v_aload_n 1 dX1_shrink_57 rfl rfl ?_
    refine v_get fl_X1_24 dX1_shrink_58 h0 rfl ?_
    refine v_callV (c_X1_become (d + 1) h0) cs_X1_28 dX1_shrink_61 h0 rfl rfl (Nat.le_of_ble_eq_true rfl) ?_
    refine rt_k ?_
    refine v_vret dX1_shrink_64 rfl ?_
    exact ⟨rfl, by simp only [shrO, if_neg c28, if_pos (Int64.not_le.mp c28)]⟩

set_option maxRecDepth 20000 in
set_option maxHeartbeats 4000000 in
theorem c_X1_isOver {G : Cx} (d : Nat) {μ : Hp} {p : Int64}  : Ct G (d) 0 0 M_X1_isOver [.long p] μ (Rt (some (.int (ovrO p))) μ) := by
  refine Ct.ofV (by decide +kernel) (Nat.le_of_ble_eq_true rfl) ?_
  refine v_ls (ls' := [(0, .long p)]) rfl ?_
  refine v_lload_n 0 dX1_isOver_0 rfl rfl ?_
  refine v_ldc2 kc_X1_61 dX1_isOver_1 ?_
  refine v_lc_gt (tgt := 16) dX1_isOver_4 dX1_isOver_5 (by decide) (fun c4 => ?_) (fun c4 => ?_)
  ·
    refine v_iconst (v := 1) dX1_isOver_16 (by first | rfl | decide) ?_
    refine v_goto (tgt := 21) dX1_isOver_17 (by decide) ?_
    refine v_iret dX1_isOver_21 rfl (by first | rfl | decide | exact nar_b (by first | assumption | rfl)) ?_
    exact ⟨by simp only [maxO, absO, cmpO, alO, acO, wiO, ovrO, if_pos c4, if_neg (Int64.not_le.mpr c4)], rfl⟩
  ·
    refine v_lload_n 0 dX1_isOver_8 rfl rfl ?_
    refine v_ldc2 kc_X1_63 dX1_isOver_9 ?_
    refine v_lc_ge (tgt := 20) dX1_isOver_12 dX1_isOver_13 (by decide) (fun c12 => ?_) (fun c12 => ?_)
    ·
      refine v_iconst (v := 0) dX1_isOver_20 (by first | rfl | decide) ?_
      refine v_iret dX1_isOver_21 rfl (by first | rfl | decide | exact nar_b (by first | assumption | rfl)) ?_
      exact ⟨by simp only [maxO, absO, cmpO, alO, acO, wiO, ovrO, if_neg c4, if_pos (Int64.not_lt.mp c4), if_pos c12, if_neg (Int64.not_lt.mpr c12)], rfl⟩
    ·
      refine v_iconst (v := 1) dX1_isOver_16 (by first | rfl | decide) ?_
      refine v_goto (tgt := 21) dX1_isOver_17 (by decide) ?_
      refine v_iret dX1_isOver_21 rfl (by first | rfl | decide | exact nar_b (by first | assumption | rfl)) ?_
      exact ⟨by simp only [maxO, absO, cmpO, alO, acO, wiO, ovrO, if_neg c4, if_pos (Int64.not_lt.mp c4), if_neg c12, if_pos (Int64.not_le.mp c12)], rfl⟩

set_option maxRecDepth 20000 in
set_option maxHeartbeats 4000000 in
theorem c_X1_firstOver {G : Cx} (d : Nat) {μ : Hp} {a : Nat} {L : LT} (h0 : μ a = some (ligL L)) : Ct G (d + 1) 0 0 M_X1_firstOver [.ref a] μ (Rt (some (.int (fstO L))) μ) := by
  refine Ct.ofV (by decide +kernel) (Nat.le_of_ble_eq_true rfl) ?_
  refine v_ls (ls' := [(0, .ref a)]) rfl ?_
  refine v_aload_n 0 dX1_firstOver_0 rfl rfl ?_
  refine v_get fl_X1_15 dX1_firstOver_1 h0 rfl ?_
  refine v_callS (c_X1_isOver d ) cs_X1_56 dX1_firstOver_4 rfl rfl (Nat.le_of_ble_eq_true rfl) ?_
  refine rt_k ?_
  refine v_if_eq (tgt := 12) dX1_firstOver_7 (by decide) (fun c7 => ?_) (fun c7 => ?_)
  ·
    refine v_aload_n 0 dX1_firstOver_12 rfl rfl ?_
    refine v_get fl_X1_18 dX1_firstOver_13 h0 rfl ?_
    refine v_callS (c_X1_isOver d ) cs_X1_56 dX1_firstOver_16 rfl rfl (Nat.le_of_ble_eq_true rfl) ?_
    refine rt_k ?_
    refine v_if_eq (tgt := 24) dX1_firstOver_19 (by decide) (fun c19 => ?_) (fun c19 => ?_)
    ·
      refine v_aload_n 0 dX1_firstOver_24 rfl rfl ?_
      refine v_get fl_X1_21 dX1_firstOver_25 h0 rfl ?_
      refine v_callS (c_X1_isOver d ) cs_X1_56 dX1_firstOver_28 rfl rfl (Nat.le_of_ble_eq_true rfl) ?_
      refine rt_k ?_
      refine v_if_eq (tgt := 36) dX1_firstOver_31 (by decide) (fun c31 => ?_) (fun c31 => ?_)
      ·
        refine v_aload_n 0 dX1_firstOver_36 rfl rfl ?_
        refine v_get fl_X1_18 dX1_firstOver_37 h0 rfl ?_
        refine v_aload_n 0 dX1_firstOver_40 rfl rfl ?_
        refine v_get fl_X1_18 dX1_firstOver_41 h0 rfl ?_
        refine v_lmul dX1_firstOver_44 ?_
        refine v_ldc2 kc_X1_59 dX1_firstOver_45 ?_
        refine v_aload_n 0 dX1_firstOver_48 rfl rfl ?_
        refine v_get fl_X1_15 dX1_firstOver_49 h0 rfl ?_
        refine v_aload_n 0 dX1_firstOver_52 rfl rfl ?_
        refine v_get fl_X1_15 dX1_firstOver_53 h0 rfl ?_
        refine v_lmul dX1_firstOver_56 ?_
        refine v_lsub dX1_firstOver_57 ?_
        refine v_lc_le (tgt := 64) dX1_firstOver_58 dX1_firstOver_59 (by decide) (fun c58 => ?_) (fun c58 => ?_)
        ·
          refine v_aload_n 0 dX1_firstOver_64 rfl rfl ?_
          refine v_get fl_X1_21 dX1_firstOver_65 h0 rfl ?_
          refine v_aload_n 0 dX1_firstOver_68 rfl rfl ?_
          refine v_get fl_X1_21 dX1_firstOver_69 h0 rfl ?_
          refine v_lmul dX1_firstOver_72 ?_
          refine v_ldc2 kc_X1_59 dX1_firstOver_73 ?_
          refine v_aload_n 0 dX1_firstOver_76 rfl rfl ?_
          refine v_get fl_X1_15 dX1_firstOver_77 h0 rfl ?_
          refine v_aload_n 0 dX1_firstOver_80 rfl rfl ?_
          refine v_get fl_X1_15 dX1_firstOver_81 h0 rfl ?_
          refine v_lmul dX1_firstOver_84 ?_
          refine v_lsub dX1_firstOver_85 ?_
          refine v_aload_n 0 dX1_firstOver_86 rfl rfl ?_
          refine v_get fl_X1_18 dX1_firstOver_87 h0 rfl ?_
          refine v_aload_n 0 dX1_firstOver_90 rfl rfl ?_
          refine v_get fl_X1_18 dX1_firstOver_91 h0 rfl ?_
          refine v_lmul dX1_firstOver_94 ?_
          refine v_lsub dX1_firstOver_95 ?_
          refine v_lc_le (tgt := 102) dX1_firstOver_96 dX1_firstOver_97 (by decide) (fun c96 => ?_) (fun c96 => ?_)
          ·
            refine v_aload_n 0 dX1_firstOver_102 rfl rfl ?_
            refine v_get fl_X1_9 dX1_firstOver_103 h0 rfl ?_
            refine v_callS (c_X1_isOver d ) cs_X1_56 dX1_firstOver_106 rfl rfl (Nat.le_of_ble_eq_true rfl) ?_
            refine rt_k ?_
            refine v_if_eq (tgt := 116) dX1_firstOver_109 (by decide) (fun c109 => ?_) (fun c109 => ?_)
            ·
              refine v_iconst (v := -1) dX1_firstOver_116 (by first | rfl | decide) ?_
              refine v_iret dX1_firstOver_117 rfl (by first | rfl | decide | exact nar_b (by first | assumption | rfl)) ?_
              exact ⟨by simp only [fstO, if_pos c7, if_pos c19, if_pos c31, if_pos c58, if_neg (Int64.not_lt.mpr c58), if_pos c96, if_neg (Int64.not_lt.mpr c96), if_pos c109], rfl⟩
            ·
              refine v_iconst (v := 5) dX1_firstOver_112 (by first | rfl | decide) ?_
              refine v_goto (tgt := 117) dX1_firstOver_113 (by decide) ?_
              refine v_iret dX1_firstOver_117 rfl (by first | rfl | decide | exact nar_b (by first | assumption | rfl)) ?_
              exact ⟨by simp only [fstO, if_pos c7, if_pos c19, if_pos c31, if_pos c58, if_neg (Int64.not_lt.mpr c58), if_pos c96, if_neg (Int64.not_lt.mpr c96), if_neg c109], rfl⟩
          ·
            refine v_iconst (v := 4) dX1_firstOver_100 (by first | rfl | decide) ?_
            refine v_iret dX1_firstOver_101 rfl (by first | rfl | decide | exact nar_b (by first | assumption | rfl)) ?_
            exact ⟨by simp only [fstO, if_pos c7, if_pos c19, if_pos c31, if_pos c58, if_neg (Int64.not_lt.mpr c58), if_neg c96, if_pos (Int64.not_le.mp c96)], rfl⟩
        ·
          refine v_iconst (v := 3) dX1_firstOver_62 (by first | rfl | decide) ?_
          refine v_iret dX1_firstOver_63 rfl (by first | rfl | decide | exact nar_b (by first | assumption | rfl)) ?_
          exact ⟨by simp only [fstO, if_pos c7, if_pos c19, if_pos c31, if_neg c58, if_pos (Int64.not_le.mp c58)], rfl⟩
      ·
        refine v_iconst (v := 2) dX1_firstOver_34 (by first | rfl | decide) ?_
        refine v_iret dX1_firstOver_35 rfl (by first | rfl | decide | exact nar_b (by first | assumption | rfl)) ?_
        exact ⟨by simp only [fstO, if_pos c7, if_pos c19, if_neg c31], rfl⟩
    ·
      refine v_iconst (v := 1) dX1_firstOver_22 (by first | rfl | decide) ?_
      refine v_iret dX1_firstOver_23 rfl (by first | rfl | decide | exact nar_b (by first | assumption | rfl)) ?_
      exact ⟨by simp only [fstO, if_pos c7, if_neg c19], rfl⟩
  ·
    refine v_iconst (v := 0) dX1_firstOver_10 (by first | rfl | decide) ?_
    refine v_iret dX1_firstOver_11 rfl (by first | rfl | decide | exact nar_b (by first | assumption | rfl)) ?_
    exact ⟨by simp only [fstO, if_neg c7], rfl⟩

set_option maxRecDepth 20000 in
set_option maxHeartbeats 4000000 in
theorem c_X1_passGrey {G : Cx} (d : Nat) {μ : Hp} {a : Nat} {L : LT} {x y : Int32} (h0 : μ a = some (ligL L)) : Ct G (d + 1) 0 0 M_X1_passGrey [.ref a, .int x, .int y] μ (Rt none (up μ a (ligL (greyO x y L)))) := by
  refine Ct.ofV (by decide +kernel) (Nat.le_of_ble_eq_true rfl) ?_
  refine v_ls (ls' := [(0, .ref a), (1, .int x), (2, .int y)]) rfl ?_
  refine v_aload_n 0 dX1_passGrey_0 rfl rfl ?_
  refine v_iload_n 1 dX1_passGrey_1 rfl rfl ?_
  refine v_i2l dX1_passGrey_2 ?_
  refine v_aload_n 0 dX1_passGrey_3 rfl rfl ?_
  refine v_get fl_X1_9 dX1_passGrey_4 h0 rfl ?_
  refine v_lmul dX1_passGrey_7 ?_
  refine v_iload_n 2 dX1_passGrey_8 rfl rfl ?_
  refine v_i2l dX1_passGrey_9 ?_
  refine v_aload_n 0 dX1_passGrey_10 rfl rfl ?_
  refine v_get fl_X1_15 dX1_passGrey_11 h0 rfl ?_
  refine v_lmul dX1_passGrey_14 ?_
  refine v_iload_n 2 dX1_passGrey_15 rfl rfl ?_
  refine v_i2l dX1_passGrey_16 ?_
  refine v_aload_n 0 dX1_passGrey_17 rfl rfl ?_
  refine v_get fl_X1_18 dX1_passGrey_18 h0 rfl ?_
  refine v_lmul dX1_passGrey_21 ?_
  refine v_iload_n 2 dX1_passGrey_22 rfl rfl ?_
  refine v_i2l dX1_passGrey_23 ?_
  refine v_aload_n 0 dX1_passGrey_24 rfl rfl ?_
  refine v_get fl_X1_21 dX1_passGrey_25 h0 rfl ?_
  refine v_lmul dX1_passGrey_28 ?_
  refine v_aload_n 0 dX1_passGrey_29 rfl rfl ?_
  refine v_get fl_X1_24 dX1_passGrey_30 h0 rfl ?_
  refine v_iconst (v := 4) dX1_passGrey_33 (by first | rfl | decide) ?_
  refine v_iadd dX1_passGrey_34 ?_
  refine v_callV (c_X1_become d h0) cs_X1_28 dX1_passGrey_35 h0 rfl rfl (Nat.le_of_ble_eq_true rfl) ?_
  refine rt_k ?_
  refine v_vret dX1_passGrey_38 rfl ?_
  exact ⟨rfl, rfl⟩

set_option maxRecDepth 20000 in
set_option maxHeartbeats 4000000 in
theorem c_X1_turnQuarter {G : Cx} (d : Nat) {μ : Hp} {a : Nat} {L : LT} {x : Int32} (h0 : μ a = some (ligL L)) : Ct G (d + 1) 0 0 M_X1_turnQuarter [.ref a, .int x] μ (Rt none (up μ a (ligL (turnO x L)))) := by
  refine Ct.ofV (by decide +kernel) (Nat.le_of_ble_eq_true rfl) ?_
  refine v_ls (ls' := [(0, .ref a), (1, .int x)]) rfl ?_
  refine v_iload_n 1 dX1_turnQuarter_0 rfl rfl ?_
  by_cases cl1 : (x).toInt < 0
  · refine v_tableOut (tgt := 144) dX1_turnQuarter_1 (Or.inl cl1) (by decide) ?_
    have cs1_0 : ¬ x = 0 := sw_lo cl1 (by decide)
    have cs1_1 : ¬ x = 1 := sw_lo cl1 (by decide)
    have cs1_2 : ¬ x = 2 := sw_lo cl1 (by decide)
    have cs1_3 : ¬ x = 3 := sw_lo cl1 (by decide)
    refine v_aload_n 0 dX1_turnQuarter_144 rfl rfl ?_
    refine v_aload_n 0 dX1_turnQuarter_145 rfl rfl ?_
    refine v_get fl_X1_9 dX1_turnQuarter_146 h0 rfl ?_
    refine v_aload_n 0 dX1_turnQuarter_149 rfl rfl ?_
    refine v_get fl_X1_18 dX1_turnQuarter_150 h0 rfl ?_
    refine v_lneg dX1_turnQuarter_153 ?_
    refine v_aload_n 0 dX1_turnQuarter_154 rfl rfl ?_
    refine v_get fl_X1_15 dX1_turnQuarter_155 h0 rfl ?_
    refine v_aload_n 0 dX1_turnQuarter_158 rfl rfl ?_
    refine v_get fl_X1_21 dX1_turnQuarter_159 h0 rfl ?_
    refine v_aload_n 0 dX1_turnQuarter_162 rfl rfl ?_
    refine v_get fl_X1_24 dX1_turnQuarter_163 h0 rfl ?_
    refine v_callV (c_X1_become d h0) cs_X1_28 dX1_turnQuarter_166 h0 rfl rfl (Nat.le_of_ble_eq_true rfl) ?_
    refine rt_k ?_
    refine v_vret dX1_turnQuarter_169 rfl ?_
    exact ⟨rfl, by simp only [turnO, if_neg cs1_0, if_neg cs1_1, if_neg cs1_2, if_neg cs1_3]⟩
  by_cases ch1 : 3 < (x).toInt
  · refine v_tableOut (tgt := 144) dX1_turnQuarter_1 (Or.inr ch1) (by decide) ?_
    have cs1_0 : ¬ x = 0 := sw_hi ch1 (by decide)
    have cs1_1 : ¬ x = 1 := sw_hi ch1 (by decide)
    have cs1_2 : ¬ x = 2 := sw_hi ch1 (by decide)
    have cs1_3 : ¬ x = 3 := sw_hi ch1 (by decide)
    refine v_aload_n 0 dX1_turnQuarter_144 rfl rfl ?_
    refine v_aload_n 0 dX1_turnQuarter_145 rfl rfl ?_
    refine v_get fl_X1_9 dX1_turnQuarter_146 h0 rfl ?_
    refine v_aload_n 0 dX1_turnQuarter_149 rfl rfl ?_
    refine v_get fl_X1_18 dX1_turnQuarter_150 h0 rfl ?_
    refine v_lneg dX1_turnQuarter_153 ?_
    refine v_aload_n 0 dX1_turnQuarter_154 rfl rfl ?_
    refine v_get fl_X1_15 dX1_turnQuarter_155 h0 rfl ?_
    refine v_aload_n 0 dX1_turnQuarter_158 rfl rfl ?_
    refine v_get fl_X1_21 dX1_turnQuarter_159 h0 rfl ?_
    refine v_aload_n 0 dX1_turnQuarter_162 rfl rfl ?_
    refine v_get fl_X1_24 dX1_turnQuarter_163 h0 rfl ?_
    refine v_callV (c_X1_become d h0) cs_X1_28 dX1_turnQuarter_166 h0 rfl rfl (Nat.le_of_ble_eq_true rfl) ?_
    refine rt_k ?_
    refine v_vret dX1_turnQuarter_169 rfl ?_
    exact ⟨rfl, by simp only [turnO, if_neg cs1_0, if_neg cs1_1, if_neg cs1_2, if_neg cs1_3]⟩
  by_cases cs1_0 : x = 0
  · refine v_tableIn (off := 31) (tgt := 32) dX1_turnQuarter_1 cl1 ch1 (by rw [cs1_0]; rfl) (by decide) ?_
    refine v_aload_n 0 dX1_turnQuarter_32 rfl rfl ?_
    refine v_aload_n 0 dX1_turnQuarter_33 rfl rfl ?_
    refine v_get fl_X1_9 dX1_turnQuarter_34 h0 rfl ?_
    refine v_aload_n 0 dX1_turnQuarter_37 rfl rfl ?_
    refine v_get fl_X1_15 dX1_turnQuarter_38 h0 rfl ?_
    refine v_aload_n 0 dX1_turnQuarter_41 rfl rfl ?_
    refine v_get fl_X1_21 dX1_turnQuarter_42 h0 rfl ?_
    refine v_aload_n 0 dX1_turnQuarter_45 rfl rfl ?_
    refine v_get fl_X1_18 dX1_turnQuarter_46 h0 rfl ?_
    refine v_lneg dX1_turnQuarter_49 ?_
    refine v_aload_n 0 dX1_turnQuarter_50 rfl rfl ?_
    refine v_get fl_X1_24 dX1_turnQuarter_51 h0 rfl ?_
    refine v_callV (c_X1_become d h0) cs_X1_28 dX1_turnQuarter_54 h0 rfl rfl (Nat.le_of_ble_eq_true rfl) ?_
    refine rt_k ?_
    refine v_goto (tgt := 169) dX1_turnQuarter_57 (by decide) ?_
    refine v_vret dX1_turnQuarter_169 rfl ?_
    exact ⟨rfl, by simp only [turnO, if_pos cs1_0]⟩
  by_cases cs1_1 : x = 1
  · refine v_tableIn (off := 59) (tgt := 60) dX1_turnQuarter_1 cl1 ch1 (by rw [cs1_1]; rfl) (by decide) ?_
    refine v_aload_n 0 dX1_turnQuarter_60 rfl rfl ?_
    refine v_aload_n 0 dX1_turnQuarter_61 rfl rfl ?_
    refine v_get fl_X1_9 dX1_turnQuarter_62 h0 rfl ?_
    refine v_aload_n 0 dX1_turnQuarter_65 rfl rfl ?_
    refine v_get fl_X1_21 dX1_turnQuarter_66 h0 rfl ?_
    refine v_lneg dX1_turnQuarter_69 ?_
    refine v_aload_n 0 dX1_turnQuarter_70 rfl rfl ?_
    refine v_get fl_X1_18 dX1_turnQuarter_71 h0 rfl ?_
    refine v_aload_n 0 dX1_turnQuarter_74 rfl rfl ?_
    refine v_get fl_X1_15 dX1_turnQuarter_75 h0 rfl ?_
    refine v_aload_n 0 dX1_turnQuarter_78 rfl rfl ?_
    refine v_get fl_X1_24 dX1_turnQuarter_79 h0 rfl ?_
    refine v_callV (c_X1_become d h0) cs_X1_28 dX1_turnQuarter_82 h0 rfl rfl (Nat.le_of_ble_eq_true rfl) ?_
    refine rt_k ?_
    refine v_goto (tgt := 169) dX1_turnQuarter_85 (by decide) ?_
    refine v_vret dX1_turnQuarter_169 rfl ?_
    exact ⟨rfl, by simp only [turnO, if_neg cs1_0, if_pos cs1_1]⟩
  by_cases cs1_2 : x = 2
  · refine v_tableIn (off := 87) (tgt := 88) dX1_turnQuarter_1 cl1 ch1 (by rw [cs1_2]; rfl) (by decide) ?_
    refine v_aload_n 0 dX1_turnQuarter_88 rfl rfl ?_
    refine v_aload_n 0 dX1_turnQuarter_89 rfl rfl ?_
    refine v_get fl_X1_9 dX1_turnQuarter_90 h0 rfl ?_
    refine v_aload_n 0 dX1_turnQuarter_93 rfl rfl ?_
    refine v_get fl_X1_15 dX1_turnQuarter_94 h0 rfl ?_
    refine v_aload_n 0 dX1_turnQuarter_97 rfl rfl ?_
    refine v_get fl_X1_21 dX1_turnQuarter_98 h0 rfl ?_
    refine v_lneg dX1_turnQuarter_101 ?_
    refine v_aload_n 0 dX1_turnQuarter_102 rfl rfl ?_
    refine v_get fl_X1_18 dX1_turnQuarter_103 h0 rfl ?_
    refine v_aload_n 0 dX1_turnQuarter_106 rfl rfl ?_
    refine v_get fl_X1_24 dX1_turnQuarter_107 h0 rfl ?_
    refine v_callV (c_X1_become d h0) cs_X1_28 dX1_turnQuarter_110 h0 rfl rfl (Nat.le_of_ble_eq_true rfl) ?_
    refine rt_k ?_
    refine v_goto (tgt := 169) dX1_turnQuarter_113 (by decide) ?_
    refine v_vret dX1_turnQuarter_169 rfl ?_
    exact ⟨rfl, by simp only [turnO, if_neg cs1_0, if_neg cs1_1, if_pos cs1_2]⟩
  by_cases cs1_3 : x = 3
  · refine v_tableIn (off := 115) (tgt := 116) dX1_turnQuarter_1 cl1 ch1 (by rw [cs1_3]; rfl) (by decide) ?_
    refine v_aload_n 0 dX1_turnQuarter_116 rfl rfl ?_
    refine v_aload_n 0 dX1_turnQuarter_117 rfl rfl ?_
    refine v_get fl_X1_9 dX1_turnQuarter_118 h0 rfl ?_
    refine v_aload_n 0 dX1_turnQuarter_121 rfl rfl ?_
    refine v_get fl_X1_21 dX1_turnQuarter_122 h0 rfl ?_
    refine v_aload_n 0 dX1_turnQuarter_125 rfl rfl ?_
    refine v_get fl_X1_18 dX1_turnQuarter_126 h0 rfl ?_
    refine v_aload_n 0 dX1_turnQuarter_129 rfl rfl ?_
    refine v_get fl_X1_15 dX1_turnQuarter_130 h0 rfl ?_
    refine v_lneg dX1_turnQuarter_133 ?_
    refine v_aload_n 0 dX1_turnQuarter_134 rfl rfl ?_
    refine v_get fl_X1_24 dX1_turnQuarter_135 h0 rfl ?_
    refine v_callV (c_X1_become d h0) cs_X1_28 dX1_turnQuarter_138 h0 rfl rfl (Nat.le_of_ble_eq_true rfl) ?_
    refine rt_k ?_
    refine v_goto (tgt := 169) dX1_turnQuarter_141 (by decide) ?_
    refine v_vret dX1_turnQuarter_169 rfl ?_
    exact ⟨rfl, by simp only [turnO, if_neg cs1_0, if_neg cs1_1, if_neg cs1_2, if_pos cs1_3]⟩
  exfalso
  have q1_0 := lv_neT (a := 0) cs1_0 (by decide)
  have q1_1 := lv_neT (a := 1) cs1_1 (by decide)
  have q1_2 := lv_neT (a := 2) cs1_2 (by decide)
  have q1_3 := lv_neT (a := 3) cs1_3 (by decide)
  omega

set_option maxRecDepth 20000 in
set_option maxHeartbeats 4000000 in
theorem c_X1_passSheet {G : Cx} (d : Nat) {μ : Hp} {a : Nat} {L : LT} {g x y : Int32} (h0 : μ a = some (ligL L)) : Ct G (d + 1) 0 0 M_X1_passSheet [.ref a, .int g, .int x, .int y] μ (Rt none (up μ a (ligL (sheetO g x y L)))) := by
  refine Ct.ofV (by decide +kernel) (Nat.le_of_ble_eq_true rfl) ?_
  refine v_ls (ls' := [(0, .ref a), (1, .int g), (2, .int x), (3, .int y)]) rfl ?_
  refine v_iload_n 2 dX1_passSheet_0 rfl rfl ?_
  refine v_iload_n 2 dX1_passSheet_1 rfl rfl ?_
  refine v_imul dX1_passSheet_2 ?_
  refine v_iload_n 3 dX1_passSheet_3 rfl rfl ?_
  refine v_iload_n 3 dX1_passSheet_4 rfl rfl ?_
  refine v_imul dX1_passSheet_5 ?_
  refine v_iadd dX1_passSheet_6 ?_
  refine v_i2l dX1_passSheet_7 ?_
  refine v_lstore dX1_passSheet_8 (by decide) (fun x4_1 e_x4_1 => ?_)
  refine v_ls (ls' := [(4, .long x4_1), (0, .ref a), (1, .int g), (2, .int x), (3, .int y)]) rfl ?_
  subst e_x4_1
  refine v_iload_n 3 dX1_passSheet_10 rfl rfl ?_
  refine v_iload_n 3 dX1_passSheet_11 rfl rfl ?_
  refine v_imul dX1_passSheet_12 ?_
  refine v_iload_n 4 dX1_passSheet_13 rfl rfl ?_
  refine v_iload_n 4 dX1_passSheet_14 rfl rfl ?_
  refine v_imul dX1_passSheet_15 ?_
  refine v_isub dX1_passSheet_16 ?_
  refine v_i2l dX1_passSheet_17 ?_
  refine v_lstore dX1_passSheet_18 (by decide) (fun x6_1 e_x6_1 => ?_)
  refine v_ls (ls' := [(6, .long x6_1), (4, _), (0, .ref a), (1, .int g), (2, .int x), (3, .int y)]) rfl ?_
  subst e_x6_1
  refine v_iconst (v := 2) dX1_passSheet_20 (by first | rfl | decide) ?_
  refine v_iload_n 4 dX1_passSheet_21 rfl rfl ?_
  refine v_imul dX1_passSheet_22 ?_
  refine v_iload_n 5 dX1_passSheet_23 rfl rfl ?_
  refine v_imul dX1_passSheet_24 ?_
  refine v_i2l dX1_passSheet_25 ?_
  refine v_lstore dX1_passSheet_26 (by decide) (fun x8_1 e_x8_1 => ?_)
  refine v_ls (ls' := [(8, .long x8_1), (6, _), (4, _), (0, .ref a), (1, .int g), (2, .int x), (3, .int y)]) rfl ?_
  subst e_x8_1
  refine v_iload_n 4 dX1_passSheet_28 rfl rfl ?_
  refine v_iconst (v := 2) dX1_passSheet_29 (by first | rfl | decide) ?_
  refine v_irem dX1_passSheet_30 (by decide) ?_
  refine v_if_ne (tgt := 38) dX1_passSheet_31 (by decide) (fun c31 => ?_) (fun c31 => ?_)
  ·
    refine v_iconst (v := 0) dX1_passSheet_38 (by first | rfl | decide) ?_
    refine v_istore dX1_passSheet_39 (by decide) (fun x10_1 e_x10_1 => ?_)
    refine v_ls (ls' := [(10, .int x10_1), (8, _), (6, _), (4, _), (0, .ref a), (1, .int g), (2, .int x), (3, .int y)]) rfl ?_
    subst e_x10_1
    refine v_iload_n 5 dX1_passSheet_41 rfl rfl ?_
    refine v_iconst (v := 2) dX1_passSheet_42 (by first | rfl | decide) ?_
    refine v_icmp_ge (tgt := 50) dX1_passSheet_43 (by decide) (fun c43 => ?_) (fun c43 => ?_)
    ·
      refine v_ldc2 kc_X1_99 dX1_passSheet_50 ?_
      refine v_lstore dX1_passSheet_53 (by decide) (fun x11_1 e_x11_1 => ?_)
      refine v_ls (ls' := [(11, .long x11_1), (10, .int (0)), (8, _), (6, _), (4, _), (0, .ref a), (1, .int g), (2, .int x), (3, .int y)]) rfl ?_
      subst e_x11_1
      refine v_lload 0 dX1_passSheet_55 rfl ?_
      refine v_iload 1 dX1_passSheet_57 rfl ?_
      refine v_if_eq (tgt := 69) dX1_passSheet_59 (by decide) (fun c59 => ?_) (fun c59 => ?_)
      ·
        refine v_aload_n 5 dX1_passSheet_69 rfl rfl ?_
        refine v_get fl_X1_18 dX1_passSheet_70 h0 rfl ?_
        refine v_lmul dX1_passSheet_73 ?_
        refine v_lstore dX1_passSheet_74 (by decide) (fun x13_1 e_x13_1 => ?_)
        refine v_ls (ls' := [(13, .long x13_1), (11, _), (10, .int (0)), (8, _), (6, _), (4, _), (0, .ref a), (1, .int g), (2, .int x), (3, .int y)]) rfl ?_
        subst e_x13_1
        refine v_lload 1 dX1_passSheet_76 rfl ?_
        refine v_lload 4 dX1_passSheet_78 rfl ?_
        refine v_aload_n 6 dX1_passSheet_80 rfl rfl ?_
        refine v_get fl_X1_9 dX1_passSheet_81 h0 rfl ?_
        refine v_lmul dX1_passSheet_84 ?_
        refine v_lload 5 dX1_passSheet_85 rfl ?_
        refine v_lload 0 dX1_passSheet_87 rfl ?_
        refine v_lmul dX1_passSheet_89 ?_
        refine v_ladd dX1_passSheet_90 ?_
        refine v_lmul dX1_passSheet_91 ?_
        refine v_lstore dX1_passSheet_92 (by decide) (fun x15_1 e_x15_1 => ?_)
        refine v_ls (ls' := [(15, .long x15_1), (13, _), (11, _), (10, .int (0)), (8, _), (6, _), (4, _), (0, .ref a), (1, .int g), (2, .int x), (3, .int y)]) rfl ?_
        subst e_x15_1
        refine v_aload_n 7 dX1_passSheet_94 rfl rfl ?_
        refine v_lload 6 dX1_passSheet_95 rfl ?_
        refine v_aload_n 7 dX1_passSheet_97 rfl rfl ?_
        refine v_get fl_X1_9 dX1_passSheet_98 h0 rfl ?_
        refine v_lmul dX1_passSheet_101 ?_
        refine v_lload 5 dX1_passSheet_102 rfl ?_
        refine v_lload 1 dX1_passSheet_104 rfl ?_
        refine v_lmul dX1_passSheet_106 ?_
        refine v_ladd dX1_passSheet_107 ?_
        refine v_iload 3 dX1_passSheet_108 rfl ?_
        refine v_if_eq (tgt := 118) dX1_passSheet_110 (by decide) (fun c110 => ?_) (fun c110 => ?_)
        ·
          refine v_lload 4 dX1_passSheet_118 rfl ?_
          refine v_aload_n 7 dX1_passSheet_120 rfl rfl ?_
          refine v_get fl_X1_15 dX1_passSheet_121 h0 rfl ?_
          refine v_lmul dX1_passSheet_124 ?_
          refine v_iload 3 dX1_passSheet_125 rfl ?_
          refine v_if_eq (tgt := 140) dX1_passSheet_127 (by decide) (fun c127 => ?_) (fun c127 => ?_)
          ·
            refine v_lload 0 dX1_passSheet_140 rfl ?_
            refine v_lload 4 dX1_passSheet_142 rfl ?_
            refine v_aload_n 7 dX1_passSheet_144 rfl rfl ?_
            refine v_get fl_X1_21 dX1_passSheet_145 h0 rfl ?_
            refine v_lmul dX1_passSheet_148 ?_
            refine v_aload_n 7 dX1_passSheet_149 rfl rfl ?_
            refine v_get fl_X1_24 dX1_passSheet_150 h0 rfl ?_
            refine v_iconst (v := 5) dX1_passSheet_153 (by first | rfl | decide) ?_
            refine v_iadd dX1_passSheet_154 ?_
            refine v_callV (c_X1_become d h0) cs_X1_28 dX1_passSheet_155 h0 rfl rfl (Nat.le_of_ble_eq_true rfl) ?_
            refine rt_k ?_
            refine v_vret dX1_passSheet_158 rfl ?_
            exact ⟨rfl, by simp only [sheetO, if_neg c31, if_pos c43, if_neg (Int32.not_lt.mpr c43), if_pos c59, if_pos c110, if_pos c127]⟩
          · exact absurd c127 (by decide)
        · exact absurd c110 (by decide)
      · exact absurd c59 (by decide)
    ·
      refine v_lconst (v := 1) dX1_passSheet_46 (by first | rfl | decide) ?_
      refine v_goto (tgt := 53) dX1_passSheet_47 (by decide) ?_
      refine v_lstore dX1_passSheet_53 (by decide) (fun x11_2 e_x11_2 => ?_)
      refine v_ls (ls' := [(11, .long x11_2), (10, .int (0)), (8, _), (6, _), (4, _), (0, .ref a), (1, .int g), (2, .int x), (3, .int y)]) rfl ?_
      subst e_x11_2
      refine v_lload 0 dX1_passSheet_55 rfl ?_
      refine v_iload 1 dX1_passSheet_57 rfl ?_
      refine v_if_eq (tgt := 69) dX1_passSheet_59 (by decide) (fun c59 => ?_) (fun c59 => ?_)
      ·
        refine v_aload_n 5 dX1_passSheet_69 rfl rfl ?_
        refine v_get fl_X1_18 dX1_passSheet_70 h0 rfl ?_
        refine v_lmul dX1_passSheet_73 ?_
        refine v_lstore dX1_passSheet_74 (by decide) (fun x13_2 e_x13_2 => ?_)
        refine v_ls (ls' := [(13, .long x13_2), (11, _), (10, .int (0)), (8, _), (6, _), (4, _), (0, .ref a), (1, .int g), (2, .int x), (3, .int y)]) rfl ?_
        subst e_x13_2
        refine v_lload 1 dX1_passSheet_76 rfl ?_
        refine v_lload 4 dX1_passSheet_78 rfl ?_
        refine v_aload_n 6 dX1_passSheet_80 rfl rfl ?_
        refine v_get fl_X1_9 dX1_passSheet_81 h0 rfl ?_
        refine v_lmul dX1_passSheet_84 ?_
        refine v_lload 5 dX1_passSheet_85 rfl ?_
        refine v_lload 0 dX1_passSheet_87 rfl ?_
        refine v_lmul dX1_passSheet_89 ?_
        refine v_ladd dX1_passSheet_90 ?_
        refine v_lmul dX1_passSheet_91 ?_
        refine v_lstore dX1_passSheet_92 (by decide) (fun x15_2 e_x15_2 => ?_)
        refine v_ls (ls' := [(15, .long x15_2), (13, _), (11, _), (10, .int (0)), (8, _), (6, _), (4, _), (0, .ref a), (1, .int g), (2, .int x), (3, .int y)]) rfl ?_
        subst e_x15_2
        refine v_aload_n 7 dX1_passSheet_94 rfl rfl ?_
        refine v_lload 6 dX1_passSheet_95 rfl ?_
        refine v_aload_n 7 dX1_passSheet_97 rfl rfl ?_
        refine v_get fl_X1_9 dX1_passSheet_98 h0 rfl ?_
        refine v_lmul dX1_passSheet_101 ?_
        refine v_lload 5 dX1_passSheet_102 rfl ?_
        refine v_lload 1 dX1_passSheet_104 rfl ?_
        refine v_lmul dX1_passSheet_106 ?_
        refine v_ladd dX1_passSheet_107 ?_
        refine v_iload 3 dX1_passSheet_108 rfl ?_
        refine v_if_eq (tgt := 118) dX1_passSheet_110 (by decide) (fun c110 => ?_) (fun c110 => ?_)
        ·
          refine v_lload 4 dX1_passSheet_118 rfl ?_
          refine v_aload_n 7 dX1_passSheet_120 rfl rfl ?_
          refine v_get fl_X1_15 dX1_passSheet_121 h0 rfl ?_
          refine v_lmul dX1_passSheet_124 ?_
          refine v_iload 3 dX1_passSheet_125 rfl ?_
          refine v_if_eq (tgt := 140) dX1_passSheet_127 (by decide) (fun c127 => ?_) (fun c127 => ?_)
          ·
            refine v_lload 0 dX1_passSheet_140 rfl ?_
            refine v_lload 4 dX1_passSheet_142 rfl ?_
            refine v_aload_n 7 dX1_passSheet_144 rfl rfl ?_
            refine v_get fl_X1_21 dX1_passSheet_145 h0 rfl ?_
            refine v_lmul dX1_passSheet_148 ?_
            refine v_aload_n 7 dX1_passSheet_149 rfl rfl ?_
            refine v_get fl_X1_24 dX1_passSheet_150 h0 rfl ?_
            refine v_iconst (v := 5) dX1_passSheet_153 (by first | rfl | decide) ?_
            refine v_iadd dX1_passSheet_154 ?_
            refine v_callV (c_X1_become d h0) cs_X1_28 dX1_passSheet_155 h0 rfl rfl (Nat.le_of_ble_eq_true rfl) ?_
            refine rt_k ?_
            refine v_vret dX1_passSheet_158 rfl ?_
            exact ⟨rfl, by simp only [sheetO, if_neg c31, if_neg c43, if_pos (Int32.not_le.mp c43), if_pos c59, if_pos c110, if_pos c127]⟩
          · exact absurd c127 (by decide)
        · exact absurd c110 (by decide)
      · exact absurd c59 (by decide)
  ·
    refine v_iconst (v := 1) dX1_passSheet_34 (by first | rfl | decide) ?_
    refine v_goto (tgt := 39) dX1_passSheet_35 (by decide) ?_
    refine v_istore dX1_passSheet_39 (by decide) (fun x10_2 e_x10_2 => ?_)
    refine v_ls (ls' := [(10, .int x10_2), (8, _), (6, _), (4, _), (0, .ref a), (1, .int g), (2, .int x), (3, .int y)]) rfl ?_
    subst e_x10_2
    refine v_iload_n 5 dX1_passSheet_41 rfl rfl ?_
    refine v_iconst (v := 2) dX1_passSheet_42 (by first | rfl | decide) ?_
    refine v_icmp_ge (tgt := 50) dX1_passSheet_43 (by decide) (fun c43 => ?_) (fun c43 => ?_)
    ·
      refine v_ldc2 kc_X1_99 dX1_passSheet_50 ?_
      refine v_lstore dX1_passSheet_53 (by decide) (fun x11_3 e_x11_3 => ?_)
      refine v_ls (ls' := [(11, .long x11_3), (10, .int (1)), (8, _), (6, _), (4, _), (0, .ref a), (1, .int g), (2, .int x), (3, .int y)]) rfl ?_
      subst e_x11_3
      refine v_lload 0 dX1_passSheet_55 rfl ?_
      refine v_iload 1 dX1_passSheet_57 rfl ?_
      refine v_if_eq (tgt := 69) dX1_passSheet_59 (by decide) (fun c59 => ?_) (fun c59 => ?_)
      · exact absurd c59 (by decide)
      ·
        refine v_aload_n 5 dX1_passSheet_62 rfl rfl ?_
        refine v_get fl_X1_15 dX1_passSheet_63 h0 rfl ?_
        refine v_goto (tgt := 73) dX1_passSheet_66 (by decide) ?_
        refine v_lmul dX1_passSheet_73 ?_
        refine v_lstore dX1_passSheet_74 (by decide) (fun x13_3 e_x13_3 => ?_)
        refine v_ls (ls' := [(13, .long x13_3), (11, _), (10, .int (1)), (8, _), (6, _), (4, _), (0, .ref a), (1, .int g), (2, .int x), (3, .int y)]) rfl ?_
        subst e_x13_3
        refine v_lload 1 dX1_passSheet_76 rfl ?_
        refine v_lload 4 dX1_passSheet_78 rfl ?_
        refine v_aload_n 6 dX1_passSheet_80 rfl rfl ?_
        refine v_get fl_X1_9 dX1_passSheet_81 h0 rfl ?_
        refine v_lmul dX1_passSheet_84 ?_
        refine v_lload 5 dX1_passSheet_85 rfl ?_
        refine v_lload 0 dX1_passSheet_87 rfl ?_
        refine v_lmul dX1_passSheet_89 ?_
        refine v_ladd dX1_passSheet_90 ?_
        refine v_lmul dX1_passSheet_91 ?_
        refine v_lstore dX1_passSheet_92 (by decide) (fun x15_3 e_x15_3 => ?_)
        refine v_ls (ls' := [(15, .long x15_3), (13, _), (11, _), (10, .int (1)), (8, _), (6, _), (4, _), (0, .ref a), (1, .int g), (2, .int x), (3, .int y)]) rfl ?_
        subst e_x15_3
        refine v_aload_n 7 dX1_passSheet_94 rfl rfl ?_
        refine v_lload 6 dX1_passSheet_95 rfl ?_
        refine v_aload_n 7 dX1_passSheet_97 rfl rfl ?_
        refine v_get fl_X1_9 dX1_passSheet_98 h0 rfl ?_
        refine v_lmul dX1_passSheet_101 ?_
        refine v_lload 5 dX1_passSheet_102 rfl ?_
        refine v_lload 1 dX1_passSheet_104 rfl ?_
        refine v_lmul dX1_passSheet_106 ?_
        refine v_ladd dX1_passSheet_107 ?_
        refine v_iload 3 dX1_passSheet_108 rfl ?_
        refine v_if_eq (tgt := 118) dX1_passSheet_110 (by decide) (fun c110 => ?_) (fun c110 => ?_)
        · exact absurd c110 (by decide)
        ·
          refine v_lload 0 dX1_passSheet_113 rfl ?_
          refine v_goto (tgt := 125) dX1_passSheet_115 (by decide) ?_
          refine v_iload 3 dX1_passSheet_125 rfl ?_
          refine v_if_eq (tgt := 140) dX1_passSheet_127 (by decide) (fun c127 => ?_) (fun c127 => ?_)
          · exact absurd c127 (by decide)
          ·
            refine v_lload 4 dX1_passSheet_130 rfl ?_
            refine v_aload_n 7 dX1_passSheet_132 rfl rfl ?_
            refine v_get fl_X1_18 dX1_passSheet_133 h0 rfl ?_
            refine v_lmul dX1_passSheet_136 ?_
            refine v_goto (tgt := 142) dX1_passSheet_137 (by decide) ?_
            refine v_lload 4 dX1_passSheet_142 rfl ?_
            refine v_aload_n 7 dX1_passSheet_144 rfl rfl ?_
            refine v_get fl_X1_21 dX1_passSheet_145 h0 rfl ?_
            refine v_lmul dX1_passSheet_148 ?_
            refine v_aload_n 7 dX1_passSheet_149 rfl rfl ?_
            refine v_get fl_X1_24 dX1_passSheet_150 h0 rfl ?_
            refine v_iconst (v := 5) dX1_passSheet_153 (by first | rfl | decide) ?_
            refine v_iadd dX1_passSheet_154 ?_
            refine v_callV (c_X1_become d h0) cs_X1_28 dX1_passSheet_155 h0 rfl rfl (Nat.le_of_ble_eq_true rfl) ?_
            refine rt_k ?_
            refine v_vret dX1_passSheet_158 rfl ?_
            exact ⟨rfl, by simp only [sheetO, if_pos c31, if_pos c43, if_neg (Int32.not_lt.mpr c43), if_neg c59, if_neg c110, if_neg c127]⟩
    ·
      refine v_lconst (v := 1) dX1_passSheet_46 (by first | rfl | decide) ?_
      refine v_goto (tgt := 53) dX1_passSheet_47 (by decide) ?_
      refine v_lstore dX1_passSheet_53 (by decide) (fun x11_4 e_x11_4 => ?_)
      refine v_ls (ls' := [(11, .long x11_4), (10, .int (1)), (8, _), (6, _), (4, _), (0, .ref a), (1, .int g), (2, .int x), (3, .int y)]) rfl ?_
      subst e_x11_4
      refine v_lload 0 dX1_passSheet_55 rfl ?_
      refine v_iload 1 dX1_passSheet_57 rfl ?_
      refine v_if_eq (tgt := 69) dX1_passSheet_59 (by decide) (fun c59 => ?_) (fun c59 => ?_)
      · exact absurd c59 (by decide)
      ·
        refine v_aload_n 5 dX1_passSheet_62 rfl rfl ?_
        refine v_get fl_X1_15 dX1_passSheet_63 h0 rfl ?_
        refine v_goto (tgt := 73) dX1_passSheet_66 (by decide) ?_
        refine v_lmul dX1_passSheet_73 ?_
        refine v_lstore dX1_passSheet_74 (by decide) (fun x13_4 e_x13_4 => ?_)
        refine v_ls (ls' := [(13, .long x13_4), (11, _), (10, .int (1)), (8, _), (6, _), (4, _), (0, .ref a), (1, .int g), (2, .int x), (3, .int y)]) rfl ?_
        subst e_x13_4
        refine v_lload 1 dX1_passSheet_76 rfl ?_
        refine v_lload 4 dX1_passSheet_78 rfl ?_
        refine v_aload_n 6 dX1_passSheet_80 rfl rfl ?_
        refine v_get fl_X1_9 dX1_passSheet_81 h0 rfl ?_
        refine v_lmul dX1_passSheet_84 ?_
        refine v_lload 5 dX1_passSheet_85 rfl ?_
        refine v_lload 0 dX1_passSheet_87 rfl ?_
        refine v_lmul dX1_passSheet_89 ?_
        refine v_ladd dX1_passSheet_90 ?_
        refine v_lmul dX1_passSheet_91 ?_
        refine v_lstore dX1_passSheet_92 (by decide) (fun x15_4 e_x15_4 => ?_)
        refine v_ls (ls' := [(15, .long x15_4), (13, _), (11, _), (10, .int (1)), (8, _), (6, _), (4, _), (0, .ref a), (1, .int g), (2, .int x), (3, .int y)]) rfl ?_
        subst e_x15_4
        refine v_aload_n 7 dX1_passSheet_94 rfl rfl ?_
        refine v_lload 6 dX1_passSheet_95 rfl ?_
        refine v_aload_n 7 dX1_passSheet_97 rfl rfl ?_
        refine v_get fl_X1_9 dX1_passSheet_98 h0 rfl ?_
        refine v_lmul dX1_passSheet_101 ?_
        refine v_lload 5 dX1_passSheet_102 rfl ?_
        refine v_lload 1 dX1_passSheet_104 rfl ?_
        refine v_lmul dX1_passSheet_106 ?_
        refine v_ladd dX1_passSheet_107 ?_
        refine v_iload 3 dX1_passSheet_108 rfl ?_
        refine v_if_eq (tgt := 118) dX1_passSheet_110 (by decide) (fun c110 => ?_) (fun c110 => ?_)
        · exact absurd c110 (by decide)
        ·
          refine v_lload 0 dX1_passSheet_113 rfl ?_
          refine v_goto (tgt := 125) dX1_passSheet_115 (by decide) ?_
          refine v_iload 3 dX1_passSheet_125 rfl ?_
          refine v_if_eq (tgt := 140) dX1_passSheet_127 (by decide) (fun c127 => ?_) (fun c127 => ?_)
          · exact absurd c127 (by decide)
          ·
            refine v_lload 4 dX1_passSheet_130 rfl ?_
            refine v_aload_n 7 dX1_passSheet_132 rfl rfl ?_
            refine v_get fl_X1_18 dX1_passSheet_133 h0 rfl ?_
            refine v_lmul dX1_passSheet_136 ?_
            refine v_goto (tgt := 142) dX1_passSheet_137 (by decide) ?_
            refine v_lload 4 dX1_passSheet_142 rfl ?_
            refine v_aload_n 7 dX1_passSheet_144 rfl rfl ?_
            refine v_get fl_X1_21 dX1_passSheet_145 h0 rfl ?_
            refine v_lmul dX1_passSheet_148 ?_
            refine v_aload_n 7 dX1_passSheet_149 rfl rfl ?_
            refine v_get fl_X1_24 dX1_passSheet_150 h0 rfl ?_
            refine v_iconst (v := 5) dX1_passSheet_153 (by first | rfl | decide) ?_
            refine v_iadd dX1_passSheet_154 ?_
            refine v_callV (c_X1_become d h0) cs_X1_28 dX1_passSheet_155 h0 rfl rfl (Nat.le_of_ble_eq_true rfl) ?_
            refine rt_k ?_
            refine v_vret dX1_passSheet_158 rfl ?_
            exact ⟨rfl, by simp only [sheetO, if_pos c31, if_neg c43, if_pos (Int32.not_le.mp c43), if_neg c59, if_neg c110, if_neg c127]⟩

set_option maxRecDepth 20000 in
set_option maxHeartbeats 4000000 in
theorem pass_loop {G : Cx} (d : Nat) {μ : Hp} {a : Nat} {c : Int32} : ∀ (n k : Nat) (x2 : Int32) (L : LT), k + n = (qtO c).toNatClampNeg → x2 = nI k → V G M_X1_pass (d + 2) 0 0 (Rt none (up μ a (ligL (lowO (turnsO n (if kdO c = 5 then 4 else anO c) L))))) 80 [(2, .int x2), (0, .ref a), (1, .int c)] [] (up μ a (ligL L)) := by
  have hq := tnc_lt (qtO c)
  intro n
  induction n with
  | zero =>
    intro k x2 L hk e2
    refine v_iload_n 0 dX1_pass_80 rfl rfl ?_
    refine v_iload_n 2 dX1_pass_81 rfl rfl ?_
    refine v_callSN (c_X6_quartersOf d ) cs_X1_89 dX1_pass_82 rfl rfl (Nat.le_of_ble_eq_true rfl) ?_
    refine rt_k ?_
    refine v_icmp_ge (tgt := 114) dX1_pass_85 (by decide) (fun c85 => ?_) (fun c85 => ?_)
    ·
      refine v_goto (tgt := 130) dX1_pass_114 (by decide) ?_
      refine v_aload_n 1 dX1_pass_130 rfl rfl ?_
      refine v_callV (c_X1_lower (d + 1) (up_s _ _ _)) cs_X1_96 dX1_pass_131 (up_s _ _ _) rfl rfl (Nat.le_of_ble_eq_true rfl) ?_
      refine rt_k ?_
      refine v_vret dX1_pass_134 rfl ?_
      exact ⟨rfl, up_up _ _ _ _⟩
    · exact absurd ((le_nI (by omega)).mpr (by omega)) (e2 ▸ c85)
  | succ n ih =>
    intro k x2 L hk e2
    refine v_iload_n 0 dX1_pass_80 rfl rfl ?_
    refine v_iload_n 2 dX1_pass_81 rfl rfl ?_
    refine v_callSN (c_X6_quartersOf d ) cs_X1_89 dX1_pass_82 rfl rfl (Nat.le_of_ble_eq_true rfl) ?_
    refine rt_k ?_
    refine v_icmp_ge (tgt := 114) dX1_pass_85 (by decide) (fun c85 => ?_) (fun c85 => ?_)
    · exact absurd ((le_nI (by omega)).mp (e2 ▸ c85)) (by omega)
    ·
      refine v_aload_n 1 dX1_pass_88 rfl rfl ?_
      refine v_iload_n 2 dX1_pass_89 rfl rfl ?_
      refine v_callSN (c_X6_kindOf (d + 1) ) cs_X1_65 dX1_pass_90 rfl rfl (Nat.le_of_ble_eq_true rfl) ?_
      refine rt_k ?_
      refine v_iconst (v := 5) dX1_pass_93 (by first | rfl | decide) ?_
      refine v_icmp_ne (tgt := 101) dX1_pass_94 (by decide) (fun c94 => ?_) (fun c94 => ?_)
      ·
        refine v_iload_n 2 dX1_pass_101 rfl rfl ?_
        refine v_callSN (c_X6_angleOf (d + 1) ) cs_X1_76 dX1_pass_102 rfl rfl (Nat.le_of_ble_eq_true rfl) ?_
        refine rt_k ?_
        refine v_callV (c_X1_turnQuarter d (up_s _ _ _)) cs_X1_92 dX1_pass_105 (up_s _ _ _) rfl rfl (Nat.le_of_ble_eq_true rfl) ?_
        refine rt_k ?_
        refine v_hp (up_up _ _ _ _) ?_
        refine v_iinc (v := 1) 0 dX1_pass_108 rfl rfl (by decide) (fun z2 e_z2 => ?_)
        refine v_ls (ls' := [(2, .int z2), (0, .ref a), (1, .int c)]) rfl ?_
        refine v_goto (tgt := 80) dX1_pass_111 (by decide) ?_
        have hz : z2 = nI (k + 1) := by rw [e_z2, e2]; exact nI_1 k
        refine v_hp (μ' := up μ a (ligL (turnO (if kdO c = 5 then 4 else anO c) L))) (by first | rw [if_pos c94] | rw [if_neg c94]) ?_
        exact ih (k + 1) z2 _ (by omega) hz
      ·
        refine v_iconst (v := 4) dX1_pass_97 (by first | rfl | decide) ?_
        refine v_goto (tgt := 105) dX1_pass_98 (by decide) ?_
        refine v_callV (c_X1_turnQuarter d (up_s _ _ _)) cs_X1_92 dX1_pass_105 (up_s _ _ _) rfl rfl (Nat.le_of_ble_eq_true rfl) ?_
        refine rt_k ?_
        refine v_hp (up_up _ _ _ _) ?_
        refine v_iinc (v := 1) 0 dX1_pass_108 rfl rfl (by decide) (fun z2 e_z2 => ?_)
        refine v_ls (ls' := [(2, .int z2), (0, .ref a), (1, .int c)]) rfl ?_
        refine v_goto (tgt := 80) dX1_pass_111 (by decide) ?_
        have hz : z2 = nI (k + 1) := by rw [e_z2, e2]; exact nI_1 k
        refine v_hp (μ' := up μ a (ligL (turnO (if kdO c = 5 then 4 else anO c) L))) (by first | rw [if_pos c94] | rw [if_neg c94]) ?_
        exact ih (k + 1) z2 _ (by omega) hz

set_option maxRecDepth 20000 in
set_option maxHeartbeats 4000000 in
theorem c_X1_pass {G : Cx} (d : Nat) {μ : Hp} {a : Nat} {L : LT} {c : Int32} (h0 : μ a = some (ligL L)) : Ct G (d + 2) 0 0 M_X1_pass [.ref a, .int c] μ (Rt none (up μ a (ligL (passO c L)))) := by
  refine Ct.ofV (by decide +kernel) (Nat.le_of_ble_eq_true rfl) ?_
  refine v_ls (ls' := [(0, .ref a), (1, .int c)]) rfl ?_
  refine v_iload_n 1 dX1_pass_0 rfl rfl ?_
  refine v_callSN (c_X6_kindOf (d + 1) ) cs_X1_65 dX1_pass_1 rfl rfl (Nat.le_of_ble_eq_true rfl) ?_
  refine rt_k ?_
  by_cases cl4 : (kdO c).toInt < 1
  · refine v_tableOut (tgt := 130) dX1_pass_4 (Or.inl cl4) (by decide) ?_
    have cs4_0 : ¬ kdO c = 1 := sw_lo cl4 (by decide)
    have cs4_1 : ¬ kdO c = 2 := sw_lo cl4 (by decide)
    have cs4_2 : ¬ kdO c = 3 := sw_lo cl4 (by decide)
    have cs4_3 : ¬ kdO c = 4 := sw_lo cl4 (by decide)
    have cs4_4 : ¬ kdO c = 5 := sw_lo cl4 (by decide)
    have cs4_5 : ¬ kdO c = 6 := sw_lo cl4 (by decide)
    refine v_aload_n 0 dX1_pass_130 rfl rfl ?_
    refine v_callV (c_X1_lower (d + 1) h0) cs_X1_96 dX1_pass_131 h0 rfl rfl (Nat.le_of_ble_eq_true rfl) ?_
    refine rt_k ?_
    refine v_vret dX1_pass_134 rfl ?_
    exact ⟨rfl, by simp only [passO, goO, if_neg cs4_0, if_neg cs4_1, if_neg cs4_2, if_neg cs4_3, if_neg cs4_4, if_neg cs4_5]⟩
  by_cases ch4 : 6 < (kdO c).toInt
  · refine v_tableOut (tgt := 130) dX1_pass_4 (Or.inr ch4) (by decide) ?_
    have cs4_0 : ¬ kdO c = 1 := sw_hi ch4 (by decide)
    have cs4_1 : ¬ kdO c = 2 := sw_hi ch4 (by decide)
    have cs4_2 : ¬ kdO c = 3 := sw_hi ch4 (by decide)
    have cs4_3 : ¬ kdO c = 4 := sw_hi ch4 (by decide)
    have cs4_4 : ¬ kdO c = 5 := sw_hi ch4 (by decide)
    have cs4_5 : ¬ kdO c = 6 := sw_hi ch4 (by decide)
    refine v_aload_n 0 dX1_pass_130 rfl rfl ?_
    refine v_callV (c_X1_lower (d + 1) h0) cs_X1_96 dX1_pass_131 h0 rfl rfl (Nat.le_of_ble_eq_true rfl) ?_
    refine rt_k ?_
    refine v_vret dX1_pass_134 rfl ?_
    exact ⟨rfl, by simp only [passO, goO, if_neg cs4_0, if_neg cs4_1, if_neg cs4_2, if_neg cs4_3, if_neg cs4_4, if_neg cs4_5]⟩
  by_cases cs4_0 : kdO c = 1
  · refine v_tableIn (off := 40) (tgt := 44) dX1_pass_4 cl4 ch4 (by rw [cs4_0]; rfl) (by decide) ?_
    refine v_aload_n 0 dX1_pass_44 rfl rfl ?_
    refine v_iload_n 1 dX1_pass_45 rfl rfl ?_
    refine v_callSN (c_X6_figureOf (d + 1) ) cs_X1_69 dX1_pass_46 rfl rfl (Nat.le_of_ble_eq_true rfl) ?_
    refine rt_k ?_
    refine v_iload_n 1 dX1_pass_49 rfl rfl ?_
    refine v_callSN (c_X6_figureOf (d + 1) ) cs_X1_69 dX1_pass_50 rfl rfl (Nat.le_of_ble_eq_true rfl) ?_
    refine rt_k ?_
    refine v_callV (c_X1_passGrey d h0) cs_X1_72 dX1_pass_53 h0 rfl rfl (Nat.le_of_ble_eq_true rfl) ?_
    refine rt_k ?_
    refine v_goto (tgt := 130) dX1_pass_56 (by decide) ?_
    refine v_aload_n 0 dX1_pass_130 rfl rfl ?_
    refine v_callV (c_X1_lower (d + 1) (up_s _ _ _)) cs_X1_96 dX1_pass_131 (up_s _ _ _) rfl rfl (Nat.le_of_ble_eq_true rfl) ?_
    refine rt_k ?_
    refine v_hp (up_up _ _ _ _) ?_
    refine v_vret dX1_pass_134 rfl ?_
    exact ⟨rfl, by simp only [passO, goO, if_pos cs4_0]⟩
  by_cases cs4_1 : kdO c = 2
  · refine v_tableIn (off := 55) (tgt := 59) dX1_pass_4 cl4 ch4 (by rw [cs4_1]; rfl) (by decide) ?_
    refine v_aload_n 0 dX1_pass_59 rfl rfl ?_
    refine v_iload_n 1 dX1_pass_60 rfl rfl ?_
    refine v_callSN (c_X6_angleOf (d + 1) ) cs_X1_76 dX1_pass_61 rfl rfl (Nat.le_of_ble_eq_true rfl) ?_
    refine rt_k ?_
    refine v_iload_n 1 dX1_pass_64 rfl rfl ?_
    refine v_callSN (c_X6_alongOf d ) cs_X1_79 dX1_pass_65 rfl rfl (Nat.le_of_ble_eq_true rfl) ?_
    refine rt_k ?_
    refine v_iload_n 1 dX1_pass_68 rfl rfl ?_
    refine v_callSN (c_X6_acrossOf d ) cs_X1_82 dX1_pass_69 rfl rfl (Nat.le_of_ble_eq_true rfl) ?_
    refine rt_k ?_
    refine v_callV (c_X1_passSheet d h0) cs_X1_85 dX1_pass_72 h0 rfl rfl (Nat.le_of_ble_eq_true rfl) ?_
    refine rt_k ?_
    refine v_goto (tgt := 130) dX1_pass_75 (by decide) ?_
    refine v_aload_n 0 dX1_pass_130 rfl rfl ?_
    refine v_callV (c_X1_lower (d + 1) (up_s _ _ _)) cs_X1_96 dX1_pass_131 (up_s _ _ _) rfl rfl (Nat.le_of_ble_eq_true rfl) ?_
    refine rt_k ?_
    refine v_hp (up_up _ _ _ _) ?_
    refine v_vret dX1_pass_134 rfl ?_
    exact ⟨rfl, by simp only [passO, goO, if_neg cs4_0, if_pos cs4_1]⟩
  by_cases cs4_2 : kdO c = 3
  · refine v_tableIn (off := 55) (tgt := 59) dX1_pass_4 cl4 ch4 (by rw [cs4_2]; rfl) (by decide) ?_
    refine v_aload_n 0 dX1_pass_59 rfl rfl ?_
    refine v_iload_n 1 dX1_pass_60 rfl rfl ?_
    refine v_callSN (c_X6_angleOf (d + 1) ) cs_X1_76 dX1_pass_61 rfl rfl (Nat.le_of_ble_eq_true rfl) ?_
    refine rt_k ?_
    refine v_iload_n 1 dX1_pass_64 rfl rfl ?_
    refine v_callSN (c_X6_alongOf d ) cs_X1_79 dX1_pass_65 rfl rfl (Nat.le_of_ble_eq_true rfl) ?_
    refine rt_k ?_
    refine v_iload_n 1 dX1_pass_68 rfl rfl ?_
    refine v_callSN (c_X6_acrossOf d ) cs_X1_82 dX1_pass_69 rfl rfl (Nat.le_of_ble_eq_true rfl) ?_
    refine rt_k ?_
    refine v_callV (c_X1_passSheet d h0) cs_X1_85 dX1_pass_72 h0 rfl rfl (Nat.le_of_ble_eq_true rfl) ?_
    refine rt_k ?_
    refine v_goto (tgt := 130) dX1_pass_75 (by decide) ?_
    refine v_aload_n 0 dX1_pass_130 rfl rfl ?_
    refine v_callV (c_X1_lower (d + 1) (up_s _ _ _)) cs_X1_96 dX1_pass_131 (up_s _ _ _) rfl rfl (Nat.le_of_ble_eq_true rfl) ?_
    refine rt_k ?_
    refine v_hp (up_up _ _ _ _) ?_
    refine v_vret dX1_pass_134 rfl ?_
    exact ⟨rfl, by simp only [passO, goO, if_neg cs4_0, if_neg cs4_1, if_pos cs4_2]⟩
  by_cases cs4_3 : kdO c = 4
  · refine v_tableIn (off := 74) (tgt := 78) dX1_pass_4 cl4 ch4 (by rw [cs4_3]; rfl) (by decide) ?_
    refine v_iconst (v := 0) dX1_pass_78 (by first | rfl | decide) ?_
    refine v_istore_n dX1_pass_79 rfl (by decide) (fun x2 e_x2 => ?_)
    refine v_ls (ls' := [(2, .int x2), (0, .ref a), (1, .int c)]) rfl ?_
    have hp := pass_loop (G := G) d (a := a) (c := c) (μ := μ) _ 0 x2 L (Nat.zero_add _) (by rw [e_x2]; rfl)
    refine v_hp (up_id h0).symm ?_
    refine v_post hp ?_
    rintro _ _ ⟨rfl, rfl⟩
    exact ⟨rfl, by simp only [passO, goO, *]; rfl⟩
    
  by_cases cs4_4 : kdO c = 5
  · refine v_tableIn (off := 74) (tgt := 78) dX1_pass_4 cl4 ch4 (by rw [cs4_4]; rfl) (by decide) ?_
    refine v_iconst (v := 0) dX1_pass_78 (by first | rfl | decide) ?_
    refine v_istore_n dX1_pass_79 rfl (by decide) (fun x2 e_x2 => ?_)
    refine v_ls (ls' := [(2, .int x2), (0, .ref a), (1, .int c)]) rfl ?_
    have hp := pass_loop (G := G) d (a := a) (c := c) (μ := μ) _ 0 x2 L (Nat.zero_add _) (by rw [e_x2]; rfl)
    refine v_hp (up_id h0).symm ?_
    refine v_post hp ?_
    rintro _ _ ⟨rfl, rfl⟩
    exact ⟨rfl, by simp only [passO, goO, *]; rfl⟩
    
  by_cases cs4_5 : kdO c = 6
  · refine v_tableIn (off := 113) (tgt := 117) dX1_pass_4 cl4 ch4 (by rw [cs4_5]; rfl) (by decide) ?_
    refine v_aload_n 0 dX1_pass_117 rfl rfl ?_
    refine v_bipush (v := 16) dX1_pass_118 (by first | rfl | decide) ?_
    refine v_iload_n 1 dX1_pass_120 rfl rfl ?_
    refine v_callSN (c_X6_figureOf (d + 1) ) cs_X1_69 dX1_pass_121 rfl rfl (Nat.le_of_ble_eq_true rfl) ?_
    refine rt_k ?_
    refine v_callV (c_X1_passGrey d h0) cs_X1_72 dX1_pass_124 h0 rfl rfl (Nat.le_of_ble_eq_true rfl) ?_
    refine rt_k ?_
    refine v_goto (tgt := 130) dX1_pass_127 (by decide) ?_
    refine v_aload_n 0 dX1_pass_130 rfl rfl ?_
    refine v_callV (c_X1_lower (d + 1) (up_s _ _ _)) cs_X1_96 dX1_pass_131 (up_s _ _ _) rfl rfl (Nat.le_of_ble_eq_true rfl) ?_
    refine rt_k ?_
    refine v_hp (up_up _ _ _ _) ?_
    refine v_vret dX1_pass_134 rfl ?_
    exact ⟨rfl, by simp only [passO, goO, if_neg cs4_0, if_neg cs4_1, if_neg cs4_2, if_neg cs4_3, if_neg cs4_4, if_pos cs4_5]⟩
  exfalso
  have q4_0 := lv_neT (a := 1) cs4_0 (by decide)
  have q4_1 := lv_neT (a := 2) cs4_1 (by decide)
  have q4_2 := lv_neT (a := 3) cs4_2 (by decide)
  have q4_3 := lv_neT (a := 4) cs4_3 (by decide)
  have q4_4 := lv_neT (a := 5) cs4_4 (by decide)
  have q4_5 := lv_neT (a := 6) cs4_5 (by decide)
  omega
