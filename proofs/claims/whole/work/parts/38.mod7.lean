theorem absl (a : Int64) : (if 0 ≤ a then a else -a) = absO a := rfl
set_option maxRecDepth 20000 in
set_option maxHeartbeats 4000000 in
theorem com7_loop {G : Cx} (d : Nat) {μ : Hp} {a b : Int64} : ∀ (m : Nat) (x y : Int64), Fn m x y → V G M_X7_common (d + 0) 0 0 (Rt (some (.long (gcdN m x y))) μ) 28 [(6, .long y), (4, .long x), (0, .long a), (2, .long b)] [] (μ) := by
  intro m
  induction m with
  | zero =>
    intro x y hf
    refine v_lload 0 dX7_common_28 rfl ?_
    refine v_lconst (v := 0) dX7_common_30 (by first | rfl | decide) ?_
    refine v_lc_eq (tgt := 53) dX7_common_31 dX7_common_32 (by decide) (fun hc31 => ?_) (fun hc31 => ?_)
    ·
      refine v_lload 1 dX7_common_53 rfl ?_
      refine v_lret dX7_common_55 rfl ?_
      exact ⟨rfl, rfl⟩
    · exact absurd hf hc31
  | succ m ih =>
    intro x y hf
    refine v_lload 0 dX7_common_28 rfl ?_
    refine v_lconst (v := 0) dX7_common_30 (by first | rfl | decide) ?_
    refine v_lc_eq (tgt := 53) dX7_common_31 dX7_common_32 (by decide) (fun hc31 => ?_) (fun hc31 => ?_)
    ·
      refine v_lload 1 dX7_common_53 rfl ?_
      refine v_lret dX7_common_55 rfl ?_
      have hy : y = 0 := hc31
      exact ⟨by rw [hy, gcdN_0], rfl⟩
    ·
      refine v_lload 1 dX7_common_35 rfl ?_
      refine v_lload 0 dX7_common_37 rfl ?_
      refine v_lrem dX7_common_39 (hc31) ?_
      refine v_lstore dX7_common_40 (by decide) (fun z8 e_z8 => ?_)
      refine v_ls (ls' := [(8, .long z8), (6, .long y), (4, .long x), (0, .long a), (2, .long b)]) rfl ?_
      refine v_lload 1 dX7_common_42 rfl ?_
      refine v_lstore dX7_common_44 (by decide) (fun z4 e_z4 => ?_)
      refine v_ls (ls' := [(4, .long z4), (8, .long z8), (6, .long y), (0, .long a), (2, .long b)]) rfl ?_
      refine v_lload 1 dX7_common_46 rfl ?_
      refine v_lstore dX7_common_48 (by decide) (fun z6 e_z6 => ?_)
      refine v_ls (ls' := [(6, .long z6), (4, .long z4), (8, .long z8), (0, .long a), (2, .long b)]) rfl ?_
      refine v_goto (tgt := 28) dX7_common_50 (by decide) ?_
      refine v_pick [0, 1, 3, 4] rfl ?_
      have hg : gcdN (m + 1) x y = gcdN m z4 z6 := by rw [e_z4, e_z6, e_z8]; simp only [gcdN, if_neg hc31]
      rw [hg]
      refine ih z4 z6 ?_
      have hf2 : y = 0 ∨ Fn m y (lrem x y) := hf
      rw [e_z4, e_z6, e_z8]
      exact hf2.resolve_left hc31
      

set_option maxRecDepth 20000 in
set_option maxHeartbeats 4000000 in
theorem c_X7_common {G : Cx} (d : Nat) {μ : Hp} {a b : Int64} (hf : Fn 200 (absO a) (absO b)) : Ct G (d) 0 0 M_X7_common [.long a, .long b] μ (Rt (some (.long (gcdO a b))) μ) := by
  refine Ct.ofV (by decide +kernel) (Nat.le_of_ble_eq_true rfl) ?_
  refine v_ls (ls' := [(0, .long a), (2, .long b)]) rfl ?_
  refine v_lload_n 0 dX7_common_0 rfl rfl ?_
  refine v_lconst (v := 0) dX7_common_1 (by first | rfl | decide) ?_
  refine v_lc_ge (tgt := 11) dX7_common_2 dX7_common_3 (by decide) (fun hc2 => ?_) (fun hc2 => ?_)
  ·
    refine v_lload_n 0 dX7_common_11 rfl rfl ?_
    refine v_lstore dX7_common_12 (by decide) (fun x4 e_x4 => ?_)
    refine v_ls (ls' := [(4, .long x4), (0, .long a), (2, .long b)]) rfl ?_
    refine v_lload_n 2 dX7_common_14 rfl rfl ?_
    refine v_lconst (v := 0) dX7_common_15 (by first | rfl | decide) ?_
    refine v_lc_ge (tgt := 25) dX7_common_16 dX7_common_17 (by decide) (fun hc16 => ?_) (fun hc16 => ?_)
    ·
      refine v_lload_n 2 dX7_common_25 rfl rfl ?_
      refine v_lstore dX7_common_26 (by decide) (fun x6 e_x6 => ?_)
      refine v_ls (ls' := [(6, .long x6), (4, .long x4), (0, .long a), (2, .long b)]) rfl ?_
      have h4 : x4 = absO a := by rw [e_x4]; unfold absO; first | rw [if_pos hc2] | rw [if_neg hc2]
      have h6 : x6 = absO b := by rw [e_x6]; unfold absO; first | rw [if_pos hc16] | rw [if_neg hc16]
      clear e_x4 e_x6
      subst h4 h6
      exact com7_loop d 200 _ _ hf
      
    ·
      refine v_lload_n 2 dX7_common_20 rfl rfl ?_
      refine v_lneg dX7_common_21 ?_
      refine v_goto (tgt := 26) dX7_common_22 (by decide) ?_
      refine v_lstore dX7_common_26 (by decide) (fun x6 e_x6 => ?_)
      refine v_ls (ls' := [(6, .long x6), (4, .long x4), (0, .long a), (2, .long b)]) rfl ?_
      have h4 : x4 = absO a := by rw [e_x4]; unfold absO; first | rw [if_pos hc2] | rw [if_neg hc2]
      have h6 : x6 = absO b := by rw [e_x6]; unfold absO; first | rw [if_pos hc16] | rw [if_neg hc16]
      clear e_x4 e_x6
      subst h4 h6
      exact com7_loop d 200 _ _ hf
      
  ·
    refine v_lload_n 0 dX7_common_6 rfl rfl ?_
    refine v_lneg dX7_common_7 ?_
    refine v_goto (tgt := 12) dX7_common_8 (by decide) ?_
    refine v_lstore dX7_common_12 (by decide) (fun x4 e_x4 => ?_)
    refine v_ls (ls' := [(4, .long x4), (0, .long a), (2, .long b)]) rfl ?_
    refine v_lload_n 2 dX7_common_14 rfl rfl ?_
    refine v_lconst (v := 0) dX7_common_15 (by first | rfl | decide) ?_
    refine v_lc_ge (tgt := 25) dX7_common_16 dX7_common_17 (by decide) (fun hc16 => ?_) (fun hc16 => ?_)
    ·
      refine v_lload_n 2 dX7_common_25 rfl rfl ?_
      refine v_lstore dX7_common_26 (by decide) (fun x6 e_x6 => ?_)
      refine v_ls (ls' := [(6, .long x6), (4, .long x4), (0, .long a), (2, .long b)]) rfl ?_
      have h4 : x4 = absO a := by rw [e_x4]; unfold absO; first | rw [if_pos hc2] | rw [if_neg hc2]
      have h6 : x6 = absO b := by rw [e_x6]; unfold absO; first | rw [if_pos hc16] | rw [if_neg hc16]
      clear e_x4 e_x6
      subst h4 h6
      exact com7_loop d 200 _ _ hf
      
    ·
      refine v_lload_n 2 dX7_common_20 rfl rfl ?_
      refine v_lneg dX7_common_21 ?_
      refine v_goto (tgt := 26) dX7_common_22 (by decide) ?_
      refine v_lstore dX7_common_26 (by decide) (fun x6 e_x6 => ?_)
      refine v_ls (ls' := [(6, .long x6), (4, .long x4), (0, .long a), (2, .long b)]) rfl ?_
      have h4 : x4 = absO a := by rw [e_x4]; unfold absO; first | rw [if_pos hc2] | rw [if_neg hc2]
      have h6 : x6 = absO b := by rw [e_x6]; unfold absO; first | rw [if_pos hc16] | rw [if_neg hc16]
      clear e_x4 e_x6
      subst h4 h6
      exact com7_loop d 200 _ _ hf
      

