theorem div_1 (x : Int64) : x / 1 = x := by
  apply Int64.toInt_inj.mp
  rw [Int64.toInt_div_of_ne_right _ _ (by decide), show (1 : Int64).toInt = 1 from rfl, Int.tdiv_one]
theorem shr_div {B : LT} {g : Int64} (hg : gcdO (gcdO B.1 B.2.1) (gcdO B.2.2.1 B.2.2.2.1) = g) (hp : 0 < g.toInt) : shrO B = (B.1 / g, B.2.1 / g, B.2.2.1 / g, B.2.2.2.1 / g, B.2.2.2.2) := by
  unfold shrO
  simp only [hg]
  by_cases e : g ≤ 1
  · rw [if_pos e]
    have : g = 1 := by
      apply Int64.toInt_inj.mp
      rw [Int64.le_iff_toInt_le, show (1 : Int64).toInt = 1 from rfl] at e
      rw [show (1 : Int64).toInt = 1 from rfl]
      omega
    rw [this, div_1, div_1, div_1, div_1]
  · rw [if_neg e]
theorem ovr_fr (x : Int64) : ovrO x = 0 ↔ ¬ frO x (-3037000499) 3037000499 = 0 := by
  unfold ovrO frO
  by_cases h1 : 3037000499 < x
  · have h2 : ¬ x < -3037000499 := by grind
    simp [h1, h2]
  · by_cases h2 : x < -3037000499
    · simp [h1, h2]
    · simp [h1, h2]
theorem root_int {x : Int64} (h : ¬ frO x (-3037000499) 3037000499 = 0) : 0 ≤ x.toInt * x.toInt ∧ x.toInt * x.toInt ≤ 9223372030926249001 ∧ (x * x).toInt = x.toInt * x.toInt := by
  have h1 : ¬ x < -3037000499 := fun z => h (by unfold frO; rw [if_pos z])
  have h2 : ¬ 3037000499 < x := fun z => h (by unfold frO; rw [if_neg h1, if_pos z])
  rw [Int64.lt_iff_toInt_lt, show (-3037000499 : Int64).toInt = -3037000499 from rfl] at h1
  rw [Int64.lt_iff_toInt_lt, show (3037000499 : Int64).toInt = 3037000499 from rfl] at h2
  have b := bnd_mul (x := x.toInt) (X := 3037000499) (y := x.toInt) (Y := 3037000499) (by omega) (by omega)
  have n := sq_nn x.toInt
  refine ⟨n, by omega, i64_mul (by omega) (by omega)⟩
theorem over3 {q u : Int64} (hq : ¬ frO q (-3037000499) 3037000499 = 0) (hu : ¬ frO u (-3037000499) 3037000499 = 0) : (9223372036854775807 - q * q < u * u) ↔ ¬ 0 ≤ q * q + u * u := by
  obtain ⟨a1, a2, a3⟩ := root_int hq
  obtain ⟨b1, b2, b3⟩ := root_int hu
  have e1 : (9223372036854775807 - q * q).toInt = 9223372036854775807 - q.toInt * q.toInt := by
    rw [i64_sub (by rw [a3, show (9223372036854775807 : Int64).toInt = 9223372036854775807 from rfl]; omega) (by rw [a3, show (9223372036854775807 : Int64).toInt = 9223372036854775807 from rfl]; omega), a3]
    rfl
  rw [Int64.lt_iff_toInt_lt, Int64.le_iff_toInt_le, e1, b3, Int64.toInt_add, a3, b3, show (0 : Int64).toInt = 0 from rfl]
  generalize q.toInt * q.toInt = X at *
  generalize u.toInt * u.toInt = Y at *
  by_cases c : X + Y < 9223372036854775808
  · rw [Int.bmod_eq_of_le (by simp; omega) (by simp; omega)]
    omega
  · have : (X + Y).bmod (2 ^ 64) = X + Y - 18446744073709551616 := by
      rw [show X + Y = (X + Y - 18446744073709551616) + ((2 ^ 64 : Nat) : Int) by omega, Int.add_bmod_right]
      rw [Int.bmod_eq_of_le (by simp; omega) (by simp; omega)]
      omega
    rw [this]
    omega
theorem over4 {q u v : Int64} (hq : ¬ frO q (-3037000499) 3037000499 = 0) (hu : ¬ frO u (-3037000499) 3037000499 = 0) (hv : ¬ frO v (-3037000499) 3037000499 = 0) (hs : 0 ≤ q * q + u * u) : (9223372036854775807 - q * q - u * u < v * v) ↔ ¬ 0 ≤ q * q + u * u + v * v := by
  obtain ⟨a1, a2, a3⟩ := root_int hq
  obtain ⟨b1, b2, b3⟩ := root_int hu
  obtain ⟨c1, c2, c3⟩ := root_int hv
  have hn : ¬ 9223372036854775807 - q * q < u * u := fun z => (over3 hq hu).mp z hs
  have e1 : (9223372036854775807 - q * q).toInt = 9223372036854775807 - q.toInt * q.toInt := by
    rw [i64_sub (by rw [a3, show (9223372036854775807 : Int64).toInt = 9223372036854775807 from rfl]; omega) (by rw [a3, show (9223372036854775807 : Int64).toInt = 9223372036854775807 from rfl]; omega), a3]
    rfl
  rw [Int64.lt_iff_toInt_lt, e1, b3] at hn
  have e2 : (9223372036854775807 - q * q - u * u).toInt = 9223372036854775807 - q.toInt * q.toInt - u.toInt * u.toInt := by
    rw [i64_sub (by rw [e1, b3]; omega) (by rw [e1, b3]; omega), e1, b3]
  have e3 : (q * q + u * u).toInt = q.toInt * q.toInt + u.toInt * u.toInt := by
    rw [i64_add (by rw [a3, b3]; omega) (by rw [a3, b3]; omega), a3, b3]
  rw [Int64.lt_iff_toInt_lt, Int64.le_iff_toInt_le, e2, c3, Int64.toInt_add, e3, c3, show (0 : Int64).toInt = 0 from rfl]
  generalize q.toInt * q.toInt = X at *
  generalize u.toInt * u.toInt = Y at *
  generalize v.toInt * v.toInt = Z at *
  by_cases c : X + Y + Z < 9223372036854775808
  · rw [Int.bmod_eq_of_le (by simp; omega) (by simp; omega)]
    omega
  · have : (X + Y + Z).bmod (2 ^ 64) = X + Y + Z - 18446744073709551616 := by
      rw [show X + Y + Z = (X + Y + Z - 18446744073709551616) + ((2 ^ 64 : Nat) : Int) by omega, Int.add_bmod_right]
      rw [Int.bmod_eq_of_le (by simp; omega) (by simp; omega)]
      omega
    rw [this]
    omega
set_option maxRecDepth 20000 in
set_option maxHeartbeats 4000000 in
theorem c_X7_findsDegree {G : Cx} (d : Nat) {μ : Hp} {B S : LT} {f g : Nat → Int32} {m un lr mr hr le at9 fa op tr sg hm hi : Int32} {co wh : Int64} (h60 : μ 60 = some (modC m co wh un lr mr hr le at9 fa op tr sg hm hi)) (h63 : μ 63 = some (mlg B)) (h78 : μ 78 = some (arI 4 f)) (h79 : μ 79 = some (arI 4 g)) (hB : Ph 1125899906842624 40 B) (hi0 : ¬ B.1 = 0) (hS : shrO B = S) : Ct G (d + 1) 0 0 M_X7_findsDegree [.ref 60] μ (fun r μ' => (fstO S < 0 ∧ r = some (.int 1) ∧ μ' = up μ 60 (modC m (sqO S) (S.1 * S.1) un lr mr hr le at9 fa op tr sg hm hi)) ∨ (¬ fstO S < 0 ∧ r = some (.int 0) ∧ μ' = up (up (up (up μ 60 (modC m co wh un lr mr hr le at9 fa op 0 sg hm hi)) 78 (arI 4 (upd f 0 4))) 79 (arI 4 (upd g 0 (fstO S)))) 60 (modC m co wh un lr mr hr le at9 fa op (nI 1) sg hm hi))) := by
  refine Ct.ofV (by decide +kernel) (Nat.le_of_ble_eq_true rfl) ?_
  refine v_ls (ls' := [(0, .ref 60)]) rfl ?_
  obtain ⟨bq, bu, bv⟩ := hB.le
  have bi1 := hB.1
  have bi2 := hB.2.1
  have g1 := gcdO_facts (a := B.1) (b := B.2.1) (M := 1125899906842624) (by omega) (by omega) (by decide)
  have g2 := gcdO_facts (a := B.2.2.1) (b := B.2.2.2.1) (M := 1125899906842624) (by omega) (by omega) (by decide)
  obtain ⟨ga, hga⟩ : ∃ x, gcdO B.1 B.2.1 = x := ⟨_, rfl⟩
  obtain ⟨gb, hgb⟩ : ∃ x, gcdO B.2.2.1 B.2.2.2.1 = x := ⟨_, rfl⟩
  rw [hga] at g1
  rw [hgb] at g2
  have g3 := gcdO_facts (a := ga) (b := gb) (M := 1125899906842624) (by omega) (by omega) (by decide)
  obtain ⟨g9, hg9⟩ : ∃ x, gcdO ga gb = x := ⟨_, rfl⟩
  rw [hg9] at g3
  have hga0 : ¬ ga = 0 := fun z => by
    have := g1.2.2.2.2 (Or.inl hi0)
    rw [z] at this
    exact absurd this (by decide)
  have hpos := g3.2.2.2.2 (Or.inl hga0)
  have hnz : ¬ g9 = 0 := fun z => by rw [z] at hpos; exact absurd hpos (by decide)
  have hSe : shrO B = (B.1 / g9, B.2.1 / g9, B.2.2.1 / g9, B.2.2.2.1 / g9, B.2.2.2.2) := shr_div (by rw [hga, hgb]; exact hg9) hpos
  obtain rfl : S = (B.1 / g9, B.2.1 / g9, B.2.2.1 / g9, B.2.2.2.1 / g9, B.2.2.2.2) := hS.symm.trans hSe
  clear hS hSe
  refine v_aload_n 0 dX7_findsDegree_0 rfl rfl ?_
  refine v_get fl_X7_21 dX7_findsDegree_1 h60 rfl ?_
  refine v_iconst (v := 0) dX7_findsDegree_4 (by first | rfl | decide) ?_
  refine v_lald dX7_findsDegree_5 h63 (nI_in' (k := 0) (by decide)) ?_
  refine v_aload_n 0 dX7_findsDegree_6 rfl rfl ?_
  refine v_get fl_X7_21 dX7_findsDegree_7 h60 rfl ?_
  refine v_iconst (v := 1) dX7_findsDegree_10 (by first | rfl | decide) ?_
  refine v_lald dX7_findsDegree_11 h63 (nI_in' (k := 1) (by decide)) ?_
  refine v_callS (c_X7_common d (a := B.1) (b := B.2.1) (fin_abs (by omega) (by omega))) cs_X7_198 dX7_findsDegree_12 rfl rfl (Nat.le_of_ble_eq_true rfl) ?_
  refine rt_k ?_
  rw [hga]
  refine v_aload_n 0 dX7_findsDegree_15 rfl rfl ?_
  refine v_get fl_X7_21 dX7_findsDegree_16 h60 rfl ?_
  refine v_iconst (v := 2) dX7_findsDegree_19 (by first | rfl | decide) ?_
  refine v_lald dX7_findsDegree_20 h63 (nI_in' (k := 2) (by decide)) ?_
  refine v_aload_n 0 dX7_findsDegree_21 rfl rfl ?_
  refine v_get fl_X7_21 dX7_findsDegree_22 h60 rfl ?_
  refine v_iconst (v := 3) dX7_findsDegree_25 (by first | rfl | decide) ?_
  refine v_lald dX7_findsDegree_26 h63 (nI_in' (k := 3) (by decide)) ?_
  refine v_callS (c_X7_common d (a := B.2.2.1) (b := B.2.2.2.1) (fin_abs (by omega) (by omega))) cs_X7_198 dX7_findsDegree_27 rfl rfl (Nat.le_of_ble_eq_true rfl) ?_
  refine rt_k ?_
  rw [hgb]
  refine v_callS (c_X7_common d (fin_abs (by omega) (by omega))) cs_X7_198 dX7_findsDegree_30 rfl rfl (Nat.le_of_ble_eq_true rfl) ?_
  refine rt_k ?_
  rw [hg9]
  refine v_lstore_n dX7_findsDegree_33 rfl (by decide) (fun y1 e_y1 => ?_)
  refine v_ls (ls' := [(1, .long y1), (0, .ref 60)]) rfl ?_
  have e_yy := e_y1.symm
  subst e_yy
  refine v_lconst (v := 0) dX7_findsDegree_34 (by first | rfl | decide) ?_
  refine v_lstore_n dX7_findsDegree_35 rfl (by decide) (fun y3 e_y3 => ?_)
  refine v_ls (ls' := [(3, .long y3), (1, _), (0, .ref 60)]) rfl ?_
  subst e_y3
  refine v_iconst (v := -1) dX7_findsDegree_36 (by first | rfl | decide) ?_
  refine v_istore dX7_findsDegree_37 (by decide) (fun y0 e_y0 => ?_)
  refine v_ls (ls' := [(5, .int y0), (3, _), (1, _), (0, .ref 60)]) rfl ?_
  subst e_y0
  refine v_iconst (v := 1) dX7_findsDegree_39 (by first | rfl | decide) ?_
  refine v_istore dX7_findsDegree_40 (by decide) (fun y6 e_y6 => ?_)
  refine v_ls (ls' := [(6, .int y6), (5, .int (-1)), (3, _), (1, _), (0, .ref 60)]) rfl ?_
  subst e_y6
  refine v_iload 0 dX7_findsDegree_42 rfl ?_
  refine v_iconst (v := 4) dX7_findsDegree_44 (by first | rfl | decide) ?_
  refine v_icmp_ge (tgt := 90) dX7_findsDegree_45 (by decide) (fun hc45 => ?_) (fun hc45 => ?_)
  · exact absurd hc45 (by decide)
  ·
    refine v_iload 1 dX7_findsDegree_48 rfl ?_
    refine v_if_ge (tgt := 90) dX7_findsDegree_50 (by decide) (fun hg0 => ?_) (fun hg0 => ?_)
    · exact absurd hg0 (by decide)
    ·
      refine v_aload_n 4 dX7_findsDegree_53 rfl rfl ?_
      refine v_get fl_X7_21 dX7_findsDegree_54 h60 rfl ?_
      refine v_iload 0 dX7_findsDegree_57 rfl ?_
      refine v_lald dX7_findsDegree_59 h63 (nI_in' (k := 1) (by decide)) ?_
      refine v_lload_n 3 dX7_findsDegree_60 rfl rfl ?_
      refine v_ldiv dX7_findsDegree_61 (hnz) ?_
      refine v_ldc2 kc_X7_213 dX7_findsDegree_62 ?_
      refine v_ldc2 kc_X7_215 dX7_findsDegree_65 ?_
      refine v_callS (c_X7_in d) cs_X7_95 dX7_findsDegree_68 rfl rfl (Nat.le_of_ble_eq_true rfl) ?_
      refine rt_k ?_
      refine v_if_eq (tgt := 78) dX7_findsDegree_71 (by decide) (fun hk1 => ?_) (fun hk1 => ?_)
      ·
        refine v_iload 0 dX7_findsDegree_78 rfl ?_
        refine v_iconst (v := 1) dX7_findsDegree_80 (by first | rfl | decide) ?_
        refine v_isub dX7_findsDegree_81 ?_
        refine v_istore dX7_findsDegree_82 (by decide) (fun y5_1 e_y5_1 => ?_)
        refine v_ls (ls' := [(5, .int y5_1), (6, .int (1)), (3, _), (1, _), (0, .ref 60)]) rfl ?_
        obtain rfl : y5_1 = 0 := by rw [e_y5_1]; decide
        refine v_iinc (v := 1) 1 dX7_findsDegree_84 rfl rfl (by decide) (fun z_ ez_ => ?_)
        obtain rfl : z_ = 2 := by rw [ez_]; decide
        refine v_ls (ls' := [(6, .int (2)), (5, .int (0)), (3, _), (1, _), (0, .ref 60)]) rfl ?_
        refine v_goto (tgt := 42) dX7_findsDegree_87 (by decide) ?_
        refine v_iload 0 dX7_findsDegree_42 rfl ?_
        refine v_iconst (v := 4) dX7_findsDegree_44 (by first | rfl | decide) ?_
        refine v_icmp_ge (tgt := 90) dX7_findsDegree_45 (by decide) (fun hc45 => ?_) (fun hc45 => ?_)
        · exact absurd hc45 (by decide)
        ·
          refine v_iload 1 dX7_findsDegree_48 rfl ?_
          refine v_if_ge (tgt := 90) dX7_findsDegree_50 (by decide) (fun hg1 => ?_) (fun hg1 => ?_)
          ·
            refine v_iload 1 dX7_findsDegree_90 rfl ?_
            refine v_if_ge (tgt := 213) dX7_findsDegree_92 (by decide) (fun hg92 => ?_) (fun hg92 => ?_)
            ·
              refine v_iload 1 dX7_findsDegree_213 rfl ?_
              refine v_if_lt (tgt := 232) dX7_findsDegree_215 (by decide) (fun hg215 => ?_) (fun hg215 => ?_)
              · exact absurd hg215 (by decide)
              ·
                refine v_aload_n 4 dX7_findsDegree_218 rfl rfl ?_
                refine v_iconst (v := 0) dX7_findsDegree_219 (by first | rfl | decide) ?_
                refine v_put fp_X7_217 dX7_findsDegree_220 h60 (Nat.le_of_ble_eq_true rfl) (by first | rfl | decide) (by first | rfl | decide) ?_
                refine v_aload_n 4 dX7_findsDegree_223 rfl rfl ?_
                refine v_iconst (v := 4) dX7_findsDegree_224 (by first | rfl | decide) ?_
                refine v_iload 1 dX7_findsDegree_225 rfl ?_
                refine v_callV (c_X7_tells d (k := 0) (up_s _ _ _) (up_n (by decide) h78) (up_n (by decide) h79) (by decide)) cs_X7_220 dX7_findsDegree_227 (up_s _ _ _) rfl rfl (Nat.le_of_ble_eq_true rfl) ?_
                refine rt_k ?_
                refine v_iconst (v := 0) dX7_findsDegree_230 (by first | rfl | decide) ?_
                refine v_iret dX7_findsDegree_231 rfl (by first | rfl | decide | exact nar_b (by first | assumption | rfl)) ?_
                have hfe : fstO (B.1 / g9, B.2.1 / g9, B.2.2.1 / g9, B.2.2.2.1 / g9, B.2.2.2.2) = 0 := by
                  simp only [fstO]
                  rw [if_neg (show ¬ ovrO (B.2.1 / g9) = 0 from fun z => (ovr_fr _).mp z hk1)]
                exact Or.inr ⟨by rw [hfe]; decide, rfl, by rw [hfe]; rfl⟩
            · exact absurd (by decide) hg92
          · exact absurd (by decide) hg1
      ·
        refine v_iconst (v := -1) dX7_findsDegree_74 (by first | rfl | decide) ?_
        refine v_goto (tgt := 82) dX7_findsDegree_75 (by decide) ?_
        refine v_istore dX7_findsDegree_82 (by decide) (fun y5_1 e_y5_1 => ?_)
        refine v_ls (ls' := [(5, .int y5_1), (6, .int (1)), (3, _), (1, _), (0, .ref 60)]) rfl ?_
        subst e_y5_1
        refine v_iinc (v := 1) 1 dX7_findsDegree_84 rfl rfl (by decide) (fun z_ ez_ => ?_)
        obtain rfl : z_ = 2 := by rw [ez_]; decide
        refine v_ls (ls' := [(6, .int (2)), (5, .int (-1)), (3, _), (1, _), (0, .ref 60)]) rfl ?_
        refine v_goto (tgt := 42) dX7_findsDegree_87 (by decide) ?_
        refine v_iload 0 dX7_findsDegree_42 rfl ?_
        refine v_iconst (v := 4) dX7_findsDegree_44 (by first | rfl | decide) ?_
        refine v_icmp_ge (tgt := 90) dX7_findsDegree_45 (by decide) (fun hc45 => ?_) (fun hc45 => ?_)
        · exact absurd hc45 (by decide)
        ·
          refine v_iload 1 dX7_findsDegree_48 rfl ?_
          refine v_if_ge (tgt := 90) dX7_findsDegree_50 (by decide) (fun hg1 => ?_) (fun hg1 => ?_)
          · exact absurd hg1 (by decide)
          ·
            refine v_aload_n 4 dX7_findsDegree_53 rfl rfl ?_
            refine v_get fl_X7_21 dX7_findsDegree_54 h60 rfl ?_
            refine v_iload 0 dX7_findsDegree_57 rfl ?_
            refine v_lald dX7_findsDegree_59 h63 (nI_in' (k := 2) (by decide)) ?_
            refine v_lload_n 3 dX7_findsDegree_60 rfl rfl ?_
            refine v_ldiv dX7_findsDegree_61 (hnz) ?_
            refine v_ldc2 kc_X7_213 dX7_findsDegree_62 ?_
            refine v_ldc2 kc_X7_215 dX7_findsDegree_65 ?_
            refine v_callS (c_X7_in d) cs_X7_95 dX7_findsDegree_68 rfl rfl (Nat.le_of_ble_eq_true rfl) ?_
            refine rt_k ?_
            refine v_if_eq (tgt := 78) dX7_findsDegree_71 (by decide) (fun hk2 => ?_) (fun hk2 => ?_)
            ·
              refine v_iload 0 dX7_findsDegree_78 rfl ?_
              refine v_iconst (v := 1) dX7_findsDegree_80 (by first | rfl | decide) ?_
              refine v_isub dX7_findsDegree_81 ?_
              refine v_istore dX7_findsDegree_82 (by decide) (fun y5_2 e_y5_2 => ?_)
              refine v_ls (ls' := [(5, .int y5_2), (6, .int (2)), (3, _), (1, _), (0, .ref 60)]) rfl ?_
              obtain rfl : y5_2 = 1 := by rw [e_y5_2]; decide
              refine v_iinc (v := 1) 1 dX7_findsDegree_84 rfl rfl (by decide) (fun z_ ez_ => ?_)
              obtain rfl : z_ = 3 := by rw [ez_]; decide
              refine v_ls (ls' := [(6, .int (3)), (5, .int (1)), (3, _), (1, _), (0, .ref 60)]) rfl ?_
              refine v_goto (tgt := 42) dX7_findsDegree_87 (by decide) ?_
              refine v_iload 0 dX7_findsDegree_42 rfl ?_
              refine v_iconst (v := 4) dX7_findsDegree_44 (by first | rfl | decide) ?_
              refine v_icmp_ge (tgt := 90) dX7_findsDegree_45 (by decide) (fun hc45 => ?_) (fun hc45 => ?_)
              · exact absurd hc45 (by decide)
              ·
                refine v_iload 1 dX7_findsDegree_48 rfl ?_
                refine v_if_ge (tgt := 90) dX7_findsDegree_50 (by decide) (fun hg2 => ?_) (fun hg2 => ?_)
                ·
                  refine v_iload 1 dX7_findsDegree_90 rfl ?_
                  refine v_if_ge (tgt := 213) dX7_findsDegree_92 (by decide) (fun hg92 => ?_) (fun hg92 => ?_)
                  ·
                    refine v_iload 1 dX7_findsDegree_213 rfl ?_
                    refine v_if_lt (tgt := 232) dX7_findsDegree_215 (by decide) (fun hg215 => ?_) (fun hg215 => ?_)
                    · exact absurd hg215 (by decide)
                    ·
                      refine v_aload_n 4 dX7_findsDegree_218 rfl rfl ?_
                      refine v_iconst (v := 0) dX7_findsDegree_219 (by first | rfl | decide) ?_
                      refine v_put fp_X7_217 dX7_findsDegree_220 h60 (Nat.le_of_ble_eq_true rfl) (by first | rfl | decide) (by first | rfl | decide) ?_
                      refine v_aload_n 4 dX7_findsDegree_223 rfl rfl ?_
                      refine v_iconst (v := 4) dX7_findsDegree_224 (by first | rfl | decide) ?_
                      refine v_iload 1 dX7_findsDegree_225 rfl ?_
                      refine v_callV (c_X7_tells d (k := 0) (up_s _ _ _) (up_n (by decide) h78) (up_n (by decide) h79) (by decide)) cs_X7_220 dX7_findsDegree_227 (up_s _ _ _) rfl rfl (Nat.le_of_ble_eq_true rfl) ?_
                      refine rt_k ?_
                      refine v_iconst (v := 0) dX7_findsDegree_230 (by first | rfl | decide) ?_
                      refine v_iret dX7_findsDegree_231 rfl (by first | rfl | decide | exact nar_b (by first | assumption | rfl)) ?_
                      have hfe : fstO (B.1 / g9, B.2.1 / g9, B.2.2.1 / g9, B.2.2.2.1 / g9, B.2.2.2.2) = 1 := by
                        simp only [fstO]
                        rw [if_pos (show ovrO (B.2.1 / g9) = 0 from (ovr_fr _).mpr hk1), if_neg (show ¬ ovrO (B.2.2.1 / g9) = 0 from fun z => (ovr_fr _).mp z hk2)]
                      exact Or.inr ⟨by rw [hfe]; decide, rfl, by rw [hfe]; rfl⟩
                  · exact absurd (by decide) hg92
                · exact absurd (by decide) hg2
            ·
              refine v_iconst (v := -1) dX7_findsDegree_74 (by first | rfl | decide) ?_
              refine v_goto (tgt := 82) dX7_findsDegree_75 (by decide) ?_
              refine v_istore dX7_findsDegree_82 (by decide) (fun y5_2 e_y5_2 => ?_)
              refine v_ls (ls' := [(5, .int y5_2), (6, .int (2)), (3, _), (1, _), (0, .ref 60)]) rfl ?_
              subst e_y5_2
              refine v_iinc (v := 1) 1 dX7_findsDegree_84 rfl rfl (by decide) (fun z_ ez_ => ?_)
              obtain rfl : z_ = 3 := by rw [ez_]; decide
              refine v_ls (ls' := [(6, .int (3)), (5, .int (-1)), (3, _), (1, _), (0, .ref 60)]) rfl ?_
              refine v_goto (tgt := 42) dX7_findsDegree_87 (by decide) ?_
              refine v_iload 0 dX7_findsDegree_42 rfl ?_
              refine v_iconst (v := 4) dX7_findsDegree_44 (by first | rfl | decide) ?_
              refine v_icmp_ge (tgt := 90) dX7_findsDegree_45 (by decide) (fun hc45 => ?_) (fun hc45 => ?_)
              · exact absurd hc45 (by decide)
              ·
                refine v_iload 1 dX7_findsDegree_48 rfl ?_
                refine v_if_ge (tgt := 90) dX7_findsDegree_50 (by decide) (fun hg2 => ?_) (fun hg2 => ?_)
                · exact absurd hg2 (by decide)
                ·
                  refine v_aload_n 4 dX7_findsDegree_53 rfl rfl ?_
                  refine v_get fl_X7_21 dX7_findsDegree_54 h60 rfl ?_
                  refine v_iload 0 dX7_findsDegree_57 rfl ?_
                  refine v_lald dX7_findsDegree_59 h63 (nI_in' (k := 3) (by decide)) ?_
                  refine v_lload_n 3 dX7_findsDegree_60 rfl rfl ?_
                  refine v_ldiv dX7_findsDegree_61 (hnz) ?_
                  refine v_ldc2 kc_X7_213 dX7_findsDegree_62 ?_
                  refine v_ldc2 kc_X7_215 dX7_findsDegree_65 ?_
                  refine v_callS (c_X7_in d) cs_X7_95 dX7_findsDegree_68 rfl rfl (Nat.le_of_ble_eq_true rfl) ?_
                  refine rt_k ?_
                  refine v_if_eq (tgt := 78) dX7_findsDegree_71 (by decide) (fun hk3 => ?_) (fun hk3 => ?_)
                  ·
                    refine v_iload 0 dX7_findsDegree_78 rfl ?_
                    refine v_iconst (v := 1) dX7_findsDegree_80 (by first | rfl | decide) ?_
                    refine v_isub dX7_findsDegree_81 ?_
                    refine v_istore dX7_findsDegree_82 (by decide) (fun y5_3 e_y5_3 => ?_)
                    refine v_ls (ls' := [(5, .int y5_3), (6, .int (3)), (3, _), (1, _), (0, .ref 60)]) rfl ?_
                    obtain rfl : y5_3 = 2 := by rw [e_y5_3]; decide
                    refine v_iinc (v := 1) 1 dX7_findsDegree_84 rfl rfl (by decide) (fun z_ ez_ => ?_)
                    obtain rfl : z_ = 4 := by rw [ez_]; decide
                    refine v_ls (ls' := [(6, .int (4)), (5, .int (2)), (3, _), (1, _), (0, .ref 60)]) rfl ?_
                    refine v_goto (tgt := 42) dX7_findsDegree_87 (by decide) ?_
                    refine v_iload 0 dX7_findsDegree_42 rfl ?_
                    refine v_iconst (v := 4) dX7_findsDegree_44 (by first | rfl | decide) ?_
                    refine v_icmp_ge (tgt := 90) dX7_findsDegree_45 (by decide) (fun hc45 => ?_) (fun hc45 => ?_)
                    ·
                      refine v_iload 1 dX7_findsDegree_90 rfl ?_
                      refine v_if_ge (tgt := 213) dX7_findsDegree_92 (by decide) (fun hg92 => ?_) (fun hg92 => ?_)
                      ·
                        refine v_iload 1 dX7_findsDegree_213 rfl ?_
                        refine v_if_lt (tgt := 232) dX7_findsDegree_215 (by decide) (fun hg215 => ?_) (fun hg215 => ?_)
                        · exact absurd hg215 (by decide)
                        ·
                          refine v_aload_n 4 dX7_findsDegree_218 rfl rfl ?_
                          refine v_iconst (v := 0) dX7_findsDegree_219 (by first | rfl | decide) ?_
                          refine v_put fp_X7_217 dX7_findsDegree_220 h60 (Nat.le_of_ble_eq_true rfl) (by first | rfl | decide) (by first | rfl | decide) ?_
                          refine v_aload_n 4 dX7_findsDegree_223 rfl rfl ?_
                          refine v_iconst (v := 4) dX7_findsDegree_224 (by first | rfl | decide) ?_
                          refine v_iload 1 dX7_findsDegree_225 rfl ?_
                          refine v_callV (c_X7_tells d (k := 0) (up_s _ _ _) (up_n (by decide) h78) (up_n (by decide) h79) (by decide)) cs_X7_220 dX7_findsDegree_227 (up_s _ _ _) rfl rfl (Nat.le_of_ble_eq_true rfl) ?_
                          refine rt_k ?_
                          refine v_iconst (v := 0) dX7_findsDegree_230 (by first | rfl | decide) ?_
                          refine v_iret dX7_findsDegree_231 rfl (by first | rfl | decide | exact nar_b (by first | assumption | rfl)) ?_
                          have hfe : fstO (B.1 / g9, B.2.1 / g9, B.2.2.1 / g9, B.2.2.2.1 / g9, B.2.2.2.2) = 2 := by
                            simp only [fstO]
                            rw [if_pos (show ovrO (B.2.1 / g9) = 0 from (ovr_fr _).mpr hk1), if_pos (show ovrO (B.2.2.1 / g9) = 0 from (ovr_fr _).mpr hk2), if_neg (show ¬ ovrO (B.2.2.2.1 / g9) = 0 from fun z => (ovr_fr _).mp z hk3)]
                          exact Or.inr ⟨by rw [hfe]; decide, rfl, by rw [hfe]; rfl⟩
                      · exact absurd (by decide) hg92
                    · exact absurd (by decide) hc45
                  ·
                    refine v_iconst (v := -1) dX7_findsDegree_74 (by first | rfl | decide) ?_
                    refine v_goto (tgt := 82) dX7_findsDegree_75 (by decide) ?_
                    refine v_istore dX7_findsDegree_82 (by decide) (fun y5_3 e_y5_3 => ?_)
                    refine v_ls (ls' := [(5, .int y5_3), (6, .int (3)), (3, _), (1, _), (0, .ref 60)]) rfl ?_
                    subst e_y5_3
                    refine v_iinc (v := 1) 1 dX7_findsDegree_84 rfl rfl (by decide) (fun z_ ez_ => ?_)
                    obtain rfl : z_ = 4 := by rw [ez_]; decide
                    refine v_ls (ls' := [(6, .int (4)), (5, .int (-1)), (3, _), (1, _), (0, .ref 60)]) rfl ?_
                    refine v_goto (tgt := 42) dX7_findsDegree_87 (by decide) ?_
                    refine v_iload 0 dX7_findsDegree_42 rfl ?_
                    refine v_iconst (v := 4) dX7_findsDegree_44 (by first | rfl | decide) ?_
                    refine v_icmp_ge (tgt := 90) dX7_findsDegree_45 (by decide) (fun hc45 => ?_) (fun hc45 => ?_)
                    ·
                      refine v_iload 1 dX7_findsDegree_90 rfl ?_
                      refine v_if_ge (tgt := 213) dX7_findsDegree_92 (by decide) (fun hg92 => ?_) (fun hg92 => ?_)
                      · exact absurd hg92 (by decide)
                      ·
                        refine v_aload_n 4 dX7_findsDegree_95 rfl rfl ?_
                        refine v_get fl_X7_21 dX7_findsDegree_96 h60 rfl ?_
                        refine v_iconst (v := 1) dX7_findsDegree_99 (by first | rfl | decide) ?_
                        refine v_lald dX7_findsDegree_100 h63 (nI_in' (k := 1) (by decide)) ?_
                        refine v_lload_n 3 dX7_findsDegree_101 rfl rfl ?_
                        refine v_ldiv dX7_findsDegree_102 (hnz) ?_
                        refine v_aload_n 4 dX7_findsDegree_103 rfl rfl ?_
                        refine v_get fl_X7_21 dX7_findsDegree_104 h60 rfl ?_
                        refine v_iconst (v := 1) dX7_findsDegree_107 (by first | rfl | decide) ?_
                        refine v_lald dX7_findsDegree_108 h63 (nI_in' (k := 1) (by decide)) ?_
                        refine v_lload_n 3 dX7_findsDegree_109 rfl rfl ?_
                        refine v_ldiv dX7_findsDegree_110 (hnz) ?_
                        refine v_lmul dX7_findsDegree_111 ?_
                        refine v_lstore dX7_findsDegree_112 (by decide) (fun w6 e_w6 => ?_)
                        refine v_ls (ls' := [(6, .long w6), (5, .int (-1)), (3, _), (1, _), (0, .ref 60)]) rfl ?_
                        subst e_w6
                        refine v_aload_n 4 dX7_findsDegree_114 rfl rfl ?_
                        refine v_get fl_X7_21 dX7_findsDegree_115 h60 rfl ?_
                        refine v_iconst (v := 2) dX7_findsDegree_118 (by first | rfl | decide) ?_
                        refine v_lald dX7_findsDegree_119 h63 (nI_in' (k := 2) (by decide)) ?_
                        refine v_lload_n 3 dX7_findsDegree_120 rfl rfl ?_
                        refine v_ldiv dX7_findsDegree_121 (hnz) ?_
                        refine v_aload_n 4 dX7_findsDegree_122 rfl rfl ?_
                        refine v_get fl_X7_21 dX7_findsDegree_123 h60 rfl ?_
                        refine v_iconst (v := 2) dX7_findsDegree_126 (by first | rfl | decide) ?_
                        refine v_lald dX7_findsDegree_127 h63 (nI_in' (k := 2) (by decide)) ?_
                        refine v_lload_n 3 dX7_findsDegree_128 rfl rfl ?_
                        refine v_ldiv dX7_findsDegree_129 (hnz) ?_
                        refine v_lmul dX7_findsDegree_130 ?_
                        refine v_lstore dX7_findsDegree_131 (by decide) (fun w8 e_w8 => ?_)
                        refine v_ls (ls' := [(8, .long w8), (6, _), (5, .int (-1)), (3, _), (1, _), (0, .ref 60)]) rfl ?_
                        subst e_w8
                        refine v_aload_n 5 dX7_findsDegree_133 rfl rfl ?_
                        refine v_get fl_X7_21 dX7_findsDegree_134 h60 rfl ?_
                        refine v_iconst (v := 3) dX7_findsDegree_137 (by first | rfl | decide) ?_
                        refine v_lald dX7_findsDegree_138 h63 (nI_in' (k := 3) (by decide)) ?_
                        refine v_lload_n 4 dX7_findsDegree_139 rfl rfl ?_
                        refine v_ldiv dX7_findsDegree_140 (hnz) ?_
                        refine v_aload_n 5 dX7_findsDegree_141 rfl rfl ?_
                        refine v_get fl_X7_21 dX7_findsDegree_142 h60 rfl ?_
                        refine v_iconst (v := 3) dX7_findsDegree_145 (by first | rfl | decide) ?_
                        refine v_lald dX7_findsDegree_146 h63 (nI_in' (k := 3) (by decide)) ?_
                        refine v_lload_n 4 dX7_findsDegree_147 rfl rfl ?_
                        refine v_ldiv dX7_findsDegree_148 (hnz) ?_
                        refine v_lmul dX7_findsDegree_149 ?_
                        refine v_lstore dX7_findsDegree_150 (by decide) (fun w10 e_w10 => ?_)
                        refine v_ls (ls' := [(10, .long w10), (8, _), (6, _), (5, .int (-1)), (3, _), (1, _), (0, .ref 60)]) rfl ?_
                        subst e_w10
                        refine v_lload 2 dX7_findsDegree_152 rfl ?_
                        refine v_lload 1 dX7_findsDegree_154 rfl ?_
                        refine v_ladd dX7_findsDegree_156 ?_
                        refine v_lstore_n dX7_findsDegree_157 rfl (by decide) (fun w3 e_w3 => ?_)
                        refine v_ls (ls' := [(3, .long w3), (10, _), (8, _), (6, _), (5, .int (-1)), (1, _), (0, .ref 60)]) rfl ?_
                        subst e_w3
                        refine v_lload_n 0 dX7_findsDegree_158 rfl rfl ?_
                        refine v_lconst (v := 0) dX7_findsDegree_159 (by first | rfl | decide) ?_
                        refine v_lc_ge (tgt := 168) dX7_findsDegree_160 dX7_findsDegree_161 (by decide) (fun hc160 => ?_) (fun hc160 => ?_)
                        ·
                          refine v_lload_n 0 dX7_findsDegree_168 rfl rfl ?_
                          refine v_lload 1 dX7_findsDegree_169 rfl ?_
                          refine v_ladd dX7_findsDegree_171 ?_
                          refine v_lconst (v := 0) dX7_findsDegree_172 (by first | rfl | decide) ?_
                          refine v_lc_ge (tgt := 181) dX7_findsDegree_173 dX7_findsDegree_174 (by decide) (fun hc173 => ?_) (fun hc173 => ?_)
                          ·
                            refine v_aload_n 6 dX7_findsDegree_181 rfl rfl ?_
                            refine v_get fl_X7_21 dX7_findsDegree_182 h60 rfl ?_
                            refine v_iconst (v := 0) dX7_findsDegree_185 (by first | rfl | decide) ?_
                            refine v_lald dX7_findsDegree_186 h63 (nI_in' (k := 0) (by decide)) ?_
                            refine v_lload_n 5 dX7_findsDegree_187 rfl rfl ?_
                            refine v_ldiv dX7_findsDegree_188 (hnz) ?_
                            refine v_ldc2 kc_X7_213 dX7_findsDegree_189 ?_
                            refine v_ldc2 kc_X7_215 dX7_findsDegree_192 ?_
                            refine v_callS (c_X7_in d) cs_X7_95 dX7_findsDegree_195 rfl rfl (Nat.le_of_ble_eq_true rfl) ?_
                            refine rt_k ?_
                            refine v_if_eq (tgt := 205) dX7_findsDegree_198 (by decide) (fun hc198 => ?_) (fun hc198 => ?_)
                            ·
                              refine v_iconst (v := 5) dX7_findsDegree_205 (by first | rfl | decide) ?_
                              refine v_istore dX7_findsDegree_206 (by decide) (fun y5 e_y5 => ?_)
                              refine v_ls (ls' := [(5, .int y5), (3, _), (10, _), (8, _), (6, _), (1, _), (0, .ref 60)]) rfl ?_
                              subst e_y5
                              refine v_lload_n 1 dX7_findsDegree_208 rfl rfl ?_
                              refine v_lload 2 dX7_findsDegree_209 rfl ?_
                              refine v_ladd dX7_findsDegree_211 ?_
                              refine v_lstore_n dX7_findsDegree_212 rfl (by decide) (fun v3 e_v3 => ?_)
                              refine v_ls (ls' := [(3, .long v3), (5, .int (5)), (10, _), (8, _), (6, _), (1, _), (0, .ref 60)]) rfl ?_
                              subst e_v3
                              refine v_iload 1 dX7_findsDegree_213 rfl ?_
                              refine v_if_lt (tgt := 232) dX7_findsDegree_215 (by decide) (fun hg215 => ?_) (fun hg215 => ?_)
                              · exact absurd hg215 (by decide)
                              ·
                                refine v_aload_n 6 dX7_findsDegree_218 rfl rfl ?_
                                refine v_iconst (v := 0) dX7_findsDegree_219 (by first | rfl | decide) ?_
                                refine v_put fp_X7_217 dX7_findsDegree_220 h60 (Nat.le_of_ble_eq_true rfl) (by first | rfl | decide) (by first | rfl | decide) ?_
                                refine v_aload_n 6 dX7_findsDegree_223 rfl rfl ?_
                                refine v_iconst (v := 4) dX7_findsDegree_224 (by first | rfl | decide) ?_
                                refine v_iload 1 dX7_findsDegree_225 rfl ?_
                                refine v_callV (c_X7_tells d (k := 0) (up_s _ _ _) (up_n (by decide) h78) (up_n (by decide) h79) (by decide)) cs_X7_220 dX7_findsDegree_227 (up_s _ _ _) rfl rfl (Nat.le_of_ble_eq_true rfl) ?_
                                refine rt_k ?_
                                refine v_iconst (v := 0) dX7_findsDegree_230 (by first | rfl | decide) ?_
                                refine v_iret dX7_findsDegree_231 rfl (by first | rfl | decide | exact nar_b (by first | assumption | rfl)) ?_
                                have hfe : fstO (B.1 / g9, B.2.1 / g9, B.2.2.1 / g9, B.2.2.2.1 / g9, B.2.2.2.2) = 5 := by
                                  simp only [fstO]
                                  rw [if_pos (show ovrO (B.2.1 / g9) = 0 from (ovr_fr _).mpr hk1), if_pos (show ovrO (B.2.2.1 / g9) = 0 from (ovr_fr _).mpr hk2), if_pos (show ovrO (B.2.2.2.1 / g9) = 0 from (ovr_fr _).mpr hk3), if_neg (show ¬ 9223372036854775807 - (B.2.1 / g9) * (B.2.1 / g9) < (B.2.2.1 / g9) * (B.2.2.1 / g9) from fun z => (over3 hk1 hk2).mp z hc160), if_neg (show ¬ 9223372036854775807 - (B.2.1 / g9) * (B.2.1 / g9) - (B.2.2.1 / g9) * (B.2.2.1 / g9) < (B.2.2.2.1 / g9) * (B.2.2.2.1 / g9) from fun z => (over4 hk1 hk2 hk3 hc160).mp z hc173), if_neg (show ¬ ovrO (B.1 / g9) = 0 from fun z => (ovr_fr _).mp z hc198)]
                                exact Or.inr ⟨by rw [hfe]; decide, rfl, by rw [hfe]; rfl⟩
                            ·
                              refine v_iconst (v := -1) dX7_findsDegree_201 (by first | rfl | decide) ?_
                              refine v_goto (tgt := 206) dX7_findsDegree_202 (by decide) ?_
                              refine v_istore dX7_findsDegree_206 (by decide) (fun y5 e_y5 => ?_)
                              refine v_ls (ls' := [(5, .int y5), (3, _), (10, _), (8, _), (6, _), (1, _), (0, .ref 60)]) rfl ?_
                              subst e_y5
                              refine v_lload_n 1 dX7_findsDegree_208 rfl rfl ?_
                              refine v_lload 2 dX7_findsDegree_209 rfl ?_
                              refine v_ladd dX7_findsDegree_211 ?_
                              refine v_lstore_n dX7_findsDegree_212 rfl (by decide) (fun v3 e_v3 => ?_)
                              refine v_ls (ls' := [(3, .long v3), (5, .int (-1)), (10, _), (8, _), (6, _), (1, _), (0, .ref 60)]) rfl ?_
                              subst e_v3
                              refine v_iload 1 dX7_findsDegree_213 rfl ?_
                              refine v_if_lt (tgt := 232) dX7_findsDegree_215 (by decide) (fun hg215 => ?_) (fun hg215 => ?_)
                              ·
                                refine v_aload_n 6 dX7_findsDegree_232 rfl rfl ?_
                                refine v_lload_n 0 dX7_findsDegree_233 rfl rfl ?_
                                refine v_put fp_X7_224 dX7_findsDegree_234 h60 (Nat.le_of_ble_eq_true rfl) (by first | rfl | decide) (by first | rfl | decide) ?_
                                refine v_aload_n 6 dX7_findsDegree_237 rfl rfl ?_
                                refine v_aload_n 6 dX7_findsDegree_238 rfl rfl ?_
                                refine v_get fl_X7_21 dX7_findsDegree_239 (up_s _ _ _) rfl ?_
                                refine v_iconst (v := 0) dX7_findsDegree_242 (by first | rfl | decide) ?_
                                refine v_lald dX7_findsDegree_243 (up_n (by decide) h63) (nI_in' (k := 0) (by decide)) ?_
                                refine v_lload_n 5 dX7_findsDegree_244 rfl rfl ?_
                                refine v_ldiv dX7_findsDegree_245 (hnz) ?_
                                refine v_aload_n 6 dX7_findsDegree_246 rfl rfl ?_
                                refine v_get fl_X7_21 dX7_findsDegree_247 (up_s _ _ _) rfl ?_
                                refine v_iconst (v := 0) dX7_findsDegree_250 (by first | rfl | decide) ?_
                                refine v_lald dX7_findsDegree_251 (up_n (by decide) h63) (nI_in' (k := 0) (by decide)) ?_
                                refine v_lload_n 5 dX7_findsDegree_252 rfl rfl ?_
                                refine v_ldiv dX7_findsDegree_253 (hnz) ?_
                                refine v_lmul dX7_findsDegree_254 ?_
                                refine v_put fp_X7_228 dX7_findsDegree_255 (up_s _ _ _) (Nat.le_of_ble_eq_true rfl) (by first | rfl | decide) (by first | rfl | decide) ?_
                                refine v_hp (up_up _ _ _ _) ?_
                                refine v_iconst (v := 1) dX7_findsDegree_258 (by first | rfl | decide) ?_
                                refine v_iret dX7_findsDegree_259 rfl (by first | rfl | decide | exact nar_b (by first | assumption | rfl)) ?_
                                have hfe : fstO (B.1 / g9, B.2.1 / g9, B.2.2.1 / g9, B.2.2.2.1 / g9, B.2.2.2.2) = -1 := by
                                  simp only [fstO]
                                  rw [if_pos (show ovrO (B.2.1 / g9) = 0 from (ovr_fr _).mpr hk1), if_pos (show ovrO (B.2.2.1 / g9) = 0 from (ovr_fr _).mpr hk2), if_pos (show ovrO (B.2.2.2.1 / g9) = 0 from (ovr_fr _).mpr hk3), if_neg (show ¬ 9223372036854775807 - (B.2.1 / g9) * (B.2.1 / g9) < (B.2.2.1 / g9) * (B.2.2.1 / g9) from fun z => (over3 hk1 hk2).mp z hc160), if_neg (show ¬ 9223372036854775807 - (B.2.1 / g9) * (B.2.1 / g9) - (B.2.2.1 / g9) * (B.2.2.1 / g9) < (B.2.2.2.1 / g9) * (B.2.2.2.1 / g9) from fun z => (over4 hk1 hk2 hk3 hc160).mp z hc173), if_pos (show ovrO (B.1 / g9) = 0 from (ovr_fr _).mpr hc198)]
                                exact Or.inl ⟨by rw [hfe]; decide, rfl, rfl⟩
                              · exact absurd (by decide) hg215
                          ·
                            refine v_iconst (v := 4) dX7_findsDegree_177 (by first | rfl | decide) ?_
                            refine v_goto (tgt := 206) dX7_findsDegree_178 (by decide) ?_
                            refine v_istore dX7_findsDegree_206 (by decide) (fun y5 e_y5 => ?_)
                            refine v_ls (ls' := [(5, .int y5), (3, _), (10, _), (8, _), (6, _), (1, _), (0, .ref 60)]) rfl ?_
                            subst e_y5
                            refine v_lload_n 1 dX7_findsDegree_208 rfl rfl ?_
                            refine v_lload 2 dX7_findsDegree_209 rfl ?_
                            refine v_ladd dX7_findsDegree_211 ?_
                            refine v_lstore_n dX7_findsDegree_212 rfl (by decide) (fun v3 e_v3 => ?_)
                            refine v_ls (ls' := [(3, .long v3), (5, .int (4)), (10, _), (8, _), (6, _), (1, _), (0, .ref 60)]) rfl ?_
                            subst e_v3
                            refine v_iload 1 dX7_findsDegree_213 rfl ?_
                            refine v_if_lt (tgt := 232) dX7_findsDegree_215 (by decide) (fun hg215 => ?_) (fun hg215 => ?_)
                            · exact absurd hg215 (by decide)
                            ·
                              refine v_aload_n 6 dX7_findsDegree_218 rfl rfl ?_
                              refine v_iconst (v := 0) dX7_findsDegree_219 (by first | rfl | decide) ?_
                              refine v_put fp_X7_217 dX7_findsDegree_220 h60 (Nat.le_of_ble_eq_true rfl) (by first | rfl | decide) (by first | rfl | decide) ?_
                              refine v_aload_n 6 dX7_findsDegree_223 rfl rfl ?_
                              refine v_iconst (v := 4) dX7_findsDegree_224 (by first | rfl | decide) ?_
                              refine v_iload 1 dX7_findsDegree_225 rfl ?_
                              refine v_callV (c_X7_tells d (k := 0) (up_s _ _ _) (up_n (by decide) h78) (up_n (by decide) h79) (by decide)) cs_X7_220 dX7_findsDegree_227 (up_s _ _ _) rfl rfl (Nat.le_of_ble_eq_true rfl) ?_
                              refine rt_k ?_
                              refine v_iconst (v := 0) dX7_findsDegree_230 (by first | rfl | decide) ?_
                              refine v_iret dX7_findsDegree_231 rfl (by first | rfl | decide | exact nar_b (by first | assumption | rfl)) ?_
                              have hfe : fstO (B.1 / g9, B.2.1 / g9, B.2.2.1 / g9, B.2.2.2.1 / g9, B.2.2.2.2) = 4 := by
                                simp only [fstO]
                                rw [if_pos (show ovrO (B.2.1 / g9) = 0 from (ovr_fr _).mpr hk1), if_pos (show ovrO (B.2.2.1 / g9) = 0 from (ovr_fr _).mpr hk2), if_pos (show ovrO (B.2.2.2.1 / g9) = 0 from (ovr_fr _).mpr hk3), if_neg (show ¬ 9223372036854775807 - (B.2.1 / g9) * (B.2.1 / g9) < (B.2.2.1 / g9) * (B.2.2.1 / g9) from fun z => (over3 hk1 hk2).mp z hc160), if_pos (show 9223372036854775807 - (B.2.1 / g9) * (B.2.1 / g9) - (B.2.2.1 / g9) * (B.2.2.1 / g9) < (B.2.2.2.1 / g9) * (B.2.2.2.1 / g9) from (over4 hk1 hk2 hk3 hc160).mpr hc173)]
                              exact Or.inr ⟨by rw [hfe]; decide, rfl, by rw [hfe]; rfl⟩
                        ·
                          refine v_iconst (v := 3) dX7_findsDegree_164 (by first | rfl | decide) ?_
                          refine v_goto (tgt := 206) dX7_findsDegree_165 (by decide) ?_
                          refine v_istore dX7_findsDegree_206 (by decide) (fun y5 e_y5 => ?_)
                          refine v_ls (ls' := [(5, .int y5), (3, _), (10, _), (8, _), (6, _), (1, _), (0, .ref 60)]) rfl ?_
                          subst e_y5
                          refine v_lload_n 1 dX7_findsDegree_208 rfl rfl ?_
                          refine v_lload 2 dX7_findsDegree_209 rfl ?_
                          refine v_ladd dX7_findsDegree_211 ?_
                          refine v_lstore_n dX7_findsDegree_212 rfl (by decide) (fun v3 e_v3 => ?_)
                          refine v_ls (ls' := [(3, .long v3), (5, .int (3)), (10, _), (8, _), (6, _), (1, _), (0, .ref 60)]) rfl ?_
                          subst e_v3
                          refine v_iload 1 dX7_findsDegree_213 rfl ?_
                          refine v_if_lt (tgt := 232) dX7_findsDegree_215 (by decide) (fun hg215 => ?_) (fun hg215 => ?_)
                          · exact absurd hg215 (by decide)
                          ·
                            refine v_aload_n 6 dX7_findsDegree_218 rfl rfl ?_
                            refine v_iconst (v := 0) dX7_findsDegree_219 (by first | rfl | decide) ?_
                            refine v_put fp_X7_217 dX7_findsDegree_220 h60 (Nat.le_of_ble_eq_true rfl) (by first | rfl | decide) (by first | rfl | decide) ?_
                            refine v_aload_n 6 dX7_findsDegree_223 rfl rfl ?_
                            refine v_iconst (v := 4) dX7_findsDegree_224 (by first | rfl | decide) ?_
                            refine v_iload 1 dX7_findsDegree_225 rfl ?_
                            refine v_callV (c_X7_tells d (k := 0) (up_s _ _ _) (up_n (by decide) h78) (up_n (by decide) h79) (by decide)) cs_X7_220 dX7_findsDegree_227 (up_s _ _ _) rfl rfl (Nat.le_of_ble_eq_true rfl) ?_
                            refine rt_k ?_
                            refine v_iconst (v := 0) dX7_findsDegree_230 (by first | rfl | decide) ?_
                            refine v_iret dX7_findsDegree_231 rfl (by first | rfl | decide | exact nar_b (by first | assumption | rfl)) ?_
                            have hfe : fstO (B.1 / g9, B.2.1 / g9, B.2.2.1 / g9, B.2.2.2.1 / g9, B.2.2.2.2) = 3 := by
                              simp only [fstO]
                              rw [if_pos (show ovrO (B.2.1 / g9) = 0 from (ovr_fr _).mpr hk1), if_pos (show ovrO (B.2.2.1 / g9) = 0 from (ovr_fr _).mpr hk2), if_pos (show ovrO (B.2.2.2.1 / g9) = 0 from (ovr_fr _).mpr hk3), if_pos (show 9223372036854775807 - (B.2.1 / g9) * (B.2.1 / g9) < (B.2.2.1 / g9) * (B.2.2.1 / g9) from (over3 hk1 hk2).mpr hc160)]
                            exact Or.inr ⟨by rw [hfe]; decide, rfl, by rw [hfe]; rfl⟩
                    · exact absurd (by decide) hc45

