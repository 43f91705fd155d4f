set_option maxRecDepth 20000 in
set_option maxHeartbeats 4000000 in
theorem c_X7_degree {G : Cx} (d : Nat) {μ : Hp} {σ : ST} {k : Int32} {w : Int32} (h : Mo σ μ) (hw : Wp (sP σ)) (heb : Eb 100 (sM σ)) (hph : Ph 1000 0 (sM σ)) : Ct G (d + 5) 0 0 M_X7_degree [.ref 60, .int k, .int w] μ (Pm ((rDegree σ k w).2) (.long ((rDegree σ k w).1)) μ) := by
  refine Ct.ofV (by decide +kernel) (Nat.le_of_ble_eq_true rfl) ?_
  refine v_ls (ls' := [(0, .ref 60), (1, .int k), (2, .int w)]) rfl ?_
  obtain ⟨co, wh, un, lr, mr, hr, at9, fa, op, sg, hm, p, tt, ro, og, tc, op9, sp, nw, se, le, mo, ot, h60, h61, h62, h63, h64, h65, h66, h67, h68, h69, h70, h71, h72, h73, h74, h75, h76, h77, h78, h79, h80, hmk, hpl, htp, ht60⟩ := id h
  have hl8 := hw.1
  refine v_aload_n 0 dX7_degree_0 rfl rfl ?_
  refine v_iload_n 1 dX7_degree_1 rfl rfl ?_
  refine v_callV (c_X7_isBeh (d + 3) h60 (by omega)) cs_X7_188 dX7_degree_2 h60 rfl rfl (Nat.le_of_ble_eq_true rfl) ?_
  refine rt_k ?_
  refine v_if_eq (tgt := 15) dX7_degree_5 (by decide) (fun hc5 => ?_) (fun hc5 => ?_)
  ·
    refine v_ldc2 kc_X7_193 dX7_degree_15 ?_
    refine v_lret dX7_degree_18 rfl ?_
    have hE : rDegree σ k w = (VD, σ) := by
      first
        | (simp only [rDegree, if_pos hc5]; done)
        | (grind [rDegree]; done)
    rw [hE]
    exact ⟨rfl, h, Fp.rf μ⟩
  ·
    refine v_iload_n 2 dX7_degree_8 rfl rfl ?_
    refine v_callS (c_X7_isPart (d + 3) ) cs_X7_206 dX7_degree_9 rfl rfl (Nat.le_of_ble_eq_true rfl) ?_
    refine rt_k ?_
    refine v_if_ne (tgt := 19) dX7_degree_12 (by decide) (fun hc12 => ?_) (fun hc12 => ?_)
    ·
      obtain ⟨b, hb9, rfl⟩ := be_ix (by omega) hc5
      have hcb : (nI b).toNatClampNeg = b := clamp (by omega)
      have hB9 : Ph 1125899906842624 40 (behO σ b) := run8_ph hph (fun c hc => hw.2 c (List.mem_of_mem_take hc)) (by rw [List.length_take]; omega)
      obtain ⟨S9, hS⟩ : ∃ S, shrO (behO σ b) = S := ⟨_, rfl⟩
      refine v_aload_n 0 dX7_degree_19 rfl rfl ?_
      refine v_iload_n 1 dX7_degree_20 rfl rfl ?_
      refine v_callV (c_X7_behind d h60 h62 hpl hl8 hw.2 (by omega) h61 h63 heb) cs_X7_195 dX7_degree_21 h60 rfl rfl (Nat.le_of_ble_eq_true rfl) ?_
      refine rt_k ?_
      refine v_aload_n 0 dX7_degree_24 rfl rfl ?_
      refine v_get fl_X7_21 dX7_degree_25 (up_n (by decide) h60) rfl ?_
      refine v_iconst (v := 0) dX7_degree_28 (by first | rfl | decide) ?_
      refine v_lald dX7_degree_29 (up_s _ _ _) (nI_in' (k := 0) (by decide)) ?_
      refine v_lconst (v := 0) dX7_degree_30 (by first | rfl | decide) ?_
      refine v_lc_eq (tgt := 42) dX7_degree_31 dX7_degree_32 (by decide) (fun hc31 => ?_) (fun hc31 => ?_)
      ·
        refine v_ldc2 kc_X7_193 dX7_degree_42 ?_
        refine v_goto (tgt := 60) dX7_degree_45 (by decide) ?_
        refine v_lret dX7_degree_60 rfl ?_
        have hE : rDegree σ (nI b) w = (VD, σ) := by simp only [rDegree, degO, if_neg hc5, if_neg hc12, hcb, if_pos (show (behO σ b).1 = 0 from hc31)]
        rw [hE]
        exact ⟨rfl, h.now _, fun i hi => by repeat (first | rfl | refine up_n (by omega) ?_)⟩
      ·
        refine v_aload_n 0 dX7_degree_35 rfl rfl ?_
        by_cases hf : fstO S9 < 0
        ·
          have hi0 : ¬ (behO σ b).1 = 0 := hc31
          refine v_callV (c_fdA (d + 3) (up_n (by decide) h60) (up_s _ _ _) (up_n (by decide) h78) (up_n (by decide) h79) hB9 hi0 hS hf) cs_X7_231 dX7_degree_36 (up_n (by decide) h60) rfl rfl (Nat.le_of_ble_eq_true rfl) ?_
          refine rt_k ?_
          refine v_if_ne (tgt := 48) dX7_degree_39 (by decide) (fun hc39 => ?_) (fun hc39 => ?_)
          ·
            refine v_aload_n 0 dX7_degree_48 rfl rfl ?_
            refine v_get fl_X7_224 dX7_degree_49 (up_s _ _ _) rfl ?_
            refine v_aload_n 0 dX7_degree_52 rfl rfl ?_
            refine v_get fl_X7_228 dX7_degree_53 (up_s _ _ _) rfl ?_
            refine v_iload_n 2 dX7_degree_56 rfl rfl ?_
            obtain ⟨sq0, sq1⟩ := fst_neg hf
            obtain ⟨r1, r2, r3⟩ := root_int sq1
            have z1 := (shr_z hB9 hi0 hS).1
            have hlA : -((9223372036854775807 : Nat) : Int) ≤ (sqO S9).toInt ∧ (sqO S9).toInt ≤ (9223372036854775807 : Nat) := by
              have q1 := (sqO S9).toInt_lt
              rw [Int64.le_iff_toInt_le, show (0 : Int64).toInt = 0 from rfl] at sq0
              omega
            have hlB : -((9223372036854775807 : Nat) : Int) ≤ (S9.1 * S9.1).toInt ∧ (S9.1 * S9.1).toInt ≤ (9223372036854775807 : Nat) := by
              have q1 := (S9.1 * S9.1).toInt_lt
              omega
            have hlC : ¬ S9.1 * S9.1 = 0 := fun z => by
              rw [z, show (0 : Int64).toInt = 0 from rfl] at r3
              rcases Int.mul_eq_zero.mp r3.symm with q | q
              · exact z1 (Int64.toInt_inj.mp q)
              · exact z1 (Int64.toInt_inj.mp q)
            refine v_callS (c_X7_lowest (d + 3) (M := 9223372036854775807) hlA hlB (by decide) hlC) cs_X7_202 dX7_degree_57 rfl rfl (Nat.le_of_ble_eq_true rfl) ?_
            refine rt_k ?_
            refine v_lret dX7_degree_60 rfl ?_
            have hE : rDegree σ (nI b) w = (fraO (sqO S9) (S9.1 * S9.1) w, σ) := by simp only [rDegree, degO, if_neg hc5, if_neg hc12, hcb, if_neg hi0, hS, if_pos hf]
            rw [hE]
            exact ⟨rfl, ⟨(sqO S9), (S9.1 * S9.1), un, lr, mr, hr, at9, fa, op, sg, hm, p, tt, ro, og, tc, op9, sp, (lvO (behO σ b)), se, le, mo, ot, (up_s _ _ _), (up_n (by decide) (up_n (by decide) h61)), (up_n (by decide) (up_n (by decide) h62)), (up_n (by decide) (up_s _ _ _)), (up_n (by decide) (up_n (by decide) h64)), (up_n (by decide) (up_n (by decide) h65)), (up_n (by decide) (up_n (by decide) h66)), (up_n (by decide) (up_n (by decide) h67)), (up_n (by decide) (up_n (by decide) h68)), (up_n (by decide) (up_n (by decide) h69)), (up_n (by decide) (up_n (by decide) h70)), (up_n (by decide) (up_n (by decide) h71)), (up_n (by decide) (up_n (by decide) h72)), (up_n (by decide) (up_n (by decide) h73)), (up_n (by decide) (up_n (by decide) h74)), (up_n (by decide) (up_n (by decide) h75)), (up_n (by decide) (up_n (by decide) h76)), (up_n (by decide) (up_n (by decide) h77)), (up_n (by decide) (up_n (by decide) h78)), (up_n (by decide) (up_n (by decide) h79)), (up_n (by decide) (up_n (by decide) h80)), (hmk.kept (fun i a b => by repeat (first | rfl | refine up_n (by omega) ?_))), hpl, htp, ht60⟩, fun i hi => by repeat (first | rfl | refine up_n (by omega) ?_)⟩
          · exact absurd hc39 (by decide)
        ·
          have hi0 : ¬ (behO σ b).1 = 0 := hc31
          refine v_callV (c_fdB (d + 3) (up_n (by decide) h60) (up_s _ _ _) (up_n (by decide) h78) (up_n (by decide) h79) hB9 hi0 hS hf) cs_X7_231 dX7_degree_36 (up_n (by decide) h60) rfl rfl (Nat.le_of_ble_eq_true rfl) ?_
          refine rt_k ?_
          refine v_if_ne (tgt := 48) dX7_degree_39 (by decide) (fun hc39 => ?_) (fun hc39 => ?_)
          · exact absurd rfl hc39
          ·
            refine v_ldc2 kc_X7_193 dX7_degree_42 ?_
            refine v_goto (tgt := 60) dX7_degree_45 (by decide) ?_
            refine v_lret dX7_degree_60 rfl ?_
            have hE : rDegree σ (nI b) w = (VD, toW σ (tooW (sW σ) (fstO S9))) := by simp only [rDegree, degO, if_neg hc5, if_neg hc12, hcb, if_neg hi0, hS, if_neg hf]
            rw [hE]
            exact ⟨rfl, ⟨co, wh, un, lr, mr, hr, at9, fa, op, sg, hm, p, tt, ro, og, tc, op9, sp, (lvO (behO σ b)), se, le, mo, ot, (up_s _ _ _), (up_n (by decide) (up_n (by decide) (up_n (by decide) (up_n (by decide) (up_n (by decide) h61))))), (up_n (by decide) (up_n (by decide) (up_n (by decide) (up_n (by decide) (up_n (by decide) h62))))), (up_n (by decide) (up_n (by decide) (up_n (by decide) (up_n (by decide) (up_s _ _ _))))), (up_n (by decide) (up_n (by decide) (up_n (by decide) (up_n (by decide) (up_n (by decide) h64))))), (up_n (by decide) (up_n (by decide) (up_n (by decide) (up_n (by decide) (up_n (by decide) h65))))), (up_n (by decide) (up_n (by decide) (up_n (by decide) (up_n (by decide) (up_n (by decide) h66))))), (up_n (by decide) (up_n (by decide) (up_n (by decide) (up_n (by decide) (up_n (by decide) h67))))), (up_n (by decide) (up_n (by decide) (up_n (by decide) (up_n (by decide) (up_n (by decide) h68))))), (up_n (by decide) (up_n (by decide) (up_n (by decide) (up_n (by decide) (up_n (by decide) h69))))), (up_n (by decide) (up_n (by decide) (up_n (by decide) (up_n (by decide) (up_n (by decide) h70))))), (up_n (by decide) (up_n (by decide) (up_n (by decide) (up_n (by decide) (up_n (by decide) h71))))), (up_n (by decide) (up_n (by decide) (up_n (by decide) (up_n (by decide) (up_n (by decide) h72))))), (up_n (by decide) (up_n (by decide) (up_n (by decide) (up_n (by decide) (up_n (by decide) h73))))), (up_n (by decide) (up_n (by decide) (up_n (by decide) (up_n (by decide) (up_n (by decide) h74))))), (up_n (by decide) (up_n (by decide) (up_n (by decide) (up_n (by decide) (up_n (by decide) h75))))), (up_n (by decide) (up_n (by decide) (up_n (by decide) (up_n (by decide) (up_n (by decide) h76))))), (up_n (by decide) (up_n (by decide) (up_n (by decide) (up_n (by decide) (up_n (by decide) h77))))), (up_n (by decide) (up_n (by decide) (up_s _ _ _))), (up_n (by decide) (up_s _ _ _)), (up_n (by decide) (up_n (by decide) (up_n (by decide) (up_n (by decide) (up_n (by decide) h80))))), (hmk.kept (fun i a b => by repeat (first | rfl | refine up_n (by omega) ?_))), hpl, htp, ht60⟩, fun i hi => by repeat (first | rfl | refine up_n (by omega) ?_)⟩
    ·
      refine v_ldc2 kc_X7_193 dX7_degree_15 ?_
      refine v_lret dX7_degree_18 rfl ?_
      have hE : rDegree σ k w = (VD, σ) := by
        first
          | (simp only [rDegree, if_neg hc5, if_pos hc12]; done)
          | (grind [rDegree]; done)
      rw [hE]
      exact ⟨rfl, h, Fp.rf μ⟩

