def hfO (z : Nat → Int32) (t : Int32) : Int32 := if inO t 3 = 0 then 0 else if z t.toNatClampNeg < 5 then 0 else 1
def ttB (z : Nat → Int32) (f : Nat → Nat → Int64) (t : Int32) : Int32 := if inO t 3 = 0 then 0 else tzB (z t.toNatClampNeg) (f t.toNatClampNeg)
set_option maxRecDepth 20000 in
set_option maxHeartbeats 4000000 in
theorem c_X7_hasFive {G : Cx} (d : Nat) {μ : Hp} {t : Int32} {z : Nat → Int32} {m un lr mr hr le at9 fa op tr sg hm hi : Int32} {co wh : Int64} (h60 : μ 60 = some (modC m co wh un lr mr hr le at9 fa op tr sg hm hi)) (h71 : μ 71 = some (arI 3 z)) : Ct G (d + 2) 0 0 M_X7_hasFive [.ref 60, .int t] μ (Rt (some (.int (hfO z t))) μ) := by
  refine Ct.ofV (by decide +kernel) (Nat.le_of_ble_eq_true rfl) ?_
  refine v_ls (ls' := [(0, .ref 60), (1, .int t)]) rfl ?_
  refine v_iload_n 1 dX7_hasFive_0 rfl rfl ?_
  refine v_callS (c_X7_isList d ) cs_X7_268 dX7_hasFive_1 rfl rfl (Nat.le_of_ble_eq_true rfl) ?_
  refine rt_k ?_
  refine v_if_eq (tgt := 21) dX7_hasFive_4 (by decide) (fun hc4 => ?_) (fun hc4 => ?_)
  ·
    refine v_iconst (v := 0) dX7_hasFive_21 (by first | rfl | decide) ?_
    refine v_iret dX7_hasFive_22 rfl (by decide) ?_
    exact ⟨by simp only [hfO, if_pos hc4], rfl⟩
  ·
    have hbt : vp_in t 3 := by
      obtain ⟨n, hn, rfl⟩ := in_ix (n := 3) (by decide) hc4
      exact nI_in' hn
    refine v_aload_n 0 dX7_hasFive_7 rfl rfl ?_
    refine v_get fl_X7_45 dX7_hasFive_8 h60 rfl ?_
    refine v_iload_n 1 dX7_hasFive_11 rfl rfl ?_
    refine v_iald dX7_hasFive_12 h71 (hbt) ?_
    refine v_iconst (v := 5) dX7_hasFive_13 (by first | rfl | decide) ?_
    refine v_icmp_lt (tgt := 21) dX7_hasFive_14 (by decide) (fun hc14 => ?_) (fun hc14 => ?_)
    ·
      refine v_iconst (v := 0) dX7_hasFive_21 (by first | rfl | decide) ?_
      refine v_iret dX7_hasFive_22 rfl (by decide) ?_
      exact ⟨by simp only [hfO, if_neg hc4, if_pos hc14, if_neg (Int32.not_le.mpr hc14)], rfl⟩
    ·
      refine v_iconst (v := 1) dX7_hasFive_17 (by first | rfl | decide) ?_
      refine v_goto (tgt := 22) dX7_hasFive_18 (by decide) ?_
      refine v_iret dX7_hasFive_22 rfl (by decide) ?_
      exact ⟨by simp only [hfO, if_neg hc4, if_neg hc14, if_pos (Int32.not_lt.mp hc14)], rfl⟩

theorem fr_lo {x a b : Int64} (h : ¬ frO x a b = 0) : a.toInt ≤ x.toInt ∧ x.toInt ≤ b.toInt := by
  have h1 : ¬ x < a := fun z => h (by unfold frO; rw [if_pos z])
  have h2 : ¬ b < x := fun z => h (by unfold frO; rw [if_neg h1, if_pos z])
  rw [Int64.lt_iff_toInt_lt] at h1 h2
  omega
theorem fr_rt {x : Int64} (h : ¬ frO x 0 20 = 0) : x.toInt32.toInt64 = x := by
  have := fr_lo h
  rw [show (0 : Int64).toInt = 0 from rfl, show (20 : Int64).toInt = 20 from rfl] at this
  apply Int64.toInt_inj.mp
  rw [Int32.toInt_toInt64, Int64.toInt_toInt32]
  exact Int.bmod_eq_of_le (by simp; omega) (by simp; omega)
theorem tel_may {f : Nat → Int64} (h : ¬ frO (f 0) 0 1000000 = 0) : mayO (telO f) = mayO (f 0, f 1, f 2, f 3, 0) := by
  have q := fr_lo h
  rw [show (0 : Int64).toInt = 0 from rfl, show (1000000 : Int64).toInt = 1000000 from rfl] at q
  exact (may_low _ (f 0, f 1, f 2, f 3, (f 4).toInt32) q.1 q.2).trans rfl
set_option maxRecDepth 20000 in
set_option maxHeartbeats 4000000 in
theorem c_X7_tellsLight {G : Cx} (d : Nat) {μ : Hp} {t : Int32} {z : Nat → Int32} {f : Nat → Nat → Int64} {nw : Nat → Int64} {m un lr mr hr le at9 fa op tr sg hm hi : Int32} {co wh : Int64} (h60 : μ 60 = some (modC m co wh un lr mr hr le at9 fa op tr sg hm hi)) (h63 : μ 63 = some (arJ 5 nw)) (h70 : μ 70 = some (arJ 36 (lsF f))) (h71 : μ 71 = some (arI 3 z)) : Ct G (d + 3) 0 0 M_X7_tellsLight [.ref 60, .int t] μ (fun r μ' => r = some (.int (ttB z f t)) ∧ (∃ g, μ' = up μ 63 (arJ 5 g) ∧ (¬ ttB z f t = 0 → g = lvO (telO (f t.toNatClampNeg))))) := by
  refine Ct.ofV (by decide +kernel) (Nat.le_of_ble_eq_true rfl) ?_
  refine v_ls (ls' := [(0, .ref 60), (1, .int t)]) rfl ?_
  refine v_aload_n 0 dX7_tellsLight_0 rfl rfl ?_
  refine v_iload_n 1 dX7_tellsLight_1 rfl rfl ?_
  refine v_callV (c_X7_hasFive d h60 h71) cs_X7_277 dX7_tellsLight_2 h60 rfl rfl (Nat.le_of_ble_eq_true rfl) ?_
  refine rt_k ?_
  refine v_if_ne (tgt := 10) dX7_tellsLight_5 (by decide) (fun hc5 => ?_) (fun hc5 => ?_)
  ·
    have hq1 : ¬ inO t 3 = 0 := fun q => hc5 (by unfold hfO; rw [if_pos q])
    have hq2 : ¬ z t.toNatClampNeg < 5 := fun q => hc5 (by unfold hfO; rw [if_neg hq1, if_pos q])
    obtain ⟨n, hn9, rfl⟩ := in_ix (n := 3) (by decide) hq1
    have hcn : (nI n).toNatClampNeg = n := clamp (by omega)
    have hl0 : lsF f (nI (12 * n)).toNatClampNeg = f n 0 := by rw [clamp (by omega)]; exact ls_at f (n := n) (b := 0) (by decide)
    have hl1 : lsF f (nI (12 * n + 1)).toNatClampNeg = f n 1 := by rw [clamp (by omega)]; exact ls_at f (by decide)
    have hl2 : lsF f (nI (12 * n + 2)).toNatClampNeg = f n 2 := by rw [clamp (by omega)]; exact ls_at f (by decide)
    have hl3 : lsF f (nI (12 * n + 3)).toNatClampNeg = f n 3 := by rw [clamp (by omega)]; exact ls_at f (by decide)
    have hl4 : lsF f (nI (12 * n + 4)).toNatClampNeg = f n 4 := by rw [clamp (by omega)]; exact ls_at f (by decide)
    refine v_bipush (v := 12) dX7_tellsLight_10 (by first | rfl | decide) ?_
    refine v_iload_n 1 dX7_tellsLight_12 rfl rfl ?_
    refine v_imul dX7_tellsLight_13 ?_
    refine v_istore_n dX7_tellsLight_14 rfl (by decide) (fun y2 e_y2 => ?_)
    refine v_ls (ls' := [(2, .int y2), (0, .ref 60), (1, .int (nI n))]) rfl ?_
    rw [m12] at e_y2
    subst e_y2
    refine v_aload_n 1 dX7_tellsLight_15 rfl rfl ?_
    refine v_get fl_X7_42 dX7_tellsLight_16 h60 rfl ?_
    refine v_iload_n 0 dX7_tellsLight_19 rfl rfl ?_
    refine v_lald dX7_tellsLight_20 h70 (nI_in' (by omega)) ?_
    refine v_lconst (v := 0) dX7_tellsLight_21 (by first | rfl | decide) ?_
    refine v_ldc2 kc_X7_280 dX7_tellsLight_22 ?_
    rw [hl0]
    refine v_callS (c_X7_in (d + 2)) cs_X7_95 dX7_tellsLight_25 rfl rfl (Nat.le_of_ble_eq_true rfl) ?_
    refine rt_k ?_
    refine v_if_eq (tgt := 85) dX7_tellsLight_28 (by decide) (fun hc28 => ?_) (fun hc28 => ?_)
    ·
      refine v_iconst (v := 0) dX7_tellsLight_85 (by first | rfl | decide) ?_
      
      refine v_iret dX7_tellsLight_86 rfl (by first | rfl | decide | exact nar_b (by first | assumption | rfl)) ?_
      have hE : ttB z f (nI n) = 0 := by 
        unfold ttB tzB telB
        rw [if_neg hq1, if_neg hq2, hcn]
        rw [if_pos hc28]
      exact ⟨by rw [hE], nw, (up_id h63).symm, fun q => absurd hE q⟩
    ·
      refine v_aload_n 1 dX7_tellsLight_31 rfl rfl ?_
      refine v_get fl_X7_42 dX7_tellsLight_32 h60 rfl ?_
      refine v_iload_n 0 dX7_tellsLight_35 rfl rfl ?_
      refine v_iconst (v := 4) dX7_tellsLight_36 (by first | rfl | decide) ?_
      refine v_iadd dX7_tellsLight_37 ?_
      rw [show nI (12 * n) + 4 = nI (12 * n + 4) from nI_add _ _]
      refine v_lald dX7_tellsLight_38 h70 (nI_in' (by omega)) ?_
      refine v_lconst (v := 0) dX7_tellsLight_39 (by first | rfl | decide) ?_
      refine v_ldc2 kc_X7_282 dX7_tellsLight_40 ?_
      rw [hl4]
      refine v_callS (c_X7_in (d + 2)) cs_X7_95 dX7_tellsLight_43 rfl rfl (Nat.le_of_ble_eq_true rfl) ?_
      refine rt_k ?_
      refine v_if_eq (tgt := 85) dX7_tellsLight_46 (by decide) (fun hc46 => ?_) (fun hc46 => ?_)
      ·
        refine v_iconst (v := 0) dX7_tellsLight_85 (by first | rfl | decide) ?_
        
        refine v_iret dX7_tellsLight_86 rfl (by first | rfl | decide | exact nar_b (by first | assumption | rfl)) ?_
        have hE : ttB z f (nI n) = 0 := by 
          unfold ttB tzB telB
          rw [if_neg hq1, if_neg hq2, hcn]
          rw [if_neg hc28, if_pos hc46]
        exact ⟨by rw [hE], nw, (up_id h63).symm, fun q => absurd hE q⟩
      ·
        refine v_aload_n 1 dX7_tellsLight_49 rfl rfl ?_
        refine v_get fl_X7_42 dX7_tellsLight_50 h60 rfl ?_
        refine v_iload_n 0 dX7_tellsLight_53 rfl rfl ?_
        refine v_lald dX7_tellsLight_54 h70 (nI_in' (by omega)) ?_
        refine v_aload_n 1 dX7_tellsLight_55 rfl rfl ?_
        refine v_get fl_X7_42 dX7_tellsLight_56 h60 rfl ?_
        refine v_iload_n 0 dX7_tellsLight_59 rfl rfl ?_
        refine v_iconst (v := 1) dX7_tellsLight_60 (by first | rfl | decide) ?_
        refine v_iadd dX7_tellsLight_61 ?_
        rw [show nI (12 * n) + 1 = nI (12 * n + 1) from nI_add _ _]
        refine v_lald dX7_tellsLight_62 h70 (nI_in' (by omega)) ?_
        refine v_aload_n 1 dX7_tellsLight_63 rfl rfl ?_
        refine v_get fl_X7_42 dX7_tellsLight_64 h60 rfl ?_
        refine v_iload_n 0 dX7_tellsLight_67 rfl rfl ?_
        refine v_iconst (v := 2) dX7_tellsLight_68 (by first | rfl | decide) ?_
        refine v_iadd dX7_tellsLight_69 ?_
        rw [show nI (12 * n) + 2 = nI (12 * n + 2) from nI_add _ _]
        refine v_lald dX7_tellsLight_70 h70 (nI_in' (by omega)) ?_
        refine v_aload_n 1 dX7_tellsLight_71 rfl rfl ?_
        refine v_get fl_X7_42 dX7_tellsLight_72 h60 rfl ?_
        refine v_iload_n 0 dX7_tellsLight_75 rfl rfl ?_
        refine v_iconst (v := 3) dX7_tellsLight_76 (by first | rfl | decide) ?_
        refine v_iadd dX7_tellsLight_77 ?_
        rw [show nI (12 * n) + 3 = nI (12 * n + 3) from nI_add _ _]
        refine v_lald dX7_tellsLight_78 h70 (nI_in' (by omega)) ?_
        rw [hl0, hl1, hl2, hl3]
        refine v_callS (c_X7_mayBe (d + 1) ) cs_X7_154 dX7_tellsLight_79 rfl rfl (Nat.le_of_ble_eq_true rfl) ?_
        refine rt_k ?_
        refine v_if_ne (tgt := 87) dX7_tellsLight_82 (by decide) (fun hc82 => ?_) (fun hc82 => ?_)
        ·
          have hmay := tel_may (f := f n) hc28
          refine v_aload_n 1 dX7_tellsLight_87 rfl rfl ?_
          refine v_get fl_X7_42 dX7_tellsLight_88 h60 rfl ?_
          refine v_iload_n 0 dX7_tellsLight_91 rfl rfl ?_
          refine v_aload_n 1 dX7_tellsLight_92 rfl rfl ?_
          refine v_get fl_X7_21 dX7_tellsLight_93 h60 rfl ?_
          refine v_iconst (v := 0) dX7_tellsLight_96 (by first | rfl | decide) ?_
          refine v_iconst (v := 5) dX7_tellsLight_97 (by first | rfl | decide) ?_
          refine v_copyl cs_X7_140 dX7_tellsLight_98 h70 h63 rfl rfl (nI_pos (by omega)) (by decide) (by decide) (by rw [clamp (by omega)]; show 12 * n + 5 ≤ 36; omega) (by decide) (fun i _ => rfl) (Nat.le_of_ble_eq_true rfl) ?_
          refine v_njJ (g := lvO (f n 0, f n 1, f n 2, f n 3, (f n 4).toInt32)) (fun x hx => ?_) ?_
          · rw [clamp (show 12 * n < 2 ^ 31 by omega)]
            have hx5 : va_cpy (lsF f) nw (12 * n) 0 5 x = f n x := by
              unfold va_cpy
              rw [if_pos ⟨Nat.zero_le _, by omega⟩, ← ls_at f (n := n) (b := x) (by omega)]
              congr 1
            refine hx5.trans ?_
            match x, hx with
            | 0, _ => rfl
            | 1, _ => rfl
            | 2, _ => rfl
            | 3, _ => rfl
            | 4, _ => exact (fr_rt hc46).symm
          refine v_aload_n 1 dX7_tellsLight_101 rfl rfl ?_
          refine v_get fl_X7_21 dX7_tellsLight_102 (up_n (by decide) h60) rfl ?_
          refine v_callS (c_X7_toLowest (d + 2) (up_s _ _ _)) cs_X7_136 dX7_tellsLight_105 rfl rfl (Nat.le_of_ble_eq_true rfl) ?_
          refine rt_k ?_
          refine v_hp (up_up _ _ _ _) ?_
          refine v_iconst (v := 1) dX7_tellsLight_108 (by first | rfl | decide) ?_
          refine v_iret dX7_tellsLight_109 rfl (by first | rfl | decide | exact nar_b (by first | assumption | rfl)) ?_
          have hm1 : mayO (telO (f n)) = 1 := by
            rw [hmay]
            exact (mayO_b _).resolve_left hc82
          have hE : ttB z f (nI n) = 1 := by
            unfold ttB tzB telB
            rw [if_neg hq1, if_neg hq2, hcn, if_neg hc28, if_neg hc46]
            exact hm1
          exact ⟨by rw [hE], _, rfl, fun _ => by rw [hcn]; rfl⟩
        ·
          refine v_iconst (v := 0) dX7_tellsLight_85 (by first | rfl | decide) ?_
          have hmay := tel_may (f := f n) hc28
          refine v_iret dX7_tellsLight_86 rfl (by first | rfl | decide | exact nar_b (by first | assumption | rfl)) ?_
          have hE : ttB z f (nI n) = 0 := by 
            unfold ttB tzB telB
            rw [if_neg hq1, if_neg hq2, hcn]
            rw [if_neg hc28, if_neg hc46, hmay]
            exact hc82
          exact ⟨by rw [hE], nw, (up_id h63).symm, fun q => absurd hE q⟩
  ·
    refine v_iconst (v := 0) dX7_tellsLight_8 (by first | rfl | decide) ?_
    refine v_iret dX7_tellsLight_9 rfl (by first | rfl | decide | exact nar_b (by first | assumption | rfl)) ?_
    have hE : ttB z f t = 0 := by 
      unfold hfO at hc5
      unfold ttB tzB
      by_cases q1 : inO t 3 = 0
      · rw [if_pos q1]
      · rw [if_neg q1] at hc5 ⊢
        by_cases q2 : z t.toNatClampNeg < 5
        · rw [if_pos q2]
        · rw [if_neg q2] at hc5; exact absurd hc5 (by decide)
    exact ⟨by rw [hE], nw, (up_id h63).symm, fun q => absurd hE q⟩

