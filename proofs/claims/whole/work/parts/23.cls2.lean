set_option maxRecDepth 20000 in
set_option maxHeartbeats 4000000 in
theorem mkl_loop {G : Cx} (d : Nat) {μ : Hp} {hi : Int32} {n : Nat} {v : Int32} (hn9 : n < 3) (h0 : μ 0 = some (filC hi)) (h20 : μ 20 = some (arR 5 3 (rowF 21 3))) : ∀ (m : Nat) (j : Nat) (f : Nat → Int64), j + m = 12 → (∀ x, x < j → f x = 0) → V G M_X6_makeList (d + 0) 0 0 (Rt none (up μ (21 + n) (arJ 12 (fun _ => 0)))) 9 [(3, .int (nI j)), (0, .ref 0), (1, .int (nI n)), (2, .int v)] [] (up μ (21 + n) (arJ 12 f)) := by
  intro m
  induction m with
  | zero =>
    intro j f hj hf
    refine v_iload_n 0 dX6_makeList_9 rfl rfl ?_
    refine v_bipush (v := 12) dX6_makeList_10 (by first | rfl | decide) ?_
    refine v_icmp_ge (tgt := 30) dX6_makeList_12 (by decide) (fun hc12 => ?_) (fun hc12 => ?_)
    ·
      refine v_njJ (g := fun _ => 0) (fun x hx => hf x (by omega)) ?_
      refine v_vret dX6_makeList_30 rfl ?_
      exact ⟨rfl, rfl⟩
    · exact absurd ((nI_leI (a := 12) (by decide) (by omega)).mpr (by omega)) hc12
  | succ m ih =>
    intro j f hj hf
    refine v_iload_n 0 dX6_makeList_9 rfl rfl ?_
    refine v_bipush (v := 12) dX6_makeList_10 (by first | rfl | decide) ?_
    refine v_icmp_ge (tgt := 30) dX6_makeList_12 (by decide) (fun hc12 => ?_) (fun hc12 => ?_)
    · have := (nI_leI (a := 12) (by decide) (by omega)).mp hc12
      omega
    ·
      refine v_aload_n 1 dX6_makeList_15 rfl rfl ?_
      refine v_get fl_X6_23 dX6_makeList_16 (up_n (by omega) h0) rfl ?_
      refine v_iload_n 2 dX6_makeList_19 rfl rfl ?_
      refine v_aald dX6_makeList_20 (up_n (by omega) h20) rfl rfl (nI_in' hn9) (by rw [clamp (by omega)]; exact if_pos hn9) ?_
      refine v_iload_n 0 dX6_makeList_21 rfl rfl ?_
      refine v_lconst (v := 0) dX6_makeList_22 (by first | rfl | decide) ?_
      refine v_last dX6_makeList_23 (up_s _ _ _) (nI_in' (by omega)) ?_
      refine v_hp (up_up _ _ _ _) ?_
      refine v_iinc (v := 1) 0 dX6_makeList_24 rfl rfl (by decide) (fun z e_z => ?_)
      refine v_ls (ls' := [(3, .int z), (0, .ref 0), (1, .int (nI n)), (2, .int v)]) rfl ?_
      rw [nI_1] at e_z
      subst e_z
      refine v_goto (tgt := 9) dX6_makeList_27 (by decide) ?_
      exact ih (j + 1) _ (by omega) (fun x hx => by
        rw [clamp (by omega)]
        show (if x = j then (0 : Int64) else f x) = 0
        by_cases e : x = j
        · rw [if_pos e]
        · rw [if_neg e]; exact hf x (by omega))
      

set_option maxRecDepth 20000 in
set_option maxHeartbeats 4000000 in
theorem c_X6_makeList {G : Cx} (d : Nat) {μ : Hp} {hi : Int32} {n : Nat} {v : Int32} {f : Nat → Int64} {g : Nat → Int32} (hn9 : n < 3) (h0 : μ 0 = some (filC hi)) (h20 : μ 20 = some (arR 5 3 (rowF 21 3))) (h24 : μ 24 = some (arI 3 g)) (hrw : μ (21 + n) = some (arJ 12 f)) : Ct G (d) 0 0 M_X6_makeList [.ref 0, .int (nI n), .int v] μ (Rt none (up (up μ 24 (arI 3 (upd g n v))) (21 + n) (arJ 12 (fun _ => 0)))) := by
  refine Ct.ofV (by decide +kernel) (Nat.le_of_ble_eq_true rfl) ?_
  refine v_ls (ls' := [(0, .ref 0), (1, .int (nI n)), (2, .int v)]) rfl ?_
  refine v_aload_n 0 dX6_makeList_0 rfl rfl ?_
  refine v_get fl_X6_26 dX6_makeList_1 h0 rfl ?_
  refine v_iload_n 1 dX6_makeList_4 rfl rfl ?_
  refine v_iload_n 2 dX6_makeList_5 rfl rfl ?_
  refine v_iast dX6_makeList_6 h24 (nI_in' hn9) ?_
  refine v_iconst (v := 0) dX6_makeList_7 (by first | rfl | decide) ?_
  refine v_istore_n dX6_makeList_8 rfl (by decide) (fun x3 e_x3 => ?_)
  refine v_ls (ls' := [(3, .int x3), (0, .ref 0), (1, .int (nI n)), (2, .int v)]) rfl ?_
  subst e_x3
  rw [clamp (by omega)]
  refine v_hp (up_id (up_n (by omega) hrw)).symm ?_
  exact mkl_loop d hn9 (up_n (by decide) h0) (up_n (by decide) h20) 12 0 f (by omega) (fun x hx => absurd hx (Nat.not_lt_zero x))
  

theorem ll_upd (z : Nat → Int32) (n : Nat) (v : Int32) : upd (llF z) n (if v = -1 then -11 else v) = llF (upd z n v) := by
  funext j
  show (if j = n then (if v = -1 then -11 else v) else llF z j) = (if upd z n v j = -1 then -11 else upd z n v j)
  unfold upd
  by_cases e : j = n
  · simp [e]
  · simp [e, llF]
theorem Cl.mk {σ : ST} {μ : Hp} (h : Cl σ μ) {n : Nat} (hn : n < 3) {v x : Int32} (hv : (if x = -1 then -11 else x) = v) (f : Nat → Int64) : Cl (mkL σ n x f) (up (up μ 24 (arI 3 (upd (llF (sZ σ)) n v))) (21 + n) (arJ 12 f)) := by
  rw [← hv, ll_upd]
  exact (h.size (upd (sZ σ) n x)).list hn f
/-- lengths of LISTS -/
def Wz (z : Nat → Int32) : Prop := ∀ t, t < 3 → z t = -1 ∨ ∃ k, k ≤ 12 ∧ z t = nI k
set_option maxRecDepth 20000 in
set_option maxHeartbeats 4000000 in
theorem c_X6_isMissing {G : Cx} (d : Nat) {μ : Hp} {hi : Int32} {n : Nat} {z : Nat → Int32} (hn9 : n < 3) (hz : Wz z) (h0 : μ 0 = some (filC hi)) (h24 : μ 24 = some (arI 3 (llF z))) : Ct G (d) 0 0 M_X6_isMissing [.ref 0, .int (nI n)] μ (Rt (some (.int (if z n = -1 then 1 else 0))) μ) := by
  refine Ct.ofV (by decide +kernel) (Nat.le_of_ble_eq_true rfl) ?_
  refine v_ls (ls' := [(0, .ref 0), (1, .int (nI n))]) rfl ?_
  have hq : llF z n = -11 ↔ z n = -1 := by
    unfold llF
    rcases hz n hn9 with e | ⟨k, hk, e⟩
    · simp [e]
    · have : ¬ nI k = -1 := fun q => by have := congrArg Int32.toInt q; rw [nI_toInt (by omega)] at this; rw [show (-1 : Int32).toInt = -1 from rfl] at this; omega
      have h2 : ¬ nI k = -11 := fun q => by have := congrArg Int32.toInt q; rw [nI_toInt (by omega)] at this; rw [show (-11 : Int32).toInt = -11 from rfl] at this; omega
      rw [e]
      simp [this, h2]
  refine v_aload_n 0 dX6_isMissing_0 rfl rfl ?_
  refine v_get fl_X6_26 dX6_isMissing_1 h0 rfl ?_
  refine v_iload_n 1 dX6_isMissing_4 rfl rfl ?_
  refine v_iald dX6_isMissing_5 h24 (nI_in' hn9) ?_
  refine v_bipush (v := -11) dX6_isMissing_6 (by first | rfl | decide) ?_
  refine v_icmp_ne (tgt := 15) dX6_isMissing_8 (by decide) (fun hc8 => ?_) (fun hc8 => ?_)
  ·
    refine v_iconst (v := 0) dX6_isMissing_15 (by first | rfl | decide) ?_
    refine v_iret dX6_isMissing_16 rfl (by first | rfl | decide | exact nar_b (by first | assumption | rfl)) ?_
    rw [clamp (by omega)] at hc8
    exact ⟨by first | rw [if_pos (hq.mp hc8)] | rw [if_neg (fun q => hc8 (hq.mpr q))], rfl⟩
  ·
    refine v_iconst (v := 1) dX6_isMissing_11 (by first | rfl | decide) ?_
    refine v_goto (tgt := 16) dX6_isMissing_12 (by decide) ?_
    refine v_iret dX6_isMissing_16 rfl (by first | rfl | decide | exact nar_b (by first | assumption | rfl)) ?_
    rw [clamp (by omega)] at hc8
    exact ⟨by first | rw [if_pos (hq.mp hc8)] | rw [if_neg (fun q => hc8 (hq.mpr q))], rfl⟩

set_option maxRecDepth 20000 in
set_option maxHeartbeats 4000000 in
theorem c_X6_hasListPlace {G : Cx} (d : Nat) {μ : Hp} {hi i : Int32} {n : Nat} {z : Nat → Int32} (hn9 : n < 3) (hz : Wz z) (h0 : μ 0 = some (filC hi)) (h24 : μ 24 = some (arI 3 (llF z))) : Ct G (d) 0 0 M_X6_hasListPlace [.ref 0, .int (nI n), .int i] μ (Rt (some (.int (inO i (z n)))) μ) := by
  refine Ct.ofV (by decide +kernel) (Nat.le_of_ble_eq_true rfl) ?_
  refine v_ls (ls' := [(0, .ref 0), (1, .int (nI n)), (2, .int i)]) rfl ?_
  have hq : ¬ i < 0 → (llF z n ≤ i ↔ z n ≤ i) := fun q => by
    unfold llF
    by_cases e : z n = -1
    · rw [if_pos e, e]
      have q1 : (-11 : Int32) ≤ i := by grind
      have q2 : (-1 : Int32) ≤ i := by grind
      exact ⟨fun _ => q2, fun _ => q1⟩
    · rw [if_neg e]
  refine v_iload_n 2 dX6_hasListPlace_0 rfl rfl ?_
  refine v_if_lt (tgt := 18) dX6_hasListPlace_1 (by decide) (fun hc1 => ?_) (fun hc1 => ?_)
  ·
    refine v_iconst (v := 0) dX6_hasListPlace_18 (by first | rfl | decide) ?_
    refine v_iret dX6_hasListPlace_19 rfl (by first | rfl | decide | exact nar_b (by first | assumption | rfl)) ?_
    first
      | (rw [clamp (by omega)] at hc11
         exact ⟨by first | (have q := (hq hc1).mp hc11; simp only [inO, if_neg hc1, if_pos q]) | (have q : ¬ z n ≤ i := fun w => hc11 ((hq hc1).mpr w); simp only [inO, if_neg hc1, if_neg q]), rfl⟩)
      | exact ⟨by simp only [inO, if_pos hc1], rfl⟩
  ·
    refine v_iload_n 2 dX6_hasListPlace_4 rfl rfl ?_
    refine v_aload_n 0 dX6_hasListPlace_5 rfl rfl ?_
    refine v_get fl_X6_26 dX6_hasListPlace_6 h0 rfl ?_
    refine v_iload_n 1 dX6_hasListPlace_9 rfl rfl ?_
    refine v_iald dX6_hasListPlace_10 h24 (nI_in' hn9) ?_
    refine v_icmp_ge (tgt := 18) dX6_hasListPlace_11 (by decide) (fun hc11 => ?_) (fun hc11 => ?_)
    ·
      refine v_iconst (v := 0) dX6_hasListPlace_18 (by first | rfl | decide) ?_
      refine v_iret dX6_hasListPlace_19 rfl (by first | rfl | decide | exact nar_b (by first | assumption | rfl)) ?_
      first
        | (rw [clamp (by omega)] at hc11
           exact ⟨by first | (have q := (hq hc1).mp hc11; simp only [inO, if_neg hc1, if_pos q]) | (have q : ¬ z n ≤ i := fun w => hc11 ((hq hc1).mpr w); simp only [inO, if_neg hc1, if_neg q]), rfl⟩)
        | exact ⟨by simp only [inO, if_pos hc1], rfl⟩
    ·
      refine v_iconst (v := 1) dX6_hasListPlace_14 (by first | rfl | decide) ?_
      refine v_goto (tgt := 19) dX6_hasListPlace_15 (by decide) ?_
      refine v_iret dX6_hasListPlace_19 rfl (by first | rfl | decide | exact nar_b (by first | assumption | rfl)) ?_
      first
        | (rw [clamp (by omega)] at hc11
           exact ⟨by first | (have q := (hq hc1).mp hc11; simp only [inO, if_neg hc1, if_pos q]) | (have q : ¬ z n ≤ i := fun w => hc11 ((hq hc1).mpr w); simp only [inO, if_neg hc1, if_neg q]), rfl⟩)
        | exact ⟨by simp only [inO, if_pos hc1], rfl⟩

set_option maxRecDepth 20000 in
set_option maxHeartbeats 4000000 in
theorem c_X6_list {G : Cx} (d : Nat) {μ : Hp} {σ : ST} {t : Int32} {x : Int32} (h : Cl σ μ) (hw : Wp (sP σ)) : Ct G (d + 1) 0 0 M_X6_list [.ref 0, .int t, .int x] μ (Po ((rList σ t x).2) (.int ((rList σ t x).1)) μ) := by
  refine Ct.ofV (by decide +kernel) (Nat.le_of_ble_eq_true rfl) ?_
  refine v_ls (ls' := [(0, .ref 0), (1, .int t), (2, .int x)]) rfl ?_
  obtain ⟨h0, ⟨p, h1, h2, h3, h4, h5, h6, h7, h8, h9, hpl⟩, ⟨bk, hbk, pk, k11, k12, k13, k14, k15, k16, k17, k18, k19, hpk⟩, ⟨h20, h21, h22, h23, h24⟩, ⟨tt, ops, cd, kk, pp, ff, h25, h26, h27, h28, htp, ht60⟩, ⟨h29, h30, h31⟩, ⟨⟨oc, hoc⟩, h37, h38, h39⟩, hsx, ⟨B0, B1, B2, h50, h51, h52⟩⟩ := id h
  have hl8 := hw.1
  refine v_iload_n 1 dX6_list_0 rfl rfl ?_
  refine v_callS (c_X6_isList d ) cs_X6_276 dX6_list_1 rfl rfl (Nat.le_of_ble_eq_true rfl) ?_
  refine rt_k ?_
  refine v_if_ne (tgt := 9) dX6_list_4 (by decide) (fun hc4 => ?_) (fun hc4 => ?_)
  ·
    obtain ⟨n, hn9, rfl⟩ := in_ix (n := 3) (by decide) hc4
    have hrw : μ (21 + n) = some (arJ 12 (sL σ n)) := Lx.row ⟨h20, h21, h22, h23, h24⟩ hn9
    have hcn : (nI n).toNatClampNeg = n := clamp (by omega)
    refine v_iload_n 2 dX6_list_9 rfl rfl ?_
    refine v_bipush (v := 12) dX6_list_10 (by first | rfl | decide) ?_
    refine v_icmp_le (tgt := 18) dX6_list_12 (by decide) (fun hc12 => ?_) (fun hc12 => ?_)
    ·
      refine v_iload_n 2 dX6_list_18 rfl rfl ?_
      refine v_iconst (v := -1) dX6_list_19 (by first | rfl | decide) ?_
      refine v_icmp_ge (tgt := 26) dX6_list_20 (by decide) (fun hc20 => ?_) (fun hc20 => ?_)
      ·
        refine v_aload_n 0 dX6_list_26 rfl rfl ?_
        refine v_iload_n 1 dX6_list_27 rfl rfl ?_
        refine v_iload_n 2 dX6_list_28 rfl rfl ?_
        refine v_if_ge (tgt := 37) dX6_list_29 (by decide) (fun hc29 => ?_) (fun hc29 => ?_)
        ·
          refine v_iload_n 2 dX6_list_37 rfl rfl ?_
          refine v_callV (c_X6_makeList d hn9 h0 h20 h24 hrw) cs_X6_279 dX6_list_38 h0 rfl rfl (Nat.le_of_ble_eq_true rfl) ?_
          refine rt_k ?_
          refine v_iconst (v := 1) dX6_list_41 (by first | rfl | decide) ?_
          refine v_iret dX6_list_42 rfl (by first | rfl | decide | exact nar_b (by first | assumption | rfl)) ?_
          have hE : rList σ (nI n) x = (1, mkL σ n x (fun _ => 0)) := by
            have hg1 : ¬ 12 < x := Int32.not_lt.mpr hc12
            have hg2 : ¬ x < -1 := Int32.not_lt.mpr hc20
            simp only [rList, if_neg hc4, if_neg hg1, if_neg hg2, hcn]
          rw [hE]
          exact ⟨rfl, h.mk hn9 (by grind) _, fun i hi => by repeat (first | rfl | refine up_n (by omega) ?_)⟩
        ·
          refine v_bipush (v := -11) dX6_list_32 (by first | rfl | decide) ?_
          refine v_goto (tgt := 38) dX6_list_34 (by decide) ?_
          refine v_callV (c_X6_makeList d hn9 h0 h20 h24 hrw) cs_X6_279 dX6_list_38 h0 rfl rfl (Nat.le_of_ble_eq_true rfl) ?_
          refine rt_k ?_
          refine v_iconst (v := 1) dX6_list_41 (by first | rfl | decide) ?_
          refine v_iret dX6_list_42 rfl (by first | rfl | decide | exact nar_b (by first | assumption | rfl)) ?_
          have hE : rList σ (nI n) x = (1, mkL σ n x (fun _ => 0)) := by
            have hg1 : ¬ 12 < x := Int32.not_lt.mpr hc12
            have hg2 : ¬ x < -1 := Int32.not_lt.mpr hc20
            simp only [rList, if_neg hc4, if_neg hg1, if_neg hg2, hcn]
          rw [hE]
          exact ⟨rfl, h.mk hn9 (by grind) _, fun i hi => by repeat (first | rfl | refine up_n (by omega) ?_)⟩
      ·
        refine v_bipush (v := -14) dX6_list_23 (by first | rfl | decide) ?_
        refine v_iret dX6_list_25 rfl (by first | rfl | decide | exact nar_b (by first | assumption | rfl)) ?_
        have hE : rList σ (nI n) x = (-14, σ) := by
          first | (simp only [rList, if_neg hc4, if_pos hc12, if_neg (Int32.not_lt.mpr hc12), if_neg hc20, if_pos (Int32.not_le.mp hc20)]; done) | grind [rList]
        rw [hE]
        exact ⟨rfl, h, Fo.rf μ⟩
    ·
      refine v_bipush (v := -2) dX6_list_15 (by first | rfl | decide) ?_
      refine v_iret dX6_list_17 rfl (by first | rfl | decide | exact nar_b (by first | assumption | rfl)) ?_
      have hE : rList σ (nI n) x = (-2, σ) := by
        first | (simp only [rList, if_neg hc4, if_neg hc12, if_pos (Int32.not_le.mp hc12)]; done) | grind [rList]
      rw [hE]
      exact ⟨rfl, h, Fo.rf μ⟩
  ·
    refine v_iconst (v := -1) dX6_list_7 (by first | rfl | decide) ?_
    refine v_iret dX6_list_8 rfl (by first | rfl | decide | exact nar_b (by first | assumption | rfl)) ?_
    have hE : rList σ t x = (-1, σ) := by
      first | (simp only [rList, if_pos hc4]; done) | grind [rList]
    rw [hE]
    exact ⟨rfl, h, Fo.rf μ⟩

set_option maxRecDepth 20000 in
set_option maxHeartbeats 4000000 in
theorem c_X6_put {G : Cx} (d : Nat) {μ : Hp} {σ : ST} {t : Int32} {x : Int32} {v : Int64} (h : Cl σ μ) (hw : Wp (sP σ)) (hz : Wz (sZ σ)) : Ct G (d + 1) 0 0 M_X6_put [.ref 0, .int t, .int x, .long v] μ (Po ((rPut σ t x v).2) (.int ((rPut σ t x v).1)) μ) := by
  refine Ct.ofV (by decide +kernel) (Nat.le_of_ble_eq_true rfl) ?_
  refine v_ls (ls' := [(0, .ref 0), (1, .int t), (2, .int x), (3, .long v)]) rfl ?_
  obtain ⟨h0, ⟨p, h1, h2, h3, h4, h5, h6, h7, h8, h9, hpl⟩, ⟨bk, hbk, pk, k11, k12, k13, k14, k15, k16, k17, k18, k19, hpk⟩, ⟨h20, h21, h22, h23, h24⟩, ⟨tt, ops, cd, kk, pp, ff, h25, h26, h27, h28, htp, ht60⟩, ⟨h29, h30, h31⟩, ⟨⟨oc, hoc⟩, h37, h38, h39⟩, hsx, ⟨B0, B1, B2, h50, h51, h52⟩⟩ := id h
  have hl8 := hw.1
  refine v_iload_n 1 dX6_put_0 rfl rfl ?_
  refine v_callS (c_X6_isList d ) cs_X6_276 dX6_put_1 rfl rfl (Nat.le_of_ble_eq_true rfl) ?_
  refine rt_k ?_
  refine v_if_ne (tgt := 9) dX6_put_4 (by decide) (fun hc4 => ?_) (fun hc4 => ?_)
  ·
    obtain ⟨n, hn9, rfl⟩ := in_ix (n := 3) (by decide) hc4
    have hrw : μ (21 + n) = some (arJ 12 (sL σ n)) := Lx.row ⟨h20, h21, h22, h23, h24⟩ hn9
    have hcn : (nI n).toNatClampNeg = n := clamp (by omega)
    refine v_aload_n 0 dX6_put_9 rfl rfl ?_
    refine v_iload_n 1 dX6_put_10 rfl rfl ?_
    refine v_callV (c_X6_isMissing d hn9 hz h0 h24) cs_X6_282 dX6_put_11 h0 rfl rfl (Nat.le_of_ble_eq_true rfl) ?_
    refine rt_k ?_
    refine v_if_eq (tgt := 20) dX6_put_14 (by decide) (fun hc14 => ?_) (fun hc14 => ?_)
    ·
      have hz1 : ¬ zAt σ (nI n) = -1 := by
        show ¬ sZ σ (nI n).toNatClampNeg = -1
        rw [hcn]
        grind
      refine v_aload_n 0 dX6_put_20 rfl rfl ?_
      refine v_iload_n 1 dX6_put_21 rfl rfl ?_
      refine v_iload_n 2 dX6_put_22 rfl rfl ?_
      refine v_callV (c_X6_hasListPlace d hn9 hz h0 h24) cs_X6_285 dX6_put_23 h0 rfl rfl (Nat.le_of_ble_eq_true rfl) ?_
      refine rt_k ?_
      refine v_if_ne (tgt := 32) dX6_put_26 (by decide) (fun hc26 => ?_) (fun hc26 => ?_)
      ·
        have hz2 : ¬ inO x (zAt σ (nI n)) = 0 := by
          show ¬ inO x (sZ σ (nI n).toNatClampNeg) = 0
          rw [hcn]
          exact hc26
        obtain ⟨b, hb9, rfl⟩ : ∃ b, b < 12 ∧ x = nI b := by
          rcases hz n hn9 with e | ⟨k, hk, e⟩
          · exact absurd (show zAt σ (nI n) = -1 by show sZ σ (nI n).toNatClampNeg = -1; rw [hcn]; exact e) hz1
          · rw [e] at hc26
            obtain ⟨b, hb, rfl⟩ := in_ix (by omega) hc26
            exact ⟨b, by omega, rfl⟩
        refine v_aload_n 0 dX6_put_32 rfl rfl ?_
        refine v_get fl_X6_23 dX6_put_33 h0 rfl ?_
        refine v_iload_n 1 dX6_put_36 rfl rfl ?_
        refine v_aald dX6_put_37 h20 rfl rfl (nI_in' hn9) (by rw [clamp (by omega)]; exact if_pos hn9) ?_
        refine v_iload_n 2 dX6_put_38 rfl rfl ?_
        refine v_lload_n 3 dX6_put_39 rfl rfl ?_
        refine v_last dX6_put_40 hrw (nI_in' hb9) ?_
        refine v_iconst (v := 1) dX6_put_41 (by first | rfl | decide) ?_
        refine v_iret dX6_put_42 rfl (by first | rfl | decide | exact nar_b (by first | assumption | rfl)) ?_
        have hE : rPut σ (nI n) (nI b) v = (1, toL σ (rowU (sL σ) n (vp_updL (sL σ n) b v))) := by
          simp only [rPut, lAt, if_neg hc4, if_neg hz1, if_neg hz2, hcn, clamp (show b < 2 ^ 31 by omega)]
        rw [hE]
        refine ⟨rfl, ?_, fun i hi => by repeat (first | rfl | refine up_n (by omega) ?_)⟩
        rw [clamp (by omega)]
        exact h.list hn9 _
      ·
        refine v_bipush (v := -13) dX6_put_29 (by first | rfl | decide) ?_
        refine v_iret dX6_put_31 rfl (by first | rfl | decide | exact nar_b (by first | assumption | rfl)) ?_
        have hz2 : inO x (zAt σ (nI n)) = 0 := by
          show inO x (sZ σ (nI n).toNatClampNeg) = 0
          rw [hcn]
          exact hc26
        have hE : rPut σ (nI n) x v = (-13, σ) := by
          first | (simp only [rPut, if_neg hc4, if_pos hc14, if_pos hc26, if_neg hz1, if_pos hz2]; done) | grind [rPut]
        rw [hE]
        exact ⟨rfl, h, Fo.rf μ⟩
    ·
      refine v_bipush (v := -11) dX6_put_17 (by first | rfl | decide) ?_
      refine v_iret dX6_put_19 rfl (by first | rfl | decide | exact nar_b (by first | assumption | rfl)) ?_
      have hz1 : zAt σ (nI n) = -1 := by
        show sZ σ (nI n).toNatClampNeg = -1
        rw [hcn]
        grind
      have hE : rPut σ (nI n) x v = (-11, σ) := by
        first | (simp only [rPut, if_neg hc4, if_neg hc14, if_pos hz1]; done) | grind [rPut]
      rw [hE]
      exact ⟨rfl, h, Fo.rf μ⟩
  ·
    refine v_iconst (v := -1) dX6_put_7 (by first | rfl | decide) ?_
    refine v_iret dX6_put_8 rfl (by first | rfl | decide | exact nar_b (by first | assumption | rfl)) ?_
    have hE : rPut σ t x v = (-1, σ) := by
      first | (simp only [rPut, if_pos hc4]; done) | grind [rPut]
    rw [hE]
    exact ⟨rfl, h, Fo.rf μ⟩

set_option maxRecDepth 20000 in
set_option maxHeartbeats 4000000 in
theorem c_X6_get {G : Cx} (d : Nat) {μ : Hp} {σ : ST} {t : Int32} {x : Int32} (h : Cl σ μ) (hw : Wp (sP σ)) (hz : Wz (sZ σ)) : Ct G (d + 1) 0 0 M_X6_get [.ref 0, .int t, .int x] μ (Rt (some (.long (rGet σ t x))) μ) := by
  refine Ct.ofV (by decide +kernel) (Nat.le_of_ble_eq_true rfl) ?_
  refine v_ls (ls' := [(0, .ref 0), (1, .int t), (2, .int x)]) rfl ?_
  obtain ⟨h0, ⟨p, h1, h2, h3, h4, h5, h6, h7, h8, h9, hpl⟩, ⟨bk, hbk, pk, k11, k12, k13, k14, k15, k16, k17, k18, k19, hpk⟩, ⟨h20, h21, h22, h23, h24⟩, ⟨tt, ops, cd, kk, pp, ff, h25, h26, h27, h28, htp, ht60⟩, ⟨h29, h30, h31⟩, ⟨⟨oc, hoc⟩, h37, h38, h39⟩, hsx, ⟨B0, B1, B2, h50, h51, h52⟩⟩ := id h
  have hl8 := hw.1
  refine v_iload_n 1 dX6_get_0 rfl rfl ?_
  refine v_callS (c_X6_isList d ) cs_X6_276 dX6_get_1 rfl rfl (Nat.le_of_ble_eq_true rfl) ?_
  refine rt_k ?_
  refine v_if_eq (tgt := 16) dX6_get_4 (by decide) (fun hc4 => ?_) (fun hc4 => ?_)
  ·
    refine v_ldc2 kc_X6_174 dX6_get_16 ?_
    refine v_lret dX6_get_19 rfl ?_
    exact ⟨by simp only [rGet, if_pos hc4], rfl⟩
  ·
    obtain ⟨n, hn9, rfl⟩ := in_ix (n := 3) (by decide) hc4
    have hrw : μ (21 + n) = some (arJ 12 (sL σ n)) := Lx.row ⟨h20, h21, h22, h23, h24⟩ hn9
    have hcn : (nI n).toNatClampNeg = n := clamp (by omega)
    refine v_aload_n 0 dX6_get_7 rfl rfl ?_
    refine v_iload_n 1 dX6_get_8 rfl rfl ?_
    refine v_iload_n 2 dX6_get_9 rfl rfl ?_
    refine v_callV (c_X6_hasListPlace d hn9 hz h0 h24) cs_X6_285 dX6_get_10 h0 rfl rfl (Nat.le_of_ble_eq_true rfl) ?_
    refine rt_k ?_
    refine v_if_ne (tgt := 20) dX6_get_13 (by decide) (fun hc13 => ?_) (fun hc13 => ?_)
    ·
      have hz2 : ¬ inO x (zAt σ (nI n)) = 0 := by
        show ¬ inO x (sZ σ (nI n).toNatClampNeg) = 0
        rw [hcn]
        exact hc13
      obtain ⟨b, hb9, rfl⟩ : ∃ b, b < 12 ∧ x = nI b := by
        rcases hz n hn9 with e | ⟨k, hk, e⟩
        · rw [e] at hc13
          exfalso
          grind
        · rw [e] at hc13
          obtain ⟨b, hb, rfl⟩ := in_ix (by omega) hc13
          exact ⟨b, by omega, rfl⟩
      refine v_aload_n 0 dX6_get_20 rfl rfl ?_
      refine v_get fl_X6_23 dX6_get_21 h0 rfl ?_
      refine v_iload_n 1 dX6_get_24 rfl rfl ?_
      refine v_aald dX6_get_25 h20 rfl rfl (nI_in' hn9) (by rw [clamp (by omega)]; exact if_pos hn9) ?_
      refine v_iload_n 2 dX6_get_26 rfl rfl ?_
      refine v_lald dX6_get_27 hrw (nI_in' hb9) ?_
      refine v_lret dX6_get_28 rfl ?_
      exact ⟨by simp only [rGet, lAt, if_neg hc4, if_neg hz2, hcn], rfl⟩
    ·
      refine v_ldc2 kc_X6_174 dX6_get_16 ?_
      refine v_lret dX6_get_19 rfl ?_
      exact ⟨by simp only [rGet, if_neg hc4, if_pos (show inO x (zAt σ (nI n)) = 0 by show inO x (sZ σ (nI n).toNatClampNeg) = 0; rw [hcn]; exact hc13)], rfl⟩

set_option maxRecDepth 20000 in
set_option maxHeartbeats 4000000 in
theorem c_X6_rackedCode {G : Cx} (d : Nat) {μ : Hp} {σ : ST} {r : Int32} {x : Int32} (h : Cl σ μ) (hw : Wp (sP σ)) : Ct G (d + 1) 0 0 M_X6_rackedCode [.ref 0, .int r, .int x] μ (Rt (some (.int (rkcO σ r x))) μ) := by
  refine Ct.ofV (by decide +kernel) (Nat.le_of_ble_eq_true rfl) ?_
  refine v_ls (ls' := [(0, .ref 0), (1, .int r), (2, .int x)]) rfl ?_
  obtain ⟨h0, ⟨p, h1, h2, h3, h4, h5, h6, h7, h8, h9, hpl⟩, ⟨bk, hbk, pk, k11, k12, k13, k14, k15, k16, k17, k18, k19, hpk⟩, ⟨h20, h21, h22, h23, h24⟩, ⟨tt, ops, cd, kk, pp, ff, h25, h26, h27, h28, htp, ht60⟩, ⟨h29, h30, h31⟩, ⟨⟨oc, hoc⟩, h37, h38, h39⟩, hsx, ⟨B0, B1, B2, h50, h51, h52⟩⟩ := id h
  have hl8 := hw.1
  refine v_iload_n 1 dX6_rackedCode_0 rfl rfl ?_
  refine v_callS (c_X6_isRack d ) cs_X6_321 dX6_rackedCode_1 rfl rfl (Nat.le_of_ble_eq_true rfl) ?_
  refine rt_k ?_
  refine v_if_ne (tgt := 9) dX6_rackedCode_4 (by decide) (fun hc4 => ?_) (fun hc4 => ?_)
  ·
    obtain ⟨n, hn9, rfl⟩ := in_ix (n := 3) (by decide) hc4
    have hrkn : μ (6 + n) = some (arI 4 (sR σ n)) := Bn1.row ⟨p, h1, h2, h3, h4, h5, h6, h7, h8, h9, hpl⟩ hn9
    have hcnn : (nI n).toNatClampNeg = n := clamp (by omega)
    refine v_iload_n 2 dX6_rackedCode_9 rfl rfl ?_
    refine v_callS (c_X6_isRackPlace d ) cs_X6_324 dX6_rackedCode_10 rfl rfl (Nat.le_of_ble_eq_true rfl) ?_
    refine rt_k ?_
    refine v_if_ne (tgt := 19) dX6_rackedCode_13 (by decide) (fun hc13 => ?_) (fun hc13 => ?_)
    ·
      obtain ⟨b, hb9, rfl⟩ := in_ix (n := 4) (by decide) hc13
      refine v_aload_n 0 dX6_rackedCode_19 rfl rfl ?_
      refine v_get fl_X6_12 dX6_rackedCode_20 h0 rfl ?_
      refine v_get fl_X6_333 dX6_rackedCode_23 h1 rfl ?_
      refine v_iload_n 1 dX6_rackedCode_26 rfl rfl ?_
      refine v_aald dX6_rackedCode_27 h5 rfl rfl (nI_in' hn9) (by rw [clamp (by omega)]; exact if_pos hn9) ?_
      refine v_iload_n 2 dX6_rackedCode_28 rfl rfl ?_
      refine v_iald dX6_rackedCode_29 hrkn (nI_in' hb9) ?_
      refine v_istore_n dX6_rackedCode_30 rfl (by decide) (fun cc e_cc => ?_)
      refine v_ls (ls' := [(3, .int cc), (0, .ref 0), (1, .int (nI n)), (2, .int (nI b))]) rfl ?_
      have hcc : rAt σ (nI n) (nI b) = cc := by show sR σ (nI n).toNatClampNeg (nI b).toNatClampNeg = cc; rw [e_cc, hcnn]
      refine v_iload_n 0 dX6_rackedCode_31 rfl rfl ?_
      refine v_iconst (v := -1) dX6_rackedCode_32 (by first | rfl | decide) ?_
      refine v_icmp_ne (tgt := 41) dX6_rackedCode_33 (by decide) (fun hc33 => ?_) (fun hc33 => ?_)
      ·
        refine v_iload_n 0 dX6_rackedCode_41 rfl rfl ?_
        refine v_iret dX6_rackedCode_42 rfl (by first | rfl | decide | exact nar_b (by first | assumption | rfl)) ?_
        exact ⟨by simp only [rkcO, if_neg hc4, if_neg hc13, if_neg hc33, hcc], rfl⟩
      ·
        refine v_bipush (v := -5) dX6_rackedCode_36 (by first | rfl | decide) ?_
        refine v_goto (tgt := 42) dX6_rackedCode_38 (by decide) ?_
        refine v_iret dX6_rackedCode_42 rfl (by first | rfl | decide | exact nar_b (by first | assumption | rfl)) ?_
        exact ⟨by simp only [rkcO, if_neg hc4, if_neg hc13, if_pos hc33, hcc], rfl⟩
    ·
      refine v_bipush (v := -13) dX6_rackedCode_16 (by first | rfl | decide) ?_
      refine v_iret dX6_rackedCode_18 rfl (by first | rfl | decide | exact nar_b (by first | assumption | rfl)) ?_
      exact ⟨by simp only [rkcO, if_neg hc4, if_pos hc13], rfl⟩
  ·
    refine v_iconst (v := -1) dX6_rackedCode_7 (by first | rfl | decide) ?_
    refine v_iret dX6_rackedCode_8 rfl (by first | rfl | decide | exact nar_b (by first | assumption | rfl)) ?_
    exact ⟨by simp only [rkcO, if_pos hc4], rfl⟩

set_option maxRecDepth 20000 in
set_option maxHeartbeats 4000000 in
theorem c_X6_store {G : Cx} (d : Nat) {μ : Hp} {σ : ST} {r : Int32} {x : Int32} {k : Int32} (h : Cl σ μ) (hw : Wp (sP σ)) : Ct G (d + 2) 0 0 M_X6_store [.ref 0, .int r, .int x, .int k] μ (Po ((rStore σ r x k).2) (.int ((rStore σ r x k).1)) μ) := by
  refine Ct.ofV (by decide +kernel) (Nat.le_of_ble_eq_true rfl) ?_
  refine v_ls (ls' := [(0, .ref 0), (1, .int r), (2, .int x), (3, .int k)]) rfl ?_
  obtain ⟨h0, ⟨p, h1, h2, h3, h4, h5, h6, h7, h8, h9, hpl⟩, ⟨bk, hbk, pk, k11, k12, k13, k14, k15, k16, k17, k18, k19, hpk⟩, ⟨h20, h21, h22, h23, h24⟩, ⟨tt, ops, cd, kk, pp, ff, h25, h26, h27, h28, htp, ht60⟩, ⟨h29, h30, h31⟩, ⟨⟨oc, hoc⟩, h37, h38, h39⟩, hsx, ⟨B0, B1, B2, h50, h51, h52⟩⟩ := id h
  have hl8 := hw.1
  refine v_iload_n 1 dX6_store_0 rfl rfl ?_
  refine v_callS (c_X6_isRack (d + 1) ) cs_X6_321 dX6_store_1 rfl rfl (Nat.le_of_ble_eq_true rfl) ?_
  refine rt_k ?_
  refine v_if_eq (tgt := 18) dX6_store_4 (by decide) (fun hc4 => ?_) (fun hc4 => ?_)
  ·
    refine v_iconst (v := -1) dX6_store_18 (by first | rfl | decide) ?_
    refine v_iret dX6_store_19 rfl (by first | rfl | decide | exact nar_b (by first | assumption | rfl)) ?_
    have hE : rStore σ r x k = (-1, σ) := by
      first | (simp only [rStore, if_pos hc4]; done) | grind [rStore]
    rw [hE]
    exact ⟨rfl, h, Fo.rf μ⟩
  ·
    refine v_aload_n 0 dX6_store_7 rfl rfl ?_
    refine v_get fl_X6_12 dX6_store_8 h0 rfl ?_
    refine v_iload_n 3 dX6_store_11 rfl rfl ?_
    refine v_callV (c_X0_has (d + 1) h1) cs_X6_111 dX6_store_12 h1 rfl rfl (Nat.le_of_ble_eq_true rfl) ?_
    refine rt_k ?_
    refine v_if_ne (tgt := 20) dX6_store_15 (by decide) (fun hc15 => ?_) (fun hc15 => ?_)
    ·
      refine v_iload_n 2 dX6_store_20 rfl rfl ?_
      refine v_callS (c_X6_isRackPlace (d + 1) ) cs_X6_324 dX6_store_21 rfl rfl (Nat.le_of_ble_eq_true rfl) ?_
      refine rt_k ?_
      refine v_if_ne (tgt := 30) dX6_store_24 (by decide) (fun hc24 => ?_) (fun hc24 => ?_)
      ·
        obtain ⟨a, ha9, rfl⟩ := in_ix (by omega) hc15
        obtain ⟨b, hb9, rfl⟩ := in_ix (n := 4) (by decide) hc24
        obtain ⟨n, hn9, rfl⟩ := in_ix (n := 3) (by decide) hc4
        have hrkn : μ (6 + n) = some (arI 4 (sR σ n)) := Bn1.row ⟨p, h1, h2, h3, h4, h5, h6, h7, h8, h9, hpl⟩ hn9
        have hcnn : (nI n).toNatClampNeg = n := clamp (by omega)
        refine v_aload_n 0 dX6_store_30 rfl rfl ?_
        refine v_get fl_X6_12 dX6_store_31 h0 rfl ?_
        refine v_get fl_X6_327 dX6_store_34 h1 rfl ?_
        refine v_iload_n 1 dX6_store_37 rfl rfl ?_
        refine v_iald dX6_store_38 h9 (nI_in' hn9) ?_
        refine v_aload_n 0 dX6_store_39 rfl rfl ?_
        refine v_get fl_X6_12 dX6_store_40 h0 rfl ?_
        refine v_get fl_X6_118 dX6_store_43 h1 rfl ?_
        refine v_iload_n 3 dX6_store_46 rfl rfl ?_
        refine v_iald dX6_store_47 h3 (nI_in' (by omega)) ?_
        refine v_callS (c_X6_kindOf (d + 1) ) cs_X6_144 dX6_store_48 rfl rfl (Nat.le_of_ble_eq_true rfl) ?_
        refine rt_k ?_
        have hta : tkO (kAt σ (nI n)) (kdO (atP σ (nI a))) = tkO (sK σ (nI n).toNatClampNeg) (kdO (p (nI a).toNatClampNeg)) := by
          rw [at_nI hpl ha9 hl8, clamp (show a < 2 ^ 31 by omega)]
        refine v_callS (c_X6_takesKind d ) cs_X6_330 dX6_store_51 rfl rfl (Nat.le_of_ble_eq_true rfl) ?_
        refine rt_k ?_
        refine v_if_ne (tgt := 60) dX6_store_54 (by decide) (fun hc54 => ?_) (fun hc54 => ?_)
        ·
          refine v_aload_n 0 dX6_store_60 rfl rfl ?_
          refine v_get fl_X6_12 dX6_store_61 h0 rfl ?_
          refine v_get fl_X6_333 dX6_store_64 h1 rfl ?_
          refine v_iload_n 1 dX6_store_67 rfl rfl ?_
          refine v_aald dX6_store_68 h5 rfl rfl (nI_in' hn9) (by rw [clamp (by omega)]; exact if_pos hn9) ?_
          refine v_iload_n 2 dX6_store_69 rfl rfl ?_
          refine v_aload_n 0 dX6_store_70 rfl rfl ?_
          refine v_get fl_X6_12 dX6_store_71 h0 rfl ?_
          refine v_get fl_X6_118 dX6_store_74 h1 rfl ?_
          refine v_iload_n 3 dX6_store_77 rfl rfl ?_
          refine v_iald dX6_store_78 h3 (nI_in' (by omega)) ?_
          refine v_iast dX6_store_79 hrkn (nI_in' hb9) ?_
          refine v_iconst (v := 1) dX6_store_80 (by first | rfl | decide) ?_
          refine v_iret dX6_store_81 rfl (by first | rfl | decide | exact nar_b (by first | assumption | rfl)) ?_
          rw [← hta] at hc54
          have hE : rStore σ (nI n) (nI b) (nI a) = (1, putR σ (nI n) (nI b) (atP σ (nI a))) := by simp only [rStore, if_neg hc4, if_neg hc15, if_neg hc24, if_neg hc54]
          rw [hE]
          refine ⟨rfl, ?_, fun i hi => by repeat (first | rfl | refine up_n (by omega) ?_)⟩
          show Cl (toR σ (rowU (sR σ) (nI n).toNatClampNeg (upd (sR σ (nI n).toNatClampNeg) (nI b).toNatClampNeg (atP σ (nI a))))) _
          rw [hcnn, at_nI hpl ha9 hl8, clamp (show a < 2 ^ 31 by omega)]
          exact h.rack hn9 _
        ·
          refine v_bipush (v := -16) dX6_store_57 (by first | rfl | decide) ?_
          refine v_iret dX6_store_59 rfl (by first | rfl | decide | exact nar_b (by first | assumption | rfl)) ?_
          rw [← hta] at hc54
          have hE : rStore σ (nI n) (nI b) (nI a) = (-16, σ) := by
            first | (simp only [rStore, if_neg hc4, if_neg hc15, if_neg hc24, if_pos hc54]; done) | grind [rStore]
          rw [hE]
          exact ⟨rfl, h, Fo.rf μ⟩
      ·
        refine v_bipush (v := -13) dX6_store_27 (by first | rfl | decide) ?_
        refine v_iret dX6_store_29 rfl (by first | rfl | decide | exact nar_b (by first | assumption | rfl)) ?_
        have hE : rStore σ r x k = (-13, σ) := by
          first | (simp only [rStore, if_neg hc4, if_neg hc15, if_pos hc24]; done) | grind [rStore]
        rw [hE]
        exact ⟨rfl, h, Fo.rf μ⟩
    ·
      refine v_iconst (v := -1) dX6_store_18 (by first | rfl | decide) ?_
      refine v_iret dX6_store_19 rfl (by first | rfl | decide | exact nar_b (by first | assumption | rfl)) ?_
      have hE : rStore σ r x k = (-1, σ) := by
        first | (simp only [rStore, if_neg hc4, if_pos hc15]; done) | grind [rStore]
      rw [hE]
      exact ⟨rfl, h, Fo.rf μ⟩

theorem rkc_ix {σ : ST} {r x : Int32} (h : ¬ rkcO σ r x < 0) : ¬ inO r 3 = 0 ∧ ¬ inO x 4 = 0 ∧ rkcO σ r x = rAt σ r x := by
  unfold rkcO at h ⊢
  by_cases h1 : inO r 3 = 0
  · rw [if_pos h1] at h; exact absurd (by decide) h
  · rw [if_neg h1] at h ⊢
    by_cases h2 : inO x 4 = 0
    · rw [if_pos h2] at h; exact absurd (by decide) h
    · rw [if_neg h2] at h ⊢
      by_cases h3 : rAt σ r x = -1
      · rw [if_pos h3] at h; exact absurd (by decide) h
      · rw [if_neg h3]; exact ⟨h1, h2, rfl⟩
set_option maxRecDepth 20000 in
set_option maxHeartbeats 4000000 in
theorem c_X6_empty {G : Cx} (d : Nat) {μ : Hp} {σ : ST} {r : Int32} {x : Int32} (h : Cl σ μ) (hw : Wp (sP σ)) : Ct G (d + 2) 0 0 M_X6_empty [.ref 0, .int r, .int x] μ (Po ((rEmpty σ r x).2) (.int ((rEmpty σ r x).1)) μ) := by
  refine Ct.ofV (by decide +kernel) (Nat.le_of_ble_eq_true rfl) ?_
  refine v_ls (ls' := [(0, .ref 0), (1, .int r), (2, .int x)]) rfl ?_
  obtain ⟨h0, ⟨p, h1, h2, h3, h4, h5, h6, h7, h8, h9, hpl⟩, ⟨bk, hbk, pk, k11, k12, k13, k14, k15, k16, k17, k18, k19, hpk⟩, ⟨h20, h21, h22, h23, h24⟩, ⟨tt, ops, cd, kk, pp, ff, h25, h26, h27, h28, htp, ht60⟩, ⟨h29, h30, h31⟩, ⟨⟨oc, hoc⟩, h37, h38, h39⟩, hsx, ⟨B0, B1, B2, h50, h51, h52⟩⟩ := id h
  have hl8 := hw.1
  refine v_aload_n 0 dX6_empty_0 rfl rfl ?_
  refine v_iload_n 1 dX6_empty_1 rfl rfl ?_
  refine v_iload_n 2 dX6_empty_2 rfl rfl ?_
  refine v_callV (c_X6_rackedCode d h hw) cs_X6_337 dX6_empty_3 h0 rfl rfl (Nat.le_of_ble_eq_true rfl) ?_
  refine rt_k ?_
  refine v_istore_n dX6_empty_6 rfl (by decide) (fun x3_1 e_x3_1 => ?_)
  refine v_ls (ls' := [(3, .int x3_1), (0, .ref 0), (1, .int r), (2, .int x)]) rfl ?_
  subst e_x3_1
  refine v_iload_n 0 dX6_empty_7 rfl rfl ?_
  refine v_if_lt (tgt := 23) dX6_empty_8 (by decide) (fun hc8 => ?_) (fun hc8 => ?_)
  ·
    refine v_iload_n 0 dX6_empty_23 rfl rfl ?_
    refine v_iret dX6_empty_24 rfl (by first | rfl | decide | exact nar_b (by first | assumption | rfl)) ?_
    have hE : rEmpty σ r x = (rkcO σ r x, σ) := by simp only [rEmpty, if_pos hc8]
    rw [hE]
    exact ⟨rfl, h, Fo.rf μ⟩
  ·
    obtain ⟨hq1, hq2, hq3⟩ := rkc_ix hc8
    obtain ⟨b, hb9, rfl⟩ := in_ix (n := 4) (by decide) hq2
    obtain ⟨n, hn9, rfl⟩ := in_ix (n := 3) (by decide) hq1
    have hrkn : μ (6 + n) = some (arI 4 (sR σ n)) := Bn1.row ⟨p, h1, h2, h3, h4, h5, h6, h7, h8, h9, hpl⟩ hn9
    have hcnn : (nI n).toNatClampNeg = n := clamp (by omega)
    refine v_aload_n 1 dX6_empty_11 rfl rfl ?_
    refine v_get fl_X6_12 dX6_empty_12 h0 rfl ?_
    refine v_get fl_X6_333 dX6_empty_15 h1 rfl ?_
    refine v_iload_n 2 dX6_empty_18 rfl rfl ?_
    refine v_aald dX6_empty_19 h5 rfl rfl (nI_in' hn9) (by rw [clamp (by omega)]; exact if_pos hn9) ?_
    refine v_iload_n 3 dX6_empty_20 rfl rfl ?_
    refine v_iconst (v := -1) dX6_empty_21 (by first | rfl | decide) ?_
    refine v_iast dX6_empty_22 hrkn (nI_in' hb9) ?_
    refine v_iload_n 0 dX6_empty_23 rfl rfl ?_
    refine v_iret dX6_empty_24 rfl (by first | rfl | decide | exact nar_b (by first | assumption | rfl)) ?_
    have hE : rEmpty σ (nI n) (nI b) = (rkcO σ (nI n) (nI b), putR σ (nI n) (nI b) (-1)) := by simp only [rEmpty, if_neg hc8]
    rw [hE]
    refine ⟨rfl, ?_, fun i hi => by repeat (first | rfl | refine up_n (by omega) ?_)⟩
    show Cl (toR σ (rowU (sR σ) (nI n).toNatClampNeg (upd (sR σ (nI n).toNatClampNeg) (nI b).toNatClampNeg (-1)))) _
    rw [hcnn]
    exact h.rack hn9 _

set_option maxRecDepth 20000 in
set_option maxHeartbeats 4000000 in
theorem c_X6_fetch {G : Cx} (d : Nat) {μ : Hp} {σ : ST} {r : Int32} {x : Int32} (h : Cl σ μ) (hw : Wp (sP σ)) : Ct G (d + 2) 0 0 M_X6_fetch [.ref 0, .int r, .int x] μ (Po ((rFetch σ r x).2) (.int ((rFetch σ r x).1)) μ) := by
  refine Ct.ofV (by decide +kernel) (Nat.le_of_ble_eq_true rfl) ?_
  refine v_ls (ls' := [(0, .ref 0), (1, .int r), (2, .int x)]) rfl ?_
  obtain ⟨h0, ⟨p, h1, h2, h3, h4, h5, h6, h7, h8, h9, hpl⟩, ⟨bk, hbk, pk, k11, k12, k13, k14, k15, k16, k17, k18, k19, hpk⟩, ⟨h20, h21, h22, h23, h24⟩, ⟨tt, ops, cd, kk, pp, ff, h25, h26, h27, h28, htp, ht60⟩, ⟨h29, h30, h31⟩, ⟨⟨oc, hoc⟩, h37, h38, h39⟩, hsx, ⟨B0, B1, B2, h50, h51, h52⟩⟩ := id h
  have hl8 := hw.1
  refine v_aload_n 0 dX6_fetch_0 rfl rfl ?_
  refine v_iload_n 1 dX6_fetch_1 rfl rfl ?_
  refine v_iload_n 2 dX6_fetch_2 rfl rfl ?_
  refine v_callV (c_X6_rackedCode d h hw) cs_X6_337 dX6_fetch_3 h0 rfl rfl (Nat.le_of_ble_eq_true rfl) ?_
  refine rt_k ?_
  refine v_istore_n dX6_fetch_6 rfl (by decide) (fun x3_1 e_x3_1 => ?_)
  refine v_ls (ls' := [(3, .int x3_1), (0, .ref 0), (1, .int r), (2, .int x)]) rfl ?_
  subst e_x3_1
  refine v_iload_n 0 dX6_fetch_7 rfl rfl ?_
  refine v_if_ge (tgt := 15) dX6_fetch_8 (by decide) (fun hc8 => ?_) (fun hc8 => ?_)
  ·
    refine v_aload_n 1 dX6_fetch_15 rfl rfl ?_
    refine v_get fl_X6_12 dX6_fetch_16 h0 rfl ?_
    refine v_iload_n 0 dX6_fetch_19 rfl rfl ?_
    refine v_callV (c_X0_append (d + 1) h1 h3 hpl hl8) cs_X6_107 dX6_fetch_20 h1 rfl rfl (Nat.le_of_ble_eq_true rfl) ?_
    refine rt_k ?_
    refine v_iret dX6_fetch_23 rfl (by first | rfl | decide | exact nar_b (by first | assumption | rfl)) ?_
    by_cases q8 : (sP σ).length = 8
    · have hE : rFetch σ r x = (-4, σ) := by simp only [rFetch, rApp, if_pos hc8, if_neg (Int32.not_lt.mpr hc8), if_pos q8]
      rw [hE]
      refine ⟨by rw [if_pos q8], ?_, ?_⟩
      · rw [if_pos q8]; exact h
      · rw [if_pos q8]; exact Fo.rf μ
    · have hE : rFetch σ r x = (sN σ, toP σ (sP σ ++ [rkcO σ r x])) := by simp only [rFetch, rApp, if_pos hc8, if_neg (Int32.not_lt.mpr hc8), if_neg q8]
      rw [hE]
      refine ⟨by rw [if_neg q8], ?_, ?_⟩
      · rw [if_neg q8]
        have := (h).pile (hpl.app (rkcO σ r x))
        rw [List.length_append, List.length_singleton] at this
        exact this
      · rw [if_neg q8]; exact fun i hi => by repeat (first | rfl | refine up_n (by omega) ?_)
  ·
    refine v_iload_n 0 dX6_fetch_11 rfl rfl ?_
    refine v_goto (tgt := 23) dX6_fetch_12 (by decide) ?_
    refine v_iret dX6_fetch_23 rfl (by first | rfl | decide | exact nar_b (by first | assumption | rfl)) ?_
    have hE : rFetch σ r x = (rkcO σ r x, σ) := by
      first | (simp only [rFetch, if_neg hc8, if_pos (Int32.not_le.mp hc8)]; done) | grind [rFetch]
    rw [hE]
    exact ⟨rfl, h, Fo.rf μ⟩

set_option maxRecDepth 20000 in
set_option maxHeartbeats 4000000 in
theorem c_X6_rack {G : Cx} (d : Nat) {μ : Hp} {σ : ST} {r : Int32} {x : Int32} (h : Cl σ μ) (hw : Wp (sP σ)) : Ct G (d + 2) 0 0 M_X6_rack [.ref 0, .int r, .int x] μ (Rt (some (.int (rRack σ r x))) μ) := by
  refine Ct.ofV (by decide +kernel) (Nat.le_of_ble_eq_true rfl) ?_
  refine v_ls (ls' := [(0, .ref 0), (1, .int r), (2, .int x)]) rfl ?_
  obtain ⟨h0, ⟨p, h1, h2, h3, h4, h5, h6, h7, h8, h9, hpl⟩, ⟨bk, hbk, pk, k11, k12, k13, k14, k15, k16, k17, k18, k19, hpk⟩, ⟨h20, h21, h22, h23, h24⟩, ⟨tt, ops, cd, kk, pp, ff, h25, h26, h27, h28, htp, ht60⟩, ⟨h29, h30, h31⟩, ⟨⟨oc, hoc⟩, h37, h38, h39⟩, hsx, ⟨B0, B1, B2, h50, h51, h52⟩⟩ := id h
  have hl8 := hw.1
  refine v_iload_n 1 dX6_rack_0 rfl rfl ?_
  refine v_callS (c_X6_isRack (d + 1) ) cs_X6_321 dX6_rack_1 rfl rfl (Nat.le_of_ble_eq_true rfl) ?_
  refine rt_k ?_
  refine v_if_eq (tgt := 22) dX6_rack_4 (by decide) (fun hc4 => ?_) (fun hc4 => ?_)
  ·
    refine v_aload_n 0 dX6_rack_22 rfl rfl ?_
    refine v_iload_n 1 dX6_rack_23 rfl rfl ?_
    refine v_iload_n 2 dX6_rack_24 rfl rfl ?_
    refine v_callV (c_X6_rackedCode d h hw) cs_X6_337 dX6_rack_25 h0 rfl rfl (Nat.le_of_ble_eq_true rfl) ?_
    refine rt_k ?_
    refine v_iret dX6_rack_28 rfl (by first | rfl | decide | exact nar_b (by first | assumption | rfl)) ?_
    exact ⟨by simp only [rRack, rkcO, if_pos hc4], rfl⟩
  ·
    refine v_iload_n 2 dX6_rack_7 rfl rfl ?_
    refine v_iconst (v := -1) dX6_rack_8 (by first | rfl | decide) ?_
    refine v_icmp_ne (tgt := 22) dX6_rack_9 (by decide) (fun hc9 => ?_) (fun hc9 => ?_)
    ·
      refine v_aload_n 0 dX6_rack_22 rfl rfl ?_
      refine v_iload_n 1 dX6_rack_23 rfl rfl ?_
      refine v_iload_n 2 dX6_rack_24 rfl rfl ?_
      refine v_callV (c_X6_rackedCode d h hw) cs_X6_337 dX6_rack_25 h0 rfl rfl (Nat.le_of_ble_eq_true rfl) ?_
      refine rt_k ?_
      refine v_iret dX6_rack_28 rfl (by first | rfl | decide | exact nar_b (by first | assumption | rfl)) ?_
      exact ⟨by simp only [rRack, rkcO, if_neg hc4, if_neg hc9], rfl⟩
    ·
      obtain ⟨n, hn9, rfl⟩ := in_ix (n := 3) (by decide) hc4
      have hrkn : μ (6 + n) = some (arI 4 (sR σ n)) := Bn1.row ⟨p, h1, h2, h3, h4, h5, h6, h7, h8, h9, hpl⟩ hn9
      have hcnn : (nI n).toNatClampNeg = n := clamp (by omega)
      refine v_aload_n 0 dX6_rack_12 rfl rfl ?_
      refine v_get fl_X6_12 dX6_rack_13 h0 rfl ?_
      refine v_get fl_X6_327 dX6_rack_16 h1 rfl ?_
      refine v_iload_n 1 dX6_rack_19 rfl rfl ?_
      refine v_iald dX6_rack_20 h9 (nI_in' hn9) ?_
      refine v_iret dX6_rack_21 rfl (by first | rfl | decide | exact nar_b (by first | assumption | rfl)) ?_
      exact ⟨by simp only [rRack, if_neg hc4, if_pos hc9], rfl⟩

set_option maxRecDepth 20000 in
set_option maxHeartbeats 4000000 in
theorem copy_loop {G : Cx} (d : Nat) {μ : Hp} {hi : Int32} {cn : Int32} {n b : Nat} {g : Nat → Int32} (hn9 : n < 3) (hb9 : b < 3) (h0 : μ 0 = some (filC hi)) (h1 : μ 1 = some (benC 2 3 cn 4 5 9)) (h5 : μ 5 = some (arR 4 3 (rowF 6 3))) : ∀ (m : Nat) (j : Nat) (f : Nat → Int32) (μ2 : Hp), j + m = 4 → μ2 = up μ (6 + b) (arI 4 f) → (∀ x, x < j → f x = g x) → μ2 (6 + n) = some (arI 4 (if n = b then f else g)) → (n = b → ∀ x, x < 4 → f x = g x) → V G M_X6_copy (d + 1) 0 0 (Rt (some (.int (nI (hldO g 4)))) (up μ (6 + b) (arI 4 g))) 36 [(3, .int (nI j)), (0, .ref 0), (1, .int (nI n)), (2, .int (nI b))] [] (μ2) := by
  intro m
  induction m with
  | zero =>
    intro j f μ2 hj hm hf hnb heq
    have e0 : μ2 0 = some (filC hi) := by rw [hm]; exact up_n (by omega) h0
    have e1 : μ2 1 = some (benC 2 3 cn 4 5 9) := by rw [hm]; exact up_n (by omega) h1
    have e5 : μ2 5 = some (arR 4 3 (rowF 6 3)) := by rw [hm]; exact up_n (by omega) h5
    have eb : μ2 (6 + b) = some (arI 4 f) := by rw [hm]; exact up_s _ _ _
    refine v_iload_n 0 dX6_copy_36 rfl rfl ?_
    refine v_iconst (v := 4) dX6_copy_37 (by first | rfl | decide) ?_
    refine v_icmp_ge (tgt := 69) dX6_copy_38 (by decide) (fun hc38 => ?_) (fun hc38 => ?_)
    ·
      rw [hm]
      refine v_niI (g := g) (fun x hx => hf x (by omega)) ?_
      have e0 := up_n (e := arI 4 g) (show 0 ≠ 6 + b by omega) h0
      have e1 := up_n (e := arI 4 g) (show 1 ≠ 6 + b by omega) h1
      have e5 := up_n (e := arI 4 g) (show 5 ≠ 6 + b by omega) h5
      refine v_aload_n 1 dX6_copy_69 rfl rfl ?_
      refine v_get fl_X6_12 dX6_copy_70 e0 rfl ?_
      refine v_iload_n 3 dX6_copy_73 rfl rfl ?_
      refine v_callV (c_X0_racked d e1 e5 (up_s _ _ _) hb9) cs_X6_340 dX6_copy_74 e1 rfl rfl (Nat.le_of_ble_eq_true rfl) ?_
      refine rt_k ?_
      refine v_iret dX6_copy_77 rfl (by first | rfl | decide | exact nar_b (by first | assumption | rfl)) ?_
      exact ⟨rfl, rfl⟩
    · exact absurd ((nI_leI (a := 4) (by decide) (by omega)).mpr (by omega)) hc38
  | succ m ih =>
    intro j f μ2 hj hm hf hnb heq
    have e0 : μ2 0 = some (filC hi) := by rw [hm]; exact up_n (by omega) h0
    have e1 : μ2 1 = some (benC 2 3 cn 4 5 9) := by rw [hm]; exact up_n (by omega) h1
    have e5 : μ2 5 = some (arR 4 3 (rowF 6 3)) := by rw [hm]; exact up_n (by omega) h5
    have eb : μ2 (6 + b) = some (arI 4 f) := by rw [hm]; exact up_s _ _ _
    refine v_iload_n 0 dX6_copy_36 rfl rfl ?_
    refine v_iconst (v := 4) dX6_copy_37 (by first | rfl | decide) ?_
    refine v_icmp_ge (tgt := 69) dX6_copy_38 (by decide) (fun hc38 => ?_) (fun hc38 => ?_)
    · have := (nI_leI (a := 4) (by decide) (by omega)).mp hc38
      omega
    ·
      refine v_aload_n 1 dX6_copy_41 rfl rfl ?_
      refine v_get fl_X6_12 dX6_copy_42 e0 rfl ?_
      refine v_get fl_X6_333 dX6_copy_45 e1 rfl ?_
      refine v_iload_n 3 dX6_copy_48 rfl rfl ?_
      refine v_aald dX6_copy_49 e5 rfl rfl (nI_in' hb9) (by rw [clamp (by omega)]; exact if_pos hb9) ?_
      refine v_iload_n 0 dX6_copy_50 rfl rfl ?_
      refine v_aload_n 1 dX6_copy_51 rfl rfl ?_
      refine v_get fl_X6_12 dX6_copy_52 e0 rfl ?_
      refine v_get fl_X6_333 dX6_copy_55 e1 rfl ?_
      refine v_iload_n 2 dX6_copy_58 rfl rfl ?_
      refine v_aald dX6_copy_59 e5 rfl rfl (nI_in' hn9) (by rw [clamp (by omega)]; exact if_pos hn9) ?_
      refine v_iload_n 0 dX6_copy_60 rfl rfl ?_
      refine v_iald dX6_copy_61 hnb (nI_in' (by omega)) ?_
      refine v_iast dX6_copy_62 eb (nI_in' (by omega)) ?_
      refine v_iinc (v := 1) 0 dX6_copy_63 rfl rfl (by decide) (fun z e_z => ?_)
      refine v_ls (ls' := [(3, .int z), (0, .ref 0), (1, .int (nI n)), (2, .int (nI b))]) rfl ?_
      rw [nI_1] at e_z
      subst e_z
      refine v_goto (tgt := 36) dX6_copy_66 (by decide) ?_
      have hg : (if n = b then f else g) j = g j := by
        by_cases e : n = b
        · rw [if_pos e]; exact heq e j (by omega)
        · rw [if_neg e]
      refine ih (j + 1) (upd f j (g j)) _ (by omega) ?_ ?_ ?_ ?_
      · rw [hm, clamp (by omega), hg, up_up]
      · intro x hx
        show (if x = j then g j else f x) = g x
        by_cases e : x = j
        · rw [if_pos e, e]
        · rw [if_neg e]; exact hf x (by omega)
      · rw [clamp (by omega), hg]
        by_cases e : n = b
        · subst e
          rw [up_s, if_pos rfl]
        · rw [if_neg e]
          rw [if_neg e] at hnb
          exact up_n (by omega) hnb
      · intro e x hx
        show (if x = j then g j else f x) = g x
        by_cases e2 : x = j
        · rw [if_pos e2, e2]
        · rw [if_neg e2]; exact heq e x hx
      

set_option maxRecDepth 20000 in
set_option maxHeartbeats 4000000 in
theorem c_X6_copy {G : Cx} (d : Nat) {μ : Hp} {σ : ST} {r : Int32} {y : Int32} (h : Cl σ μ) (hw : Wp (sP σ)) : Ct G (d + 1) 0 0 M_X6_copy [.ref 0, .int r, .int y] μ (Po ((rCopy σ r y).2) (.int ((rCopy σ r y).1)) μ) := by
  refine Ct.ofV (by decide +kernel) (Nat.le_of_ble_eq_true rfl) ?_
  refine v_ls (ls' := [(0, .ref 0), (1, .int r), (2, .int y)]) rfl ?_
  obtain ⟨h0, ⟨p, h1, h2, h3, h4, h5, h6, h7, h8, h9, hpl⟩, ⟨bk, hbk, pk, k11, k12, k13, k14, k15, k16, k17, k18, k19, hpk⟩, ⟨h20, h21, h22, h23, h24⟩, ⟨tt, ops, cd, kk, pp, ff, h25, h26, h27, h28, htp, ht60⟩, ⟨h29, h30, h31⟩, ⟨⟨oc, hoc⟩, h37, h38, h39⟩, hsx, ⟨B0, B1, B2, h50, h51, h52⟩⟩ := id h
  have hl8 := hw.1
  refine v_iload_n 1 dX6_copy_0 rfl rfl ?_
  refine v_callS (c_X6_isRack d ) cs_X6_321 dX6_copy_1 rfl rfl (Nat.le_of_ble_eq_true rfl) ?_
  refine rt_k ?_
  refine v_if_eq (tgt := 14) dX6_copy_4 (by decide) (fun hc4 => ?_) (fun hc4 => ?_)
  ·
    refine v_iconst (v := -1) dX6_copy_14 (by first | rfl | decide) ?_
    refine v_iret dX6_copy_15 rfl (by first | rfl | decide | exact nar_b (by first | assumption | rfl)) ?_
    have hE : rCopy σ r y = (-1, σ) := by
      first | (simp only [rCopy, if_pos hc4]; done) | grind [rCopy]
    rw [hE]
    exact ⟨rfl, h, Fo.rf μ⟩
  ·
    refine v_iload_n 2 dX6_copy_7 rfl rfl ?_
    refine v_callS (c_X6_isRack d ) cs_X6_321 dX6_copy_8 rfl rfl (Nat.le_of_ble_eq_true rfl) ?_
    refine rt_k ?_
    refine v_if_ne (tgt := 16) dX6_copy_11 (by decide) (fun hc11 => ?_) (fun hc11 => ?_)
    ·
      obtain ⟨n, hn9, rfl⟩ := in_ix (n := 3) (by decide) hc4
      have hrkn : μ (6 + n) = some (arI 4 (sR σ n)) := Bn1.row ⟨p, h1, h2, h3, h4, h5, h6, h7, h8, h9, hpl⟩ hn9
      have hcnn : (nI n).toNatClampNeg = n := clamp (by omega)
      obtain ⟨b, hb9, rfl⟩ := in_ix (n := 3) (by decide) hc11
      have hrkb : μ (6 + b) = some (arI 4 (sR σ b)) := Bn1.row ⟨p, h1, h2, h3, h4, h5, h6, h7, h8, h9, hpl⟩ hb9
      have hcnb : (nI b).toNatClampNeg = b := clamp (by omega)
      refine v_aload_n 0 dX6_copy_16 rfl rfl ?_
      refine v_get fl_X6_12 dX6_copy_17 h0 rfl ?_
      refine v_get fl_X6_327 dX6_copy_20 h1 rfl ?_
      refine v_iload_n 2 dX6_copy_23 rfl rfl ?_
      refine v_aload_n 0 dX6_copy_24 rfl rfl ?_
      refine v_get fl_X6_12 dX6_copy_25 h0 rfl ?_
      refine v_get fl_X6_327 dX6_copy_28 h1 rfl ?_
      refine v_iload_n 1 dX6_copy_31 rfl rfl ?_
      refine v_iald dX6_copy_32 h9 (nI_in' hn9) ?_
      refine v_iast dX6_copy_33 h9 (nI_in' hb9) ?_
      refine v_iconst (v := 0) dX6_copy_34 (by first | rfl | decide) ?_
      refine v_istore_n dX6_copy_35 rfl (by decide) (fun x3 e_x3 => ?_)
      refine v_ls (ls' := [(3, .int x3), (0, .ref 0), (1, .int (nI n)), (2, .int (nI b))]) rfl ?_
      subst e_x3
      rw [hcnn, hcnb]
      have hE : rCopy σ (nI n) (nI b) = (nI (hldO (sR σ n) 4), toK (toR σ (rowU (sR σ) b (sR σ n))) (upd (sK σ) b (sK σ n))) := by simp only [rCopy, kAt, if_neg hc4, if_neg hc11, hcnn, hcnb]
      rw [hE]
      refine v_hp (up_id (up_n (by omega) hrkb)).symm ?_
      refine v_post (copy_loop d (g := sR σ n) hn9 hb9 (up_n (by decide) h0) (up_n (by decide) h1) (up_n (by decide) h5) 4 0 (sR σ b) _ (by omega) rfl (fun x hx => absurd hx (Nat.not_lt_zero x)) ?_ ?_) ?_
      · by_cases e : n = b
        · subst e
          rw [if_pos rfl]
          exact up_s _ _ _
        · rw [if_neg e]
          exact up_n (by omega) (up_n (by omega) hrkn)
      · intro e x hx
        rw [e]
      · rintro _ _ ⟨rfl, rfl⟩
        exact ⟨rfl, (h.takes _).rack hb9 _, fun i hi => by repeat (first | rfl | refine up_n (by omega) ?_)⟩
      
    ·
      refine v_iconst (v := -1) dX6_copy_14 (by first | rfl | decide) ?_
      refine v_iret dX6_copy_15 rfl (by first | rfl | decide | exact nar_b (by first | assumption | rfl)) ?_
      have hE : rCopy σ r y = (-1, σ) := by
        first | (simp only [rCopy, if_neg hc4, if_pos hc11]; done) | grind [rCopy]
      rw [hE]
      exact ⟨rfl, h, Fo.rf μ⟩

