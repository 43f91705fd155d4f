theorem all12 {P : Nat → Prop} (h0 : P 0) (h1 : P 1) (h2 : P 2) (h3 : P 3) (h4 : P 4) (hr : ∀ j, 5 ≤ j → j < 12 → P j) : ∀ j, j < 12 → P j := fun j hj => by
  by_cases e : j < 5
  · match j, e with
    | 0, _ => exact h0
    | 1, _ => exact h1
    | 2, _ => exact h2
    | 3, _ => exact h3
    | 4, _ => exact h4
  · exact hr j (by omega) hj
theorem five_updL {a b c d e : Int64} {f : Nat → Int64} {j : Nat} (hj : 5 ≤ j) : vp_updL (vp_updL (vp_updL (vp_updL (vp_updL f 0 a) 1 b) 2 c) 3 d) 4 e j = f j := by
  simp only [vp_updL]
  rw [if_neg (by omega), if_neg (by omega), if_neg (by omega), if_neg (by omega), if_neg (by omega)]
set_option maxRecDepth 20000 in
set_option maxHeartbeats 4000000 in
theorem c_X6_lay {G : Cx} (d : Nat) {μ : Hp} {σ : ST} {t : Int32} {k : Int32} (h : Cl σ μ) (hw : Wp (sP σ)) : Ct G (d + 5) 0 0 M_X6_lay [.ref 0, .int t, .int k] μ (Po ((rLay σ t k).2) (.int ((rLay σ t k).1)) μ) := by
  refine Ct.ofV (by decide +kernel) (Nat.le_of_ble_eq_true rfl) ?_
  refine v_ls (ls' := [(0, .ref 0), (1, .int t), (2, .int k)]) rfl ?_
  obtain ⟨h0, ⟨p, h1, h2, h3, h4, h5, h6, h7, h8, h9, hpl⟩, ⟨bk, hbk, pk, k11, k12, k13, k14, k15, k16, k17, k18, k19, hpk⟩, ⟨h20, h21, h22, h23, h24⟩, ⟨tt, ops, cd, kk, pp, ff, h25, h26, h27, h28, htp, ht60⟩, ⟨h29, h30, h31⟩, ⟨⟨oc, hoc⟩, h37, h38, h39⟩, hsx, ⟨B0, B1, B2, h50, h51, h52⟩⟩ := id h
  have hl8 := hw.1
  refine v_iload_n 1 dX6_lay_0 rfl rfl ?_
  refine v_callS (c_X6_isList (d + 4) ) cs_X6_276 dX6_lay_1 rfl rfl (Nat.le_of_ble_eq_true rfl) ?_
  refine rt_k ?_
  refine v_if_eq (tgt := 15) dX6_lay_4 (by decide) (fun hc4 => ?_) (fun hc4 => ?_)
  ·
    refine v_iconst (v := -1) dX6_lay_15 (by first | rfl | decide) ?_
    refine v_iret dX6_lay_16 rfl (by first | rfl | decide | exact nar_b (by first | assumption | rfl)) ?_
    have hE : rLay σ t k = (-1, σ) := by
      first | (simp only [rLay, if_pos hc4]; done) | grind [rLay]
    rw [hE]
    exact ⟨rfl, h, Fo.rf μ⟩
  ·
    refine v_aload_n 0 dX6_lay_7 rfl rfl ?_
    refine v_iload_n 2 dX6_lay_8 rfl rfl ?_
    refine v_callV (c_X6_isBehind (d + 4) h0 h1) cs_X6_168 dX6_lay_9 h0 rfl rfl (Nat.le_of_ble_eq_true rfl) ?_
    refine rt_k ?_
    refine v_if_ne (tgt := 17) dX6_lay_12 (by decide) (fun hc12 => ?_) (fun hc12 => ?_)
    ·
      obtain ⟨b, hb9, rfl⟩ := be_ix (by omega) hc12
      have hcb : (nI b).toNatClampNeg = b := clamp (by omega)
      obtain ⟨n, hn9, rfl⟩ := in_ix (n := 3) (by decide) hc4
      have hrw : μ (21 + n) = some (arJ 12 (sL σ n)) := Lx.row ⟨h20, h21, h22, h23, h24⟩ hn9
      have hcn : (nI n).toNatClampNeg = n := clamp (by omega)
      refine v_aload_n 0 dX6_lay_17 rfl rfl ?_
      refine v_iload_n 2 dX6_lay_18 rfl rfl ?_
      refine v_callV (c_X6_shineBehind d h0 h1 h2 h3 hpl hl8 h50 (by omega)) cs_X6_176 dX6_lay_19 h0 rfl rfl (Nat.le_of_ble_eq_true rfl) ?_
      refine rt_k ?_
      refine v_aload_n 0 dX6_lay_22 rfl rfl ?_
      refine v_iload_n 1 dX6_lay_23 rfl rfl ?_
      refine v_iconst (v := 5) dX6_lay_24 (by first | rfl | decide) ?_
      refine v_callV (c_X6_makeList (d + 4) hn9 (up_n (by decide) h0) (up_n (by decide) h20) (up_n (by decide) h24) (up_n (by omega) hrw)) cs_X6_279 dX6_lay_25 (up_n (by decide) h0) rfl rfl (Nat.le_of_ble_eq_true rfl) ?_
      refine rt_k ?_
      refine v_iconst (v := 0) dX6_lay_28 (by first | rfl | decide) ?_
      refine v_istore_n dX6_lay_29 rfl (by decide) (fun x3 e_x3 => ?_)
      refine v_ls (ls' := [(3, .int x3), (0, .ref 0), (1, .int (nI n)), (2, .int (nI b))]) rfl ?_
      subst e_x3
      refine v_iload_n 0 dX6_lay_30 rfl rfl ?_
      refine v_iconst (v := 5) dX6_lay_31 (by first | rfl | decide) ?_
      refine v_icmp_ge (tgt := 57) dX6_lay_32 (by decide) (fun hc32 => ?_) (fun hc32 => ?_)
      · exact absurd hc32 (by decide)
      ·
        refine v_aload_n 1 dX6_lay_35 rfl rfl ?_
        refine v_get fl_X6_23 dX6_lay_36 (up_n (by omega) (up_n (by decide) (up_n (by decide) h0))) rfl ?_
        refine v_iload_n 2 dX6_lay_39 rfl rfl ?_
        refine v_aald dX6_lay_40 (up_n (by omega) (up_n (by decide) (up_n (by decide) h20))) rfl rfl (nI_in' hn9) (by rw [clamp (by omega)]; exact if_pos hn9) ?_
        refine v_iload_n 0 dX6_lay_41 rfl rfl ?_
        refine v_aload_n 1 dX6_lay_42 rfl rfl ?_
        refine v_get fl_X6_68 dX6_lay_43 (up_n (by omega) (up_n (by decide) (up_n (by decide) h0))) rfl ?_
        refine v_iload_n 0 dX6_lay_46 rfl rfl ?_
        refine v_callV (c_X1_part (d + 4) (up_n (by omega) (up_n (by decide) (up_s _ _ _)))) cs_X6_179 dX6_lay_47 (up_n (by omega) (up_n (by decide) (up_s _ _ _))) rfl rfl (Nat.le_of_ble_eq_true rfl) ?_
        refine rt_k ?_
        refine v_last dX6_lay_50 (up_s _ _ _) (nI_in' (k := 0) (by decide)) ?_
        refine v_hp (up_up _ _ _ _) ?_
        refine v_iinc (v := 1) 0 dX6_lay_51 rfl rfl (by decide) (fun z_ ez_ => ?_)
        obtain rfl : z_ = 1 := by rw [ez_]; decide
        refine v_ls (ls' := [(3, .int (1)), (0, .ref 0), (1, .int (nI n)), (2, .int (nI b))]) rfl ?_
        refine v_goto (tgt := 30) dX6_lay_54 (by decide) ?_
        refine v_iload_n 0 dX6_lay_30 rfl rfl ?_
        refine v_iconst (v := 5) dX6_lay_31 (by first | rfl | decide) ?_
        refine v_icmp_ge (tgt := 57) dX6_lay_32 (by decide) (fun hc32 => ?_) (fun hc32 => ?_)
        · exact absurd hc32 (by decide)
        ·
          refine v_aload_n 1 dX6_lay_35 rfl rfl ?_
          refine v_get fl_X6_23 dX6_lay_36 (up_n (by omega) (up_n (by decide) (up_n (by decide) h0))) rfl ?_
          refine v_iload_n 2 dX6_lay_39 rfl rfl ?_
          refine v_aald dX6_lay_40 (up_n (by omega) (up_n (by decide) (up_n (by decide) h20))) rfl rfl (nI_in' hn9) (by rw [clamp (by omega)]; exact if_pos hn9) ?_
          refine v_iload_n 0 dX6_lay_41 rfl rfl ?_
          refine v_aload_n 1 dX6_lay_42 rfl rfl ?_
          refine v_get fl_X6_68 dX6_lay_43 (up_n (by omega) (up_n (by decide) (up_n (by decide) h0))) rfl ?_
          refine v_iload_n 0 dX6_lay_46 rfl rfl ?_
          refine v_callV (c_X1_part (d + 4) (up_n (by omega) (up_n (by decide) (up_s _ _ _)))) cs_X6_179 dX6_lay_47 (up_n (by omega) (up_n (by decide) (up_s _ _ _))) rfl rfl (Nat.le_of_ble_eq_true rfl) ?_
          refine rt_k ?_
          refine v_last dX6_lay_50 (up_s _ _ _) (nI_in' (k := 1) (by decide)) ?_
          refine v_hp (up_up _ _ _ _) ?_
          refine v_iinc (v := 1) 0 dX6_lay_51 rfl rfl (by decide) (fun z_ ez_ => ?_)
          obtain rfl : z_ = 2 := by rw [ez_]; decide
          refine v_ls (ls' := [(3, .int (2)), (0, .ref 0), (1, .int (nI n)), (2, .int (nI b))]) rfl ?_
          refine v_goto (tgt := 30) dX6_lay_54 (by decide) ?_
          refine v_iload_n 0 dX6_lay_30 rfl rfl ?_
          refine v_iconst (v := 5) dX6_lay_31 (by first | rfl | decide) ?_
          refine v_icmp_ge (tgt := 57) dX6_lay_32 (by decide) (fun hc32 => ?_) (fun hc32 => ?_)
          · exact absurd hc32 (by decide)
          ·
            refine v_aload_n 1 dX6_lay_35 rfl rfl ?_
            refine v_get fl_X6_23 dX6_lay_36 (up_n (by omega) (up_n (by decide) (up_n (by decide) h0))) rfl ?_
            refine v_iload_n 2 dX6_lay_39 rfl rfl ?_
            refine v_aald dX6_lay_40 (up_n (by omega) (up_n (by decide) (up_n (by decide) h20))) rfl rfl (nI_in' hn9) (by rw [clamp (by omega)]; exact if_pos hn9) ?_
            refine v_iload_n 0 dX6_lay_41 rfl rfl ?_
            refine v_aload_n 1 dX6_lay_42 rfl rfl ?_
            refine v_get fl_X6_68 dX6_lay_43 (up_n (by omega) (up_n (by decide) (up_n (by decide) h0))) rfl ?_
            refine v_iload_n 0 dX6_lay_46 rfl rfl ?_
            refine v_callV (c_X1_part (d + 4) (up_n (by omega) (up_n (by decide) (up_s _ _ _)))) cs_X6_179 dX6_lay_47 (up_n (by omega) (up_n (by decide) (up_s _ _ _))) rfl rfl (Nat.le_of_ble_eq_true rfl) ?_
            refine rt_k ?_
            refine v_last dX6_lay_50 (up_s _ _ _) (nI_in' (k := 2) (by decide)) ?_
            refine v_hp (up_up _ _ _ _) ?_
            refine v_iinc (v := 1) 0 dX6_lay_51 rfl rfl (by decide) (fun z_ ez_ => ?_)
            obtain rfl : z_ = 3 := by rw [ez_]; decide
            refine v_ls (ls' := [(3, .int (3)), (0, .ref 0), (1, .int (nI n)), (2, .int (nI b))]) rfl ?_
            refine v_goto (tgt := 30) dX6_lay_54 (by decide) ?_
            refine v_iload_n 0 dX6_lay_30 rfl rfl ?_
            refine v_iconst (v := 5) dX6_lay_31 (by first | rfl | decide) ?_
            refine v_icmp_ge (tgt := 57) dX6_lay_32 (by decide) (fun hc32 => ?_) (fun hc32 => ?_)
            · exact absurd hc32 (by decide)
            ·
              refine v_aload_n 1 dX6_lay_35 rfl rfl ?_
              refine v_get fl_X6_23 dX6_lay_36 (up_n (by omega) (up_n (by decide) (up_n (by decide) h0))) rfl ?_
              refine v_iload_n 2 dX6_lay_39 rfl rfl ?_
              refine v_aald dX6_lay_40 (up_n (by omega) (up_n (by decide) (up_n (by decide) h20))) rfl rfl (nI_in' hn9) (by rw [clamp (by omega)]; exact if_pos hn9) ?_
              refine v_iload_n 0 dX6_lay_41 rfl rfl ?_
              refine v_aload_n 1 dX6_lay_42 rfl rfl ?_
              refine v_get fl_X6_68 dX6_lay_43 (up_n (by omega) (up_n (by decide) (up_n (by decide) h0))) rfl ?_
              refine v_iload_n 0 dX6_lay_46 rfl rfl ?_
              refine v_callV (c_X1_part (d + 4) (up_n (by omega) (up_n (by decide) (up_s _ _ _)))) cs_X6_179 dX6_lay_47 (up_n (by omega) (up_n (by decide) (up_s _ _ _))) rfl rfl (Nat.le_of_ble_eq_true rfl) ?_
              refine rt_k ?_
              refine v_last dX6_lay_50 (up_s _ _ _) (nI_in' (k := 3) (by decide)) ?_
              refine v_hp (up_up _ _ _ _) ?_
              refine v_iinc (v := 1) 0 dX6_lay_51 rfl rfl (by decide) (fun z_ ez_ => ?_)
              obtain rfl : z_ = 4 := by rw [ez_]; decide
              refine v_ls (ls' := [(3, .int (4)), (0, .ref 0), (1, .int (nI n)), (2, .int (nI b))]) rfl ?_
              refine v_goto (tgt := 30) dX6_lay_54 (by decide) ?_
              refine v_iload_n 0 dX6_lay_30 rfl rfl ?_
              refine v_iconst (v := 5) dX6_lay_31 (by first | rfl | decide) ?_
              refine v_icmp_ge (tgt := 57) dX6_lay_32 (by decide) (fun hc32 => ?_) (fun hc32 => ?_)
              · exact absurd hc32 (by decide)
              ·
                refine v_aload_n 1 dX6_lay_35 rfl rfl ?_
                refine v_get fl_X6_23 dX6_lay_36 (up_n (by omega) (up_n (by decide) (up_n (by decide) h0))) rfl ?_
                refine v_iload_n 2 dX6_lay_39 rfl rfl ?_
                refine v_aald dX6_lay_40 (up_n (by omega) (up_n (by decide) (up_n (by decide) h20))) rfl rfl (nI_in' hn9) (by rw [clamp (by omega)]; exact if_pos hn9) ?_
                refine v_iload_n 0 dX6_lay_41 rfl rfl ?_
                refine v_aload_n 1 dX6_lay_42 rfl rfl ?_
                refine v_get fl_X6_68 dX6_lay_43 (up_n (by omega) (up_n (by decide) (up_n (by decide) h0))) rfl ?_
                refine v_iload_n 0 dX6_lay_46 rfl rfl ?_
                refine v_callV (c_X1_part (d + 4) (up_n (by omega) (up_n (by decide) (up_s _ _ _)))) cs_X6_179 dX6_lay_47 (up_n (by omega) (up_n (by decide) (up_s _ _ _))) rfl rfl (Nat.le_of_ble_eq_true rfl) ?_
                refine rt_k ?_
                refine v_last dX6_lay_50 (up_s _ _ _) (nI_in' (k := 4) (by decide)) ?_
                refine v_hp (up_up _ _ _ _) ?_
                refine v_iinc (v := 1) 0 dX6_lay_51 rfl rfl (by decide) (fun z_ ez_ => ?_)
                obtain rfl : z_ = 5 := by rw [ez_]; decide
                refine v_ls (ls' := [(3, .int (5)), (0, .ref 0), (1, .int (nI n)), (2, .int (nI b))]) rfl ?_
                refine v_goto (tgt := 30) dX6_lay_54 (by decide) ?_
                refine v_iload_n 0 dX6_lay_30 rfl rfl ?_
                refine v_iconst (v := 5) dX6_lay_31 (by first | rfl | decide) ?_
                refine v_icmp_ge (tgt := 57) dX6_lay_32 (by decide) (fun hc32 => ?_) (fun hc32 => ?_)
                ·
                  refine v_njJ (g := l5F (behO σ b)) (all12 rfl rfl rfl rfl rfl (fun x hx _ => ?_)) ?_
                  · refine (five_updL (f := fun _ => 0) hx).trans ?_
                    show (0 : Int64) = if x < 5 then _ else 0
                    rw [if_neg (by omega)]
                  refine v_iconst (v := 1) dX6_lay_57 (by first | rfl | decide) ?_
                  refine v_iret dX6_lay_58 rfl (by first | rfl | decide | exact nar_b (by first | assumption | rfl)) ?_
                  have hE : rLay σ (nI n) (nI b) = (1, mkL σ n 5 (l5F (behO σ b))) := by simp only [rLay, if_neg hc4, if_neg hc12, hcn, hcb]
                  rw [hE]
                  exact ⟨rfl, (h.beam _).mk hn9 (x := 5) (by decide) _, fun i hi => by repeat (first | rfl | refine up_n (by omega) ?_)⟩
                · exact absurd (by decide) hc32
    ·
      refine v_iconst (v := -1) dX6_lay_15 (by first | rfl | decide) ?_
      refine v_iret dX6_lay_16 rfl (by first | rfl | decide | exact nar_b (by first | assumption | rfl)) ?_
      have hE : rLay σ t k = (-1, σ) := by
        first | (simp only [rLay, if_neg hc4, if_pos hc12]; done) | grind [rLay]
      rw [hE]
      exact ⟨rfl, h, Fo.rf μ⟩

set_option maxRecDepth 20000 in
set_option maxHeartbeats 4000000 in
theorem c_X6_readings {G : Cx} (d : Nat) {μ : Hp} {σ : ST} {t : Int32} (h : Cl σ μ) (hw : Wp (sP σ)) : Ct G (d + 5) 0 0 M_X6_readings [.ref 0, .int t] μ (Po ((rReadings σ t).2) (.int ((rReadings σ t).1)) μ) := by
  refine Ct.ofV (by decide +kernel) (Nat.le_of_ble_eq_true rfl) ?_
  refine v_ls (ls' := [(0, .ref 0), (1, .int t)]) rfl ?_
  obtain ⟨h0, ⟨p, h1, h2, h3, h4, h5, h6, h7, h8, h9, hpl⟩, ⟨bk, hbk, pk, k11, k12, k13, k14, k15, k16, k17, k18, k19, hpk⟩, ⟨h20, h21, h22, h23, h24⟩, ⟨tt, ops, cd, kk, pp, ff, h25, h26, h27, h28, htp, ht60⟩, ⟨h29, h30, h31⟩, ⟨⟨oc, hoc⟩, h37, h38, h39⟩, hsx, ⟨B0, B1, B2, h50, h51, h52⟩⟩ := id h
  have hl8 := hw.1
  refine v_iload_n 1 dX6_readings_0 rfl rfl ?_
  refine v_callS (c_X6_isList (d + 4) ) cs_X6_276 dX6_readings_1 rfl rfl (Nat.le_of_ble_eq_true rfl) ?_
  refine rt_k ?_
  refine v_if_ne (tgt := 9) dX6_readings_4 (by decide) (fun hc4 => ?_) (fun hc4 => ?_)
  ·
    obtain ⟨n, hn9, rfl⟩ := in_ix (n := 3) (by decide) hc4
    have hrw : μ (21 + n) = some (arJ 12 (sL σ n)) := Lx.row ⟨h20, h21, h22, h23, h24⟩ hn9
    have hcn : (nI n).toNatClampNeg = n := clamp (by omega)
    refine v_aload_n 0 dX6_readings_9 rfl rfl ?_
    refine v_aload_n 0 dX6_readings_10 rfl rfl ?_
    refine v_get fl_X6_12 dX6_readings_11 h0 rfl ?_
    refine v_get fl_X6_140 dX6_readings_14 h1 rfl ?_
    refine v_callV (c_X6_shineBehind d h0 h1 h2 h3 hpl hl8 h50 (by omega)) cs_X6_176 dX6_readings_17 h0 rfl rfl (Nat.le_of_ble_eq_true rfl) ?_
    refine rt_k ?_
    refine v_aload_n 0 dX6_readings_20 rfl rfl ?_
    refine v_iload_n 1 dX6_readings_21 rfl rfl ?_
    refine v_iconst (v := 5) dX6_readings_22 (by first | rfl | decide) ?_
    refine v_callV (c_X6_makeList (d + 4) hn9 (up_n (by decide) h0) (up_n (by decide) h20) (up_n (by decide) h24) (up_n (by omega) hrw)) cs_X6_279 dX6_readings_23 (up_n (by decide) h0) rfl rfl (Nat.le_of_ble_eq_true rfl) ?_
    refine rt_k ?_
    refine v_aload_n 0 dX6_readings_26 rfl rfl ?_
    refine v_get fl_X6_23 dX6_readings_27 (up_n (by omega) (up_n (by decide) (up_n (by decide) h0))) rfl ?_
    refine v_iload_n 1 dX6_readings_30 rfl rfl ?_
    refine v_aald dX6_readings_31 (up_n (by omega) (up_n (by decide) (up_n (by decide) h20))) rfl rfl (nI_in' hn9) (by rw [clamp (by omega)]; exact if_pos hn9) ?_
    refine v_iconst (v := 0) dX6_readings_32 (by first | rfl | decide) ?_
    refine v_aload_n 0 dX6_readings_33 rfl rfl ?_
    refine v_get fl_X6_68 dX6_readings_34 (up_n (by omega) (up_n (by decide) (up_n (by decide) h0))) rfl ?_
    refine v_get fl_X6_199 dX6_readings_37 (up_n (by omega) (up_n (by decide) (up_s _ _ _))) rfl ?_
    refine v_aload_n 0 dX6_readings_40 rfl rfl ?_
    refine v_get fl_X6_68 dX6_readings_41 (up_n (by omega) (up_n (by decide) (up_n (by decide) h0))) rfl ?_
    refine v_get fl_X6_207 dX6_readings_44 (up_n (by omega) (up_n (by decide) (up_s _ _ _))) rfl ?_
    refine v_ladd dX6_readings_47 ?_
    refine v_last dX6_readings_48 (up_s _ _ _) (nI_in' (k := 0) (by decide)) ?_
    refine v_hp (up_up _ _ _ _) ?_
    refine v_aload_n 0 dX6_readings_49 rfl rfl ?_
    refine v_get fl_X6_23 dX6_readings_50 (up_n (by omega) (up_n (by decide) (up_n (by decide) h0))) rfl ?_
    refine v_iload_n 1 dX6_readings_53 rfl rfl ?_
    refine v_aald dX6_readings_54 (up_n (by omega) (up_n (by decide) (up_n (by decide) h20))) rfl rfl (nI_in' hn9) (by rw [clamp (by omega)]; exact if_pos hn9) ?_
    refine v_iconst (v := 1) dX6_readings_55 (by first | rfl | decide) ?_
    refine v_aload_n 0 dX6_readings_56 rfl rfl ?_
    refine v_get fl_X6_68 dX6_readings_57 (up_n (by omega) (up_n (by decide) (up_n (by decide) h0))) rfl ?_
    refine v_get fl_X6_199 dX6_readings_60 (up_n (by omega) (up_n (by decide) (up_s _ _ _))) rfl ?_
    refine v_aload_n 0 dX6_readings_63 rfl rfl ?_
    refine v_get fl_X6_68 dX6_readings_64 (up_n (by omega) (up_n (by decide) (up_n (by decide) h0))) rfl ?_
    refine v_get fl_X6_210 dX6_readings_67 (up_n (by omega) (up_n (by decide) (up_s _ _ _))) rfl ?_
    refine v_ladd dX6_readings_70 ?_
    refine v_last dX6_readings_71 (up_s _ _ _) (nI_in' (k := 1) (by decide)) ?_
    refine v_hp (up_up _ _ _ _) ?_
    refine v_aload_n 0 dX6_readings_72 rfl rfl ?_
    refine v_get fl_X6_23 dX6_readings_73 (up_n (by omega) (up_n (by decide) (up_n (by decide) h0))) rfl ?_
    refine v_iload_n 1 dX6_readings_76 rfl rfl ?_
    refine v_aald dX6_readings_77 (up_n (by omega) (up_n (by decide) (up_n (by decide) h20))) rfl rfl (nI_in' hn9) (by rw [clamp (by omega)]; exact if_pos hn9) ?_
    refine v_iconst (v := 2) dX6_readings_78 (by first | rfl | decide) ?_
    refine v_aload_n 0 dX6_readings_79 rfl rfl ?_
    refine v_get fl_X6_68 dX6_readings_80 (up_n (by omega) (up_n (by decide) (up_n (by decide) h0))) rfl ?_
    refine v_get fl_X6_199 dX6_readings_83 (up_n (by omega) (up_n (by decide) (up_s _ _ _))) rfl ?_
    refine v_aload_n 0 dX6_readings_86 rfl rfl ?_
    refine v_get fl_X6_68 dX6_readings_87 (up_n (by omega) (up_n (by decide) (up_n (by decide) h0))) rfl ?_
    refine v_get fl_X6_207 dX6_readings_90 (up_n (by omega) (up_n (by decide) (up_s _ _ _))) rfl ?_
    refine v_lsub dX6_readings_93 ?_
    refine v_last dX6_readings_94 (up_s _ _ _) (nI_in' (k := 2) (by decide)) ?_
    refine v_hp (up_up _ _ _ _) ?_
    refine v_aload_n 0 dX6_readings_95 rfl rfl ?_
    refine v_get fl_X6_23 dX6_readings_96 (up_n (by omega) (up_n (by decide) (up_n (by decide) h0))) rfl ?_
    refine v_iload_n 1 dX6_readings_99 rfl rfl ?_
    refine v_aald dX6_readings_100 (up_n (by omega) (up_n (by decide) (up_n (by decide) h20))) rfl rfl (nI_in' hn9) (by rw [clamp (by omega)]; exact if_pos hn9) ?_
    refine v_iconst (v := 3) dX6_readings_101 (by first | rfl | decide) ?_
    refine v_aload_n 0 dX6_readings_102 rfl rfl ?_
    refine v_get fl_X6_68 dX6_readings_103 (up_n (by omega) (up_n (by decide) (up_n (by decide) h0))) rfl ?_
    refine v_get fl_X6_199 dX6_readings_106 (up_n (by omega) (up_n (by decide) (up_s _ _ _))) rfl ?_
    refine v_aload_n 0 dX6_readings_109 rfl rfl ?_
    refine v_get fl_X6_68 dX6_readings_110 (up_n (by omega) (up_n (by decide) (up_n (by decide) h0))) rfl ?_
    refine v_get fl_X6_213 dX6_readings_113 (up_n (by omega) (up_n (by decide) (up_s _ _ _))) rfl ?_
    refine v_ladd dX6_readings_116 ?_
    refine v_last dX6_readings_117 (up_s _ _ _) (nI_in' (k := 3) (by decide)) ?_
    refine v_hp (up_up _ _ _ _) ?_
    refine v_aload_n 0 dX6_readings_118 rfl rfl ?_
    refine v_get fl_X6_23 dX6_readings_119 (up_n (by omega) (up_n (by decide) (up_n (by decide) h0))) rfl ?_
    refine v_iload_n 1 dX6_readings_122 rfl rfl ?_
    refine v_aald dX6_readings_123 (up_n (by omega) (up_n (by decide) (up_n (by decide) h20))) rfl rfl (nI_in' hn9) (by rw [clamp (by omega)]; exact if_pos hn9) ?_
    refine v_iconst (v := 4) dX6_readings_124 (by first | rfl | decide) ?_
    refine v_aload_n 0 dX6_readings_125 rfl rfl ?_
    refine v_get fl_X6_68 dX6_readings_126 (up_n (by omega) (up_n (by decide) (up_n (by decide) h0))) rfl ?_
    refine v_get fl_X6_246 dX6_readings_129 (up_n (by omega) (up_n (by decide) (up_s _ _ _))) rfl ?_
    refine v_iconst (v := 1) dX6_readings_132 (by first | rfl | decide) ?_
    refine v_iadd dX6_readings_133 ?_
    refine v_i2l dX6_readings_134 ?_
    refine v_last dX6_readings_135 (up_s _ _ _) (nI_in' (k := 4) (by decide)) ?_
    refine v_hp (up_up _ _ _ _) ?_
    refine v_njJ (g := rdgF (behO σ (sP σ).length)) (all12 rfl rfl rfl rfl rfl (fun x hx _ => ?_)) ?_
    · refine (five_updL (f := fun _ => 0) hx).trans ?_
      match x, hx with
      | y + 5, _ => rfl
    refine v_iconst (v := 1) dX6_readings_136 (by first | rfl | decide) ?_
    refine v_iret dX6_readings_137 rfl (by first | rfl | decide | exact nar_b (by first | assumption | rfl)) ?_
    have hE : rReadings σ (nI n) = (1, mkL σ n 5 (rdgF (behO σ (sP σ).length))) := by simp only [rReadings, if_neg hc4, hcn]
    rw [hE]
    exact ⟨rfl, (h.beam _).mk hn9 (x := 5) (by decide) _, fun i hi => by repeat (first | rfl | refine up_n (by omega) ?_)⟩
  ·
    refine v_iconst (v := -1) dX6_readings_7 (by first | rfl | decide) ?_
    refine v_iret dX6_readings_8 rfl (by first | rfl | decide | exact nar_b (by first | assumption | rfl)) ?_
    have hE : rReadings σ t = (-1, σ) := by
      first | (simp only [rReadings, if_pos hc4]; done) | grind [rReadings]
    rw [hE]
    exact ⟨rfl, h, Fo.rf μ⟩

theorem ll_5 (z : Nat → Int32) (n : Nat) : (5 ≤ llF z n) ↔ ¬ z n < 5 := by
  unfold llF
  by_cases e : z n = -1
  · rw [if_pos e, e]
    decide
  · rw [if_neg e]
    exact Int32.not_lt.symm
theorem mayO_b (L : LT) : mayO L = 0 ∨ mayO L = 1 := by
  unfold mayO
  repeat' split
  all_goals first | exact Or.inl rfl | exact Or.inr rfl
theorem frO_b (a b c : Int64) : frO a b c = 0 ∨ frO a b c = 1 := by
  unfold frO
  split
  · exact Or.inl rfl
  · split
    · exact Or.inl rfl
    · exact Or.inr rfl
def tzB (z : Int32) (f : Nat → Int64) : Int32 := if z < 5 then 0 else telB f
def rzB (z : Int32) (f : Nat → Int64) : Int32 := if z < 5 then 0 else refB f
set_option maxRecDepth 20000 in
set_option maxHeartbeats 4000000 in
theorem c_X6_tellLight {G : Cx} (d : Nat) {μ : Hp} {hi : Int32} {n : Nat} {z : Nat → Int32} {f : Nat → Int64} {K : LT} (hn9 : n < 3) (h0 : μ 0 = some (filC hi)) (h20 : μ 20 = some (arR 5 3 (rowF 21 3))) (h24 : μ 24 = some (arI 3 (llF z))) (hrw : μ (21 + n) = some (arJ 12 f)) (h52 : μ 52 = some (ligL K)) : Ct G (d + 2) 0 0 M_X6_tellLight [.ref 0, .int (nI n)] μ (fun r μ' => r = some (.int (tzB (z n) f)) ∧ ∃ K, μ' = up μ 52 (ligL K) ∧ (¬ tzB (z n) f = 0 → K = telO f)) := by
  refine Ct.ofV (by decide +kernel) (Nat.le_of_ble_eq_true rfl) ?_
  refine v_ls (ls' := [(0, .ref 0), (1, .int (nI n))]) rfl ?_
  refine v_aload_n 0 dX6_tellLight_0 rfl rfl ?_
  refine v_get fl_X6_26 dX6_tellLight_1 h0 rfl ?_
  refine v_iload_n 1 dX6_tellLight_4 rfl rfl ?_
  refine v_iald dX6_tellLight_5 h24 (nI_in' hn9) ?_
  refine v_iconst (v := 5) dX6_tellLight_6 (by first | rfl | decide) ?_
  refine v_icmp_ge (tgt := 12) dX6_tellLight_7 (by decide) (fun hc7 => ?_) (fun hc7 => ?_)
  ·
    refine v_aload_n 0 dX6_tellLight_12 rfl rfl ?_
    refine v_get fl_X6_23 dX6_tellLight_13 h0 rfl ?_
    refine v_iload_n 1 dX6_tellLight_16 rfl rfl ?_
    refine v_aald dX6_tellLight_17 h20 rfl rfl (nI_in' hn9) (by rw [clamp (by omega)]; exact if_pos hn9) ?_
    refine v_astore_n dX6_tellLight_18 rfl (by decide) (fun z_ ez_ => ?_)
    subst ez_
    refine v_ls (ls' := [(2, .ref (21 + n)), (0, .ref 0), (1, .int (nI n))]) rfl ?_
    refine v_aload_n 0 dX6_tellLight_19 rfl rfl ?_
    refine v_iconst (v := 0) dX6_tellLight_20 (by first | rfl | decide) ?_
    refine v_lald dX6_tellLight_21 hrw (nI_in' (k := 0) (by decide)) ?_
    refine v_lconst (v := 0) dX6_tellLight_22 (by first | rfl | decide) ?_
    refine v_ldc2 kc_X6_417 dX6_tellLight_23 ?_
    refine v_callS (c_X6_isFrom (d + 1) ) cs_X6_419 dX6_tellLight_26 rfl rfl (Nat.le_of_ble_eq_true rfl) ?_
    refine rt_k ?_
    refine v_if_eq (tgt := 45) dX6_tellLight_29 (by decide) (fun hc29 => ?_) (fun hc29 => ?_)
    ·
      refine v_iconst (v := 0) dX6_tellLight_45 (by first | rfl | decide) ?_
      refine v_iret dX6_tellLight_46 rfl (by first | rfl | decide | exact nar_b (by first | assumption | rfl)) ?_
      rw [clamp (by omega)] at hc7
      have hz5 : ¬ z n < 5 := (ll_5 z n).mp hc7
      have hE : tzB (z n) f = 0 := by
        simp only [tzB, telB, if_neg hz5, if_pos (show frO (f 0) 0 1000000 = 0 from hc29)]
      refine ⟨by rw [hE], K, (up_id h52).symm, fun q => absurd hE q⟩
    ·
      refine v_aload_n 0 dX6_tellLight_32 rfl rfl ?_
      refine v_iconst (v := 4) dX6_tellLight_33 (by first | rfl | decide) ?_
      refine v_lald dX6_tellLight_34 hrw (nI_in' (k := 4) (by decide)) ?_
      refine v_lconst (v := 0) dX6_tellLight_35 (by first | rfl | decide) ?_
      refine v_ldc2 kc_X6_423 dX6_tellLight_36 ?_
      refine v_callS (c_X6_isFrom (d + 1) ) cs_X6_419 dX6_tellLight_39 rfl rfl (Nat.le_of_ble_eq_true rfl) ?_
      refine rt_k ?_
      refine v_if_ne (tgt := 47) dX6_tellLight_42 (by decide) (fun hc42 => ?_) (fun hc42 => ?_)
      ·
        refine v_aload_n 1 dX6_tellLight_47 rfl rfl ?_
        refine v_get fl_X6_75 dX6_tellLight_48 h0 rfl ?_
        refine v_aload_n 0 dX6_tellLight_51 rfl rfl ?_
        refine v_iconst (v := 0) dX6_tellLight_52 (by first | rfl | decide) ?_
        refine v_lald dX6_tellLight_53 hrw (nI_in' (k := 0) (by decide)) ?_
        refine v_aload_n 0 dX6_tellLight_54 rfl rfl ?_
        refine v_iconst (v := 1) dX6_tellLight_55 (by first | rfl | decide) ?_
        refine v_lald dX6_tellLight_56 hrw (nI_in' (k := 1) (by decide)) ?_
        refine v_aload_n 0 dX6_tellLight_57 rfl rfl ?_
        refine v_iconst (v := 2) dX6_tellLight_58 (by first | rfl | decide) ?_
        refine v_lald dX6_tellLight_59 hrw (nI_in' (k := 2) (by decide)) ?_
        refine v_aload_n 0 dX6_tellLight_60 rfl rfl ?_
        refine v_iconst (v := 3) dX6_tellLight_61 (by first | rfl | decide) ?_
        refine v_lald dX6_tellLight_62 hrw (nI_in' (k := 3) (by decide)) ?_
        refine v_aload_n 0 dX6_tellLight_63 rfl rfl ?_
        refine v_iconst (v := 4) dX6_tellLight_64 (by first | rfl | decide) ?_
        refine v_lald dX6_tellLight_65 hrw (nI_in' (k := 4) (by decide)) ?_
        refine v_l2i dX6_tellLight_66 ?_
        refine v_callV (c_X1_become (d + 1) h52) cs_X6_78 dX6_tellLight_67 h52 rfl rfl (Nat.le_of_ble_eq_true rfl) ?_
        refine rt_k ?_
        refine v_aload_n 1 dX6_tellLight_70 rfl rfl ?_
        refine v_get fl_X6_75 dX6_tellLight_71 (up_n (by decide) h0) rfl ?_
        refine v_callV (c_X1_lower (d + 1) (up_s _ _ _)) cs_X6_249 dX6_tellLight_74 (up_s _ _ _) rfl rfl (Nat.le_of_ble_eq_true rfl) ?_
        refine rt_k ?_
        refine v_hp (up_up _ _ _ _) ?_
        refine v_aload_n 1 dX6_tellLight_77 rfl rfl ?_
        refine v_get fl_X6_75 dX6_tellLight_78 (up_n (by decide) h0) rfl ?_
        refine v_callV (c_X1_mayBe d (up_s _ _ _)) cs_X6_82 dX6_tellLight_81 (up_s _ _ _) rfl rfl (Nat.le_of_ble_eq_true rfl) ?_
        refine rt_k ?_
        refine v_iret dX6_tellLight_84 rfl (nar_b (mayO_b _)) ?_
        rw [clamp (by omega)] at hc7
        have hz5 : ¬ z n < 5 := (ll_5 z n).mp hc7
        have hE : tzB (z n) f = mayO (telO f) := by simp only [tzB, telB, if_neg hz5, if_neg (show ¬ frO (f 0) 0 1000000 = 0 from hc29), if_neg (show ¬ frO (f 4) 0 20 = 0 from hc42)]
        exact ⟨by rw [hE]; rfl, telO f, rfl, fun _ => rfl⟩
      ·
        refine v_iconst (v := 0) dX6_tellLight_45 (by first | rfl | decide) ?_
        refine v_iret dX6_tellLight_46 rfl (by first | rfl | decide | exact nar_b (by first | assumption | rfl)) ?_
        rw [clamp (by omega)] at hc7
        have hz5 : ¬ z n < 5 := (ll_5 z n).mp hc7
        have hE : tzB (z n) f = 0 := by
          simp only [tzB, telB, if_neg hz5, if_neg (show ¬ frO (f 0) 0 1000000 = 0 from hc29), if_pos (show frO (f 4) 0 20 = 0 from hc42)]
        refine ⟨by rw [hE], K, (up_id h52).symm, fun q => absurd hE q⟩
  ·
    refine v_iconst (v := 0) dX6_tellLight_10 (by first | rfl | decide) ?_
    refine v_iret dX6_tellLight_11 rfl (by first | rfl | decide | exact nar_b (by first | assumption | rfl)) ?_
    rw [clamp (by omega)] at hc7
    have hz5 : z n < 5 := by
      by_cases q : z n < 5
      · exact q
      · exact absurd ((ll_5 z n).mpr q) hc7
    have hE : tzB (z n) f = 0 := by
      simp only [tzB, telB, if_pos hz5]
    refine ⟨by rw [hE], K, (up_id h52).symm, fun q => absurd hE q⟩

set_option maxRecDepth 20000 in
set_option maxHeartbeats 4000000 in
theorem c_X6_refind {G : Cx} (d : Nat) {μ : Hp} {hi : Int32} {n : Nat} {z : Nat → Int32} {f : Nat → Int64} {K : LT} (hn9 : n < 3) (h0 : μ 0 = some (filC hi)) (h20 : μ 20 = some (arR 5 3 (rowF 21 3))) (h24 : μ 24 = some (arI 3 (llF z))) (hrw : μ (21 + n) = some (arJ 12 f)) (h52 : μ 52 = some (ligL K)) : Ct G (d + 2) 0 0 M_X6_refind [.ref 0, .int (nI n)] μ (fun r μ' => r = some (.int (rzB (z n) f)) ∧ ∃ K, μ' = up μ 52 (ligL K) ∧ (¬ rzB (z n) f = 0 → K = refO f)) := by
  refine Ct.ofV (by decide +kernel) (Nat.le_of_ble_eq_true rfl) ?_
  refine v_ls (ls' := [(0, .ref 0), (1, .int (nI n))]) rfl ?_
  refine v_aload_n 0 dX6_refind_0 rfl rfl ?_
  refine v_get fl_X6_26 dX6_refind_1 h0 rfl ?_
  refine v_iload_n 1 dX6_refind_4 rfl rfl ?_
  refine v_iald dX6_refind_5 h24 (nI_in' hn9) ?_
  refine v_iconst (v := 5) dX6_refind_6 (by first | rfl | decide) ?_
  refine v_icmp_ge (tgt := 12) dX6_refind_7 (by decide) (fun hc7 => ?_) (fun hc7 => ?_)
  ·
    refine v_aload_n 0 dX6_refind_12 rfl rfl ?_
    refine v_get fl_X6_23 dX6_refind_13 h0 rfl ?_
    refine v_iload_n 1 dX6_refind_16 rfl rfl ?_
    refine v_aald dX6_refind_17 h20 rfl rfl (nI_in' hn9) (by rw [clamp (by omega)]; exact if_pos hn9) ?_
    refine v_astore_n dX6_refind_18 rfl (by decide) (fun z_ ez_ => ?_)
    subst ez_
    refine v_ls (ls' := [(2, .ref (21 + n)), (0, .ref 0), (1, .int (nI n))]) rfl ?_
    refine v_iconst (v := 0) dX6_refind_19 (by first | rfl | decide) ?_
    refine v_istore_n dX6_refind_20 rfl (by decide) (fun x3 e_x3 => ?_)
    refine v_ls (ls' := [(3, .int x3), (2, .ref (21 + n)), (0, .ref 0), (1, .int (nI n))]) rfl ?_
    subst e_x3
    refine v_iload_n 0 dX6_refind_21 rfl rfl ?_
    refine v_iconst (v := 4) dX6_refind_22 (by first | rfl | decide) ?_
    refine v_icmp_ge (tgt := 47) dX6_refind_23 (by decide) (fun hc23 => ?_) (fun hc23 => ?_)
    · exact absurd hc23 (by decide)
    ·
      refine v_aload_n 1 dX6_refind_26 rfl rfl ?_
      refine v_iload_n 0 dX6_refind_27 rfl rfl ?_
      refine v_lald dX6_refind_28 hrw (nI_in' (k := 0) (by decide)) ?_
      refine v_lconst (v := 0) dX6_refind_29 (by first | rfl | decide) ?_
      refine v_ldc2 kc_X6_417 dX6_refind_30 ?_
      refine v_callS (c_X6_isFrom (d + 1) ) cs_X6_419 dX6_refind_33 rfl rfl (Nat.le_of_ble_eq_true rfl) ?_
      refine rt_k ?_
      refine v_if_ne (tgt := 41) dX6_refind_36 (by decide) (fun hk0 => ?_) (fun hk0 => ?_)
      ·
        refine v_iinc (v := 1) 0 dX6_refind_41 rfl rfl (by decide) (fun z_ ez_ => ?_)
        obtain rfl : z_ = 1 := by rw [ez_]; decide
        refine v_ls (ls' := [(3, .int (1)), (2, .ref (21 + n)), (0, .ref 0), (1, .int (nI n))]) rfl ?_
        refine v_goto (tgt := 21) dX6_refind_44 (by decide) ?_
        refine v_iload_n 0 dX6_refind_21 rfl rfl ?_
        refine v_iconst (v := 4) dX6_refind_22 (by first | rfl | decide) ?_
        refine v_icmp_ge (tgt := 47) dX6_refind_23 (by decide) (fun hc23 => ?_) (fun hc23 => ?_)
        · exact absurd hc23 (by decide)
        ·
          refine v_aload_n 1 dX6_refind_26 rfl rfl ?_
          refine v_iload_n 0 dX6_refind_27 rfl rfl ?_
          refine v_lald dX6_refind_28 hrw (nI_in' (k := 1) (by decide)) ?_
          refine v_lconst (v := 0) dX6_refind_29 (by first | rfl | decide) ?_
          refine v_ldc2 kc_X6_417 dX6_refind_30 ?_
          refine v_callS (c_X6_isFrom (d + 1) ) cs_X6_419 dX6_refind_33 rfl rfl (Nat.le_of_ble_eq_true rfl) ?_
          refine rt_k ?_
          refine v_if_ne (tgt := 41) dX6_refind_36 (by decide) (fun hk1 => ?_) (fun hk1 => ?_)
          ·
            refine v_iinc (v := 1) 0 dX6_refind_41 rfl rfl (by decide) (fun z_ ez_ => ?_)
            obtain rfl : z_ = 2 := by rw [ez_]; decide
            refine v_ls (ls' := [(3, .int (2)), (2, .ref (21 + n)), (0, .ref 0), (1, .int (nI n))]) rfl ?_
            refine v_goto (tgt := 21) dX6_refind_44 (by decide) ?_
            refine v_iload_n 0 dX6_refind_21 rfl rfl ?_
            refine v_iconst (v := 4) dX6_refind_22 (by first | rfl | decide) ?_
            refine v_icmp_ge (tgt := 47) dX6_refind_23 (by decide) (fun hc23 => ?_) (fun hc23 => ?_)
            · exact absurd hc23 (by decide)
            ·
              refine v_aload_n 1 dX6_refind_26 rfl rfl ?_
              refine v_iload_n 0 dX6_refind_27 rfl rfl ?_
              refine v_lald dX6_refind_28 hrw (nI_in' (k := 2) (by decide)) ?_
              refine v_lconst (v := 0) dX6_refind_29 (by first | rfl | decide) ?_
              refine v_ldc2 kc_X6_417 dX6_refind_30 ?_
              refine v_callS (c_X6_isFrom (d + 1) ) cs_X6_419 dX6_refind_33 rfl rfl (Nat.le_of_ble_eq_true rfl) ?_
              refine rt_k ?_
              refine v_if_ne (tgt := 41) dX6_refind_36 (by decide) (fun hk2 => ?_) (fun hk2 => ?_)
              ·
                refine v_iinc (v := 1) 0 dX6_refind_41 rfl rfl (by decide) (fun z_ ez_ => ?_)
                obtain rfl : z_ = 3 := by rw [ez_]; decide
                refine v_ls (ls' := [(3, .int (3)), (2, .ref (21 + n)), (0, .ref 0), (1, .int (nI n))]) rfl ?_
                refine v_goto (tgt := 21) dX6_refind_44 (by decide) ?_
                refine v_iload_n 0 dX6_refind_21 rfl rfl ?_
                refine v_iconst (v := 4) dX6_refind_22 (by first | rfl | decide) ?_
                refine v_icmp_ge (tgt := 47) dX6_refind_23 (by decide) (fun hc23 => ?_) (fun hc23 => ?_)
                · exact absurd hc23 (by decide)
                ·
                  refine v_aload_n 1 dX6_refind_26 rfl rfl ?_
                  refine v_iload_n 0 dX6_refind_27 rfl rfl ?_
                  refine v_lald dX6_refind_28 hrw (nI_in' (k := 3) (by decide)) ?_
                  refine v_lconst (v := 0) dX6_refind_29 (by first | rfl | decide) ?_
                  refine v_ldc2 kc_X6_417 dX6_refind_30 ?_
                  refine v_callS (c_X6_isFrom (d + 1) ) cs_X6_419 dX6_refind_33 rfl rfl (Nat.le_of_ble_eq_true rfl) ?_
                  refine rt_k ?_
                  refine v_if_ne (tgt := 41) dX6_refind_36 (by decide) (fun hk3 => ?_) (fun hk3 => ?_)
                  ·
                    refine v_iinc (v := 1) 0 dX6_refind_41 rfl rfl (by decide) (fun z_ ez_ => ?_)
                    obtain rfl : z_ = 4 := by rw [ez_]; decide
                    refine v_ls (ls' := [(3, .int (4)), (2, .ref (21 + n)), (0, .ref 0), (1, .int (nI n))]) rfl ?_
                    refine v_goto (tgt := 21) dX6_refind_44 (by decide) ?_
                    refine v_iload_n 0 dX6_refind_21 rfl rfl ?_
                    refine v_iconst (v := 4) dX6_refind_22 (by first | rfl | decide) ?_
                    refine v_icmp_ge (tgt := 47) dX6_refind_23 (by decide) (fun hc23 => ?_) (fun hc23 => ?_)
                    ·
                      refine v_aload_n 1 dX6_refind_47 rfl rfl ?_
                      refine v_iconst (v := 4) dX6_refind_48 (by first | rfl | decide) ?_
                      refine v_lald dX6_refind_49 hrw (nI_in' (k := 4) (by decide)) ?_
                      refine v_lconst (v := 1) dX6_refind_50 (by first | rfl | decide) ?_
                      refine v_ldc2 kc_X6_423 dX6_refind_51 ?_
                      refine v_callS (c_X6_isFrom (d + 1) ) cs_X6_419 dX6_refind_54 rfl rfl (Nat.le_of_ble_eq_true rfl) ?_
                      refine rt_k ?_
                      refine v_if_ne (tgt := 62) dX6_refind_57 (by decide) (fun hc57 => ?_) (fun hc57 => ?_)
                      ·
                        refine v_aload_n 1 dX6_refind_62 rfl rfl ?_
                        refine v_iconst (v := 0) dX6_refind_63 (by first | rfl | decide) ?_
                        refine v_lald dX6_refind_64 hrw (nI_in' (k := 0) (by decide)) ?_
                        refine v_aload_n 1 dX6_refind_65 rfl rfl ?_
                        refine v_iconst (v := 2) dX6_refind_66 (by first | rfl | decide) ?_
                        refine v_lald dX6_refind_67 hrw (nI_in' (k := 2) (by decide)) ?_
                        refine v_ladd dX6_refind_68 ?_
                        refine v_lstore_n dX6_refind_69 rfl (by decide) (fun x3_5 e_x3_5 => ?_)
                        refine v_ls (ls' := [(3, .long x3_5), (2, .ref (21 + n)), (0, .ref 0), (1, .int (nI n))]) rfl ?_
                        subst e_x3_5
                        refine v_aload_n 2 dX6_refind_70 rfl rfl ?_
                        refine v_get fl_X6_75 dX6_refind_71 h0 rfl ?_
                        refine v_lload_n 0 dX6_refind_74 rfl rfl ?_
                        refine v_aload_n 1 dX6_refind_75 rfl rfl ?_
                        refine v_iconst (v := 0) dX6_refind_76 (by first | rfl | decide) ?_
                        refine v_lald dX6_refind_77 hrw (nI_in' (k := 0) (by decide)) ?_
                        refine v_aload_n 1 dX6_refind_78 rfl rfl ?_
                        refine v_iconst (v := 2) dX6_refind_79 (by first | rfl | decide) ?_
                        refine v_lald dX6_refind_80 hrw (nI_in' (k := 2) (by decide)) ?_
                        refine v_lsub dX6_refind_81 ?_
                        refine v_ldc2 kc_X6_425 dX6_refind_82 ?_
                        refine v_aload_n 1 dX6_refind_85 rfl rfl ?_
                        refine v_iconst (v := 1) dX6_refind_86 (by first | rfl | decide) ?_
                        refine v_lald dX6_refind_87 hrw (nI_in' (k := 1) (by decide)) ?_
                        refine v_lmul dX6_refind_88 ?_
                        refine v_lload_n 0 dX6_refind_89 rfl rfl ?_
                        refine v_lsub dX6_refind_90 ?_
                        refine v_ldc2 kc_X6_425 dX6_refind_91 ?_
                        refine v_aload_n 1 dX6_refind_94 rfl rfl ?_
                        refine v_iconst (v := 3) dX6_refind_95 (by first | rfl | decide) ?_
                        refine v_lald dX6_refind_96 hrw (nI_in' (k := 3) (by decide)) ?_
                        refine v_lmul dX6_refind_97 ?_
                        refine v_lload_n 0 dX6_refind_98 rfl rfl ?_
                        refine v_lsub dX6_refind_99 ?_
                        refine v_aload_n 1 dX6_refind_100 rfl rfl ?_
                        refine v_iconst (v := 4) dX6_refind_101 (by first | rfl | decide) ?_
                        refine v_lald dX6_refind_102 hrw (nI_in' (k := 4) (by decide)) ?_
                        refine v_l2i dX6_refind_103 ?_
                        refine v_callV (c_X1_become (d + 1) h52) cs_X6_78 dX6_refind_104 h52 rfl rfl (Nat.le_of_ble_eq_true rfl) ?_
                        refine rt_k ?_
                        refine v_aload_n 2 dX6_refind_107 rfl rfl ?_
                        refine v_get fl_X6_75 dX6_refind_108 (up_n (by decide) h0) rfl ?_
                        refine v_callV (c_X1_lower (d + 1) (up_s _ _ _)) cs_X6_249 dX6_refind_111 (up_s _ _ _) rfl rfl (Nat.le_of_ble_eq_true rfl) ?_
                        refine rt_k ?_
                        refine v_hp (up_up _ _ _ _) ?_
                        refine v_iconst (v := 1) dX6_refind_114 (by first | rfl | decide) ?_
                        refine v_iret dX6_refind_115 rfl (by first | rfl | decide | exact nar_b (by first | assumption | rfl)) ?_
                        rw [clamp (by omega)] at hc7
                        have hz5 : ¬ z n < 5 := (ll_5 z n).mp hc7
                        have hE : rzB (z n) f = 1 := by
                          simp only [rzB, refB, if_neg hz5, if_neg (show ¬ frO (f 0) 0 1000000 = 0 from hk0), if_neg (show ¬ frO (f 1) 0 1000000 = 0 from hk1), if_neg (show ¬ frO (f 2) 0 1000000 = 0 from hk2), if_neg (show ¬ frO (f 3) 0 1000000 = 0 from hk3)]
                          rcases frO_b (f 4) 1 20 with q | q
                          · exact absurd q hc57
                          · exact q
                        exact ⟨by rw [hE], refO f, rfl, fun _ => rfl⟩
                      ·
                        refine v_iconst (v := 0) dX6_refind_60 (by first | rfl | decide) ?_
                        refine v_iret dX6_refind_61 rfl (by first | rfl | decide | exact nar_b (by first | assumption | rfl)) ?_
                        rw [clamp (by omega)] at hc7
                        have hz5 : ¬ z n < 5 := (ll_5 z n).mp hc7
                        have hE : rzB (z n) f = 0 := by
                          simp only [rzB, refB, if_neg hz5, if_neg (show ¬ frO (f 0) 0 1000000 = 0 from hk0), if_neg (show ¬ frO (f 1) 0 1000000 = 0 from hk1), if_neg (show ¬ frO (f 2) 0 1000000 = 0 from hk2), if_neg (show ¬ frO (f 3) 0 1000000 = 0 from hk3)]
                          exact hc57
                        refine ⟨by rw [hE], K, (up_id h52).symm, fun q => absurd hE q⟩
                    · exact absurd (by decide) hc23
                  ·
                    refine v_iconst (v := 0) dX6_refind_39 (by first | rfl | decide) ?_
                    refine v_iret dX6_refind_40 rfl (by first | rfl | decide | exact nar_b (by first | assumption | rfl)) ?_
                    rw [clamp (by omega)] at hc7
                    have hz5 : ¬ z n < 5 := (ll_5 z n).mp hc7
                    have hE : rzB (z n) f = 0 := by
                      simp only [rzB, refB, if_neg hz5, if_neg (show ¬ frO (f 0) 0 1000000 = 0 from hk0), if_neg (show ¬ frO (f 1) 0 1000000 = 0 from hk1), if_neg (show ¬ frO (f 2) 0 1000000 = 0 from hk2), if_pos (show frO (f 3) 0 1000000 = 0 from hk3)]
                    refine ⟨by rw [hE], K, (up_id h52).symm, fun q => absurd hE q⟩
              ·
                refine v_iconst (v := 0) dX6_refind_39 (by first | rfl | decide) ?_
                refine v_iret dX6_refind_40 rfl (by first | rfl | decide | exact nar_b (by first | assumption | rfl)) ?_
                rw [clamp (by omega)] at hc7
                have hz5 : ¬ z n < 5 := (ll_5 z n).mp hc7
                have hE : rzB (z n) f = 0 := by
                  simp only [rzB, refB, if_neg hz5, if_neg (show ¬ frO (f 0) 0 1000000 = 0 from hk0), if_neg (show ¬ frO (f 1) 0 1000000 = 0 from hk1), if_pos (show frO (f 2) 0 1000000 = 0 from hk2)]
                refine ⟨by rw [hE], K, (up_id h52).symm, fun q => absurd hE q⟩
          ·
            refine v_iconst (v := 0) dX6_refind_39 (by first | rfl | decide) ?_
            refine v_iret dX6_refind_40 rfl (by first | rfl | decide | exact nar_b (by first | assumption | rfl)) ?_
            rw [clamp (by omega)] at hc7
            have hz5 : ¬ z n < 5 := (ll_5 z n).mp hc7
            have hE : rzB (z n) f = 0 := by
              simp only [rzB, refB, if_neg hz5, if_neg (show ¬ frO (f 0) 0 1000000 = 0 from hk0), if_pos (show frO (f 1) 0 1000000 = 0 from hk1)]
            refine ⟨by rw [hE], K, (up_id h52).symm, fun q => absurd hE q⟩
      ·
        refine v_iconst (v := 0) dX6_refind_39 (by first | rfl | decide) ?_
        refine v_iret dX6_refind_40 rfl (by first | rfl | decide | exact nar_b (by first | assumption | rfl)) ?_
        rw [clamp (by omega)] at hc7
        have hz5 : ¬ z n < 5 := (ll_5 z n).mp hc7
        have hE : rzB (z n) f = 0 := by
          simp only [rzB, refB, if_neg hz5, if_pos (show frO (f 0) 0 1000000 = 0 from hk0)]
        refine ⟨by rw [hE], K, (up_id h52).symm, fun q => absurd hE q⟩
  ·
    refine v_iconst (v := 0) dX6_refind_10 (by first | rfl | decide) ?_
    refine v_iret dX6_refind_11 rfl (by first | rfl | decide | exact nar_b (by first | assumption | rfl)) ?_
    rw [clamp (by omega)] at hc7
    have hz5 : z n < 5 := by
      by_cases q : z n < 5
      · exact q
      · exact absurd ((ll_5 z n).mpr q) hc7
    have hE : rzB (z n) f = 0 := by
      simp only [rzB, refB, if_pos hz5]
    refine ⟨by rw [hE], K, (up_id h52).symm, fun q => absurd hE q⟩

set_option maxRecDepth 20000 in
set_option maxHeartbeats 4000000 in
theorem c_X6_refound {G : Cx} (d : Nat) {μ : Hp} {σ : ST} {t : Int32} {w : Int32} (h : Cl σ μ) (hw : Wp (sP σ)) : Ct G (d + 3) 0 0 M_X6_refound [.ref 0, .int t, .int w] μ (Po (σ) (.long (rRefound σ t w)) μ) := by
  refine Ct.ofV (by decide +kernel) (Nat.le_of_ble_eq_true rfl) ?_
  refine v_ls (ls' := [(0, .ref 0), (1, .int t), (2, .int w)]) rfl ?_
  obtain ⟨h0, ⟨p, h1, h2, h3, h4, h5, h6, h7, h8, h9, hpl⟩, ⟨bk, hbk, pk, k11, k12, k13, k14, k15, k16, k17, k18, k19, hpk⟩, ⟨h20, h21, h22, h23, h24⟩, ⟨tt, ops, cd, kk, pp, ff, h25, h26, h27, h28, htp, ht60⟩, ⟨h29, h30, h31⟩, ⟨⟨oc, hoc⟩, h37, h38, h39⟩, hsx, ⟨B0, B1, B2, h50, h51, h52⟩⟩ := id h
  have hl8 := hw.1
  refine v_iload_n 1 dX6_refound_0 rfl rfl ?_
  refine v_callS (c_X6_isList (d + 2) ) cs_X6_276 dX6_refound_1 rfl rfl (Nat.le_of_ble_eq_true rfl) ?_
  refine rt_k ?_
  refine v_if_eq (tgt := 24) dX6_refound_4 (by decide) (fun hc4 => ?_) (fun hc4 => ?_)
  ·
    refine v_ldc2 kc_X6_174 dX6_refound_24 ?_
    refine v_lret dX6_refound_27 rfl ?_
    have hE : rRefound σ t w = VD := by simp only [rRefound, if_pos hc4]
    rw [hE]
    exact ⟨rfl, h, Fo.rf μ⟩
  ·
    obtain ⟨n, hn9, rfl⟩ := in_ix (n := 3) (by decide) hc4
    have hrw : μ (21 + n) = some (arJ 12 (sL σ n)) := Lx.row ⟨h20, h21, h22, h23, h24⟩ hn9
    have hcn : (nI n).toNatClampNeg = n := clamp (by omega)
    refine v_iload_n 2 dX6_refound_7 rfl rfl ?_
    refine v_if_lt (tgt := 24) dX6_refound_8 (by decide) (fun hc8 => ?_) (fun hc8 => ?_)
    ·
      refine v_ldc2 kc_X6_174 dX6_refound_24 ?_
      refine v_lret dX6_refound_27 rfl ?_
      have hE : rRefound σ (nI n) w = VD := by simp only [rRefound, if_neg hc4, if_pos (in_b1 (n := 6) hc8)]
      rw [hE]
      exact ⟨rfl, h, Fo.rf μ⟩
    ·
      refine v_iload_n 2 dX6_refound_11 rfl rfl ?_
      refine v_iconst (v := 5) dX6_refound_12 (by first | rfl | decide) ?_
      refine v_icmp_gt (tgt := 24) dX6_refound_13 (by decide) (fun hc13 => ?_) (fun hc13 => ?_)
      ·
        refine v_ldc2 kc_X6_174 dX6_refound_24 ?_
        refine v_lret dX6_refound_27 rfl ?_
        have hE : rRefound σ (nI n) w = VD := by simp only [rRefound, if_neg hc4, if_pos (show inO w 6 = 0 from in_b3 (n := 5) (by decide) hc13)]
        rw [hE]
        exact ⟨rfl, h, Fo.rf μ⟩
      ·
        refine v_aload_n 0 dX6_refound_16 rfl rfl ?_
        refine v_iload_n 1 dX6_refound_17 rfl rfl ?_
        refine v_callV (c_X6_refind d hn9 h0 h20 h24 hrw h52) cs_X6_288 dX6_refound_18 h0 rfl rfl (Nat.le_of_ble_eq_true rfl) ?_
        rintro _ _ ⟨rfl, K9, rfl, hK9⟩
        refine v_if_ne (tgt := 28) dX6_refound_21 (by decide) (fun hc21 => ?_) (fun hc21 => ?_)
        ·
          obtain rfl := hK9 hc21
          refine v_iload_n 2 dX6_refound_28 rfl rfl ?_
          refine v_iconst (v := 5) dX6_refound_29 (by first | rfl | decide) ?_
          refine v_icmp_ne (tgt := 49) dX6_refound_30 (by decide) (fun hc30 => ?_) (fun hc30 => ?_)
          ·
            refine v_aload_n 0 dX6_refound_49 rfl rfl ?_
            refine v_get fl_X6_75 dX6_refound_50 (up_n (by decide) h0) rfl ?_
            refine v_iload_n 2 dX6_refound_53 rfl rfl ?_
            refine v_callV (c_X1_part (d + 2) (up_s _ _ _)) cs_X6_179 dX6_refound_54 (up_s _ _ _) rfl rfl (Nat.le_of_ble_eq_true rfl) ?_
            refine rt_k ?_
            refine v_lret dX6_refound_57 rfl ?_
            have hg6 : ¬ inO w 6 = 0 := in_ok2 (n := 5) (by decide) hc8 hc13
            have hE : rRefound σ (nI n) w = partO (refO (sL σ n)) w := by
              have q5 : ¬ sZ σ n < 5 := fun q => hc21 (by unfold rzB; rw [if_pos q])
              have q6 : ¬ refB (sL σ n) = 0 := fun q => hc21 (by unfold rzB; rw [if_neg q5]; exact q)
              unfold rRefound
              rw [if_neg hc4, if_neg hg6]
              show (if sZ σ (nI n).toNatClampNeg < 5 then VD else if refB (sL σ (nI n).toNatClampNeg) = 0 then VD else if w = 5 then (mayO (refO (sL σ (nI n).toNatClampNeg))).toInt64 else partO (refO (sL σ (nI n).toNatClampNeg)) w) = _
              rw [hcn, if_neg q5, if_neg q6, if_neg hc30]
            rw [hE]
            exact ⟨rfl, h.told _, fun i hi => by repeat (first | rfl | refine up_n (by omega) ?_)⟩
          ·
            refine v_aload_n 0 dX6_refound_33 rfl rfl ?_
            refine v_get fl_X6_75 dX6_refound_34 (up_n (by decide) h0) rfl ?_
            refine v_callV (c_X1_mayBe (d + 1) (up_s _ _ _)) cs_X6_82 dX6_refound_37 (up_s _ _ _) rfl rfl (Nat.le_of_ble_eq_true rfl) ?_
            refine rt_k ?_
            refine v_if_eq (tgt := 47) dX6_refound_40 (by decide) (fun hc40 => ?_) (fun hc40 => ?_)
            ·
              refine v_lconst (v := 0) dX6_refound_47 (by first | rfl | decide) ?_
              refine v_lret dX6_refound_48 rfl ?_
              have hg6 : ¬ inO w 6 = 0 := in_ok2 (n := 5) (by decide) hc8 hc13
              have hE : rRefound σ (nI n) w = 0 := by
                have q5 : ¬ sZ σ n < 5 := fun q => hc21 (by unfold rzB; rw [if_pos q])
                have q6 : ¬ refB (sL σ n) = 0 := fun q => hc21 (by unfold rzB; rw [if_neg q5]; exact q)
                unfold rRefound
                rw [if_neg hc4, if_neg hg6]
                show (if sZ σ (nI n).toNatClampNeg < 5 then VD else if refB (sL σ (nI n).toNatClampNeg) = 0 then VD else if w = 5 then (mayO (refO (sL σ (nI n).toNatClampNeg))).toInt64 else partO (refO (sL σ (nI n).toNatClampNeg)) w) = _
                rw [hcn, if_neg q5, if_neg q6, if_pos hc30, hc40]; rfl
              rw [hE]
              exact ⟨rfl, h.told _, fun i hi => by repeat (first | rfl | refine up_n (by omega) ?_)⟩
            ·
              refine v_lconst (v := 1) dX6_refound_43 (by first | rfl | decide) ?_
              refine v_goto (tgt := 48) dX6_refound_44 (by decide) ?_
              refine v_lret dX6_refound_48 rfl ?_
              have hg6 : ¬ inO w 6 = 0 := in_ok2 (n := 5) (by decide) hc8 hc13
              have hE : rRefound σ (nI n) w = 1 := by
                have q5 : ¬ sZ σ n < 5 := fun q => hc21 (by unfold rzB; rw [if_pos q])
                have q6 : ¬ refB (sL σ n) = 0 := fun q => hc21 (by unfold rzB; rw [if_neg q5]; exact q)
                unfold rRefound
                rw [if_neg hc4, if_neg hg6]
                show (if sZ σ (nI n).toNatClampNeg < 5 then VD else if refB (sL σ (nI n).toNatClampNeg) = 0 then VD else if w = 5 then (mayO (refO (sL σ (nI n).toNatClampNeg))).toInt64 else partO (refO (sL σ (nI n).toNatClampNeg)) w) = _
                rw [hcn, if_neg q5, if_neg q6, if_pos hc30]
                rcases mayO_b (refO (sL σ n)) with q | q
                · exact absurd q hc40
                · rw [q]; rfl
              rw [hE]
              exact ⟨rfl, h.told _, fun i hi => by repeat (first | rfl | refine up_n (by omega) ?_)⟩
        ·
          refine v_ldc2 kc_X6_174 dX6_refound_24 ?_
          refine v_lret dX6_refound_27 rfl ?_
          have hg6 : ¬ inO w 6 = 0 := in_ok2 (n := 5) (by decide) hc8 hc13
          have hE : rRefound σ (nI n) w = VD := by
            unfold rzB at hc21
            unfold rRefound
            rw [if_neg hc4, if_neg hg6]
            show (if sZ σ (nI n).toNatClampNeg < 5 then VD else if refB (sL σ (nI n).toNatClampNeg) = 0 then VD else _) = VD
            rw [hcn]
            by_cases q : sZ σ n < 5
            · rw [if_pos q]
            · rw [if_neg q] at hc21 ⊢
              rw [if_pos hc21]
          rw [hE]
          exact ⟨rfl, h.told _, fun i hi => by repeat (first | rfl | refine up_n (by omega) ?_)⟩

theorem tls_eq {σ : ST} {n : Nat} (hn : n < 3) : tlsB σ (nI n) = tzB (sZ σ n) (sL σ n) := by
  show (if sZ σ (nI n).toNatClampNeg < 5 then 0 else telB (sL σ (nI n).toNatClampNeg)) = _
  rw [clamp (by omega)]
  rfl
set_option maxRecDepth 20000 in
set_option maxHeartbeats 4000000 in
theorem c_X6_through {G : Cx} (d : Nat) {μ : Hp} {σ : ST} {t : Int32} {w : Int32} (h : Cl σ μ) (hw : Wp (sP σ)) : Ct G (d + 4) 0 0 M_X6_through [.ref 0, .int t, .int w] μ (Po (σ) (.long (rThrough σ t w)) μ) := by
  refine Ct.ofV (by decide +kernel) (Nat.le_of_ble_eq_true rfl) ?_
  refine v_ls (ls' := [(0, .ref 0), (1, .int t), (2, .int w)]) rfl ?_
  obtain ⟨h0, ⟨p, h1, h2, h3, h4, h5, h6, h7, h8, h9, hpl⟩, ⟨bk, hbk, pk, k11, k12, k13, k14, k15, k16, k17, k18, k19, hpk⟩, ⟨h20, h21, h22, h23, h24⟩, ⟨tt, ops, cd, kk, pp, ff, h25, h26, h27, h28, htp, ht60⟩, ⟨h29, h30, h31⟩, ⟨⟨oc, hoc⟩, h37, h38, h39⟩, hsx, ⟨B0, B1, B2, h50, h51, h52⟩⟩ := id h
  have hl8 := hw.1
  refine v_iload_n 1 dX6_through_0 rfl rfl ?_
  refine v_callS (c_X6_isList (d + 3) ) cs_X6_276 dX6_through_1 rfl rfl (Nat.le_of_ble_eq_true rfl) ?_
  refine rt_k ?_
  refine v_if_eq (tgt := 22) dX6_through_4 (by decide) (fun hc4 => ?_) (fun hc4 => ?_)
  ·
    refine v_ldc2 kc_X6_174 dX6_through_22 ?_
    refine v_lret dX6_through_25 rfl ?_
    have hE : rThrough σ t w = VD := by simp only [rThrough, if_pos hc4]
    rw [hE]
    exact ⟨rfl, h, Fo.rf μ⟩
  ·
    obtain ⟨n, hn9, rfl⟩ := in_ix (n := 3) (by decide) hc4
    have hrw : μ (21 + n) = some (arJ 12 (sL σ n)) := Lx.row ⟨h20, h21, h22, h23, h24⟩ hn9
    have hcn : (nI n).toNatClampNeg = n := clamp (by omega)
    refine v_iload_n 2 dX6_through_7 rfl rfl ?_
    refine v_callS (c_X6_isLightPart (d + 3) ) cs_X6_171 dX6_through_8 rfl rfl (Nat.le_of_ble_eq_true rfl) ?_
    refine rt_k ?_
    refine v_if_eq (tgt := 22) dX6_through_11 (by decide) (fun hc11 => ?_) (fun hc11 => ?_)
    ·
      refine v_ldc2 kc_X6_174 dX6_through_22 ?_
      refine v_lret dX6_through_25 rfl ?_
      have hE : rThrough σ (nI n) w = VD := by simp only [rThrough, if_neg hc4, if_pos hc11]
      rw [hE]
      exact ⟨rfl, h, Fo.rf μ⟩
    ·
      refine v_aload_n 0 dX6_through_14 rfl rfl ?_
      refine v_iload_n 1 dX6_through_15 rfl rfl ?_
      refine v_callV (c_X6_tellLight (d + 1) hn9 h0 h20 h24 hrw h52) cs_X6_291 dX6_through_16 h0 rfl rfl (Nat.le_of_ble_eq_true rfl) ?_
      rintro _ _ ⟨rfl, K9, rfl, hK9⟩
      refine v_if_ne (tgt := 26) dX6_through_19 (by decide) (fun hc19 => ?_) (fun hc19 => ?_)
      ·
        obtain rfl := hK9 hc19
        refine v_aload_n 0 dX6_through_26 rfl rfl ?_
        refine v_get fl_X6_12 dX6_through_27 (up_n (by decide) h0) rfl ?_
        refine v_aload_n 0 dX6_through_30 rfl rfl ?_
        refine v_get fl_X6_75 dX6_through_31 (up_n (by decide) h0) rfl ?_
        refine v_iconst (v := 0) dX6_through_34 (by first | rfl | decide) ?_
        refine v_aload_n 0 dX6_through_35 rfl rfl ?_
        refine v_get fl_X6_12 dX6_through_36 (up_n (by decide) h0) rfl ?_
        refine v_get fl_X6_140 dX6_through_39 (up_n (by decide) h1) rfl ?_
        refine v_callV (c_X0_send d (i := 0) (b := (sP σ).length) (up_n (by decide) h1) (up_n (by decide) h3) hpl hl8 (by decide) (by decide) (up_s _ _ _) (by omega) (by omega)) cs_X6_242 dX6_through_42 (up_n (by decide) h1) rfl rfl (Nat.le_of_ble_eq_true rfl) ?_
        refine rt_k ?_
        rw [List.take_length]
        refine v_hp (up_up _ _ _ _) ?_
        refine v_aload_n 0 dX6_through_45 rfl rfl ?_
        refine v_get fl_X6_75 dX6_through_46 (up_n (by decide) h0) rfl ?_
        refine v_iload_n 2 dX6_through_49 rfl rfl ?_
        refine v_callV (c_X1_part (d + 3) (up_s _ _ _)) cs_X6_179 dX6_through_50 (up_s _ _ _) rfl rfl (Nat.le_of_ble_eq_true rfl) ?_
        refine rt_k ?_
        refine v_lret dX6_through_53 rfl ?_
        exact ⟨by simp only [rThrough, if_neg hc4, if_neg hc11, tls_eq hn9, if_neg hc19, lAt, hcn]; rfl, h.told _, fun i hi => by repeat (first | rfl | refine up_n (by omega) ?_)⟩
      ·
        refine v_ldc2 kc_X6_174 dX6_through_22 ?_
        refine v_lret dX6_through_25 rfl ?_
        have hE : rThrough σ (nI n) w = VD := by simp only [rThrough, if_neg hc4, if_neg hc11, tls_eq hn9, if_pos hc19]
        rw [hE]
        exact ⟨rfl, h.told _, fun i hi => by repeat (first | rfl | refine up_n (by omega) ?_)⟩

theorem take_rev {l : List Int32} {m : Nat} (h : m < l.length) : (l.take (m + 1)).reverse.map bakC = bakC (l.getD m 0) :: (l.take m).reverse.map bakC := by
  have e : l.take (m + 1) = l.take m ++ [l.getD m 0] := by
    rw [List.take_add_one, List.getElem?_eq_getElem h, List.getD_eq_getElem?_getD, List.getElem?_eq_getElem h]
    rfl
  rw [e, List.reverse_append, List.map_append]
  rfl
set_option maxRecDepth 20000 in
set_option maxHeartbeats 4000000 in
theorem bef_loop {G : Cx} (d : Nat) {σ : ST} {μ0 : Hp} (hw : Wp (sP σ)) {t w : Int32} : ∀ (m : Nat) (x3 : Int32) (L : LT) (μ : Hp), x3 = nI m - 1 → m ≤ (sP σ).length → Cl σ μ → Fo μ μ0 → μ 52 = some (ligL L) → V G M_X6_before (d + 4) 0 0 (Po σ (.long (partO (runO (((sP σ).take m).reverse.map bakC) L) w)) μ0) 46 [(3, .int x3), (0, .ref 0), (1, .int t), (2, .int w)] [] (μ) := by
  intro m
  induction m with
  | zero =>
    intro x3 L μ hx hm h hF h52b
    obtain ⟨h0, ⟨p, h1, h2, h3, h4, h5, h6, h7, h8, h9, hpl⟩, ⟨bk, hbk, pk, k11, k12, k13, k14, k15, k16, k17, k18, k19, hpk⟩, ⟨h20, h21, h22, h23, h24⟩, ⟨tt, ops, cd, kk, pp, ff, h25, h26, h27, h28, htp, ht60⟩, ⟨h29, h30, h31⟩, ⟨⟨oc, hoc⟩, h37, h38, h39⟩, hsx, ⟨B0, B1, B2, h50, h51, h52⟩⟩ := id h
    have hl8 := hw.1
    refine v_iload_n 0 dX6_before_46 rfl rfl ?_
    refine v_if_lt (tgt := 75) dX6_before_47 (by decide) (fun hc47 => ?_) (fun hc47 => ?_)
    ·
      refine v_aload_n 1 dX6_before_75 rfl rfl ?_
      refine v_get fl_X6_75 dX6_before_76 h0 rfl ?_
      refine v_iload_n 3 dX6_before_79 rfl rfl ?_
      refine v_callV (c_X1_part (d + 3) h52b) cs_X6_179 dX6_before_80 h52b rfl rfl (Nat.le_of_ble_eq_true rfl) ?_
      refine rt_k ?_
      refine v_lret dX6_before_83 rfl ?_
      exact ⟨rfl, h, hF⟩
    · exact absurd (by rw [hx]; decide) hc47
  | succ m ih =>
    intro x3 L μ hx hm h hF h52b
    obtain ⟨h0, ⟨p, h1, h2, h3, h4, h5, h6, h7, h8, h9, hpl⟩, ⟨bk, hbk, pk, k11, k12, k13, k14, k15, k16, k17, k18, k19, hpk⟩, ⟨h20, h21, h22, h23, h24⟩, ⟨tt, ops, cd, kk, pp, ff, h25, h26, h27, h28, htp, ht60⟩, ⟨h29, h30, h31⟩, ⟨⟨oc, hoc⟩, h37, h38, h39⟩, hsx, ⟨B0, B1, B2, h50, h51, h52⟩⟩ := id h
    have hl8 := hw.1
    refine v_iload_n 0 dX6_before_46 rfl rfl ?_
    refine v_if_lt (tgt := 75) dX6_before_47 (by decide) (fun hc47 => ?_) (fun hc47 => ?_)
    · rw [hx, nI_pred] at hc47
      exact absurd hc47 (nI_pos (by omega))
    ·
      have hx3 : x3 = nI m := by rw [hx, nI_pred]
      refine v_aload_n 1 dX6_before_50 rfl rfl ?_
      refine v_get fl_X6_75 dX6_before_51 h0 rfl ?_
      refine v_aload_n 1 dX6_before_54 rfl rfl ?_
      refine v_get fl_X6_12 dX6_before_55 h0 rfl ?_
      refine v_get fl_X6_118 dX6_before_58 h1 rfl ?_
      refine v_iload_n 0 dX6_before_61 rfl rfl ?_
      refine v_iald dX6_before_62 h3 (by rw [hx3]; exact nI_in' (by omega)) ?_
      rw [hx3, clamp (show m < 2 ^ 31 by omega), ← getD_at hpl (show m < (sP σ).length by omega)]
      refine v_callS (c_X6_backwards (d + 1) ) cs_X6_297 dX6_before_63 rfl rfl (Nat.le_of_ble_eq_true rfl) ?_
      refine rt_k ?_
      refine v_callV (c_X1_pass (d + 1) h52b) cs_X6_252 dX6_before_66 h52b rfl rfl (Nat.le_of_ble_eq_true rfl) ?_
      refine rt_k ?_
      refine v_iinc (v := -1) 0 dX6_before_69 rfl rfl (by decide) (fun z e_z => ?_)
      refine v_ls (ls' := [(3, .int z), (0, .ref 0), (1, .int t), (2, .int w)]) rfl ?_
      refine v_goto (tgt := 46) dX6_before_72 (by decide) ?_
      rw [take_rev (show m < (sP σ).length by omega), runO_cons]
      refine ih z _ _ ?_ (by omega) (h.told _) (hF.up (by decide) _) (up_s _ _ _)
      rw [e_z]
      exact Int32.sub_eq_add_neg .. |>.symm
      

set_option maxRecDepth 20000 in
set_option maxHeartbeats 4000000 in
theorem c_X6_before {G : Cx} (d : Nat) {μ : Hp} {σ : ST} {t : Int32} {w : Int32} (h : Cl σ μ) (hw : Wp (sP σ)) : Ct G (d + 4) 0 0 M_X6_before [.ref 0, .int t, .int w] μ (Po (σ) (.long (rBefore σ t w)) μ) := by
  refine Ct.ofV (by decide +kernel) (Nat.le_of_ble_eq_true rfl) ?_
  refine v_ls (ls' := [(0, .ref 0), (1, .int t), (2, .int w)]) rfl ?_
  obtain ⟨h0, ⟨p, h1, h2, h3, h4, h5, h6, h7, h8, h9, hpl⟩, ⟨bk, hbk, pk, k11, k12, k13, k14, k15, k16, k17, k18, k19, hpk⟩, ⟨h20, h21, h22, h23, h24⟩, ⟨tt, ops, cd, kk, pp, ff, h25, h26, h27, h28, htp, ht60⟩, ⟨h29, h30, h31⟩, ⟨⟨oc, hoc⟩, h37, h38, h39⟩, hsx, ⟨B0, B1, B2, h50, h51, h52⟩⟩ := id h
  have hl8 := hw.1
  refine v_iload_n 1 dX6_before_0 rfl rfl ?_
  refine v_callS (c_X6_isList (d + 3) ) cs_X6_276 dX6_before_1 rfl rfl (Nat.le_of_ble_eq_true rfl) ?_
  refine rt_k ?_
  refine v_if_eq (tgt := 32) dX6_before_4 (by decide) (fun hc4 => ?_) (fun hc4 => ?_)
  ·
    refine v_ldc2 kc_X6_174 dX6_before_32 ?_
    refine v_lret dX6_before_35 rfl ?_
    have hE : rBefore σ t w = VD := by simp only [rBefore, if_pos hc4]
    rw [hE]
    exact ⟨rfl, h, Fo.rf μ⟩
  ·
    obtain ⟨n, hn9, rfl⟩ := in_ix (n := 3) (by decide) hc4
    have hrw : μ (21 + n) = some (arJ 12 (sL σ n)) := Lx.row ⟨h20, h21, h22, h23, h24⟩ hn9
    have hcn : (nI n).toNatClampNeg = n := clamp (by omega)
    refine v_iload_n 2 dX6_before_7 rfl rfl ?_
    refine v_callS (c_X6_isLightPart (d + 3) ) cs_X6_171 dX6_before_8 rfl rfl (Nat.le_of_ble_eq_true rfl) ?_
    refine rt_k ?_
    refine v_if_eq (tgt := 32) dX6_before_11 (by decide) (fun hc11 => ?_) (fun hc11 => ?_)
    ·
      refine v_ldc2 kc_X6_174 dX6_before_32 ?_
      refine v_lret dX6_before_35 rfl ?_
      have hE : rBefore σ (nI n) w = VD := by simp only [rBefore, if_neg hc4, if_pos hc11]
      rw [hE]
      exact ⟨rfl, h, Fo.rf μ⟩
    ·
      refine v_aload_n 0 dX6_before_14 rfl rfl ?_
      refine v_iload_n 1 dX6_before_15 rfl rfl ?_
      refine v_callV (c_X6_tellLight (d + 1) hn9 h0 h20 h24 hrw h52) cs_X6_291 dX6_before_16 h0 rfl rfl (Nat.le_of_ble_eq_true rfl) ?_
      rintro _ _ ⟨rfl, K9, rfl, hK9⟩
      refine v_if_eq (tgt := 32) dX6_before_19 (by decide) (fun hc19 => ?_) (fun hc19 => ?_)
      ·
        refine v_ldc2 kc_X6_174 dX6_before_32 ?_
        refine v_lret dX6_before_35 rfl ?_
        have hE : rBefore σ (nI n) w = VD := by simp only [rBefore, if_neg hc4, if_neg hc11, tls_eq hn9, if_pos hc19]
        rw [hE]
        exact ⟨rfl, h.told _, fun i hi => by repeat (first | rfl | refine up_n (by omega) ?_)⟩
      ·
        refine v_aload_n 0 dX6_before_22 rfl rfl ?_
        refine v_get fl_X6_12 dX6_before_23 (up_n (by decide) h0) rfl ?_
        refine v_callV (c_X0_canGoBack (d + 2) (up_n (by decide) h1) (up_n (by decide) h3) hpl hl8) cs_X6_294 dX6_before_26 (up_n (by decide) h1) rfl rfl (Nat.le_of_ble_eq_true rfl) ?_
        refine rt_k ?_
        refine v_if_ne (tgt := 36) dX6_before_29 (by decide) (fun hc29 => ?_) (fun hc29 => ?_)
        ·
          obtain rfl := hK9 hc19
          have hbk9 : ∀ c ∈ sP σ, kdO c = 0 ∨ prO (kdO c) ≠ 0 := by
            by_cases q : ∀ c ∈ sP σ, kdO c = 0 ∨ prO (kdO c) ≠ 0
            · exact q
            · exact absurd (if_neg q) hc29
          refine v_aload_n 0 dX6_before_36 rfl rfl ?_
          refine v_get fl_X6_12 dX6_before_37 (up_n (by decide) h0) rfl ?_
          refine v_get fl_X6_140 dX6_before_40 (up_n (by decide) h1) rfl ?_
          refine v_iconst (v := 1) dX6_before_43 (by first | rfl | decide) ?_
          refine v_isub dX6_before_44 ?_
          refine v_istore_n dX6_before_45 rfl (by decide) (fun x3 e_x3 => ?_)
          refine v_ls (ls' := [(3, .int x3), (0, .ref 0), (1, .int (nI n)), (2, .int w)]) rfl ?_
          have hE : rBefore σ (nI n) w = partO (runO (((sP σ).take (sP σ).length).reverse.map bakC) (telO (sL σ n))) w := by
            simp only [rBefore, if_neg hc4, if_neg hc11, tls_eq hn9, if_neg hc19, if_pos hbk9, lAt, hcn, bakL, List.take_length]
          rw [hE]
          exact bef_loop d hw (sP σ).length x3 (telO (sL σ n)) _ e_x3 (Nat.le_refl _) (h.told _) ((Fo.rf μ).up (by decide) _) (up_s _ _ _)
          
        ·
          refine v_ldc2 kc_X6_174 dX6_before_32 ?_
          refine v_lret dX6_before_35 rfl ?_
          have hbk9 : ¬ ∀ c ∈ sP σ, kdO c = 0 ∨ prO (kdO c) ≠ 0 := fun q => by rw [if_pos q] at hc29; exact absurd hc29 (by decide)
          have hE : rBefore σ (nI n) w = VD := by simp only [rBefore, if_neg hc4, if_neg hc11, tls_eq hn9, if_neg hc19, if_neg hbk9]
          rw [hE]
          exact ⟨rfl, h.told _, fun i hi => by repeat (first | rfl | refine up_n (by omega) ?_)⟩

