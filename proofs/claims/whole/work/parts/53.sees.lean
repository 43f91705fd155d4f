theorem m5 (n : Nat) : (5 : Int32) * nI n = nI (5 * n) := by rw [show (5 : Int32) = nI 5 from rfl, pk_mul]
theorem alk_row {s : Nat → Int64} {j : Nat} {L : LT} : (¬ alkO s (5 * j) (lvO L) 0 = 0) ↔ rowIs s j L := by
  unfold alkO
  by_cases q : s (5 * j) = lvO L 0 ∧ s (5 * j + 1) = lvO L (0 + 1) ∧ s (5 * j + 2) = lvO L (0 + 2) ∧ s (5 * j + 3) = lvO L (0 + 3) ∧ s (5 * j + 4) = lvO L (0 + 4)
  · rw [if_pos q]
    exact ⟨fun _ => q, fun _ => by decide⟩
  · rw [if_neg q]
    exact ⟨fun h => absurd rfl h, fun h => absurd h q⟩
theorem up_sw4 {μ : Hp} {a b c : Nat} {x y y' z : va_E} (h : b ≠ c) : up (up (up (up μ a x) b y) c z) b y' = up (up (up μ a x) b y') c z := by
  funext i
  unfold up
  by_cases e : i = b
  · subst e
    simp [h]
  · simp [e]
theorem upd_01 (t : Nat → Int32) (k : Nat) : upd (upd t k 0) k (upd t k 0 k + 1) = upd t k 1 := by
  funext x
  have e : upd t k 0 k = 0 := by show (if k = k then _ else _) = _; rw [if_pos rfl]
  rw [e]
  show (if x = k then _ else (if x = k then _ else _)) = (if x = k then _ else _)
  by_cases q : x = k
  · rw [if_pos q, if_pos q]; rfl
  · rw [if_neg q, if_neg q, if_neg q]
set_option maxRecDepth 20000 in
set_option maxHeartbeats 4000000 in
theorem sees_loop {G : Cx} (d : Nat) {μ : Hp} {s : Nat → Int64} {t : Nat → Int32} {L : LT} {ls : List (LT × Nat)} {m lr mr hr le at9 fa op tr sg hm hi : Int32} {co wh : Int64} (h60 : μ 60 = some (modC m co wh (nI ls.length) lr mr hr le at9 fa op tr sg hm hi)) (h63 : μ 63 = some (mlg L)) (h65 : μ 65 = some (arJ 600 s)) (h66 : μ 66 = some (arI 120 t)) (hs : Sn ls s t) (hlen : ls.length < 120) : ∀ (k9 : Nat) (j : Nat), j + k9 = ls.length → (∀ i K k, i < j → ls[i]? = some (K, k) → K ≠ L) → V G M_X7_sees (d + 1) 0 0 (fun r μ' => r = none ∧ ∃ s' t', μ' = up (up (up μ 65 (arJ 600 s')) 66 (arI 120 t')) 60 (modC m co wh (nI (remO L ls).length) lr mr hr le at9 fa op tr sg hm hi) ∧ Sn (remO L ls) s' t') 2 [(1, .int (nI j)), (0, .ref 60)] [] (μ) := by
  intro k9
  induction k9 with
  | zero =>
    intro j hj hne
    refine v_iload_n 0 dX7_sees_2 rfl rfl ?_
    refine v_aload_n 1 dX7_sees_3 rfl rfl ?_
    refine v_get fl_X7_235 dX7_sees_4 h60 rfl ?_
    refine v_icmp_ge (tgt := 34) dX7_sees_7 (by decide) (fun hc7 => ?_) (fun hc7 => ?_)
    ·
      refine v_iload_n 0 dX7_sees_34 rfl rfl ?_
      refine v_aload_n 1 dX7_sees_35 rfl rfl ?_
      refine v_get fl_X7_235 dX7_sees_36 h60 rfl ?_
      refine v_icmp_ne (tgt := 75) dX7_sees_39 (by decide) (fun hc39 => ?_) (fun hc39 => ?_)
      · exact absurd (congrArg nI (show j = ls.length by omega)) hc39
      ·
        refine v_aload_n 1 dX7_sees_42 rfl rfl ?_
        refine v_get fl_X7_21 dX7_sees_43 h60 rfl ?_
        refine v_iconst (v := 0) dX7_sees_46 (by first | rfl | decide) ?_
        refine v_aload_n 1 dX7_sees_47 rfl rfl ?_
        refine v_get fl_X7_27 dX7_sees_48 h60 rfl ?_
        refine v_iconst (v := 5) dX7_sees_51 (by first | rfl | decide) ?_
        refine v_iload_n 0 dX7_sees_52 rfl rfl ?_
        refine v_imul dX7_sees_53 ?_
        refine v_iconst (v := 5) dX7_sees_54 (by first | rfl | decide) ?_
        rw [m5]
        refine v_copyl cs_X7_140 dX7_sees_55 h63 h65 rfl rfl (by decide) (nI_pos (by omega)) (by decide) (by decide) (by rw [clamp (by omega)]; show 5 * j + 5 ≤ 600; omega) (fun i _ => rfl) (Nat.le_of_ble_eq_true rfl) ?_
        skip
        refine v_aload_n 1 dX7_sees_58 rfl rfl ?_
        refine v_get fl_X7_30 dX7_sees_59 (up_n (by decide) h60) rfl ?_
        refine v_iload_n 0 dX7_sees_62 rfl rfl ?_
        refine v_iconst (v := 0) dX7_sees_63 (by first | rfl | decide) ?_
        refine v_iast dX7_sees_64 (up_n (by decide) h66) (nI_in' (by omega)) ?_
        refine v_aload_n 1 dX7_sees_65 rfl rfl ?_
        refine v_dup dX7_sees_66 rfl ?_
        refine v_get fl_X7_235 dX7_sees_67 (up_n (by decide) (up_n (by decide) h60)) rfl ?_
        refine v_iconst (v := 1) dX7_sees_70 (by first | rfl | decide) ?_
        refine v_iadd dX7_sees_71 ?_
        refine v_put fp_X7_235 dX7_sees_72 (up_n (by decide) (up_n (by decide) h60)) (Nat.le_of_ble_eq_true rfl) (by first | rfl | decide) (by first | rfl | decide) ?_
        refine v_aload_n 1 dX7_sees_75 rfl rfl ?_
        refine v_get fl_X7_30 dX7_sees_76 (up_s _ _ _) rfl ?_
        refine v_iload_n 0 dX7_sees_79 rfl rfl ?_
        refine v_dup2_11 dX7_sees_80 rfl rfl ?_
        refine v_iald dX7_sees_81 (up_n (by decide) (up_s _ _ _)) (nI_in' (by omega)) ?_
        refine v_iconst (v := 1) dX7_sees_82 (by first | rfl | decide) ?_
        refine v_iadd dX7_sees_83 ?_
        refine v_iast dX7_sees_84 (up_n (by decide) (up_s _ _ _)) (nI_in' (by omega)) ?_
        refine v_vret dX7_sees_85 rfl ?_
        have hrem := remO_app (ls := ls) (L := L) (fun i K k hi => hne i K k (by have := (List.getElem?_eq_some_iff.mp hi).1; omega) hi)
        obtain rfl : j = ls.length := by omega
        refine ⟨rfl, va_cpy (lvO L) s 0 (5 * ls.length) 5, upd t ls.length 1, ?_, ?_⟩
        · rw [hrem, List.length_append, List.length_singleton, clamp (show 5 * ls.length < 2 ^ 31 by omega), clamp (show ls.length < 2 ^ 31 by omega), ← upd_01, nI_1]
          exact up_sw4 (b := 66) (c := 60) (by decide)
        · rw [hrem]
          refine hs.add (fun x hx => ?_) ?_
          · unfold va_cpy
            rw [if_neg (by omega)]
          · refine ⟨?_, ?_, ?_, ?_, ?_⟩ <;> unfold va_cpy <;> rw [if_pos (by omega)] <;> simp <;> rfl
    · exact absurd ((nI_leI (by omega) (by omega)).mpr (by omega)) hc7
  | succ k9 ih =>
    intro j hj hne
    refine v_iload_n 0 dX7_sees_2 rfl rfl ?_
    refine v_aload_n 1 dX7_sees_3 rfl rfl ?_
    refine v_get fl_X7_235 dX7_sees_4 h60 rfl ?_
    refine v_icmp_ge (tgt := 34) dX7_sees_7 (by decide) (fun hc7 => ?_) (fun hc7 => ?_)
    · have := (nI_leI (by omega) (by omega)).mp hc7
      omega
    ·
      refine v_aload_n 1 dX7_sees_10 rfl rfl ?_
      refine v_get fl_X7_27 dX7_sees_11 h60 rfl ?_
      refine v_iconst (v := 5) dX7_sees_14 (by first | rfl | decide) ?_
      refine v_iload_n 0 dX7_sees_15 rfl rfl ?_
      refine v_imul dX7_sees_16 ?_
      refine v_aload_n 1 dX7_sees_17 rfl rfl ?_
      refine v_get fl_X7_21 dX7_sees_18 h60 rfl ?_
      refine v_iconst (v := 0) dX7_sees_21 (by first | rfl | decide) ?_
      rw [m5]
      refine v_callS (c_X7_areAlike d (I := 5 * j) (J := 0) h65 h63 (by omega) (by omega) (by omega) (by omega)) cs_X7_238 dX7_sees_22 rfl rfl (Nat.le_of_ble_eq_true rfl) ?_
      refine rt_k ?_
      refine v_if_ne (tgt := 34) dX7_sees_25 (by decide) (fun hc25 => ?_) (fun hc25 => ?_)
      ·
        refine v_iload_n 0 dX7_sees_34 rfl rfl ?_
        refine v_aload_n 1 dX7_sees_35 rfl rfl ?_
        refine v_get fl_X7_235 dX7_sees_36 h60 rfl ?_
        refine v_icmp_ne (tgt := 75) dX7_sees_39 (by decide) (fun hc39 => ?_) (fun hc39 => ?_)
        ·
          refine v_aload_n 1 dX7_sees_75 rfl rfl ?_
          refine v_get fl_X7_30 dX7_sees_76 h60 rfl ?_
          refine v_iload_n 0 dX7_sees_79 rfl rfl ?_
          refine v_dup2_11 dX7_sees_80 rfl rfl ?_
          refine v_iald dX7_sees_81 h66 (nI_in' (by omega)) ?_
          refine v_iconst (v := 1) dX7_sees_82 (by first | rfl | decide) ?_
          refine v_iadd dX7_sees_83 ?_
          refine v_iast dX7_sees_84 h66 (nI_in' (by omega)) ?_
          refine v_vret dX7_sees_85 rfl ?_
          have hrow : rowIs s j L := alk_row.mp hc25
          have hjj : ls[j]? = some (ls[j].1, ls[j].2) := List.getElem?_eq_getElem (by omega)
          have hk := rowIs_inj (hs j _ _ hjj).1 hrow
          rw [hk] at hjj
          have hrem := remO_set hjj (fun i K k hi hik => hne i K k hi hik)
          refine ⟨rfl, s, upd t j (t j + 1), ?_, ?_⟩
          · rw [up_id h65, hrem, List.length_set, clamp (by omega), up_id (up_n (by decide) h60)]
          · rw [hrem]; exact hs.inc hjj
        · have := (nI_eq (by omega) (by omega)).mp hc39
          omega
      ·
        have hrow : ¬ rowIs s j L := fun q => alk_row.mpr q hc25
        refine v_iinc (v := 1) 0 dX7_sees_28 rfl rfl (by decide) (fun z e_z => ?_)
        refine v_ls (ls' := [(1, .int z), (0, .ref 60)]) rfl ?_
        rw [nI_1] at e_z
        subst e_z
        refine v_goto (tgt := 2) dX7_sees_31 (by decide) ?_
        have hjj : ls[j]? = some (ls[j].1, ls[j].2) := List.getElem?_eq_getElem (by omega)
        exact ih (j + 1) (by omega) (fun i K k hi hik => by
          by_cases e : i = j
          · subst e
            have := hjj.symm.trans hik
            simp only [Option.some.injEq, Prod.mk.injEq] at this
            intro hKL
            apply hrow
            rw [← hKL, ← this.1]
            exact (hs i _ _ hjj).1
          · exact hne i K k (by omega) hik)
        

set_option maxRecDepth 20000 in
set_option maxHeartbeats 4000000 in
theorem c_X7_sees {G : Cx} (d : Nat) {μ : Hp} {s : Nat → Int64} {t : Nat → Int32} {L : LT} {ls : List (LT × Nat)} {m lr mr hr le at9 fa op tr sg hm hi : Int32} {co wh : Int64} (h60 : μ 60 = some (modC m co wh (nI ls.length) lr mr hr le at9 fa op tr sg hm hi)) (h63 : μ 63 = some (mlg L)) (h65 : μ 65 = some (arJ 600 s)) (h66 : μ 66 = some (arI 120 t)) (hs : Sn ls s t) (hlen : ls.length < 120) : Ct G (d + 1) 0 0 M_X7_sees [.ref 60] μ (fun r μ' => r = none ∧ ∃ s' t', μ' = up (up (up μ 65 (arJ 600 s')) 66 (arI 120 t')) 60 (modC m co wh (nI (remO L ls).length) lr mr hr le at9 fa op tr sg hm hi) ∧ Sn (remO L ls) s' t') := by
  refine Ct.ofV (by decide +kernel) (Nat.le_of_ble_eq_true rfl) ?_
  refine v_ls (ls' := [(0, .ref 60)]) rfl ?_
  refine v_iconst (v := 0) dX7_sees_0 (by first | rfl | decide) ?_
  refine v_istore_n dX7_sees_1 rfl (by decide) (fun x1 e_x1 => ?_)
  refine v_ls (ls' := [(1, .int x1), (0, .ref 60)]) rfl ?_
  subst e_x1
  exact sees_loop d h60 h63 h65 h66 hs hlen ls.length 0 (by omega) (fun i _ _ hi => by omega)
  

