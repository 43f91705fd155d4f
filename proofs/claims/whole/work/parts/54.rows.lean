def rowD (ρ : List Nat) (d : Int32) : Int32 := ρ.foldl (fun d i => 10 * d + nI i + 1) d
def rowL (l : List Int32) (ρ : List Nat) (L : LT) : LT := ρ.foldl (fun L i => passO (l.getD i 0) L) L
theorem drop_n {ρ : List Nat} {j : Nat} (h : j < ρ.length) : ρ.drop j = ρ.getD j 0 :: ρ.drop (j + 1) := by
  have e : ρ.getD j 0 = ρ[j] := by simp [List.getD, List.getElem?_eq_getElem h]
  rw [e]
  exact List.drop_eq_getElem_cons h
set_option maxRecDepth 20000 in
set_option maxHeartbeats 4000000 in
theorem gor_loop {G : Cx} (d : Nat) {μ : Hp} {Q : Option Value → Hp → Prop} {l : List Int32} {p ro : Nat → Int32} {ρ : List Nat} {a9 u9 : Int32} {un lr mr hr le at9 fa op tr sg hm hi : Int32} {co wh : Int64} (h60 : μ 60 = some (modC (nI l.length) co wh un lr mr hr le at9 fa op tr sg hm hi)) (h62 : μ 62 = some (arI 8 p)) (h64 : μ 64 = some (arI 5 ro)) (hpl : Pl l p) (hw : Wp l) (h5 : l.length ≤ 5) (hl9 : ρ.length = l.length) (hro : ∀ k, k < ρ.length → ro k = nI (ρ.getD k 0) ∧ ρ.getD k 0 < l.length) : ∀ (k9 : Nat) (j : Nat) (dg : Int32) (L : LT), j + k9 = l.length → Eb (5 * j + 20) L → V G M_X7_goesOrders (d + 4) 0 0 Q 114 [(4, .int (nI l.length)), (3, .int (rowD (ρ.drop j) dg)), (0, .ref 60), (1, .int a9), (2, .int u9)] [] (up μ 63 (mlg (rowL l (ρ.drop j) L))) → V G M_X7_goesOrders (d + 4) 0 0 (Q) 65 [(4, .int (nI j)), (3, .int dg), (0, .ref 60), (1, .int a9), (2, .int u9)] [] (up μ 63 (mlg L)) := by
  intro k9
  induction k9 with
  | zero =>
    intro j dg L hj he HK
    refine v_iload 0 dX7_goesOrders_65 rfl ?_
    refine v_aload_n 2 dX7_goesOrders_67 rfl rfl ?_
    refine v_get fl_X7_91 dX7_goesOrders_68 (up_n (by decide) h60) rfl ?_
    refine v_icmp_ge (tgt := 114) dX7_goesOrders_71 (by decide) (fun hc71 => ?_) (fun hc71 => ?_)
    ·
      rw [List.drop_of_length_le (show ρ.length ≤ j by omega)] at HK
      obtain rfl : j = l.length := by omega
      exact HK
    · exact absurd ((nI_leI (by omega) (by omega)).mpr (by omega)) hc71
  | succ k9 ih =>
    intro j dg L hj he HK
    refine v_iload 0 dX7_goesOrders_65 rfl ?_
    refine v_aload_n 2 dX7_goesOrders_67 rfl rfl ?_
    refine v_get fl_X7_91 dX7_goesOrders_68 (up_n (by decide) h60) rfl ?_
    refine v_icmp_ge (tgt := 114) dX7_goesOrders_71 (by decide) (fun hc71 => ?_) (fun hc71 => ?_)
    · have := (nI_leI (by omega) (by omega)).mp hc71
      omega
    ·
      obtain ⟨hr1, hr2⟩ := hro j (by omega)
      refine v_bipush (v := 10) dX7_goesOrders_74 (by first | rfl | decide) ?_
      refine v_iload_n 1 dX7_goesOrders_76 rfl rfl ?_
      refine v_imul dX7_goesOrders_77 ?_
      refine v_aload_n 2 dX7_goesOrders_78 rfl rfl ?_
      refine v_get fl_X7_24 dX7_goesOrders_79 (up_n (by decide) h60) rfl ?_
      refine v_iload 0 dX7_goesOrders_82 rfl ?_
      refine v_iald dX7_goesOrders_84 (up_n (by decide) h64) (nI_in' (by omega)) ?_
      refine v_iadd dX7_goesOrders_85 ?_
      refine v_iconst (v := 1) dX7_goesOrders_86 (by first | rfl | decide) ?_
      refine v_iadd dX7_goesOrders_87 ?_
      rw [clamp (show j < 2 ^ 31 by omega), hr1]
      refine v_istore_n dX7_goesOrders_88 rfl (by decide) (fun y3 e_y3 => ?_)
      refine v_ls (ls' := [(3, .int y3), (4, .int (nI j)), (0, .ref 60), (1, .int a9), (2, .int u9)]) rfl ?_
      refine v_aload_n 2 dX7_goesOrders_89 rfl rfl ?_
      refine v_get fl_X7_21 dX7_goesOrders_90 (up_n (by decide) h60) rfl ?_
      refine v_aload_n 2 dX7_goesOrders_93 rfl rfl ?_
      refine v_get fl_X7_17 dX7_goesOrders_94 (up_n (by decide) h60) rfl ?_
      refine v_aload_n 2 dX7_goesOrders_97 rfl rfl ?_
      refine v_get fl_X7_24 dX7_goesOrders_98 (up_n (by decide) h60) rfl ?_
      refine v_iload 1 dX7_goesOrders_101 rfl ?_
      refine v_iald dX7_goesOrders_103 (up_n (by decide) h64) (nI_in' (by omega)) ?_
      rw [clamp (show j < 2 ^ 31 by omega), hr1]
      refine v_iald dX7_goesOrders_104 (up_n (by decide) h62) (nI_in' (by omega)) ?_
      rw [clamp (show ρ.getD j 0 < 2 ^ 31 by omega), ← getD_at hpl hr2]
      refine v_callS (c_X7_goes d (up_s _ _ _) ⟨he.1, by have := he.2; omega⟩ (hw.at hr2)) cs_X7_149 dX7_goesOrders_105 rfl rfl (Nat.le_of_ble_eq_true rfl) ?_
      refine rt_k ?_
      refine v_hp (up_up _ _ _ _) ?_
      refine v_iinc (v := 1) 1 dX7_goesOrders_108 rfl rfl (by decide) (fun z e_z => ?_)
      refine v_ls (ls' := [(4, .int z), (3, .int y3), (0, .ref 60), (1, .int a9), (2, .int u9)]) rfl ?_
      rw [nI_1] at e_z
      subst e_z
      refine v_goto (tgt := 65) dX7_goesOrders_111 (by decide) ?_
      rw [drop_n (show j < ρ.length by omega)] at HK
      have e3 : y3 = 10 * dg + nI (ρ.getD j 0) + 1 := by first | exact e_y3 | exact e_y3.symm
      subst e3
      refine v_pick [0, 1, 2, 3, 4] rfl ?_
      exact ih (j + 1) _ _ (by omega) (by have := passO_e (c := l.getD (ρ.getD j 0) 0) he (by omega); exact ⟨this.1, by have := this.2; omega⟩) HK
      

