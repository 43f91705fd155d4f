theorem rowD_app (ρ : List Nat) (i : Nat) (d : Int32) : rowD (ρ ++ [i]) d = 10 * rowD ρ d + nI i + 1 := by
  unfold rowD
  rw [List.foldl_append]
  rfl
theorem rowL_app (l : List Int32) (ρ : List Nat) (i : Nat) (L : LT) : rowL l (ρ ++ [i]) L = passO (l.getD i 0) (rowL l ρ L) := by
  unfold rowL
  rw [List.foldl_append]
  rfl
theorem rowL_e (l : List Int32) : ∀ (ρ : List Nat) (L : LT) (n : Nat), Eb n L → n + 5 * ρ.length ≤ 100 → Eb (n + 5 * ρ.length) (rowL l ρ L)
  | [], L, n, h, _ => h
  | i :: r, L, n, h, hn => by
    rw [List.length_cons] at hn
    have h1 := passO_e (c := l.getD i 0) h (by omega)
    have h2 : Eb (n + 5) (passO (l.getD i 0) L) := ⟨h1.1, by have := h1.2; omega⟩
    have h3 := rowL_e l r _ (n + 5) h2 (by omega)
    rw [List.length_cons, show n + 5 * (r.length + 1) = n + 5 + 5 * r.length by omega]
    exact h3
set_option maxRecDepth 20000 in
set_option maxHeartbeats 4000000 in
theorem gor_go {G : Cx} (d : Nat) {μ : Hp} {Q : Option Value → Hp → Prop} {l : List Int32} {p ro : Nat → Int32} {nw : Nat → Int64} {L0 : LT} {ρ : List Nat} {a9 u9 : Int32} {un lr mr hr le at9 fa op tr sg hm hi : Int32} {co wh : Int64} (h60 : μ 60 = some (modC (nI l.length) co wh un lr mr hr le at9 fa op tr sg hm hi)) (h61 : μ 61 = some (mlg L0)) (h62 : μ 62 = some (arI 8 p)) (h63 : μ 63 = some (arJ 5 nw)) (h64 : μ 64 = some (arI 5 ro)) (hpl : Pl l p) (hw : Wp l) (h5 : l.length ≤ 5) (hl9 : ρ.length = l.length) (hro : ∀ k, k < ρ.length → ro k = nI (ρ.getD k 0) ∧ ρ.getD k 0 < l.length) (he : Eb 20 L0) (HK : V G M_X7_goesOrders (d + 4) 0 0 Q 114 [(4, .int (nI l.length)), (3, .int (rowD ρ 0)), (0, .ref 60), (1, .int a9), (2, .int u9)] [] (up μ 63 (mlg (rowL l ρ L0)))) : V G M_X7_goesOrders (d + 4) 0 0 Q 52 [(0, .ref 60), (1, .int a9), (2, .int u9)] [] μ := by
  refine v_iconst (v := 0) dX7_goesOrders_52 (by first | rfl | decide) ?_
  refine v_istore_n dX7_goesOrders_53 rfl (by decide) (fun x3_1 e_x3_1 => ?_)
  refine v_ls (ls' := [(3, .int x3_1), (0, .ref 60), (1, .int a9), (2, .int u9)]) rfl ?_
  subst e_x3_1
  refine v_aload_n 1 dX7_goesOrders_54 rfl rfl ?_
  refine v_aload_n 1 dX7_goesOrders_55 rfl rfl ?_
  refine v_get fl_X7_11 dX7_goesOrders_56 h60 rfl ?_
  refine v_callV (c_X7_begins (d + 2) h60 h61 h63) cs_X7_146 dX7_goesOrders_59 h60 rfl rfl (Nat.le_of_ble_eq_true rfl) ?_
  refine rt_k ?_
  refine v_iconst (v := 0) dX7_goesOrders_62 (by first | rfl | decide) ?_
  refine v_istore dX7_goesOrders_63 (by decide) (fun x4 e_x4 => ?_)
  refine v_ls (ls' := [(4, .int x4), (3, .int (0)), (0, .ref 60), (1, .int a9), (2, .int u9)]) rfl ?_
  subst e_x4
  refine v_pick [0, 1, 2, 3, 4] rfl ?_
  exact gor_loop d h60 h62 h64 hpl hw h5 hl9 hro l.length 0 0 L0 (by omega) he HK
  

