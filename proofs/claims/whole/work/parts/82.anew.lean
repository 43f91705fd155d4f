/-! ===== arrays of references: made, stored into ===== -/
theorem ro_ao {G : Cx} {ad : Nat → Nat} {U : State} {H : Heap} (h : Ro G ad U H) : Aow U := h.2.2.2.2.2.2.2.2.2.2.2.2
/-- an array of LIGHTS -/
theorem v_newL {G : Cx} {M : MD} {d mc ms : Nat} {P : Option Value → Hp → Prop} {pc : Nat} {ls : List (Nat × Value)} {st : List Value} {μ : Hp} {idx : Nat} (i N : Nat) (hN : N < 10000) (hcl : Cond.classLink M.1.cls idx "FilterPile$Light" ∈ gw) (hd : decode M.2.1 pc = .ok (.anewarray idx, 3)) (hi : μ i = none) (hl : i < 1000) (k : V G M d mc ms P (pc + 3) ls (.ref i :: st) (up μ i (arR 6 N (fun _ => none)))) : V G M d (mc + 1) (ms + N) P pc ls (.int (nI N) :: st) μ := by
  intro p l e R s m args below meth c Q ad H locs cells slots sl F hW hS hR hll hs hsl b1 b2 hE
  obtain ⟨f1, f2, f3, f4, f5, f6, f7, f8, f9, f10, f11⟩ := id F
  have hcN : (nI N).toNatClampNeg = N := clamp (by omega)
  refine W.anew f1 f2 f5 (f8 _ hcl) (va_AO.use (ro_ao hR).1) rfl hd rfl (nn0 (by omega)) (by rw [hcN]; omega) (by omega) (by rw [hcN]; omega) (fun cA' kA comp g1 g2 g3 g4 => ?_)
  rw [hcN]
  generalize hH1 : H.push ({ cls := cA', slots := Array.replicate N .null, vm := .none } : Cell) = H1
  have z1 : H1.size = H.size + 1 := by rw [← hH1, Array.size_push]
  have e1 : H1[H.size]? = some (arrV cA' N (fun _ => .null)) := by rw [← hH1, Array.getElem?_push_size, ← arrV_new]
  have o1 : ∀ q : Nat, q < H.size → H1[q]? = H[q]? := fun q hq => by rw [← hH1, Array.getElem?_push, if_neg (Nat.ne_of_lt hq)]
  have hcA : cA' = cA G 6 := by
    obtain ⟨_, _, _, _, _, h4⟩ := (f9.2.2 6 _ rfl).2
    exact Option.some.inj (g1.symm.trans h4)
  refine v_fresh k hi hl (fun j k hk => by cases hk) F hW hS hR hll (oks_t hs) hsl (by omega) (by omega) hE (by omega) (by omega) (by omega) ?_ o1
  show H1[H.size]? = some (vp_cell (cA G 6) (N, .inr (.inr (.inr (.inr (fun j => none))))))
  rw [← hcA, e1]
  rfl
/-- a LIGHT stored into an array of lights -/
theorem v_aast {G : Cx} {M : MD} {d mc ms : Nat} {P : Option Value → Hp → Prop} {pc : Nat} {ls : List (Nat × Value)} {st : List Value} {μ : Hp} {a b n : Nat} {f : Nat → Option Nat} {vs : List Value} {i : Int32} (hd : decode M.2.1 pc = .ok (.aastore, 1)) (hμ : μ a = some (arR 6 n f)) (hb : μ b = some (.inr (2, vs))) (hin : vp_in i n) (kk : V G M d mc ms P (pc + 1) ls st (up μ a (arR 6 n (va_up f i.toNatClampNeg (some b))))) : V G M d mc ms P pc ls (.ref b :: .int i :: .ref a :: st) μ := by
  intro p l e R s m args below meth c Q ad H locs cells slots sl F hW hS hR hl hs hsl h1 h2 hE
  have f9 := F.2.2.2.2.2.2.2.2.1
  have hlt : i.toNatClampNeg < n := Nat.not_le.mp fun q => hin (Or.inr q)
  have h0 : ¬ i < 0 := fun q => hin (Or.inl q)
  obtain ⟨r', hr', cellV, g1, g2, g3, -⟩ := hW.mut hb
  have hcls := (f9.2.1 2 _ (show vwCl[2]? = some (RX1, TX1, 5) from rfl)).2
  obtain ⟨kA, comp, k1, k2, k3, -⟩ := (f9.2.2 6 _ rfl).2
  have hcomp : comp = (cD G).1 2 := Option.some.inj (k3.symm.trans hcls.1)
  subst hcomp
  obtain ⟨kC, hkC, -⟩ := hcls.2
  refine W.aast F.1 F.2.1 (hW.mut hμ) (fun q h => by cases h) (fun h => by cases h) k1 k2 rfl hkC ⟨h0, by show _ < (arrV _ _ _).slots.size; rw [arrV_size]; exact hlt⟩ g1 (fun q h => by rw [g3] at h; cases h) (by rw [g2]; exact hkC) (by rw [g2]; exact va_assign hcls) rfl rfl hd fun H1 e z oq => ?_
  have hok : oke μ (arR 6 n (va_up f i.toNatClampNeg (some b))) := fun j k hk => by
    have hk : (if j = i.toNatClampNeg then some b else f j) = some k := hk
    by_cases hj : j = i.toNatClampNeg
    · rw [if_pos hj] at hk
      cases hk
      exact Or.inl (by rw [hb]; exact fun z => by cases z)
    · rw [if_neg hj] at hk
      exact (hW.2.1 a _ hμ).2.1 j k hk
  refine v_after F hW hS hR hl (oks_t (oks_t (oks_t hs))) hsl h1 h2 hE kk hμ z oq hok ?_
  show H1[ad a]? = some (vp_cell (cA G 6) (n, .inr (.inr (.inr (.inr (fun j => (va_up f i.toNatClampNeg (some b) j).map ad))))))
  rw [e]
  show some ((vp_cell (cA G 6) (n, .inr (.inr (.inr (.inr (fun j => (f j).map ad)))))).setSlot _ _) = _
  rw [vp_cell_q, vp_cell_q, arrV_store]
  congr 2
  funext q
  by_cases hq : q = i.toNatClampNeg
  · subst hq
    simp [updV, va_up, va_rf, xv]
  · simp [updV, va_up, hq]
theorem Wd.newAt {G : Cx} {ad : Nat → Nat} {μ : Hp} {H H1 : Heap} {i q : Nat} {e : va_E} (h : Wd G ad μ H) (hi : μ i = none) (hl : i < 1000) (hz : H.size ≤ H1.size) (hq : cB G ≤ q) (hfr : ∀ k, μ k ≠ none → ad k ≠ q) (hat : va_at (cD G) vwCl (q, xe G ad e) H1) (oq : ∀ k e1, μ k = some e1 → H1[ad k]? = H[ad k]?) (hok : oke μ e) :
    ∃ ad', ad' i = q ∧ Ag μ ad ad' ∧ Wd G ad' (up μ i e) H1 := by
  have hnk : ¬ okk μ i := fun z => by rcases z with z | z; exact z hi; omega
  have hag : Ag μ ad (fun k => if k = i then q else ad k) := fun k hk => by
    show (if k = i then q else ad k) = ad k
    exact if_neg (fun z => hnk (by rw [← z]; exact hk))
  refine ⟨fun k => if k = i then q else ad k, if_pos rfl, hag, Nat.le_trans h.1 hz, fun k e1 hk => ?_, fun a b ha hb hab => ?_⟩
  · by_cases hki : k = i
    · subst hki
      rw [up_s] at hk
      cases hk
      refine ⟨?_, (up_sb μ k e).oke hok, ?_, hl⟩
      · rw [xe_ag hok hag]
        show va_at (cD G) vwCl ((if k = k then q else ad k), xe G ad e) H1
        rw [if_pos rfl]
        exact hat
      · show cB G ≤ (if k = k then q else ad k)
        rw [if_pos rfl]
        exact hq
    · rw [show up μ i e k = μ k from if_neg hki] at hk
      obtain ⟨h1, h2, h3⟩ := h.2.1 k e1 hk
      refine ⟨?_, (up_sb μ i e).oke h2, ?_⟩
      · rw [xe_ag h2 hag]
        show va_at (cD G) vwCl ((if k = i then q else ad k), xe G ad e1) H1
        rw [if_neg hki]
        exact h1.kept (oq k e1 hk)
      · show cB G ≤ (if k = i then q else ad k) ∧ _
        rw [if_neg hki]
        exact h3
  · have hab : (if a = i then q else ad a) = (if b = i then q else ad b) := hab
    by_cases hai : a = i <;> by_cases hbi : b = i
    · rw [hai, hbi]
    · rw [if_pos hai, if_neg hbi] at hab
      rw [show up μ i e b = μ b from if_neg hbi] at hb
      exact absurd hab.symm (hfr b hb)
    · rw [if_neg hai, if_pos hbi] at hab
      rw [show up μ i e a = μ a from if_neg hai] at ha
      exact absurd hab (hfr a ha)
    · rw [if_neg hai, if_neg hbi] at hab
      rw [show up μ i e a = μ a from if_neg hai] at ha
      rw [show up μ i e b = μ b from if_neg hbi] at hb
      exact h.2.2 a b ha hb hab
theorem inv_up {μ : Hp} {ad ad' : Nat → Nat} {j q : Nat} {E : va_E} {S : Nat → Prop} (p : ad' j = q) (ag : Ag μ ad ad') (h : ∀ k, μ k ≠ none → S (ad k)) (hq : S q) : ∀ k, up μ j E k ≠ none → S (ad' k) := fun k hk => by
  by_cases hkj : k = j
  · subst hkj
    rw [p]
    exact hq
  · rw [show up μ j E k = μ k from if_neg hkj] at hk
    rw [ag k (Or.inl hk)]
    exact h k hk
theorem mu_outer (c : ClassId) (N h0 : Nat) : ∀ i : Nat, Jvm.Free.Multi.outerC c N h0 i = arrV c N (fun j => va_rf (if j < i then some (h0 + 1 + j) else none)) := by
  intro i
  induction i with
  | zero =>
    show ({ cls := c, slots := Array.replicate N .null, vm := .none } : Cell) = _
    rw [arrV_new]
    exact congrArg (arrV c N) (funext fun j => rfl)
  | succ i ih =>
    show (Jvm.Free.Multi.outerC c N h0 i).setSlot i (.ref (h0 + 1 + i)) = _
    rw [ih, arrV_store]
    refine congrArg (arrV c N) (funext fun j => ?_)
    by_cases e : j = i
    · subst e
      simp [updV, va_rf]
    · by_cases h : j < i
      · simp [updV, e, h, Nat.lt_succ_of_lt h]
      · simp [updV, e, h, show ¬ j < i + 1 by omega]
/-- three rows of K each -/
theorem v_mna {G : Cx} {M : MD} {d mc ms : Nat} {P : Option Value → Hp → Prop} {pc : Nat} {ls : List (Nat × Value)} {st : List Value} {μ : Hp} {idx t t1 : Nat} {ty : FieldType} {z : vp_A} (i K : Nat) (hK : K < 10000) (hcl : Cond.classLink M.1.cls idx ("[" ++ (FieldType.array ty).toString) ∈ gw) (hao : ∀ U, Aow U → AoA ty U) (hac : Cond.arrayClass ty ∈ gw)
    (hnO : ∀ s, Tb G s → s.vm.findClass ("[" ++ (FieldType.array ty).toString) = some (cA G t)) (hnI : ∀ s, Tb G s → s.vm.findClass (FieldType.array ty).toString = some (cA G t1)) (hbb : K * componentBytes ty ≤ 536870912) (hdf : fits ty (defaultValue ty) = true) (hdd : (defaultValue ty).isDefault = true) (hz : ∀ c : ClassId, Jvm.Free.Multi.innerC c K (defaultValue ty) = vp_cell c z) (hx : ∀ ad, xe G ad (.inl (t1, z)) = .inl (cA G t1, z)) (hok : ∀ μ', oke μ' (.inl (t1, z)))
    (hd : decode M.2.1 pc = .ok (.multianewarray idx 2, 4)) (n0 : μ i = none) (n1 : μ (i + 1) = none) (n2 : μ (i + 2) = none) (n3 : μ (i + 3) = none) (hl : i + 3 < 1000)
    (k : V G M d mc ms P (pc + 4) ls (.ref i :: st) (up (up (up (up μ (i + 1) (.inl (t1, z))) (i + 2) (.inl (t1, z))) (i + 3) (.inl (t1, z))) i (arR t 3 (rowF (i + 1) 3)))) : V G M d (mc + 4) (ms + (3 + 3 * K)) P pc ls (.int (nI K) :: .int 3 :: st) μ := by
  intro p l e R s m args below meth c Q ad H locs cells slots sl F hW hS hR hll hs hsl b1 b2 hE
  obtain ⟨f1, f2, f3, f4, f5, f6, f7, f8, f9, f10, f11⟩ := id F
  have hcK : (nI K).toNatClampNeg = K := clamp (by omega)
  have hc3 : (3 : Int32).toNatClampNeg = 3 := by decide
  have hs0 : oks μ st := oks_t (oks_t hs)
  intro T hT Xs
  obtain ⟨vm₁, cA', comp, -, fA, fC, -, -, X', step⟩ := Xs.multianewarray2F f1 f5 (f8 _ hcl) (show (Cond.arrayOver (.array ty)).before args s = true from hao _ (ro_ao hR)) (f8 _ hac) (g := F0 m pc sl (.int (nI K) :: .int 3 :: st.map (xv ad))) rfl (by rw [f2]; exact hd) rfl (by decide) (nn0 (by omega)) (by rw [hc3]; decide) (by rw [hcK]; exact hbb) (by rw [hcK]; omega) hdf hdd (by rw [hc3]; omega) (by rw [hc3, hcK]; omega)
  obtain rfl : cA' = cA G t := Option.some.inj (fA.symm.trans (hnO s f9))
  obtain rfl : comp = cA G t1 := Option.some.inj (fC.symm.trans (hnI s f9))
  rw [hc3, hcK] at X' step
  have hTh : (T.setVm vm₁).heap = H := hT
  obtain ⟨g1, g2, -, -⟩ := Jvm.Free.Multi.fill_facts (T.setVm vm₁) (cA G t) (cA G t1) 3 K (defaultValue ty) 3
  have hold : ∀ x : Nat, x < H.size → (Jvm.Free.Multi.fill (T.setVm vm₁) (cA G t) (cA G t1) 3 K (defaultValue ty) 3).heap[x]? = H[x]? := fun x hx => by
    have := Jvm.Free.Multi.fill_old (T.setVm vm₁) (cA G t) (cA G t1) 3 K (defaultValue ty) (a := x) (by rw [hTh]; exact hx) 3
    rw [hTh] at this
    exact this
  have hrow : ∀ j : Nat, j < 3 → (Jvm.Free.Multi.fill (T.setVm vm₁) (cA G t) (cA G t1) 3 K (defaultValue ty) 3).heap[H.size + 1 + j]? = some (vp_cell (cA G t1) z) := fun j hj => by
    have := Jvm.Free.Multi.fill_inner (T.setVm vm₁) (cA G t) (cA G t1) 3 K (defaultValue ty) 3 j hj
    rw [hTh, hz] at this
    exact this
  generalize Jvm.Free.Multi.fill (T.setVm vm₁) (cA G t) (cA G t1) 3 K (defaultValue ty) 3 = Fl at X' step g1 g2 hold hrow
  rw [hTh] at g1 g2
  rw [mu_outer] at g2
  have inv0 : ∀ k, μ k ≠ none → ad k < H.size := fun k hk => by
    cases hm : μ k with
    | none => exact absurd hm hk
    | some e1 => exact (hW.mut hm).lt
  have hB := hW.1
  obtain ⟨a1, p1, q1, w1⟩ := Wd.newAt (q := H.size + 1) (H1 := Fl.heap) hW n1 (by omega) (by rw [g1]; omega) (by omega) (fun k hk => by have := inv0 k hk; omega) (by rw [hx]; exact hrow 0 (by omega)) (fun k e1 hk => hold _ (hW.mut hk).lt) (hok _)
  have inv1 := inv_up (E := .inl (t1, z)) (S := fun x => x < H.size + 2 ∧ x ≠ H.size) p1 q1 (fun k hk => by have := inv0 k hk; omega) (by omega)
  obtain ⟨a2, p2, q2, w2⟩ := Wd.newAt (q := H.size + 2) (H1 := Fl.heap) w1 (up_n (by omega) n2) (by omega) (Nat.le_refl _) (by omega) (fun k hk => by have := inv1 k hk; omega) (by rw [hx]; exact hrow 1 (by omega)) (fun k e1 hk => rfl) (hok _)
  have inv2 := inv_up (E := .inl (t1, z)) (S := fun x => x < H.size + 3 ∧ x ≠ H.size) p2 q2 (fun k hk => by have := inv1 k hk; omega) (by omega)
  obtain ⟨a3, p3, q3, w3⟩ := Wd.newAt (q := H.size + 3) (H1 := Fl.heap) w2 (up_n (by omega) (up_n (by omega) n3)) (by omega) (Nat.le_refl _) (by omega) (fun k hk => by have := inv2 k hk; omega) (by rw [hx]; exact hrow 2 (by omega)) (fun k e1 hk => rfl) (hok _)
  have inv3 := inv_up (E := .inl (t1, z)) (S := fun x => x < H.size + 4 ∧ x ≠ H.size) p3 q3 (fun k hk => by have := inv2 k hk; omega) (by omega)
  have s3 : a3 (i + 1) = H.size + 1 ∧ a3 (i + 2) = H.size + 2 := by
    have o2 : okk (up μ (i + 1) (.inl (t1, z))) (i + 1) := Or.inl (by rw [up_s]; exact fun z => by cases z)
    have o3 : okk (up (up μ (i + 1) (.inl (t1, z))) (i + 2) (.inl (t1, z))) (i + 1) := (up_sb _ _ _).okk o2
    have o4 : okk (up (up μ (i + 1) (.inl (t1, z))) (i + 2) (.inl (t1, z))) (i + 2) := Or.inl (by rw [up_s]; exact fun z => by cases z)
    exact ⟨(q3 _ o3).trans ((q2 _ o2).trans p1), (q3 _ o4).trans p2⟩
  have ha4 : xe G a3 (arR t 3 (rowF (i + 1) 3)) = .inl (cA G t, (3, .inr (.inr (.inr (.inr (fun j => if j < 3 then some (H.size + 1 + j) else none)))))) := by
    have hf : (fun j => (rowF (i + 1) 3 j).map a3) = (fun j => if j < 3 then some (H.size + 1 + j) else none) := by
      funext j
      by_cases hj : j < 3
      · have e1 : rowF (i + 1) 3 j = some (i + 1 + j) := if_pos hj
        rw [e1, if_pos hj]
        have hj3 : j = 0 ∨ j = 1 ∨ j = 2 := by omega
        rcases hj3 with rfl | rfl | rfl
        · exact congrArg some s3.1
        · exact congrArg some s3.2
        · exact congrArg some p3
      · have e1 : rowF (i + 1) 3 j = none := if_neg hj
        rw [e1, if_neg hj]
        rfl
    show Sum.inl (cA G t, 3, Sum.inr (Sum.inr (Sum.inr (Sum.inr (fun j => (rowF (i + 1) 3 j).map a3))))) = _
    rw [hf]
  have hok4 : oke (up (up (up μ (i + 1) (.inl (t1, z))) (i + 2) (.inl (t1, z))) (i + 3) (.inl (t1, z))) (arR t 3 (rowF (i + 1) 3)) := fun j k hk => by
    by_cases hj : j < 3
    · have hk : (if j < 3 then some (i + 1 + j) else none) = some k := hk
      rw [if_pos hj] at hk
      cases hk
      refine Or.inl ?_
      have hj3 : j = 0 ∨ j = 1 ∨ j = 2 := by omega
      rcases hj3 with rfl | rfl | rfl
      · rw [up_n (x := some (.inl (t1, z))) (by omega) (up_n (by omega) (up_s _ _ _))]; exact fun z => by cases z
      · rw [up_n (x := some (.inl (t1, z))) (by omega) (up_s _ _ _)]; exact fun z => by cases z
      · rw [show i + 1 + 2 = i + 3 from rfl, up_s]; exact fun z => by cases z
    · have hk : (if j < 3 then some (i + 1 + j) else none) = some k := hk
      rw [if_neg hj] at hk
      cases hk
  obtain ⟨a4, p4, q4, w4⟩ := Wd.newAt (q := H.size) (H1 := Fl.heap) (e := arR t 3 (rowF (i + 1) 3)) w3 (up_n (by omega) (up_n (by omega) (up_n (by omega) n0))) (by omega) (Nat.le_refl _) (by omega) (fun k hk => by have := inv3 k hk; omega) (by rw [ha4]; exact g2) (fun k e1 hk => rfl) hok4
  have sb1 := up_sb μ (i + 1) (.inl (t1, z))
  have sb2 := sb1.trans (up_sb _ (i + 2) (.inl (t1, z)))
  have sb3 := sb2.trans (up_sb _ (i + 3) (.inl (t1, z)))
  have sb4 := sb3.trans (up_sb _ i (arR t 3 (rowF (i + 1) 3)))
  have ag2 := q1.trans sb1 q2
  have ag3 := ag2.trans sb2 q3
  have ag4 := ag3.trans sb3 q4
  have k1 := k p l e R s m args below meth c Q a4 Fl.heap locs (cells + 1 + 3) (slots + 3 + 3 * K) sl F w4 ⟨by rw [g1]; have := hS.1; omega, fun x h1 h2 => (hold x (Nat.lt_of_lt_of_le h1 hS.1)).trans (hS.2.1 x h1 h2), hS.2.2⟩ (hR.ad (fun k hk => ag4 k (Or.inr hk))) (fun q hq => sb4.okv (hll q hq)) (oks_c (fun k hk => by cases hk; exact Or.inl (by rw [up_s]; exact fun z => by cases z)) (fun v hv => sb4.okv (hs0 v hv))) (by rw [xl_ag hll ag4]; exact hsl) (by omega) (by omega) (hE.to ag4 sb4 (by omega) (by omega))
  rw [List.map_cons, xvs_ag hs0 ag4, show xv a4 (.ref i) = .ref (a4 i) from rfl, p4] at k1
  obtain ⟨t', r1, r2⟩ := k1 Fl rfl X'
  refine ⟨t', step t' ?_, r2⟩
  have e : T.heap.size = H.size := by rw [hT]
  rw [e]
  exact r1
section MNA
variable {G : Cx} {M : MD} {d mc ms : Nat} {P : Option Value → Hp → Prop} {pc : Nat} {ls : List (Nat × Value)} {st : List Value} {μ : Hp} {idx : Nat}
theorem v_mnI (i K : Nat) (hK : K < 10000) (hcl : Cond.classLink M.1.cls idx "[[I" ∈ gw) (hd : decode M.2.1 pc = .ok (.multianewarray idx 2, 4)) (n0 : μ i = none) (n1 : μ (i + 1) = none) (n2 : μ (i + 2) = none) (n3 : μ (i + 3) = none) (hl : i + 3 < 1000)
    (k : V G M d mc ms P (pc + 4) ls (.ref i :: st) (up (up (up (up μ (i + 1) (arI K (fun _ => 0))) (i + 2) (arI K (fun _ => 0))) (i + 3) (arI K (fun _ => 0))) i (arR 4 3 (rowF (i + 1) 3)))) : V G M d (mc + 4) (ms + (3 + 3 * K)) P pc ls (.int (nI K) :: .int 3 :: st) μ :=
  v_mna (t := 4) (t1 := 0) (ty := .int) (z := (K, .inl (fun _ => 0))) i K hK hcl (fun U h => h.2.1) ac_I (fun s h => (h.2.2 4 _ rfl).2) (fun s h => va_nm_int (h.2.2 0 _ rfl).2) (by show K * _ ≤ _; simp [componentBytes]; omega) rfl rfl (fun c => arrV_new c K (.int 0)) (fun ad => rfl) (fun _ => trivial) hd n0 n1 n2 n3 hl k
theorem v_mnJ (i K : Nat) (hK : K < 10000) (hcl : Cond.classLink M.1.cls idx "[[J" ∈ gw) (hd : decode M.2.1 pc = .ok (.multianewarray idx 2, 4)) (n0 : μ i = none) (n1 : μ (i + 1) = none) (n2 : μ (i + 2) = none) (n3 : μ (i + 3) = none) (hl : i + 3 < 1000)
    (k : V G M d mc ms P (pc + 4) ls (.ref i :: st) (up (up (up (up μ (i + 1) (arJ K (fun _ => 0))) (i + 2) (arJ K (fun _ => 0))) (i + 3) (arJ K (fun _ => 0))) i (arR 5 3 (rowF (i + 1) 3)))) : V G M d (mc + 4) (ms + (3 + 3 * K)) P pc ls (.int (nI K) :: .int 3 :: st) μ :=
  v_mna (t := 5) (t1 := 1) (ty := .long) (z := (K, .inr (.inl (fun _ => 0)))) i K hK hcl (fun U h => h.2.2.1) ac_J (fun s h => (h.2.2 5 _ rfl).2) (fun s h => va_nm_long (h.2.2 1 _ rfl).2) (by show K * _ ≤ _; simp [componentBytes]; omega) rfl rfl (fun c => arrV_new c K (.long 0)) (fun ad => rfl) (fun _ => trivial) hd n0 n1 n2 n3 hl k
end MNA
theorem ck_I2 : Cond.classLink RX0 26 "[[I" ∈ gw := gwAt 130 (by decide +kernel) rfl
theorem ck_J2 : Cond.classLink RX6 21 "[[J" ∈ gw := gwAt 163 (by decide +kernel) rfl
