/-! ===== rows that make cells ===== -/
theorem xl_ag {μ : Hp} {ad ad' : Nat → Nat} {ls : List (Nat × Value)} (hl : okl μ ls) (h : Ag μ ad ad') : xl ad' ls = xl ad ls := List.map_congr_left fun q hq => by rw [xv_ag (hl q hq) h]
theorem v_fresh {G : Cx} {M : MD} {d mc ms mc1 ms1 : Nat} {P : Option Value → Hp → Prop} {pc' : Nat} {ls : List (Nat × Value)} {st : List Value} {μ : Hp} {i : Nat} {e9 : va_E} (k : V G M d mc ms P pc' ls (.ref i :: st) (up μ i e9)) (hi : μ i = none) (hl : i < 1000) (hok : oke μ e9) {p : Program} {l : Launch} {e : Env} {R : Room} {s : State} {m : MethodId} {args : Array Value} {below : List Frame} {meth : Method} {c : Code} {Q : State → Prop} {ad : Nat → Nat} {H H1 : Heap} {locs : List Loc} {cells slots : Nat} {sl : Array Slot} (F : Fr G M d p R s m args meth c) (hW : Wd G ad μ H) (hS : va_S (cS G) s.heap H locs) (hR : Ro G ad s s.heap) (hll : okl μ ls) (hs : oks μ st) (hsl : lv_has sl M.2.2.1 (xl ad ls)) (b1 : cells + mc ≤ R.cells) (b2 : slots + ms ≤ R.slots) (hE : En G M p l e R s m args below meth c Q ad μ mc1 ms1 P) (c1 : cells + mc ≤ mc1) (c2 : slots + ms ≤ ms1) (hz : H.size ≤ H1.size) (hat : va_at (cD G) vwCl (H.size, xe G ad e9) H1) (oq : ∀ q : Nat, q < H.size → H1[q]? = H[q]?) : W p l e R s m args below meth c H1 locs cells slots Q (F0 m pc' sl (.ref H.size :: st.map (xv ad))) := by
  obtain ⟨ad', ha1, ha2, ha3⟩ := Wd.new hW hi hl hz hat oq hok
  have hsb := up_sb μ i e9
  have h1 := k p l e R s m args below meth c Q ad' H1 locs cells slots sl F ha3 ⟨Nat.le_trans hS.1 hz, fun q h1 h2 => (oq q (Nat.lt_of_lt_of_le h1 hS.1)).trans (hS.2.1 q h1 h2), hS.2.2⟩ (hR.ad (fun k hk => ha2 k (Or.inr hk))) (fun q hq => hsb.okv (hll q hq)) (oks_c (fun k hk => by cases hk; exact Or.inl (by rw [up_s]; exact fun z => by cases z)) (fun v hv => hsb.okv (hs v hv))) (by rw [xl_ag hll ha2]; exact hsl) b1 b2 (hE.to ha2 hsb c1 c2)
  rw [List.map_cons, xvs_ag hs ha2, show xv ad' (.ref i) = .ref (ad' i) from rfl, ha1] at h1
  exact h1
theorem v_newa {G : Cx} {M : MD} {d mc ms : Nat} {P : Option Value → Hp → Prop} {pc : Nat} {ls : List (Nat × Value)} {st : List Value} {μ : Hp} {atype : ArrayType} {t N : Nat} {ty : FieldType} {a0 : vp_A} {n : Int32} (i : Nat) (harr : Cond.arrayClass (newarray.typeOf atype) ∈ gw) (hty : newarray.typeOf atype = ty) (hnm : ∀ s, Tb G s → s.vm.findClass ("[" ++ ty.toString) = some (cA G t)) (ha : ∀ cA : ClassId, vp_cell cA a0 = arrV cA N (fun _ => defaultValue ty)) (hx : ∀ ad, xe G ad (.inl (t, a0)) = .inl (cA G t, a0)) (hn : ¬ n < 0) (hN : n.toNatClampNeg = N) (hbytes : N * componentBytes ty ≤ 536870912) (hd : decode M.2.1 pc = .ok (.newarray atype, 2)) (hi : μ i = none) (hl : i < 1000) (hok : oke μ (.inl (t, a0)))
    (k : V G M d mc ms P (pc + 2) ls (.ref i :: st) (up μ i (.inl (t, a0)))) : V G M d (mc + 1) (ms + N) P pc ls (.int n :: st) μ := by
  intro p l e R s m args below meth c Q ad H locs cells slots sl F hW hS hR hll hs hsl b1 b2 hE
  obtain ⟨f1, f2, f3, f4, f5, f6, f7, f8, f9, f10, f11⟩ := id F
  subst hty
  refine va_newaK f1 f2 (f8 _ harr) rfl hd rfl hn hN hbytes (by omega) (by omega) rfl (fun H1 cA' e1 z1 o1 hAr hNm => ?_)
  have hcA : cA' = cA G t := Option.some.inj (hNm.symm.trans (hnm s f9))
  refine v_fresh k hi hl hok F hW hS hR hll (oks_t hs) hsl (by omega) (by omega) hE (by omega) (by omega) (by omega) ?_ o1
  rw [hx]
  show H1[H.size]? = some (vp_cell (cA G t) a0)
  rw [ha, ← hcA]
  exact e1
