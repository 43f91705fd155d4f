/-! ===== the builder of texts (the JDK's own code) ===== -/
theorem v_bast {G : Cx} {M : MD} {d mc ms : Nat} {P : Option Value → Hp → Prop} {pc : Nat} {ls : List (Nat × Value)} {st : List Value} {μ : Hp} {a n : Nat} {f : Nat → Int32} {i x : Int32} (hd : decode M.2.1 pc = .ok (.bastore, 1)) (hμ : μ a = some (.inl (3, (n, .inl f)))) (hin : vp_in i n) (kk : V G M d mc ms P (pc + 1) ls st (up μ a (.inl (3, (n, .inl (upd f i.toNatClampNeg (vp_nar .byte x))))))) : V G M d mc ms P pc ls (.int x :: .int i :: .ref a :: st) μ := by
  intro p l e R s m args below meth c Q ad H locs cells slots sl F hW hS hR hl hs hsl h1 h2 hE
  refine W.bast F.1 F.2.1 (hW.mut hμ) ((F.2.2.2.2.2.2.2.2.1.2.2 3 _ rfl).1 n (fun j => .int (f j))) (fun q => by cases q) (by show ¬ (i < 0 ∨ (arrV _ _ _).slots.size ≤ _); rw [arrV_size]; exact hin) rfl rfl hd fun H1 e z oq => ?_
  refine v_after F hW hS hR hl (oks_t (oks_t (oks_t hs))) hsl h1 h2 hE kk hμ z oq trivial ?_
  show H1[ad a]? = some (vp_cell _ (n, .inl (upd f i.toNatClampNeg (vp_nar .byte x))))
  rw [e]
  show some ((vp_cell (cA G 3) (n, .inl f)).setSlot _ _) = _
  rw [vp_cell_i, vp_cell_i, arrV_store]
  congr 2
  funext q
  by_cases hq : q = i.toNatClampNeg
  · subst hq
    simp [updV, upd, vp_nar]
    try rfl
  · simp [updV, upd, hq]
theorem sel_priv {C : String} {y : MethodName} {s : State} {args : Array Value} {n : Nat} (hins : (Cond.instantiable C n).before args s = true) (hsame : (Cond.sameMethod y.cls y.cls y.name y.desc).before args s = true) (hpriv : (Cond.privateMethod y).before args s = true) (hinst : (Cond.instanceMethod y).before args s = true) :
    (Cond.selects C y y).before args s = true := by
  obtain ⟨c, k, hc, hk, -, -, -, -⟩ := Cond.instantiable_spec hins
  obtain ⟨mk, methM, hnamed, hmethM, -, -⟩ := Cond.instanceMethod_spec hinst
  obtain ⟨c1, ck, r, hc1, hck, hni, hf, hn1⟩ := Cond.sameMethod_found hsame
  have e : r = mk := Option.some.inj (hn1.symm.trans hnamed)
  subst e
  have hcls : r.cls = c1 := Option.some.inj ((findClass_of_methodNamed hnamed).symm.trans hc1)
  have hsel : selectMethod {} s.vm c r = .method r := selectMethod_private hmethM (Cond.privateMethod_at hpriv r methM hnamed hmethM)
  simp only [Cond.before, Cond.holds, Cond.value, hc, hf, hnamed, hsel, hcls, hck]
  simp; exact hni
section SBROWS
variable {G : Cx} {M M' : MD} {d mc ms mc' ms' : Nat} {P P' : Option Value → Hp → Prop} {pc : Nat} {ls : List (Nat × Value)} {st st0 : List Value} {μ : Hp} {avs : List Value} {idx n : Nat}
/-- a call on an object of class C that lands in another class's method -/
def CVC (own : String) (idx : Nat) (M' : MD) (n ci : Nat) (C : String) : Prop := CB M' n ∧ Cond.methodLink own idx M'.1 ∈ gw ∧ Cond.instanceMethod M'.1 ∈ gw ∧ (∀ (G : Cx) (ad : Nat → Nat) (U : State) (H : Heap) (args : Array Value), Ro G ad U H → (∀ w ∈ gw, w.before args U = true) → (Cond.selects C M'.1 M'.1).before args U = true) ∧ ∃ q, vwCl[ci]? = some q ∧ q.1 = C
theorem v_callVC {b ci : Nat} {C : String} {fs : List Value} (hC : Ct G d mc' ms' M' (.ref b :: avs) μ P') (hw : CVC M.1.cls idx M' n ci C) (hd : decode M.2.1 pc = .ok (.invokevirtual idx, 3)) (hμ : μ b = some (.inr (ci, fs))) (hn : avs.length = n) (hst : st0 = avs.reverse ++ .ref b :: st) (h8 : (st.map fun v => v.category).sum ≤ 8)
    (kk : ∀ r μ', P' r μ' → V G M (d + 1) mc ms P (pc + 3) ls (r.toList ++ st) μ') : V G M (d + 1) (mc + mc') (ms + ms') P pc ls st0 μ := by
  subst hst
  intro p l e R s m args below meth c Q ad H locs cells slots sl F hW hS hR hl hs hsl h1 h2 hE
  have ha : oks μ (.ref b :: avs) := oks_c (hs _ (List.mem_append_right _ List.mem_cons_self)) (fun v hv => hs v (List.mem_append_left _ (List.mem_reverse.mpr hv)))
  have hr : oks μ st := fun v hv => hs v (List.mem_append_right _ (List.mem_cons_of_mem _ hv))
  rw [rev_x]
  obtain ⟨q, hq, hqe⟩ := hw.2.2.2.2
  obtain ⟨cell, w1, w2, w3⟩ := recv_cl F hW hμ hq
  rw [hqe] at w3
  exact v_cont (va_runV (C := C) (b := ad b) (As := avs.map (xv ad)) (rest := st.map (xv ad)) ⟨F.1, F.2.1, F.2.2.1, F.2.2.2.2.1, F.2.2.2.2.2.2.2.1⟩ (hC l ad ha) ⟨cb_of F hw.1 hw.2.1, F.2.2.2.2.2.2.2.1 _ hw.2.2.1, hw.2.2.2.1 _ _ _ _ _ hR F.2.2.2.2.2.2.2.1⟩ ⟨pc_blind, ⟨cell, w1, w2, w3⟩, pc_at hW hS F.2.2.2.2.2.2.2.2.1 hR⟩ rfl (by rw [List.length_map]; exact hn) hsl.1 rfl (lv_room (cat_x ad st h8)) hd ⟨by omega, by omega⟩) F hS hR hl hr hsl h1 h2 hE kk
/-- super.m(..) -/
def CSU (own : String) (idx : Nat) (M' : MD) (n : Nat) : Prop := CB M' n ∧ Cond.methodLink own idx M'.1 ∈ gw ∧ Cond.instanceMethod M'.1 ∈ gw ∧ Cond.sameMethod M'.1.cls M'.1.cls M'.1.name M'.1.desc ∈ gw ∧ Cond.superclass own M'.1.cls ∈ gw ∧ M'.1.name ≠ "<init>"
theorem v_callSU {b : Nat} {fs : List Value} (hC : Ct G d mc' ms' M' (.ref b :: avs) μ P') (hw : CSU M.1.cls idx M' n) (hd : decode M.2.1 pc = .ok (.invokespecial idx, 3)) (hμ : μ b = some (.inr (0, fs))) (hn : avs.length = n) (hst : st0 = avs.reverse ++ .ref b :: st) (h8 : (st.map fun v => v.category).sum ≤ 8)
    (kk : ∀ r μ', P' r μ' → V G M (d + 1) mc ms P (pc + 3) ls (r.toList ++ st) μ') : V G M (d + 1) (mc + mc') (ms + ms') P pc ls st0 μ := by
  subst hst
  intro p l e R s m args below meth c Q ad H locs cells slots sl F hW hS hR hl hs hsl h1 h2 hE
  have ha : oks μ (.ref b :: avs) := oks_c (hs _ (List.mem_append_right _ List.mem_cons_self)) (fun v hv => hs v (List.mem_append_left _ (List.mem_reverse.mpr hv)))
  have hr : oks μ st := fun v hv => hs v (List.mem_append_right _ (List.mem_cons_of_mem _ hv))
  rw [rev_x]
  have hq : vwCl[0]? = some (RJ4, TJ4, 4) := rfl
  obtain ⟨cell, w1, w2, w3⟩ := recv_cl F hW hμ hq
  have hcls := (F.2.2.2.2.2.2.2.2.1.2.1 0 _ hq).2
  have f8 := F.2.2.2.2.2.2.2.1
  obtain ⟨c1, c2, c3, c4, c5, c6, hcode, hini, hy, hlen, hlk⟩ := cb_of (mc' := mc') (ms' := ms') F hw.1 hw.2.1
  exact v_cont (va_runSU (C := RJ4) (b := ad b) (As := avs.map (xv ad)) (rest := st.map (xv ad)) hcls ⟨F.1, F.2.1, F.2.2.1, F.2.2.2.2.1, F.2.2.2.2.2.2.2.1⟩ (hC l ad ha) ⟨⟨c1, c2, c3, c4, c5, c6⟩, hlk, f8 _ hw.2.2.2.1, f8 _ hw.2.2.2.2.1, f8 _ hw.2.2.1, hini, hcode, hw.2.2.2.2.2, hlen⟩ ⟨pc_blind, ⟨cell, w1, w2, w3⟩, pc_at hW hS F.2.2.2.2.2.2.2.2.1 hR⟩ rfl (by rw [List.length_map]; exact hn) hsl.1 rfl (lv_room (cat_x ad st h8)) hd ⟨by omega, by omega⟩) F hS hR hl hr hsl h1 h2 hE kk
/-- the formatter of exceptions: null, or an object that is never touched -/
theorem v_getsE (hlk : Cond.fieldLink M.1.cls idx "jdk/internal/util/Preconditions" "SIOOBE_FORMATTER" "Ljava/util/function/BiFunction;" ∈ gw) (hd : decode M.2.1 pc = .ok (.getstatic idx, 3)) (k : ∀ v : Value, (v = .null ∨ v = .ref 1006) → V G M d mc ms P (pc + 3) ls (v :: st) μ) : V G M d mc ms P pc ls st μ := by
  intro p l e R s m args below meth c Q ad H locs cells slots sl F hW hS hR hl hs hsl h1 h2 hE
  rcases hR.2.2.2.2.2.2.2.2.2.2.2.1 with hz | hz
  · exact va_gets F.1 F.2.1 hz hS F.2.2.2.2.1 (F.2.2.2.2.2.2.2.1 _ hlk) (fun _ h => h) hd (k .null (Or.inl rfl) p l e R s m args below meth c Q ad H locs cells slots sl F hW hS hR hl (oks_c (fun _ z => by cases z) hs) hsl h1 h2 hE)
  · exact va_gets F.1 F.2.1 hz hS F.2.2.2.2.1 (F.2.2.2.2.2.2.2.1 _ hlk) (fun _ h => h) hd (k (.ref 1006) (Or.inr rfl) p l e R s m args below meth c Q ad H locs cells slots sl F hW hS hR hl (oks_c (okv_ro (by decide)) hs) hsl h1 h2 hE)
theorem v_ldcwS (hz : ∀ (ad : Nat → Nat) (U : State) (H : Heap), Ro G ad U H → vk_R M.1.cls idx "gyspwrf" (ad 1002) U) (hd : decode M.2.1 pc = .ok (.ldc_w idx, 3)) (k : V G M d mc ms P (pc + 3) ls (.ref 1002 :: st) μ) : V G M d mc ms P pc ls st μ := by
  intro p l e R s m args below meth c Q ad H locs cells slots sl F hW hS hR hl hs hsl h1 h2 hE
  have hZ := hz _ _ _ hR
  intro T hT X
  obtain ⟨t, a1, b1⟩ := k p l e R s m args below meth c Q ad H locs cells slots sl F hW hS hR hl (oks_c (okv_ro (by decide)) hs) hsl h1 h2 hE T hT X
  exact ⟨t, X.ldcStringW F.1 F.2.2.2.2.1 (text := "gyspwrf") (a := ad 1002) hZ.1 hZ.2 (g := F0 m pc sl (st.map (xv ad))) rfl (by rw [F.2.1]; exact hd) t a1, b1⟩
end SBROWS
theorem ro_letF (G : Cx) : ∀ (ad : Nat → Nat) (U : State) (H : Heap), Ro G ad U H → vk_R "FilterPile" 444 "gyspwrf" (ad 1002) U := fun _ _ _ h => h.2.2.2.2.1
theorem fle_J0_1053 : Cond.fieldLink RJ0 1053 "jdk/internal/util/Preconditions" "SIOOBE_FORMATTER" "Ljava/util/function/BiFunction;" ∈ gw := (gwAt 905 (by decide +kernel) rfl)
theorem cb_J5_ensureCapacityInternal_d00df : CB M_J5_ensureCapacityInternal_d00df 1 := ⟨(gwAt 72 (by decide +kernel) rfl), (gwAt 997 (by decide +kernel) rfl), ⟨by decide +kernel, by decide +kernel, by decide +kernel⟩, by decide⟩
theorem cs_J5_100 : CVC RJ5 100 M_J5_ensureCapacityInternal_d00df 1 0 RJ4 := ⟨cb_J5_ensureCapacityInternal_d00df, (gwAt 994 (by decide +kernel) rfl), (gwAt 996 (by decide +kernel) rfl), (fun _ _ _ _ _ hr _ => (ro_ao hr).2.2.2.1), _, rfl, rfl⟩
theorem cb_J5_isLatin1_aae02 : CB M_J5_isLatin1_aae02 0 := ⟨(gwAt 72 (by decide +kernel) rfl), (gwAt 1027 (by decide +kernel) rfl), ⟨by decide +kernel, by decide +kernel, by decide +kernel⟩, by decide⟩
theorem cs_J5_83 : CVC RJ5 83 M_J5_isLatin1_aae02 0 0 RJ4 := ⟨cb_J5_isLatin1_aae02, (gwAt 1023 (by decide +kernel) rfl), (gwAt 1024 (by decide +kernel) rfl), (fun _ _ _ _ _ _ h => h _ (gwAt 1026 (by decide +kernel) rfl)), _, rfl, rfl⟩
theorem cb_J5_newCapacity_0f7a4 : CB M_J5_newCapacity_0f7a4 1 := ⟨(gwAt 72 (by decide +kernel) rfl), (gwAt 1001 (by decide +kernel) rfl), ⟨by decide +kernel, by decide +kernel, by decide +kernel⟩, by decide⟩
theorem cs_J5_104 : CVC RJ5 104 M_J5_newCapacity_0f7a4 1 0 RJ4 := ⟨cb_J5_newCapacity_0f7a4, (gwAt 998 (by decide +kernel) rfl), (gwAt 1000 (by decide +kernel) rfl), (fun _ _ _ _ _ hr _ => (ro_ao hr).2.2.2.2), _, rfl, rfl⟩
theorem cb_J5_setLength_d00df : CB M_J5_setLength_d00df 1 := ⟨(gwAt 72 (by decide +kernel) rfl), (gwAt 993 (by decide +kernel) rfl), ⟨by decide +kernel, by decide +kernel, by decide +kernel⟩, by decide⟩
theorem cs_J4_333 : CSU RJ4 333 M_J5_setLength_d00df 1 := ⟨cb_J5_setLength_d00df, (gwAt 991 (by decide +kernel) rfl), (gwAt 992 (by decide +kernel) rfl), (gwAt 1738 (by decide +kernel) rfl), (gwAt 298 (by decide +kernel) rfl), by decide⟩
theorem cb_J5_append_3fe6f : CB M_J5_append_3fe6f 1 := ⟨(gwAt 72 (by decide +kernel) rfl), (gwAt 1047 (by decide +kernel) rfl), ⟨by decide +kernel, by decide +kernel, by decide +kernel⟩, by decide⟩
theorem cs_J4_50 : CSU RJ4 50 M_J5_append_3fe6f 1 := ⟨cb_J5_append_3fe6f, (gwAt 1045 (by decide +kernel) rfl), (gwAt 1046 (by decide +kernel) rfl), (gwAt 1741 (by decide +kernel) rfl), (gwAt 298 (by decide +kernel) rfl), by decide⟩
theorem cb_J5_append_c97b9 : CB M_J5_append_c97b9 1 := ⟨(gwAt 72 (by decide +kernel) rfl), (gwAt 1108 (by decide +kernel) rfl), ⟨by decide +kernel, by decide +kernel, by decide +kernel⟩, by decide⟩
theorem cs_J4_53 : CSU RJ4 53 M_J5_append_c97b9 1 := ⟨cb_J5_append_c97b9, (gwAt 1106 (by decide +kernel) rfl), (gwAt 1107 (by decide +kernel) rfl), (gwAt 1743 (by decide +kernel) rfl), (gwAt 298 (by decide +kernel) rfl), by decide⟩
theorem cb_J5_length_8abf5 : CB M_J5_length_8abf5 0 := ⟨(gwAt 72 (by decide +kernel) rfl), (gwAt 1134 (by decide +kernel) rfl), ⟨by decide +kernel, by decide +kernel, by decide +kernel⟩, by decide⟩
theorem cs_J4_343 : CSU RJ4 343 M_J5_length_8abf5 0 := ⟨cb_J5_length_8abf5, (gwAt 1132 (by decide +kernel) rfl), (gwAt 1133 (by decide +kernel) rfl), (gwAt 1744 (by decide +kernel) rfl), (gwAt 298 (by decide +kernel) rfl), by decide⟩
theorem cb_J5_charAt_5068e : CB M_J5_charAt_5068e 1 := ⟨(gwAt 72 (by decide +kernel) rfl), (gwAt 1141 (by decide +kernel) rfl), ⟨by decide +kernel, by decide +kernel, by decide +kernel⟩, by decide⟩
theorem cs_J4_329 : CSU RJ4 329 M_J5_charAt_5068e 1 := ⟨cb_J5_charAt_5068e, (gwAt 1139 (by decide +kernel) rfl), (gwAt 1140 (by decide +kernel) rfl), (gwAt 1745 (by decide +kernel) rfl), (gwAt 298 (by decide +kernel) rfl), by decide⟩
