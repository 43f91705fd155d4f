/-! ===== what is only read: statics, their arrays, the text of the letters, the script ===== -/
theorem okv_ro {μ : Hp} {a : Nat} (h : 1000 ≤ a) : okv μ (.ref a) := fun k e => by cases e; exact Or.inr h
/-- an array that is only read -/
def RoA (G : Cx) (ty : FieldType) (a n : Nat) (f : Nat → Int32) : Prop := ∀ (ad : Nat → Nat) (U : State) (H : Heap), Ro G ad U H → va_T ty (ad a) n (fun j => .int (f j)) (cS G) U H
/-- a static that is only read -/
def RoZ (G : Cx) (C n d : String) (v : Value) : Prop := ∀ (ad : Nat → Nat) (U : State) (H : Heap), Ro G ad U H → va_Z C n d (xv ad v) (cS G) U H
/-- a field of the letters' text -/
def RoF (G : Cx) (n d : String) (v : Value) : Prop := ∀ (ad : Nat → Nat) (U : State) (H : Heap), Ro G ad U H → va_OF "java/lang/String" n d (xv ad v) (ad 1002) (cS G) U H
theorem ro_script (G : Cx) : RoA G .int 1000 (cL G) (cX G) := fun _ _ _ h => h.1
theorem ro_above (G : Cx) : RoA G .int 1001 7 kaT := fun _ _ _ h => h.2.1
theorem ro_aboveZ (G : Cx) : RoZ G "FilterPile" "KIND_ABOVE" "[I" (.ref 1001) := fun _ _ _ h => h.2.2.1
theorem ro_bytes (G : Cx) : RoA G .byte 1003 7 (fun j => ltB.getD j 0) := fun _ _ _ h => (h.2.2.2.2.2.1.1 0 (by omega)).2.2.2
theorem ro_coder (G : Cx) : RoF G "coder" "B" (.int 0) := fun _ _ _ h => (h.2.2.2.2.2.1.1 0 (by omega)).2.1
theorem ro_value (G : Cx) : RoF G "value" "[B" (.ref 1003) := fun _ _ _ h => (h.2.2.2.2.2.1.1 0 (by omega)).2.2.1
theorem ro_ones (G : Cx) : RoA G .byte 1004 100 (fun j => nI (48 + j % 10)) := fun _ _ _ h => h.2.2.2.2.2.2.1
theorem ro_onesZ (G : Cx) : RoZ G "java/lang/Integer" "DigitOnes" "[B" (.ref 1004) := fun _ _ _ h => h.2.2.2.2.2.2.2.1
theorem ro_tens (G : Cx) : RoA G .byte 1005 100 (fun j => nI (48 + j / 10)) := fun _ _ _ h => h.2.2.2.2.2.2.2.2.1
theorem ro_tensZ (G : Cx) : RoZ G "java/lang/Integer" "DigitTens" "[B" (.ref 1005) := fun _ _ _ h => h.2.2.2.2.2.2.2.2.2.1
theorem ro_compact (G : Cx) : RoZ G "java/lang/String" "COMPACT_STRINGS" "Z" (.int 1) := fun _ _ _ h => h.2.2.2.2.2.2.2.2.2.2.1
theorem roA_at {G : Cx} {ty : FieldType} {a n : Nat} {f : Nat → Int32} (h : RoA G ty a n f) {ad : Nat → Nat} {s : State} {H : Heap} {locs : List Loc} (hR : Ro G ad s s.heap) (hS : va_S (cS G) s.heap H locs) : ∃ cell : Cell, H[ad a]? = some cell ∧ s.isArrayOf cell ty ∧ cell.vm ≠ .unknown ∧ n ≤ cell.slots.size ∧ cell.slots.size.toInt32 = Int32.ofNat n ∧ ∀ j : Nat, j < n → cell.slots[j]? = some (.int (f j)) := by
  obtain ⟨cell, h1, h2, h3, h4, h5, h6, h7⟩ := h ad s s.heap hR
  exact ⟨cell, by rw [hS.2.1 _ (Array.getElem?_eq_some_iff.mp h1).1 h7]; exact h1, h2, h3, h4, h5, h6⟩
section RROWS
variable {G : Cx} {M M' : MD} {d mc ms mc' ms' : Nat} {P P' : Option Value → Hp → Prop} {pc : Nat} {ls : List (Nat × Value)} {st st0 : List Value} {μ : Hp} {avs : List Value} {idx n : Nat}
theorem v_gets {C nm dc : String} {v : Value} (hz : RoZ G C nm dc v) (hlk : Cond.fieldLink M.1.cls idx C nm dc ∈ gw) (hd : decode M.2.1 pc = .ok (.getstatic idx, 3)) (hok : okv μ v) (k : V G M d mc ms P (pc + 3) ls (v :: st) μ) : V G M d mc ms P pc ls st μ :=
  V.to k (fun h => oks_c hok h) (fun F _ hS hR _ w => va_gets F.1 F.2.1 (hz _ _ _ hR) hS F.2.2.2.2.1 (F.2.2.2.2.2.2.2.1 _ hlk) (fun _ h => h) hd w)
theorem v_rof {nm dc : String} {v : Value} (hz : RoF G nm dc v) (hlk : Cond.fieldLink M.1.cls idx "java/lang/String" nm dc ∈ gw) (hd : decode M.2.1 pc = .ok (.getfield idx, 3)) (hok : okv μ v) (k : V G M d mc ms P (pc + 3) ls (v :: st) μ) : V G M d mc ms P pc ls (.ref 1002 :: st) μ :=
  V.to k (fun h => oks_c hok (oks_t h)) (fun F _ hS hR _ w => vk_getf F.1 F.2.1 (hz _ _ _ hR) hS F.2.2.2.2.1 (F.2.2.2.2.2.2.2.1 _ hlk) (fun _ h => h) hd w)
theorem v_roi {a n : Nat} {f : Nat → Int32} {i : Int32} (ha : RoA G .int a n f) (hd : decode M.2.1 pc = .ok (.iaload, 1)) (hin : vp_in i n) (hn : n < 2 ^ 31) (k : V G M d mc ms P (pc + 1) ls (.int (f i.toNatClampNeg) :: st) μ) : V G M d mc ms P pc ls (.int i :: .ref a :: st) μ :=
  V.to k (fun h => oks_c okv_i (oks_t (oks_t h))) (fun F _ hS hR _ w => by
    obtain ⟨cell, h1, h2, h3, h4, h5, h6⟩ := roA_at ha hR hS
    have hlt : i.toNatClampNeg < n := Nat.not_le.mp fun q => hin (Or.inr q)
    exact W.iald F.1 F.2.1 h1 h2 h3 (fun q => q.elim (fun z => hin (Or.inl z)) (fun z => by omega)) (h6 _ hlt) rfl rfl hd w)
theorem v_rob {a n : Nat} {f : Nat → Int32} {i : Int32} (ha : RoA G .byte a n f) (hd : decode M.2.1 pc = .ok (.baload, 1)) (hin : vp_in i n) (hn : n < 2 ^ 31) (k : V G M d mc ms P (pc + 1) ls (.int (f i.toNatClampNeg) :: st) μ) : V G M d mc ms P pc ls (.int i :: .ref a :: st) μ :=
  V.to k (fun h => oks_c okv_i (oks_t (oks_t h))) (fun F _ hS hR _ w => by
    obtain ⟨cell, h1, h2, h3, h4, h5, h6⟩ := roA_at ha hR hS
    have hlt : i.toNatClampNeg < n := Nat.not_le.mp fun q => hin (Or.inr q)
    exact W.bald F.1 F.2.1 h1 h2 h3 (fun q => q.elim (fun z => hin (Or.inl z)) (fun z => by omega)) (h6 _ hlt) rfl rfl hd w)
theorem v_rolen {ty : FieldType} {a n : Nat} {f : Nat → Int32} (ha : RoA G ty a n f) (hd : decode M.2.1 pc = .ok (.arraylength, 1)) (k : V G M d mc ms P (pc + 1) ls (.int (nI n) :: st) μ) : V G M d mc ms P pc ls (.ref a :: st) μ :=
  V.to k (fun h => oks_c okv_i (oks_t h)) (fun F _ hS hR _ w => by
    obtain ⟨cell, h1, h2, h3, h4, h5, h6⟩ := roA_at ha hR hS
    exact W.alen F.1 F.2.1 h1 h2 h5 rfl rfl hd w)
/-- the letters' text, loaded -/
theorem v_ldcS (hz : ∀ (ad : Nat → Nat) (U : State) (H : Heap), Ro G ad U H → vk_R M.1.cls idx "gyspwrf" (ad 1002) U) (hd : decode M.2.1 pc = .ok (.ldc idx, 2)) (k : V G M d mc ms P (pc + 2) ls (.ref 1002 :: st) μ) : V G M d mc ms P pc ls st μ :=
  V.to k (fun h => oks_c (okv_ro (by decide)) h) (fun F _ _ hR _ w => va_ldcS F.1 F.2.1 F.2.2.2.2.1 (hz _ _ _ hR) hd w)
/-- a call on the letters' text -/
def CR (own : String) (idx : Nat) (M' : MD) (n : Nat) : Prop := CB M' n ∧ Cond.methodLink own idx M'.1 ∈ gw ∧ Cond.instanceMethod M'.1 ∈ gw ∧ Cond.selects "java/lang/String" M'.1 M'.1 ∈ gw
theorem v_callR (hC : Ct G d mc' ms' M' (.ref 1002 :: avs) μ P') (hw : CR M.1.cls idx M' n) (hd : decode M.2.1 pc = .ok (.invokevirtual idx, 3)) (hn : avs.length = n) (hst : st0 = avs.reverse ++ .ref 1002 :: st) (h8 : (st.map fun v => v.category).sum ≤ 8)
    (kk : ∀ r μ', P' r μ' → V G M (d + 1) mc ms P (pc + 3) ls (r.toList ++ st) μ') : V G M (d + 1) (mc + mc') (ms + ms') P pc ls st0 μ := by
  subst hst
  intro p l e R s m args below meth c Q ad H locs cells slots sl F hW hS hR hl hs hsl h1 h2 hE
  have ha : oks μ (.ref 1002 :: avs) := oks_c (hs _ (List.mem_append_right _ List.mem_cons_self)) (fun v hv => hs v (List.mem_append_left _ (List.mem_reverse.mpr hv)))
  have hr : oks μ st := fun v hv => hs v (List.mem_append_right _ (List.mem_cons_of_mem _ hv))
  rw [rev_x]
  obtain ⟨cell, w1, w2, w3⟩ := vk_recv (i := 0) hR.2.2.2.2.2.1 (by omega) hS
  exact v_cont (va_runV (C := "java/lang/String") (b := ad 1002) (As := avs.map (xv ad)) (rest := st.map (xv ad)) ⟨F.1, F.2.1, F.2.2.1, F.2.2.2.2.1, F.2.2.2.2.2.2.2.1⟩ (hC l ad ha) ⟨cb_of F hw.1 hw.2.1, F.2.2.2.2.2.2.2.1 _ hw.2.2.1, F.2.2.2.2.2.2.2.1 _ hw.2.2.2⟩ ⟨pc_blind, ⟨cell, w1, w2, w3⟩, pc_at hW hS F.2.2.2.2.2.2.2.2.1 hR⟩ rfl (by rw [List.length_map]; exact hn) hsl.1 rfl (lv_room (cat_x ad st h8)) hd ⟨by omega, by omega⟩) F hS hR hl hr hsl h1 h2 hE kk
end RROWS
