theorem ac_nat : Cond.native arraycopyName ∈ gw := gwAt 974 (by decide +kernel) rfl
theorem ac_stat : Cond.static arraycopyName ∈ gw := gwAt 973 (by decide +kernel) rfl
theorem ac_ini : Cond.initialized "java/lang/System" ∈ gw := gwAt 78 (by decide +kernel) rfl
theorem cs_X6_371 : Cond.methodLink RX6 371 arraycopyName ∈ gw := gwAt 972 (by decide +kernel) rfl
theorem cs_X0_48 : Cond.methodLink RX0 48 arraycopyName ∈ gw := gwAt 1154 (by decide +kernel) rfl
theorem cs_X7_140 : Cond.methodLink RX7 140 arraycopyName ∈ gw := gwAt 1398 (by decide +kernel) rfl
theorem cs_J7_150 : Cond.methodLink RJ7 150 arraycopyName ∈ gw := gwAt 1022 (by decide +kernel) rfl
theorem ac_words : nativeFrameWords "java/lang/System" "arraycopy" 5 ≤ 20 := by decide +kernel
theorem nn_of (z : Int32) (hz : ¬ z < 0) : z.toInt = (z.toNatClampNeg : Int) := by
  have hz0 : (0 : Int) ≤ z.toInt := by
    have := Int32.not_lt.mp hz
    simpa using Int32.le_iff_toInt_le.mp this
  show z.toInt = ((z.toInt.toNat : Nat) : Int)
  omega
section COPY
variable {G : Cx} {M : MD} {d mc ms : Nat} {P : Option Value → Hp → Prop} {pc : Nat} {ls : List (Nat × Value)} {st : List Value} {μ : Hp}
set_option maxHeartbeats 1000000 in
theorem v_copyi {idx a0 a n0 n1 t : Nat} {ty : FieldType} {f g : Nat → Int32} {sp dp n : Int32} (hlk : Cond.methodLink M.1.cls idx arraycopyName ∈ gw) (hd : decode M.2.1 pc = .ok (.invokestatic idx, 3)) (hμ0 : μ a0 = some (.inl (t, (n0, .inl f)))) (hμ1 : μ a = some (.inl (t, (n1, .inl g)))) (ht : (tysOf G)[t]? = some (cA G t, ty)) (hprim : refKind ty = false)
    (h1 : ¬ sp < 0) (h2 : ¬ dp < 0) (h3 : ¬ n < 0) (h4 : sp.toNatClampNeg + n.toNatClampNeg ≤ n0) (h5 : dp.toNatClampNeg + n.toNatClampNeg ≤ n1) (hfit : ∀ i, i < n.toNatClampNeg → fits ty (.int (f (sp.toNatClampNeg + i))) = true) (h8 : (st.map fun v => v.category).sum ≤ 8)
    (kk : V G M (d + 1) mc ms P (pc + 3) ls st (up μ a (.inl (t, (n1, .inl (va_cpy f g sp.toNatClampNeg dp.toNatClampNeg n.toNatClampNeg)))))) : V G M (d + 1) mc ms P pc ls (.int n :: .int dp :: .ref a :: .int sp :: .ref a0 :: st) μ := by
  intro p l e R s m args below meth c Q ad H locs cells slots sl F hW hS hR hl hs hsl b1 b2 hE
  obtain ⟨f1, f2, f3, f4, f5, f6, f7, f8, f9, f10, f11⟩ := id F
  intro T hT X
  have hc0 : H[ad a0]? = some (vp_cell (cA G t) (n0, .inl f)) := hW.mut hμ0
  have hc1 : H[ad a]? = some (vp_cell (cA G t) (n1, .inl g)) := hW.mut hμ1
  obtain ⟨-, k0, hk0, cm0, hkk0⟩ := (f9.2.2 t _ ht).1 n0 (fun j => .int (f j))
  obtain ⟨-, k1, hk1, cm1, hkk1⟩ := (f9.2.2 t _ ht).1 n1 (fun j => .int (g j))
  obtain ⟨vm', X', step⟩ := X.arraycopy f1 f5 (f8 _ hlk) (f8 _ ac_nat) (f8 _ ac_stat) (f8 _ ac_ini) (src := ad a0) (dst := ad a) (cs := vp_cell (cA G t) (n0, .inl f)) (cd := vp_cell (cA G t) (n1, .inl g)) (srcPos := sp) (destPos := dp) (n := n) (by rw [hT]; exact hc0) (by rw [hT]; exact hc1)
    (fun _ h => by cases h) (fun _ h => by cases h) (fun h => by cases h) (fun h => by cases h) hk0 hk1 hkk0 hkk1 (by simp [hprim]) h1 h2 h3
    (by rw [nn_of sp h1, nn_of n h3]; show ¬ _ > ((arrV (cA G t) n0 (fun j => .int (f j))).slots.size : Int); rw [arrV_size]; omega)
    (by rw [nn_of dp h2, nn_of n h3]; show ¬ _ > ((arrV (cA G t) n1 (fun j => .int (g j))).slots.size : Int); rw [arrV_size]; omega)
    (fun vm₁ _ i hi => by
      have e : (vp_cell (cA G t) (n0, .inl f)).slots.getD (sp.toNatClampNeg + i) .null = .int (f (sp.toNatClampNeg + i)) := by
        show (arrV (cA G t) n0 (fun j => .int (f j))).slots.getD _ _ = _
        rw [Array.getD_eq_getD_getElem?, arrV_read _ _ (by omega)]
        rfl
      refine ⟨?_, ?_⟩
      · rw [e]
        exact hfit i hi
      · rw [e]
        exact trivial)
    (g := F0 m pc sl ((.int n :: .int dp :: .ref a :: .int sp :: .ref a0 :: st).map (xv ad))) rfl (by rw [hsl.1, f3]) (rest := st.map (xv ad)) rfl (by rw [f2]; exact hd) (by omega) (by have := cat_x ad st h8; show 2 * 0 + _ + _ ≤ _; have := ac_words; omega)
  have e1 : copied (vp_cell (cA G t) (n0, .inl f)) (vp_cell (cA G t) (n1, .inl g)) sp dp n = vp_cell (cA G t) (n1, .inl (va_cpy f g sp.toNatClampNeg dp.toNatClampNeg n.toNatClampNeg)) := va_copied (fun z => .int z) (cA G t) (cA G t) f g h4
  rw [e1] at X' step
  have hlt : ad a < H.size := (Array.getElem?_eq_some_iff.mp hc1).1
  have hheap : ((T.setVm vm').setCell (ad a) (vp_cell (cA G t) (n1, .inl (va_cpy f g sp.toNatClampNeg dp.toNatClampNeg n.toNatClampNeg)))).heap = H.setIfInBounds (ad a) (vp_cell (cA G t) (n1, .inl (va_cpy f g sp.toNatClampNeg dp.toNatClampNeg n.toNatClampNeg))) := by rw [← hT]; rfl
  have oq : ∀ q : Nat, q ≠ ad a → (H.setIfInBounds (ad a) (vp_cell (cA G t) (n1, .inl (va_cpy f g sp.toNatClampNeg dp.toNatClampNeg n.toNatClampNeg))))[q]? = H[q]? := fun q hq => by simp [Array.getElem?_setIfInBounds, Ne.symm hq]
  have hge := (hW.2.1 a _ hμ1).2.2.1
  have hsb := up_sb μ a (.inl (t, (n1, .inl (va_cpy f g sp.toNatClampNeg dp.toNatClampNeg n.toNatClampNeg))))
  obtain ⟨t, a1, b1⟩ := kk p l e R s m args below meth c Q ad _ _ cells slots sl F (hW.put hμ1 (by simp) (show (H.setIfInBounds (ad a) _)[ad a]? = some _ by simp [Array.getElem?_setIfInBounds, hlt]; rfl) oq trivial) ⟨by simp; exact hS.1, fun q g1 g2 => by
      rw [oq q (fun e => g2 (by rw [e]; exact hge))]
      exact hS.2.1 q g1 g2, fun q hq => by
      rcases List.mem_append.mp hq with h | h
      · exact hS.2.2 q h
      · obtain ⟨z, -, hz⟩ := List.mem_map.mp h
        rw [← hz]
        exact hge⟩ hR (fun q hq => hsb.okv (hl q hq)) (fun q hq => hsb.okv (hs q (by simp [hq]))) hsl b1 b2 (hE.to Ag.refl hsb (Nat.le_refl _) (Nat.le_refl _)) _ hheap X'
  exact ⟨t, step t a1, b1⟩
set_option maxHeartbeats 1000000 in
theorem v_copyl {idx a0 a n0 n1 t : Nat} {ty : FieldType} {f g : Nat → Int64} {sp dp n : Int32} (hlk : Cond.methodLink M.1.cls idx arraycopyName ∈ gw) (hd : decode M.2.1 pc = .ok (.invokestatic idx, 3)) (hμ0 : μ a0 = some (.inl (t, (n0, .inr (.inl f))))) (hμ1 : μ a = some (.inl (t, (n1, .inr (.inl g))))) (ht : (tysOf G)[t]? = some (cA G t, ty)) (hprim : refKind ty = false)
    (h1 : ¬ sp < 0) (h2 : ¬ dp < 0) (h3 : ¬ n < 0) (h4 : sp.toNatClampNeg + n.toNatClampNeg ≤ n0) (h5 : dp.toNatClampNeg + n.toNatClampNeg ≤ n1) (hfit : ∀ i, i < n.toNatClampNeg → fits ty (.long (f (sp.toNatClampNeg + i))) = true) (h8 : (st.map fun v => v.category).sum ≤ 8)
    (kk : V G M (d + 1) mc ms P (pc + 3) ls st (up μ a (.inl (t, (n1, .inr (.inl (va_cpy f g sp.toNatClampNeg dp.toNatClampNeg n.toNatClampNeg))))))) : V G M (d + 1) mc ms P pc ls (.int n :: .int dp :: .ref a :: .int sp :: .ref a0 :: st) μ := by
  intro p l e R s m args below meth c Q ad H locs cells slots sl F hW hS hR hl hs hsl b1 b2 hE
  obtain ⟨f1, f2, f3, f4, f5, f6, f7, f8, f9, f10, f11⟩ := id F
  intro T hT X
  have hc0 : H[ad a0]? = some (vp_cell (cA G t) (n0, .inr (.inl f))) := hW.mut hμ0
  have hc1 : H[ad a]? = some (vp_cell (cA G t) (n1, .inr (.inl g))) := hW.mut hμ1
  obtain ⟨-, k0, hk0, cm0, hkk0⟩ := (f9.2.2 t _ ht).1 n0 (fun j => .long (f j))
  obtain ⟨-, k1, hk1, cm1, hkk1⟩ := (f9.2.2 t _ ht).1 n1 (fun j => .long (g j))
  obtain ⟨vm', X', step⟩ := X.arraycopy f1 f5 (f8 _ hlk) (f8 _ ac_nat) (f8 _ ac_stat) (f8 _ ac_ini) (src := ad a0) (dst := ad a) (cs := vp_cell (cA G t) (n0, .inr (.inl f))) (cd := vp_cell (cA G t) (n1, .inr (.inl g))) (srcPos := sp) (destPos := dp) (n := n) (by rw [hT]; exact hc0) (by rw [hT]; exact hc1)
    (fun _ h => by cases h) (fun _ h => by cases h) (fun h => by cases h) (fun h => by cases h) hk0 hk1 hkk0 hkk1 (by simp [hprim]) h1 h2 h3
    (by rw [nn_of sp h1, nn_of n h3]; show ¬ _ > ((arrV (cA G t) n0 (fun j => .long (f j))).slots.size : Int); rw [arrV_size]; omega)
    (by rw [nn_of dp h2, nn_of n h3]; show ¬ _ > ((arrV (cA G t) n1 (fun j => .long (g j))).slots.size : Int); rw [arrV_size]; omega)
    (fun vm₁ _ i hi => by
      have e : (vp_cell (cA G t) (n0, .inr (.inl f))).slots.getD (sp.toNatClampNeg + i) .null = .long (f (sp.toNatClampNeg + i)) := by
        show (arrV (cA G t) n0 (fun j => .long (f j))).slots.getD _ _ = _
        rw [Array.getD_eq_getD_getElem?, arrV_read _ _ (by omega)]
        rfl
      refine ⟨?_, ?_⟩
      · rw [e]
        exact hfit i hi
      · rw [e]
        exact trivial)
    (g := F0 m pc sl ((.int n :: .int dp :: .ref a :: .int sp :: .ref a0 :: st).map (xv ad))) rfl (by rw [hsl.1, f3]) (rest := st.map (xv ad)) rfl (by rw [f2]; exact hd) (by omega) (by have := cat_x ad st h8; show 2 * 0 + _ + _ ≤ _; have := ac_words; omega)
  have e1 : copied (vp_cell (cA G t) (n0, .inr (.inl f))) (vp_cell (cA G t) (n1, .inr (.inl g))) sp dp n = vp_cell (cA G t) (n1, .inr (.inl (va_cpy f g sp.toNatClampNeg dp.toNatClampNeg n.toNatClampNeg))) := va_copied (fun z => .long z) (cA G t) (cA G t) f g h4
  rw [e1] at X' step
  have hlt : ad a < H.size := (Array.getElem?_eq_some_iff.mp hc1).1
  have hheap : ((T.setVm vm').setCell (ad a) (vp_cell (cA G t) (n1, .inr (.inl (va_cpy f g sp.toNatClampNeg dp.toNatClampNeg n.toNatClampNeg))))).heap = H.setIfInBounds (ad a) (vp_cell (cA G t) (n1, .inr (.inl (va_cpy f g sp.toNatClampNeg dp.toNatClampNeg n.toNatClampNeg)))) := by rw [← hT]; rfl
  have oq : ∀ q : Nat, q ≠ ad a → (H.setIfInBounds (ad a) (vp_cell (cA G t) (n1, .inr (.inl (va_cpy f g sp.toNatClampNeg dp.toNatClampNeg n.toNatClampNeg)))))[q]? = H[q]? := fun q hq => by simp [Array.getElem?_setIfInBounds, Ne.symm hq]
  have hge := (hW.2.1 a _ hμ1).2.2.1
  have hsb := up_sb μ a (.inl (t, (n1, .inr (.inl (va_cpy f g sp.toNatClampNeg dp.toNatClampNeg n.toNatClampNeg)))))
  obtain ⟨t, a1, b1⟩ := kk p l e R s m args below meth c Q ad _ _ cells slots sl F (hW.put hμ1 (by simp) (show (H.setIfInBounds (ad a) _)[ad a]? = some _ by simp [Array.getElem?_setIfInBounds, hlt]; rfl) oq trivial) ⟨by simp; exact hS.1, fun q g1 g2 => by
      rw [oq q (fun e => g2 (by rw [e]; exact hge))]
      exact hS.2.1 q g1 g2, fun q hq => by
      rcases List.mem_append.mp hq with h | h
      · exact hS.2.2 q h
      · obtain ⟨z, -, hz⟩ := List.mem_map.mp h
        rw [← hz]
        exact hge⟩ hR (fun q hq => hsb.okv (hl q hq)) (fun q hq => hsb.okv (hs q (by simp [hq]))) hsl b1 b2 (hE.to Ag.refl hsb (Nat.le_refl _) (Nat.le_refl _)) _ hheap X'
  exact ⟨t, step t a1, b1⟩
set_option maxHeartbeats 1000000 in
theorem v_copyf {idx a0 a n0 n1 t : Nat} {ty : FieldType} {f g : Nat → UInt32} {sp dp n : Int32} (hlk : Cond.methodLink M.1.cls idx arraycopyName ∈ gw) (hd : decode M.2.1 pc = .ok (.invokestatic idx, 3)) (hμ0 : μ a0 = some (.inl (t, (n0, .inr (.inr (.inl f)))))) (hμ1 : μ a = some (.inl (t, (n1, .inr (.inr (.inl g)))))) (ht : (tysOf G)[t]? = some (cA G t, ty)) (hprim : refKind ty = false)
    (h1 : ¬ sp < 0) (h2 : ¬ dp < 0) (h3 : ¬ n < 0) (h4 : sp.toNatClampNeg + n.toNatClampNeg ≤ n0) (h5 : dp.toNatClampNeg + n.toNatClampNeg ≤ n1) (hfit : ∀ i, i < n.toNatClampNeg → fits ty (.float (f (sp.toNatClampNeg + i))) = true) (h8 : (st.map fun v => v.category).sum ≤ 8)
    (kk : V G M (d + 1) mc ms P (pc + 3) ls st (up μ a (.inl (t, (n1, .inr (.inr (.inl (va_cpy f g sp.toNatClampNeg dp.toNatClampNeg n.toNatClampNeg)))))))) : V G M (d + 1) mc ms P pc ls (.int n :: .int dp :: .ref a :: .int sp :: .ref a0 :: st) μ := by
  intro p l e R s m args below meth c Q ad H locs cells slots sl F hW hS hR hl hs hsl b1 b2 hE
  obtain ⟨f1, f2, f3, f4, f5, f6, f7, f8, f9, f10, f11⟩ := id F
  intro T hT X
  have hc0 : H[ad a0]? = some (vp_cell (cA G t) (n0, .inr (.inr (.inl f)))) := hW.mut hμ0
  have hc1 : H[ad a]? = some (vp_cell (cA G t) (n1, .inr (.inr (.inl g)))) := hW.mut hμ1
  obtain ⟨-, k0, hk0, cm0, hkk0⟩ := (f9.2.2 t _ ht).1 n0 (fun j => .float (f j))
  obtain ⟨-, k1, hk1, cm1, hkk1⟩ := (f9.2.2 t _ ht).1 n1 (fun j => .float (g j))
  obtain ⟨vm', X', step⟩ := X.arraycopy f1 f5 (f8 _ hlk) (f8 _ ac_nat) (f8 _ ac_stat) (f8 _ ac_ini) (src := ad a0) (dst := ad a) (cs := vp_cell (cA G t) (n0, .inr (.inr (.inl f)))) (cd := vp_cell (cA G t) (n1, .inr (.inr (.inl g)))) (srcPos := sp) (destPos := dp) (n := n) (by rw [hT]; exact hc0) (by rw [hT]; exact hc1)
    (fun _ h => by cases h) (fun _ h => by cases h) (fun h => by cases h) (fun h => by cases h) hk0 hk1 hkk0 hkk1 (by simp [hprim]) h1 h2 h3
    (by rw [nn_of sp h1, nn_of n h3]; show ¬ _ > ((arrV (cA G t) n0 (fun j => .float (f j))).slots.size : Int); rw [arrV_size]; omega)
    (by rw [nn_of dp h2, nn_of n h3]; show ¬ _ > ((arrV (cA G t) n1 (fun j => .float (g j))).slots.size : Int); rw [arrV_size]; omega)
    (fun vm₁ _ i hi => by
      have e : (vp_cell (cA G t) (n0, .inr (.inr (.inl f)))).slots.getD (sp.toNatClampNeg + i) .null = .float (f (sp.toNatClampNeg + i)) := by
        show (arrV (cA G t) n0 (fun j => .float (f j))).slots.getD _ _ = _
        rw [Array.getD_eq_getD_getElem?, arrV_read _ _ (by omega)]
        rfl
      refine ⟨?_, ?_⟩
      · rw [e]
        exact hfit i hi
      · rw [e]
        exact trivial)
    (g := F0 m pc sl ((.int n :: .int dp :: .ref a :: .int sp :: .ref a0 :: st).map (xv ad))) rfl (by rw [hsl.1, f3]) (rest := st.map (xv ad)) rfl (by rw [f2]; exact hd) (by omega) (by have := cat_x ad st h8; show 2 * 0 + _ + _ ≤ _; have := ac_words; omega)
  have e1 : copied (vp_cell (cA G t) (n0, .inr (.inr (.inl f)))) (vp_cell (cA G t) (n1, .inr (.inr (.inl g)))) sp dp n = vp_cell (cA G t) (n1, .inr (.inr (.inl (va_cpy f g sp.toNatClampNeg dp.toNatClampNeg n.toNatClampNeg)))) := va_copied (fun z => .float z) (cA G t) (cA G t) f g h4
  rw [e1] at X' step
  have hlt : ad a < H.size := (Array.getElem?_eq_some_iff.mp hc1).1
  have hheap : ((T.setVm vm').setCell (ad a) (vp_cell (cA G t) (n1, .inr (.inr (.inl (va_cpy f g sp.toNatClampNeg dp.toNatClampNeg n.toNatClampNeg)))))).heap = H.setIfInBounds (ad a) (vp_cell (cA G t) (n1, .inr (.inr (.inl (va_cpy f g sp.toNatClampNeg dp.toNatClampNeg n.toNatClampNeg))))) := by rw [← hT]; rfl
  have oq : ∀ q : Nat, q ≠ ad a → (H.setIfInBounds (ad a) (vp_cell (cA G t) (n1, .inr (.inr (.inl (va_cpy f g sp.toNatClampNeg dp.toNatClampNeg n.toNatClampNeg))))))[q]? = H[q]? := fun q hq => by simp [Array.getElem?_setIfInBounds, Ne.symm hq]
  have hge := (hW.2.1 a _ hμ1).2.2.1
  have hsb := up_sb μ a (.inl (t, (n1, .inr (.inr (.inl (va_cpy f g sp.toNatClampNeg dp.toNatClampNeg n.toNatClampNeg))))))
  obtain ⟨t, a1, b1⟩ := kk p l e R s m args below meth c Q ad _ _ cells slots sl F (hW.put hμ1 (by simp) (show (H.setIfInBounds (ad a) _)[ad a]? = some _ by simp [Array.getElem?_setIfInBounds, hlt]; rfl) oq trivial) ⟨by simp; exact hS.1, fun q g1 g2 => by
      rw [oq q (fun e => g2 (by rw [e]; exact hge))]
      exact hS.2.1 q g1 g2, fun q hq => by
      rcases List.mem_append.mp hq with h | h
      · exact hS.2.2 q h
      · obtain ⟨z, -, hz⟩ := List.mem_map.mp h
        rw [← hz]
        exact hge⟩ hR (fun q hq => hsb.okv (hl q hq)) (fun q hq => hsb.okv (hs q (by simp [hq]))) hsl b1 b2 (hE.to Ag.refl hsb (Nat.le_refl _) (Nat.le_refl _)) _ hheap X'
  exact ⟨t, step t a1, b1⟩
end COPY
