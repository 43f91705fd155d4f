/-! ===== heap rows, calls, contracts ===== -/
theorem va_P1 {D : va_G} {cl : List vw_C} {x : Nat × va_E} {H : Heap} (h : va_at D cl x H) : va_P D cl [x] H := fun k q hk => by
  have hz : k < 1 := (List.getElem?_eq_some_iff.mp hk).1
  rw [show k = 0 by omega] at hk
  cases hk
  exact h
theorem narrow_xv {ty : FieldType} {v : Value} (ad : Nat → Nat) (h : narrow ty v = v) : narrow ty (xv ad v) = xv ad v := by
  cases v <;> first | exact h | (cases ty <;> rfl)
theorem fits_xv {ty : FieldType} {v : Value} (ad : Nat → Nat) (h : fits ty v = true) : fits ty (xv ad v) = true := by
  cases v <;> first | exact h | (cases ty <;> first | rfl | exact h)
theorem set_xv (ad : Nat → Nat) (fs : List Value) (k : Nat) (v : Value) : (fs.map (xv ad)).set k (xv ad v) = (fs.set k v).map (xv ad) := by rw [List.map_set]
theorem mem_set_ok {μ : Hp} {fs : List Value} {k : Nat} {v : Value} (h : ∀ u ∈ fs, okv μ u) (hv : okv μ v) : ∀ u ∈ fs.set k v, okv μ u := fun u hu => by
  rcases List.mem_or_eq_of_mem_set hu with h1 | rfl
  · exact h u h1
  · exact hv
theorem S_put {G : Cx} {H0 H H1 : Heap} {locs : List Loc} {a k : Nat} (h : va_S (cS G) H0 H locs) (z : H1.size = H.size) (oq : ∀ q : Nat, q ≠ a → H1[q]? = H[q]?) (ha : cB G ≤ a) : va_S (cS G) H0 H1 (locs ++ [⟨a, k⟩]) := h.put z oq ha
/-- a field read from own's entry idx: place k of class ci -/
def FL (own : String) (idx ci k : Nat) : Prop := ∃ (C : String) (T : u_T) (N : Nat), vwCl[ci]? = some (C, T, N) ∧ k < N ∧ (∀ w ∈ u_ws C T N, w ∈ gw) ∧ Cond.fieldLink own idx (T k).1 (T k).2.1 (T k).2.2.1 ∈ gw
/-- a field written from own's entry idx -/
def FP (own : String) (idx ci k : Nat) (fin : Bool) (ty : FieldType) : Prop := ∃ (C : String) (T : u_T) (N : Nat) (ty0 : Nat → FieldType), vwCl[ci]? = some (C, T, N) ∧ k < N ∧ (∀ w ∈ u_ws C T N, w ∈ gw) ∧ Cond.fieldLink own idx (T k).1 (T k).2.1 (T k).2.2.1 ∈ gw ∧ (∀ k, k < N → parseFieldDescriptor (T k).2.2.1 = some (ty0 k)) ∧ (∀ a, a < N → ∀ b, b < N → a ≠ b → (T a).2.1 ≠ (T b).2.1) ∧ (T k).2.2.2 = fin ∧ ty0 k = ty ∧ (fin = true → (T k).1 = own)
/-- a class made from own's entry idx -/
def NW (own : String) (idx ci N : Nat) (fs : List Value) : Prop := ∃ (C : String) (T : u_T) (ty0 : Nat → FieldType), vwCl[ci]? = some (C, T, N) ∧ (∀ w ∈ u_ws C T N, w ∈ gw) ∧ (∀ k, k < N → parseFieldDescriptor (T k).2.2.1 = some (ty0 k)) ∧ Cond.classLink own idx C ∈ gw ∧ Cond.instantiable C N ∈ gw ∧ Cond.initialized C ∈ gw ∧ ∀ j, j < N → defaultValue (ty0 j) = vp_V fs j
section HROWS
variable {G : Cx} {M : MD} {d mc ms : Nat} {P : Option Value → Hp → Prop} {pc : Nat} {ls : List (Nat × Value)} {st : List Value} {μ : Hp}
theorem v_get {idx ci k a : Nat} {fs : List Value} {v : Value} (hF : FL M.1.cls idx ci k) (hd : decode M.2.1 pc = .ok (.getfield idx, 3)) (hμ : μ a = some (.inr (ci, fs))) (hv : fs[k]? = some v) (kk : V G M d mc ms P (pc + 3) ls (v :: st) μ) : V G M d mc ms P pc ls (.ref a :: st) μ := by
  intro p l e R s m args below meth c Q ad H locs cells slots sl F hW hS hR hl hs hsl h1 h2 hE
  obtain ⟨C, T, N, hc, hk, hin, hlk⟩ := hF
  obtain ⟨f1, f2, f3, f4, f5, f6, f7, f8, f9, f10, f11⟩ := id F
  refine va_get (ws := [(ad a, .inr (ci, fs.map (xv ad)))]) (ci := ci) (v := xv ad v) f1 f2 f8 hin f5 f9.2 (va_P1 (hW.mut hμ)) 0 rfl hc k hk (f8 _ hlk) (fun _ h => h) (by rw [List.getElem?_map, hv]; rfl) hd ?_
  exact kk p l e R s m args below meth c Q ad H locs cells slots sl F hW hS hR hl (oks_c ((hW.2.1 a _ hμ).2.1 v (List.mem_of_getElem? hv)) (oks_t hs)) hsl h1 h2 hE
theorem v_put {idx ci k a : Nat} {ty : FieldType} {fs : List Value} {v : Value} (hF : FP M.1.cls idx ci k false ty) (hd : decode M.2.1 pc = .ok (.putfield idx, 3)) (hμ : μ a = some (.inr (ci, fs))) (hlen : k < fs.length) (hn : narrow ty v = v) (hfit : fits ty v = true) (kk : V G M d mc ms P (pc + 3) ls st (up μ a (.inr (ci, fs.set k v)))) : V G M d mc ms P pc ls (v :: .ref a :: st) μ := by
  intro p l e R s m args below meth c Q ad H locs cells slots sl F hW hS hR hl hs hsl h1 h2 hE
  obtain ⟨C, T, N, ty0, hc, hk, hin, hlk, hty, hnm, hfin, hte, -⟩ := hF
  obtain ⟨f1, f2, f3, f4, f5, f6, f7, f8, f9, f10, f11⟩ := id F
  have hap := va_apart (own := M.1.cls) f8 hin ty0 hty hnm f9.2 hc
  obtain ⟨hat, hok, hge, hlt9⟩ := hW.2.1 a _ hμ
  obtain ⟨r, g1, cell, q1, q2, q3, q4⟩ := id hat
  have hr : r = (C, T, N) := Option.some.inj (g1.symm.trans hc)
  subst hr
  obtain ⟨hSl, hfc, kC, hkC, hkind⟩ := f9.2.1 ci _ hc
  obtain ⟨cf, kf, fi, f, hi, hsl'⟩ := hSl k hk
  have hlay := f8 _ (hin _ (u_in_lay hk))
  unfold u_lay at hlay
  rw [if_neg (by rw [hfin]; decide)] at hlay
  have hst := (u_facts hfc hkC (u_lays f8 hin hk) hi).1
  have h6 := u_store (v := xv ad v) hfc hkC hkind hlay hi (by rw [hty k hk, hte]) (narrow_xv ad hn) (fits_xv ad hfit)
  refine W.putK f1 f2 (f := f) ⟨f5, f8 _ hlk, ⟨_, _, _, hi⟩, hst⟩ (by rw [q2]; exact h6) q1 q3 (by rw [hsl']; exact k2_hasslot (q4 k hk)) rfl rfl hd fun H' e1 e2 e3 => ?_
  rw [hsl'] at e1 ⊢
  have hW' : Wd G ad (up μ a (.inr (ci, fs.set k v))) H' := hW.put hμ e2 ⟨_, hc, by rw [← set_xv]; exact t_OB.to (V := updV (vp_V (fs.map (xv ad))) k (xv ad v)) ⟨_, e1, q2, q3, t_set q4 hap hk (xv ad v)⟩ (fun j _ => vp_updV_set (by rw [List.length_map]; exact hlen) (xv ad v) j)⟩ e3 (mem_set_ok hok (oks_h hs))
  have hsb := up_sb μ a (.inr (ci, fs.set k v))
  exact kk p l e R s m args below meth c Q ad H' _ cells slots sl F hW' (hS.put e2 e3 hge) hR (fun q hq => hsb.okv (hl q hq)) (fun q hq => hsb.okv (hs q (List.mem_cons_of_mem _ (List.mem_cons_of_mem _ hq)))) hsl h1 h2 (hE.to Ag.refl hsb (Nat.le_refl _) (Nat.le_refl _))
theorem v_putF {idx ci k a : Nat} {ty : FieldType} {fs : List Value} {v : Value} (hF : FP M.1.cls idx ci k true ty) (hm : M.1.name = "<init>") (hd : decode M.2.1 pc = .ok (.putfield idx, 3)) (hμ : μ a = some (.inr (ci, fs))) (hlen : k < fs.length) (hn : narrow ty v = v) (hfit : fits ty v = true) (kk : V G M d mc ms P (pc + 3) ls st (up μ a (.inr (ci, fs.set k v)))) : V G M d mc ms P pc ls (v :: .ref a :: st) μ := by
  intro p l e R s m args below meth c Q ad H locs cells slots sl F hW hS hR hl hs hsl h1 h2 hE
  obtain ⟨C, T, N, ty0, hc, hk, hin, hlk, hty, hnm, hfin, hte, hdecl⟩ := hF
  obtain ⟨f1, f2, f3, f4, f5, f6, f7, f8, f9, f10, f11⟩ := id F
  have hap := va_apart (own := M.1.cls) f8 hin ty0 hty hnm f9.2 hc
  obtain ⟨hat, hok, hge, hlt9⟩ := hW.2.1 a _ hμ
  obtain ⟨r, g1, cell, q1, q2, q3, q4⟩ := id hat
  have hr : r = (C, T, N) := Option.some.inj (g1.symm.trans hc)
  subst hr
  obtain ⟨hSl, hfc, kC, hkC, hkind⟩ := f9.2.1 ci _ hc
  obtain ⟨cf, kf, fi, f, hi, hsl'⟩ := hSl k hk
  have hlay := f8 _ (hin _ (u_in_lay hk))
  unfold u_lay at hlay
  rw [if_pos hfin] at hlay
  have hst := (u_facts hfc hkC (u_lays f8 hin hk) hi).1
  have hcf : m.cls = cf := by
    obtain ⟨_, _, c', _, _, _, -, -, hf', -, -, -, hown2, -⟩ := Cond.laysFinal_spec hlay
    have e1 : c' = cf := by have := hi.symm.trans hf'; simp at this; exact this.1.symm
    rw [hdecl rfl] at hown2
    rw [← e1]; exact Option.some.inj (f5.symm.trans hown2)
  have h6 := u_fits (v := xv ad v) hfc hkC hkind (Or.inr hlay) hi (by rw [hty k hk, hte]) (narrow_xv ad hn) (fits_xv ad hfit)
  refine W.putFinK f1 f2 f5 (f8 _ hlk) hi hst hcf (f7.trans hm) (by rw [q2]; exact h6) q1 q3 (by rw [hsl']; exact k2_hasslot (q4 k hk)) rfl rfl hd fun H' e1 e2 e3 => ?_
  rw [hsl'] at e1 ⊢
  have hW' : Wd G ad (up μ a (.inr (ci, fs.set k v))) H' := hW.put hμ e2 ⟨_, hc, by rw [← set_xv]; exact t_OB.to (V := updV (vp_V (fs.map (xv ad))) k (xv ad v)) ⟨_, e1, q2, q3, t_set q4 hap hk (xv ad v)⟩ (fun j _ => vp_updV_set (by rw [List.length_map]; exact hlen) (xv ad v) j)⟩ e3 (mem_set_ok hok (oks_h hs))
  have hsb := up_sb μ a (.inr (ci, fs.set k v))
  exact kk p l e R s m args below meth c Q ad H' _ cells slots sl F hW' (hS.put e2 e3 hge) hR (fun q hq => hsb.okv (hl q hq)) (fun q hq => hsb.okv (hs q (List.mem_cons_of_mem _ (List.mem_cons_of_mem _ hq)))) hsl h1 h2 (hE.to Ag.refl hsb (Nat.le_refl _) (Nat.le_refl _))
/-! arrays -/
theorem v_iald {a n : Nat} {f : Nat → Int32} {i : Int32} (hd : decode M.2.1 pc = .ok (.iaload, 1)) (hμ : μ a = some (.inl (0, (n, .inl f)))) (hin : vp_in i n) (kk : V G M d mc ms P (pc + 1) ls (.int (f i.toNatClampNeg) :: st) μ) : V G M d mc ms P pc ls (.int i :: .ref a :: st) μ :=
  V.to kk (fun h => oks_c okv_i (oks_t (oks_t h))) (fun F hW _ _ _ w => va_iald F.1 F.2.1 F.2.2.2.2.2.2.2.2.1.2 (va_P1 (hW.mut hμ)) 0 0 rfl rfl hin hd w)
theorem v_lald {a n : Nat} {f : Nat → Int64} {i : Int32} (hd : decode M.2.1 pc = .ok (.laload, 1)) (hμ : μ a = some (.inl (1, (n, .inr (.inl f))))) (hin : vp_in i n) (kk : V G M d mc ms P (pc + 1) ls (.long (f i.toNatClampNeg) :: st) μ) : V G M d mc ms P pc ls (.int i :: .ref a :: st) μ :=
  V.to kk (fun h => oks_c okv_l (oks_t (oks_t h))) (fun F hW _ _ _ w => va_lald F.1 F.2.1 F.2.2.2.2.2.2.2.2.1.2 (va_P1 (hW.mut hμ)) 0 1 rfl rfl hin hd w)
theorem v_fald {a n : Nat} {f : Nat → UInt32} {i : Int32} (hd : decode M.2.1 pc = .ok (.faload, 1)) (hμ : μ a = some (.inl (2, (n, .inr (.inr (.inl f)))))) (hin : vp_in i n) (kk : V G M d mc ms P (pc + 1) ls (.float (f i.toNatClampNeg) :: st) μ) : V G M d mc ms P pc ls (.int i :: .ref a :: st) μ :=
  V.to kk (fun h => oks_c okv_f (oks_t (oks_t h))) (fun F hW _ _ _ w => va_fald F.1 F.2.1 F.2.2.2.2.2.2.2.2.1.2 (va_P1 (hW.mut hμ)) 0 2 rfl rfl hin hd w)
theorem v_bald {a n : Nat} {f : Nat → Int32} {i : Int32} (hd : decode M.2.1 pc = .ok (.baload, 1)) (hμ : μ a = some (.inl (3, (n, .inl f)))) (hin : vp_in i n) (kk : V G M d mc ms P (pc + 1) ls (.int (f i.toNatClampNeg) :: st) μ) : V G M d mc ms P pc ls (.int i :: .ref a :: st) μ :=
  V.to kk (fun h => oks_c okv_i (oks_t (oks_t h))) (fun F hW _ _ _ w => va_bald F.1 F.2.1 F.2.2.2.2.2.2.2.2.1.2 (va_P1 (hW.mut hμ)) 0 3 rfl rfl hin hd w)
theorem v_aald {a n b t : Nat} {ty : FieldType} {f : Nat → Option Nat} {i : Int32} (hd : decode M.2.1 pc = .ok (.aaload, 1)) (hμ : μ a = some (.inl (t, (n, .inr (.inr (.inr (.inr f))))))) (ht : (tysOf G)[t]? = some (cA G t, ty)) (hty : ty.isReference = true) (hin : vp_in i n) (hf : f i.toNatClampNeg = some b) (kk : V G M d mc ms P (pc + 1) ls (.ref b :: st) μ) : V G M d mc ms P pc ls (.int i :: .ref a :: st) μ := by
  intro p l e R s m args below meth c Q ad H locs cells slots sl F hW hS hR hl hs hsl h1 h2 hE
  have hlt : i.toNatClampNeg < n := Nat.not_le.mp fun q => hin (Or.inr q)
  have hb : okv μ (.ref b) := fun k e => by cases e; exact (hW.2.1 a _ hμ).2.1 _ _ hf
  refine W.aald (v := .ref (ad b)) (ty := ty) F.1 F.2.1 (hW.mut hμ) ((F.2.2.2.2.2.2.2.2.1.2.2 t _ ht).1 n (fun j => va_rf ((f j).map ad))) hty (fun q => by cases q) (by show ¬ (i < 0 ∨ (arrV _ _ _).slots.size ≤ _); rw [arrV_size]; exact hin) (by show (arrV (cA G t) n (fun j => va_rf ((f j).map ad))).slots[_]? = _; rw [arrV_read _ _ hlt, hf]; rfl) rfl rfl hd ?_
  exact kk p l e R s m args below meth c Q ad H locs cells slots sl F hW hS hR hl (oks_c hb (oks_t (oks_t hs))) hsl h1 h2 hE
theorem v_alen {a t : Nat} {ty : FieldType} {x : vp_A} {v : Int32} (hd : decode M.2.1 pc = .ok (.arraylength, 1)) (hμ : μ a = some (.inl (t, x))) (ht : (tysOf G)[t]? = some (cA G t, ty)) (hv : Int32.ofNat x.1 = v) (kk : V G M d mc ms P (pc + 1) ls (.int v :: st) μ) : V G M d mc ms P pc ls (.ref a :: st) μ :=
  V.to kk (fun h => oks_c okv_i (oks_t h)) (fun {_} {_} {_} {_} {_} {_} {_} {_} {_} {_} {_} {ad} {_} {_} {_} {_} {_} F hW _ _ _ w => va_alen F.1 F.2.1 F.2.2.2.2.2.2.2.2.1.2 (va_P1 (hW.mut hμ)) 0 t rfl ht (by rw [← hv]; obtain ⟨n, f | f | f | f | f⟩ := x <;> rfl) hd w)
/-- the end of a row that writes cell a -/
theorem v_after {p : Program} {l : Launch} {e : Env} {R : Room} {s : State} {m : MethodId} {args : Array Value} {below : List Frame} {meth : Method} {c : Code} {Q : State → Prop} {ad : Nat → Nat} {H H1 : Heap} {locs : List Loc} {cells slots : Nat} {sl : Array Slot} {a k : Nat} {e0 e1 : va_E} {pc' : Nat} {s0 : List Value}
    (F : Fr G M d p R s m args meth c) (hW : Wd G ad μ H) (hS : va_S (cS G) s.heap H locs) (hR : Ro G ad s s.heap) (hl : okl μ ls) (hs : oks μ s0) (hsl : lv_has sl M.2.2.1 (xl ad ls)) (h1 : cells + mc ≤ R.cells) (h2 : slots + ms ≤ R.slots) (hE : En G M p l e R s m args below meth c Q ad μ (cells + mc) (slots + ms) P)
    (kk : V G M d mc ms P pc' ls s0 (up μ a e1)) (hμ : μ a = some e0) (hz : H1.size = H.size) (oq : ∀ q : Nat, q ≠ ad a → H1[q]? = H[q]?) (hok : oke μ e1) (hat : va_at (cD G) vwCl (ad a, xe G ad e1) H1) : W p l e R s m args below meth c H1 (locs ++ [⟨ad a, k⟩]) cells slots Q (F0 m pc' sl (s0.map (xv ad))) := by
  have hsb := up_sb μ a e1
  exact kk p l e R s m args below meth c Q ad H1 _ cells slots sl F (hW.put hμ hz hat oq hok) (hS.put hz oq (hW.2.1 a _ hμ).2.2.1) hR (fun q hq => hsb.okv (hl q hq)) (fun q hq => hsb.okv (hs q hq)) hsl h1 h2 (hE.to Ag.refl hsb (Nat.le_refl _) (Nat.le_refl _))
theorem v_iast {a n : Nat} {f : Nat → Int32} {i x : Int32} (hd : decode M.2.1 pc = .ok (.iastore, 1)) (hμ : μ a = some (.inl (0, (n, .inl f)))) (hin : vp_in i n) (kk : V G M d mc ms P (pc + 1) ls st (up μ a (.inl (0, (n, .inl (upd f i.toNatClampNeg x)))))) : V G M d mc ms P pc ls (.int x :: .int i :: .ref a :: st) μ := by
  intro p l e R s m args below meth c Q ad H locs cells slots sl F hW hS hR hl hs hsl h1 h2 hE
  refine W.iast F.1 F.2.1 (hW.mut hμ) ((F.2.2.2.2.2.2.2.2.1.2.2 0 _ rfl).1 n (fun j => .int (f j))) (fun q => by cases q) (by show ¬ (i < 0 ∨ (arrV _ _ _).slots.size ≤ _); rw [arrV_size]; exact hin) rfl rfl hd fun H1 e z oq => ?_
  refine v_after F hW hS hR hl (oks_t (oks_t (oks_t hs))) hsl h1 h2 hE kk hμ z oq trivial ?_
  show H1[ad a]? = some (vp_cell _ (n, .inl (upd f i.toNatClampNeg x)))
  rw [e]
  show some ((vp_cell (cA G 0) (n, .inl f)).setSlot _ _) = _
  rw [vp_cell_i, vp_cell_i, arrV_store]
  congr 2
  funext q
  by_cases hq : q = i.toNatClampNeg
  · subst hq; simp [updV, upd]
  · simp [updV, upd, hq]
theorem v_last {a n : Nat} {f : Nat → Int64} {i : Int32} {x : Int64} (hd : decode M.2.1 pc = .ok (.lastore, 1)) (hμ : μ a = some (.inl (1, (n, .inr (.inl f))))) (hin : vp_in i n) (kk : V G M d mc ms P (pc + 1) ls st (up μ a (.inl (1, (n, .inr (.inl (vp_updL f i.toNatClampNeg x))))))) : V G M d mc ms P pc ls (.long x :: .int i :: .ref a :: st) μ := by
  intro p l e R s m args below meth c Q ad H locs cells slots sl F hW hS hR hl hs hsl h1 h2 hE
  refine W.last F.1 F.2.1 (hW.mut hμ) ((F.2.2.2.2.2.2.2.2.1.2.2 1 _ rfl).1 n (fun j => .long (f j))) (fun q => by cases q) (by show ¬ (i < 0 ∨ (arrV _ _ _).slots.size ≤ _); rw [arrV_size]; exact hin) rfl rfl hd fun H1 e z oq => ?_
  refine v_after F hW hS hR hl (oks_t (oks_t (oks_t hs))) hsl h1 h2 hE kk hμ z oq trivial ?_
  show H1[ad a]? = some (vp_cell _ (n, .inr (.inl (vp_updL f i.toNatClampNeg x))))
  rw [e]
  show some ((vp_cell (cA G 1) (n, .inr (.inl f))).setSlot _ _) = _
  rw [vp_cell_l, vp_cell_l, arrV_store]
  congr 2
  funext q
  by_cases hq : q = i.toNatClampNeg
  · subst hq; simp [updV, vp_updL]
  · simp [updV, vp_updL, hq]
theorem v_fast {a n : Nat} {f : Nat → UInt32} {i : Int32} {x : UInt32} (hd : decode M.2.1 pc = .ok (.fastore, 1)) (hμ : μ a = some (.inl (2, (n, .inr (.inr (.inl f)))))) (hin : vp_in i n) (kk : V G M d mc ms P (pc + 1) ls st (up μ a (.inl (2, (n, .inr (.inr (.inl (vf_upd f i.toNatClampNeg x)))))))) : V G M d mc ms P pc ls (.float x :: .int i :: .ref a :: st) μ := by
  intro p l e R s m args below meth c Q ad H locs cells slots sl F hW hS hR hl hs hsl h1 h2 hE
  refine W.fast F.1 F.2.1 (hW.mut hμ) ((F.2.2.2.2.2.2.2.2.1.2.2 2 _ rfl).1 n (fun j => .float (f j))) (fun q => by cases q) (by show ¬ (i < 0 ∨ (arrV _ _ _).slots.size ≤ _); rw [arrV_size]; exact hin) rfl rfl hd fun H1 e z oq => ?_
  refine v_after F hW hS hR hl (oks_t (oks_t (oks_t hs))) hsl h1 h2 hE kk hμ z oq trivial ?_
  show H1[ad a]? = some (vp_cell _ (n, .inr (.inr (.inl (vf_upd f i.toNatClampNeg x)))))
  rw [e]
  show some ((vp_cell (cA G 2) (n, .inr (.inr (.inl f)))).setSlot _ _) = _
  rw [vp_cell_f, vp_cell_f, arrV_store]
  congr 2
  funext q
  by_cases hq : q = i.toNatClampNeg
  · subst hq; simp [updV, vf_upd]
  · simp [updV, vf_upd, hq]
end HROWS
/-! ===== contracts ===== -/
def PcOf (G : Cx) (ad : Nat → Nat) (avs : List Value) (μ : Hp) : Array Value → State → Prop := fun a U => a = (avs.map (xv ad)).toArray ∧ Wd G ad μ U.heap ∧ Tb G U ∧ Ro G ad U U.heap
def QcOf (G : Cx) (ad : Nat → Nat) (μ : Hp) (P : Option Value → Hp → Prop) : Array Value → State → Outcome → State → Prop := fun _ st oc t => ∃ (r : Option Value) (μ' : Hp) (ad' : Nat → Nat), oc = .returned (r.map (xv ad')) ∧ P r μ' ∧ Wd G ad' μ' t.heap ∧ Ag μ ad ad' ∧ Sb μ μ' ∧ (∀ v, r = some v → okv μ' v) ∧ va_F (cS G) st t
def rmOf (d mc ms : Nat) : Room := { frames := d, cells := mc, slots := ms, locals := 60 * d }
abbrev wsOf (M : MD) : List Cond := Cond.code M.1 M.2.1 M.2.2.1 M.2.2.2 :: gw
/-- calling M with avs over the cells μ: it returns, P of the answer and the cells then; calls go at most d deep, mc cells of ms slots are made -/
def Ct (G : Cx) (d mc ms : Nat) (M : MD) (avs : List Value) (μ : Hp) (P : Option Value → Hp → Prop) : Prop := ∀ (l : Launch) (ad : Nat → Nat), oks μ avs → Met l M.1 (wsOf M) (rmOf d mc ms) (PcOf G ad avs μ) (QcOf G ad μ P) mc ms (cS G)
theorem lg_sl_x (ad : Nat → Nat) : ∀ vs : List Value, (lg_sl (vs.map (xv ad))).length = (lg_sl vs).length
  | [] => rfl
  | v :: vs => by
    have ih := lg_sl_x ad vs
    cases v <;> simp_all [lg_sl, xv, Value.category]
theorem lv_args_x (ad : Nat → Nat) : ∀ (vs : List Value) (i : Nat), lv_args i (vs.map (xv ad)) = xl ad (lv_args i vs)
  | [], _ => rfl
  | v :: vs, i => by
    show (i, xv ad v) :: lv_args _ _ = (i, xv ad v) :: xl ad _
    rw [xv_cat, lv_args_x ad vs]
theorem lv_args_ok {μ : Hp} : ∀ (vs : List Value) (i : Nat), oks μ vs → okl μ (lv_args i vs)
  | [], _, _ => fun q hq => by cases hq
  | v :: vs, i, h => fun q hq => by
    rcases List.mem_cons.mp hq with rfl | hq
    · exact h v List.mem_cons_self
    · exact lv_args_ok vs _ (oks_t h) q hq
theorem Met.ofWF {l : Launch} {y : MethodName} {ws ws' : List Cond} {rm : Room} {Pc : Array Value → State → Prop} {Qc : Array Value → State → Outcome → State → Prop} {mc ms : Nat} {free : Addr → Prop} {cc : ByteArray} {maxL : Nat} {ret : Option FieldType}
    (hy : plainFor y = true) (hw : ws = Cond.code y cc maxL ret :: ws')
    (body : ∀ p e s m args below meth c s₁, BodyLoose p l y (headSpec ws rm) cc maxL ret e s m args below meth c s₁ → c.maxLocals = maxL → Pc args s →
      W p l e (headSpec ws rm).room s m args below meth c s.heap [] 0 0 (MQ below Qc args s mc ms free) (entryFrame m args maxL)) : Met l y ws rm Pc Qc mc ms free := by
  refine MetFree.of_bodySF (code := cc) (maxLocals := maxL) (ret := ret) hy ?_ ?_
  · intro args s m h hn
    obtain ⟨meth, c, h1, h2, h3, h4, h5, h6, -, -⟩ := Cond.code_spec hn (atoms_spec (ws := ws) h _ (by rw [hw]; exact List.mem_cons_self))
    exact ⟨meth, c, h1, h2, h3, h4, h5, h6⟩
  · intro p e s m args below meth c s₁ B hml hP _
    have hh0 : s₁.heap = s.heap := by rw [B.state]; rfl
    obtain ⟨t, a1, o, b1, b2, b3⟩ := body p e s m args below meth c s₁ B hml hP s₁ hh0 (Stand.of_body B)
    exact ⟨t, o, a1, b1, b2, ⟨b3.1, b3.2⟩⟩
theorem Ct.ofV {G : Cx} {d mc ms : Nat} {M : MD} {avs : List Value} {μ : Hp} {P : Option Value → Hp → Prop} (hy : plainFor M.1 = true) (hl : (lg_sl avs).length ≤ M.2.2.1) (k : V G M d mc ms P 0 (lv_args 0 avs) [] μ) : Ct G d mc ms M avs μ P := by
  intro l ad hok
  refine Met.ofWF (cc := M.2.1) (maxL := M.2.2.1) (ret := M.2.2.2) hy rfl ?_
  intro p e s m args below meth c s₁ B hml hv
  obtain ⟨rfl, hW, hT, hR⟩ := hv
  have hts := atoms_spec (ws := wsOf M) B.pre
  have hle := lv_entry (avs.map (xv ad)) (n := M.2.2.1) (by rw [lg_sl_x]; exact hl)
  rw [lg_entry_eq]
  generalize (lg_sl (avs.map (xv ad)) ++ List.replicate (M.2.2.1 - (lg_sl (avs.map (xv ad))).length) Slot.unset).toArray = sl at hle ⊢
  rw [lv_args_x] at hle
  refine k p l e (headSpec (wsOf M) (rmOf d mc ms)).room s m _ below meth c _ ad s.heap [] 0 0 sl ⟨B.exec, B.bytes, hml, B.returns, findClass_of_methodNamed B.named, B.notSynchronized, (name_of_methodNamed B.named B.method).1, fun w hw => hts w (List.mem_cons_of_mem _ hw), hT, Nat.le_refl d, Nat.le_refl (60 * d)⟩ hW va_S.rf hR (lv_args_ok avs 0 hok) (fun v hv => by cases hv) hle (by rw [Nat.zero_add]; exact Nat.le_refl mc) (by rw [Nat.zero_add]; exact Nat.le_refl ms) ?_
  intro r μ' ad' H' locs' cells' slots' pc' sl' hP hW' hag hsb hok' hS' hc hs hret
  have hlocks := B.notSynchronized
  refine W.widen (k := mc) (n := ms) (by omega) (by omega) ?_
  have hq : ∀ (v : Option Value), r.map (xv ad') = v → ∀ t : State, t.heap = H' → s.WarmedH t.vm → QcOf G ad μ P (avs.map (xv ad)).toArray s (.returned v) t := fun v hv t ht _ => ⟨r, μ', ad', by rw [hv], hP, by rw [ht]; exact hW', hag, hsb, hok', hS'.F ht⟩
  have hr := B.returns
  match r, hret with
  | none, hret => exact W.vret B.exec B.bytes (hr.trans hret.2) (hq none rfl) hS'.2.2 hret.1
  | some (.int v), ⟨h1, t, h2, h3⟩ => exact W.zret B.exec B.bytes (hr.trans h2) h3 (hq _ rfl) hS'.2.2 h1
  | some (.long v), hret => exact W.lret B.exec B.bytes (hr.trans hret.2) (hq _ rfl) hS'.2.2 hret.1
  | some (.float v), hret => exact W.fret B.exec B.bytes (hr.trans hret.2) (hq _ rfl) hS'.2.2 hret.1
  | some (.double v), hret => exact W.dret B.exec B.bytes (hr.trans hret.2) (hq _ rfl) hS'.2.2 hret.1
  | some .null, ⟨h1, t, h2, h3⟩ => exact W.aret B.exec B.bytes (hr.trans h2) h3 (Or.inl rfl) (hq _ rfl) hS'.2.2 h1
  | some (.ref a), ⟨h1, t, h2, h3⟩ => exact W.aret B.exec B.bytes (hr.trans h2) h3 (Or.inr ⟨_, rfl⟩) (hq _ rfl) hS'.2.2 h1
  | some (.retAddr a), hret => exact hret.elim
theorem Ct.post {G : Cx} {d mc ms : Nat} {M : MD} {avs : List Value} {μ : Hp} {P P' : Option Value → Hp → Prop} (h : Ct G d mc ms M avs μ P') (hp : ∀ r μ', P' r μ' → P r μ') : Ct G d mc ms M avs μ P := by
  intro l ad hok
  have h1 := h l ad hok
  intro p e a1 a2 a3 s m args below a4 a5 a6 a7
  obtain ⟨t, o, b1, b2, b3, ⟨⟨r, μ', ad', q1, q2, q3⟩, q4⟩⟩ := h1 p e a1 a2 a3 s m args below a4 a5 a6 a7
  exact ⟨t, o, b1, b2, b3, ⟨r, μ', ad', q1, hp _ _ q2, q3⟩, q4⟩
theorem good_gw {M : MD} (h : Cond.code M.1 M.2.1 M.2.2.1 M.2.2.2 ∈ gw) : GoodIn gw (wsOf M) := fun w hw => by
  have h1 : w ∈ gw := by
    rcases List.mem_cons.mp hw with rfl | hw
    · exact h
    · exact hw
  exact ⟨h1, good_of_word (List.mem_filter.mp h1).2⟩
theorem pc_blind {G : Cx} {ad : Nat → Nat} {avs : List Value} {μ : Hp} : FrameBlind (PcOf G ad avs μ) := fun a U g mk q => ⟨q.1, q.2.1, Tb.same (u := U) rfl q.2.2.1, Ro.same (u := U) rfl q.2.2.2⟩
theorem pc_at {G : Cx} {ad : Nat → Nat} {avs : List Value} {μ : Hp} {s : State} {H : Heap} {locs : List Loc} (hW : Wd G ad μ H) (hS : va_S (cS G) s.heap H locs) (hT : Tb G s) (hR : Ro G ad s s.heap) (U : State) (hU : U.heap = H) (hw : s.WarmedH U.vm) : PcOf G ad avs μ (avs.map (xv ad)).toArray U :=
  ⟨rfl, by rw [hU]; exact hW, hT.warm hw, by rw [hU]; exact (hR.kept (fun a h1 h2 => hS.2.1 a h1 h2)).warm hw⟩
section CROWS
variable {G : Cx} {M M' : MD} {d mc ms mc' ms' : Nat} {P P' : Option Value → Hp → Prop} {pc : Nat} {ls : List (Nat × Value)} {st st0 : List Value} {μ : Hp} {avs : List Value} {idx n : Nat}
theorem v_cont {p : Program} {l : Launch} {e : Env} {R : Room} {s : State} {m : MethodId} {args : Array Value} {below : List Frame} {meth : Method} {c : Code} {Q : State → Prop} {ad : Nat → Nat} {H : Heap} {locs : List Loc} {cells slots : Nat} {sl : Array Slot} {a : Array Value} {g0 : List Value}
    (hr : va_Run p l e R s m args below meth c H locs cells slots mc' ms' (F0 m pc sl g0) (st.map (xv ad)) (QcOf G ad μ P' a) (cS G))
    (F : Fr G M d p R s m args meth c) (hS : va_S (cS G) s.heap H locs) (hR : Ro G ad s s.heap) (hl : okl μ ls) (hs : oks μ st) (hsl : lv_has sl M.2.2.1 (xl ad ls)) (h1 : cells + (mc + mc') ≤ R.cells) (h2 : slots + (ms + ms') ≤ R.slots) (hE : En G M p l e R s m args below meth c Q ad μ (cells + (mc + mc')) (slots + (ms + ms')) P)
    (kk : ∀ r μ', P' r μ' → V G M d mc ms P (pc + 3) ls (r.toList ++ st) μ') : W p l e R s m args below meth c H locs cells slots Q (F0 m pc sl g0) := by
  intro T hT X
  obtain ⟨v, st₀, t, T', L, h0, X', hL, e1, e2, ⟨r, μ', ad', hv, hP', hW', hag, hsb, hok', hz, hk⟩, go⟩ := hr T hT X
  obtain rfl : v = r.map (xv ad') := Outcome.returned.inj hv
  rw [h0] at hz hk
  rw [← e1] at hz hk hW'
  have hS' : va_S (cS G) s.heap T'.heap (locs ++ L) := ⟨Nat.le_trans hS.1 hz, fun q a1 a2 => (hk q (Nat.lt_of_lt_of_le a1 hS.1) a2).trans (hS.2.1 q a1 a2), fun q hq => by
    rcases List.mem_append.mp hq with h | h
    · exact hS.2.2 q h
    · exact hL q h⟩
  have hxs : (st.map (xv ad')) = st.map (xv ad) := xvs_ag hs hag
  have hst : (r.toList ++ st).map (xv ad') = (r.map (xv ad')).toList ++ st.map (xv ad) := by
    rw [List.map_append, hxs]
    cases r <;> rfl
  have hxl : xl ad' ls = xl ad ls := List.map_congr_left fun q hq => by rw [xv_ag (hl q hq) hag]
  obtain ⟨t2, a1, b1⟩ := kk r μ' hP' p l e R s m args below meth c Q ad' T'.heap (locs ++ L) (cells + mc') (slots + ms') sl F hW' hS' (hR.ad (fun k hk => hag k (Or.inr hk))) (fun q hq => hsb.okv (hl q hq)) (fun q hq => by
    rcases List.mem_append.mp hq with h | h
    · cases r with
      | none => cases h
      | some u => rw [List.mem_singleton.mp h]; exact hok' u rfl
    · exact hsb.okv (hs q h)) (by rw [hxl]; exact hsl) (by omega) (by omega) (hE.to hag hsb (by omega) (by omega)) T' rfl X'
  refine ⟨t2, go t2 ?_, b1⟩
  rw [hst] at a1
  exact a1
/-- words of a call of a method of ours -/
def CB (M' : MD) (n : Nat) : Prop := Cond.initialized M'.1.cls ∈ gw ∧ Cond.code M'.1 M'.2.1 M'.2.2.1 M'.2.2.2 ∈ gw ∧ (M'.1.cls ≠ "java/lang/invoke/MethodHandle" ∧ M'.1.cls ≠ "java/lang/invoke/VarHandle" ∧ (parseMethodDescriptor M'.1.desc).map (fun d => d.parameters.length) = some n) ∧ M'.2.2.1 ≤ 41
theorem rev_x (ad : Nat → Nat) (avs st : List Value) : (avs.reverse ++ st).map (xv ad) = (avs.map (xv ad)).reverse ++ st.map (xv ad) := by rw [List.map_append, List.map_reverse]
theorem cat_x (ad : Nat → Nat) (st : List Value) (h : (st.map fun v => v.category).sum ≤ 8) : ((st.map (xv ad)).map fun v => v.category).sum ≤ 8 := by
  rw [List.map_map, show ((fun v => v.category) ∘ xv ad) = (fun v : Value => v.category) from funext fun v => xv_cat ad v]
  exact h
theorem cb_of {p : Program} {R : Room} {s : State} {m : MethodId} {args : Array Value} {meth : Method} {c : Code} (F : Fr G M (d + 1) p R s m args meth c) (hB : CB M' n) (hlk : Cond.methodLink M.1.cls idx M'.1 ∈ gw) : CallB R s args M.1.cls idx M'.1 M'.2.1 M'.2.2.1 M'.2.2.2 (wsOf M') (rmOf d mc' ms') mc' ms' n := by
  obtain ⟨f1, f2, f3, f4, f5, f6, f7, f8, f9, f10, f11⟩ := F
  exact callB_of n f8 (good_gw hB.2.1) rfl rfl rfl (f8 _ hB.1) (f8 _ hlk) hB.2.2.1 ⟨f10, by have := hB.2.2.2; show 8 + (M'.2.2.1 + 11) + 60 * d ≤ R.locals; omega⟩
theorem cn_of {host : String} {p : Program} {R : Room} {s : State} {m : MethodId} {args : Array Value} {meth : Method} {c : Code} (F : Fr G M (d + 1) p R s m args meth c) (hB : CB M' n) (hlk : Cond.methodLinkNest M.1.cls idx M'.1 host ∈ nw) : va_CN R s args M.1.cls idx M'.1 host M'.2.1 M'.2.2.1 M'.2.2.2 (wsOf M') (rmOf d mc' ms') mc' ms' n := by
  obtain ⟨f1, f2, f3, f4, f5, f6, f7, f8, f9, f10, f11⟩ := F
  exact va_cnB n f8 (good_gw hB.2.1) rfl rfl rfl (f9.1 _ hlk) (f8 _ hB.1) hB.2.2.1 ⟨f10, by have := hB.2.2.2; show 8 + (M'.2.2.1 + 11) + 60 * d ≤ R.locals; omega⟩
def CS (own : String) (idx : Nat) (M' : MD) (n : Nat) : Prop := CB M' n ∧ Cond.methodLink own idx M'.1 ∈ gw ∧ Cond.static M'.1 ∈ gw
theorem v_callS (hC : Ct G d mc' ms' M' avs μ P') (hw : CS M.1.cls idx M' n) (hd : decode M.2.1 pc = .ok (.invokestatic idx, 3)) (hn : avs.length = n) (hst : st0 = avs.reverse ++ st) (h8 : (st.map fun v => v.category).sum ≤ 8)
    (kk : ∀ r μ', P' r μ' → V G M (d + 1) mc ms P (pc + 3) ls (r.toList ++ st) μ') : V G M (d + 1) (mc + mc') (ms + ms') P pc ls st0 μ := by
  subst hst
  intro p l e R s m args below meth c Q ad H locs cells slots sl F hW hS hR hl hs hsl h1 h2 hE
  have ha : oks μ avs := fun v hv => hs v (List.mem_append_left _ (List.mem_reverse.mpr hv))
  have hr : oks μ st := fun v hv => hs v (List.mem_append_right _ hv)
  rw [rev_x]
  exact v_cont (va_runS (As := avs.map (xv ad)) (rest := st.map (xv ad)) ⟨F.1, F.2.1, F.2.2.1, F.2.2.2.2.1, F.2.2.2.2.2.2.2.1⟩ (hC l ad ha) ⟨cb_of F hw.1 hw.2.1, F.2.2.2.2.2.2.2.1 _ hw.2.2⟩ ⟨pc_blind, pc_at hW hS F.2.2.2.2.2.2.2.2.1 hR⟩ rfl (by rw [List.length_map]; exact hn) hsl.1 rfl (lv_room (cat_x ad st h8)) hd ⟨by omega, by omega⟩) F hS hR hl hr hsl h1 h2 hE kk
def CSN (own : String) (idx : Nat) (M' : MD) (n : Nat) (host : String) : Prop := CB M' n ∧ Cond.methodLinkNest own idx M'.1 host ∈ nw ∧ Cond.static M'.1 ∈ gw
theorem v_callSN {host : String} (hC : Ct G d mc' ms' M' avs μ P') (hw : CSN M.1.cls idx M' n host) (hd : decode M.2.1 pc = .ok (.invokestatic idx, 3)) (hn : avs.length = n) (hst : st0 = avs.reverse ++ st) (h8 : (st.map fun v => v.category).sum ≤ 8)
    (kk : ∀ r μ', P' r μ' → V G M (d + 1) mc ms P (pc + 3) ls (r.toList ++ st) μ') : V G M (d + 1) (mc + mc') (ms + ms') P pc ls st0 μ := by
  subst hst
  intro p l e R s m args below meth c Q ad H locs cells slots sl F hW hS hR hl hs hsl h1 h2 hE
  have ha : oks μ avs := fun v hv => hs v (List.mem_append_left _ (List.mem_reverse.mpr hv))
  have hr : oks μ st := fun v hv => hs v (List.mem_append_right _ hv)
  rw [rev_x]
  exact v_cont (va_runSN (As := avs.map (xv ad)) (rest := st.map (xv ad)) ⟨F.1, F.2.1, F.2.2.1, F.2.2.2.2.1, F.2.2.2.2.2.2.2.1⟩ (hC l ad ha) ⟨cn_of F hw.1 hw.2.1, F.2.2.2.2.2.2.2.1 _ hw.2.2, trivial⟩ ⟨pc_blind, pc_at hW hS F.2.2.2.2.2.2.2.2.1 hR⟩ rfl (by rw [List.length_map]; exact hn) hsl.1 rfl (lv_room (cat_x ad st h8)) hd ⟨by omega, by omega⟩) F hS hR hl hr hsl h1 h2 hE kk
/-- a receiver of class ci -/
theorem recv_cl {p : Program} {R : Room} {s : State} {m : MethodId} {args : Array Value} {meth : Method} {c : Code} {ad : Nat → Nat} {H : Heap} {b ci : Nat} {fs : List Value} {q : vw_C} (F : Fr G M d p R s m args meth c) (hW : Wd G ad μ H) (hμ : μ b = some (.inr (ci, fs))) (hc : vwCl[ci]? = some q) : ∃ cell : Cell, H[ad b]? = some cell ∧ cell.vm.isStatics = false ∧ s.vm.findClass q.1 = some cell.cls :=
  va_recv (ws := [(ad b, .inr (ci, fs.map (xv ad)))]) (q0 := 0) F.2.2.2.2.2.2.2.2.1.2 (va_P1 (hW.mut hμ)) hc rfl
def CV (own : String) (idx : Nat) (M' : MD) (n ci : Nat) : Prop := CB M' n ∧ Cond.methodLink own idx M'.1 ∈ gw ∧ Cond.instanceMethod M'.1 ∈ gw ∧ Cond.selects M'.1.cls M'.1 M'.1 ∈ gw ∧ ∃ q, vwCl[ci]? = some q ∧ q.1 = M'.1.cls
theorem v_callV {b ci : Nat} {fs : List Value} (hC : Ct G d mc' ms' M' (.ref b :: avs) μ P') (hw : CV M.1.cls idx M' n ci) (hd : decode M.2.1 pc = .ok (.invokevirtual idx, 3)) (hμ : μ b = some (.inr (ci, fs))) (hn : avs.length = n) (hst : st0 = avs.reverse ++ .ref b :: st) (h8 : (st.map fun v => v.category).sum ≤ 8)
    (kk : ∀ r μ', P' r μ' → V G M (d + 1) mc ms P (pc + 3) ls (r.toList ++ st) μ') : V G M (d + 1) (mc + mc') (ms + ms') P pc ls st0 μ := by
  subst hst
  intro p l e R s m args below meth c Q ad H locs cells slots sl F hW hS hR hl hs hsl h1 h2 hE
  have ha : oks μ (.ref b :: avs) := oks_c (hs _ (List.mem_append_right _ List.mem_cons_self)) (fun v hv => hs v (List.mem_append_left _ (List.mem_reverse.mpr hv)))
  have hr : oks μ st := fun v hv => hs v (List.mem_append_right _ (List.mem_cons_of_mem _ hv))
  rw [rev_x]
  obtain ⟨q, hq, hqe⟩ := hw.2.2.2.2
  obtain ⟨cell, w1, w2, w3⟩ := recv_cl F hW hμ hq
  rw [hqe] at w3
  exact v_cont (va_runV (C := M'.1.cls) (b := ad b) (As := avs.map (xv ad)) (rest := st.map (xv ad)) ⟨F.1, F.2.1, F.2.2.1, F.2.2.2.2.1, F.2.2.2.2.2.2.2.1⟩ (hC l ad ha) ⟨cb_of F hw.1 hw.2.1, F.2.2.2.2.2.2.2.1 _ hw.2.2.1, F.2.2.2.2.2.2.2.1 _ hw.2.2.2.1⟩ ⟨pc_blind, ⟨cell, w1, w2, w3⟩, pc_at hW hS F.2.2.2.2.2.2.2.2.1 hR⟩ rfl (by rw [List.length_map]; exact hn) hsl.1 rfl (lv_room (cat_x ad st h8)) hd ⟨by omega, by omega⟩) F hS hR hl hr hsl h1 h2 hE kk
def CI (own : String) (idx : Nat) (M' : MD) (n : Nat) : Prop := CB M' n ∧ Cond.methodLink own idx M'.1 ∈ gw ∧ Cond.instanceMethod M'.1 ∈ gw ∧ M'.1.name = "<init>" ∧ M'.2.2.2 = none
theorem v_callI {b : Nat} (hC : Ct G d mc' ms' M' (.ref b :: avs) μ P') (hw : CI M.1.cls idx M' n) (hd : decode M.2.1 pc = .ok (.invokespecial idx, 3)) (hn : avs.length = n) (hst : st0 = avs.reverse ++ .ref b :: st) (h8 : (st.map fun v => v.category).sum ≤ 8)
    (kk : ∀ r μ', P' r μ' → V G M (d + 1) mc ms P (pc + 3) ls (r.toList ++ st) μ') : V G M (d + 1) (mc + mc') (ms + ms') P pc ls st0 μ := by
  subst hst
  intro p l e R s m args below meth c Q ad H locs cells slots sl F hW hS hR hl hs hsl h1 h2 hE
  have ha : oks μ (.ref b :: avs) := oks_c (hs _ (List.mem_append_right _ List.mem_cons_self)) (fun v hv => hs v (List.mem_append_left _ (List.mem_reverse.mpr hv)))
  have hr : oks μ st := fun v hv => hs v (List.mem_append_right _ (List.mem_cons_of_mem _ hv))
  rw [rev_x]
  have hcb := cb_of (mc' := mc') (ms' := ms') F hw.1 hw.2.1
  rw [hw.2.2.2.2] at hcb
  exact v_cont (va_runI (b := ad b) (As := avs.map (xv ad)) (rest := st.map (xv ad)) ⟨F.1, F.2.1, F.2.2.1, F.2.2.2.2.1, F.2.2.2.2.2.2.2.1⟩ (hC l ad ha) ⟨hcb, hw.2.2.2.1, F.2.2.2.2.2.2.2.1 _ hw.2.2.1⟩ ⟨pc_blind, pc_at hW hS F.2.2.2.2.2.2.2.2.1 hR⟩ rfl (by rw [List.length_map]; exact hn) hsl.1 rfl (lv_room (cat_x ad st h8)) hd ⟨by omega, by omega⟩) F hS hR hl hr hsl h1 h2 hE kk
def CIN (own : String) (idx : Nat) (M' : MD) (n : Nat) (host : String) : Prop := CB M' n ∧ Cond.methodLinkNest own idx M'.1 host ∈ nw ∧ Cond.instanceMethod M'.1 ∈ gw ∧ M'.1.name = "<init>" ∧ M'.2.2.2 = none
theorem v_callIN {b : Nat} {host : String} (hC : Ct G d mc' ms' M' (.ref b :: avs) μ P') (hw : CIN M.1.cls idx M' n host) (hd : decode M.2.1 pc = .ok (.invokespecial idx, 3)) (hn : avs.length = n) (hst : st0 = avs.reverse ++ .ref b :: st) (h8 : (st.map fun v => v.category).sum ≤ 8)
    (kk : ∀ r μ', P' r μ' → V G M (d + 1) mc ms P (pc + 3) ls (r.toList ++ st) μ') : V G M (d + 1) (mc + mc') (ms + ms') P pc ls st0 μ := by
  subst hst
  intro p l e R s m args below meth c Q ad H locs cells slots sl F hW hS hR hl hs hsl h1 h2 hE
  have ha : oks μ (.ref b :: avs) := oks_c (hs _ (List.mem_append_right _ List.mem_cons_self)) (fun v hv => hs v (List.mem_append_left _ (List.mem_reverse.mpr hv)))
  have hr : oks μ st := fun v hv => hs v (List.mem_append_right _ (List.mem_cons_of_mem _ hv))
  rw [rev_x]
  have hcb := cn_of (mc' := mc') (ms' := ms') F hw.1 hw.2.1
  rw [hw.2.2.2.2] at hcb
  exact v_cont (va_runIN (b := ad b) (As := avs.map (xv ad)) (rest := st.map (xv ad)) ⟨F.1, F.2.1, F.2.2.1, F.2.2.2.2.1, F.2.2.2.2.2.2.2.1⟩ (hC l ad ha) ⟨hcb, hw.2.2.2.1, F.2.2.2.2.2.2.2.1 _ hw.2.2.1⟩ ⟨pc_blind, pc_at hW hS F.2.2.2.2.2.2.2.2.1 hR⟩ rfl (by rw [List.length_map]; exact hn) hsl.1 rfl (lv_room (cat_x ad st h8)) hd ⟨by omega, by omega⟩) F hS hR hl hr hsl h1 h2 hE kk
end CROWS
