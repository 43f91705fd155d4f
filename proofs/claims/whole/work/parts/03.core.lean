/-! ===== the abstract picture: cells at numbers, a map of numbers to addresses ===== -/
abbrev Hp : Type := Nat → Option va_E
/-- what is fixed over the law's run: classes and slots, array classes, the first new address, the script's length and ints -/
abbrev Cx : Type := va_G × (Nat → ClassId) × Nat × Nat × (Nat → Int32)
abbrev cD (G : Cx) : va_G := G.1
abbrev cA (G : Cx) : Nat → ClassId := G.2.1
abbrev cB (G : Cx) : Nat := G.2.2.1
abbrev cL (G : Cx) : Nat := G.2.2.2.1
abbrev cX (G : Cx) : Nat → Int32 := G.2.2.2.2
abbrev cS (G : Cx) : Nat → Prop := fun q => G.2.2.1 ≤ q
/-- a method: name, bytes, locals, what it returns -/
abbrev MD : Type := MethodName × ByteArray × Nat × Option FieldType
def tysOf (G : Cx) : List (ClassId × FieldType) := [(cA G 0, .int), (cA G 1, .long), (cA G 2, .float), (cA G 3, .byte), (cA G 4, .array .int), (cA G 5, .array .long), (cA G 6, .object "FilterPile$Light")]
def gw : List Cond := lw_tbl.filter goodWord
def isNw : Cond → Bool
  | .methodLinkNest .. => true
  | _ => false
def nw : List Cond := lw_tbl.filter isNw
def kaT : Nat → Int32 := fun j => ([-1, 0, 1, 2, 0, 4, 1] : List Int32).getD j 0
def ltB : List Int32 := [103, 121, 115, 112, 119, 114, 102]
/-- the array classes over arrays and over lights -/
def AoA (t : FieldType) (U : State) : Prop := (Cond.arrayOver (.array t)).before #[] U = true
theorem AoA.moved {t : FieldType} {u U : State} (hvm : u.vm.Alike U.vm) (h : AoA t u) : AoA t U := Jvm.Stand.arrayOver_alikeB hvm h
/-- a private method of the builder's superclass, called on a builder -/
abbrev seE : MethodName := ⟨"java/lang/AbstractStringBuilder", "ensureCapacityInternal", "(I)V"⟩
abbrev seC : MethodName := ⟨"java/lang/AbstractStringBuilder", "newCapacity", "(I)I"⟩
def SelW (y : MethodName) (U : State) : Prop := (Cond.selects "java/lang/StringBuilder" y y).before #[] U = true
theorem SelW.same {y : MethodName} {u U : State} (hv : U.vm = u.vm) (h : SelW y u) : SelW y U := va_tabs rfl hv.symm h
theorem SelW.warm {y : MethodName} {u U : State} (hW : u.WarmedH U.vm) (h : SelW y u) : SelW y U := word_at hW (Or.inl rfl) h
def Aow (U : State) : Prop := va_AO "FilterPile$Light" U ∧ AoA .int U ∧ AoA .long U ∧ SelW seE U ∧ SelW seC U
theorem Aow.same {u U : State} (hv : U.vm = u.vm) (h : Aow u) : Aow U := by
  have ha : u.vm.Alike U.vm := by rw [hv]; exact Vm.Alike.refl u.vm
  exact ⟨h.1.moved ha, h.2.1.moved ha, h.2.2.1.moved ha, h.2.2.2.1.same hv, h.2.2.2.2.same hv⟩
theorem Aow.warm {u U : State} (hW : u.WarmedH U.vm) (h : Aow u) : Aow U := ⟨h.1.moved hW.alike, h.2.1.moved hW.alike, h.2.2.1.moved hW.alike, h.2.2.2.1.warm hW, h.2.2.2.2.warm hW⟩
def Ro (G : Cx) (ad : Nat → Nat) (U : State) (H : Heap) : Prop :=
  va_T .int (ad 1000) (cL G) (fun j => .int (cX G j)) (cS G) U H ∧
  va_T .int (ad 1001) 7 (fun j => .int (kaT j)) (cS G) U H ∧
  va_Z "FilterPile" "KIND_ABOVE" "[I" (.ref (ad 1001)) (cS G) U H ∧
  vk_R "FilterPile$Reader" 49 "gyspwrf" (ad 1002) U ∧
  vk_R "FilterPile" 444 "gyspwrf" (ad 1002) U ∧
  vk_S 1 [7] [ltB] (fun _ => ad 1002) (fun _ => ad 1003) (cS G) U H ∧
  va_T .byte (ad 1004) 100 (fun j => .int (nI (48 + j % 10))) (cS G) U H ∧
  va_Z "java/lang/Integer" "DigitOnes" "[B" (.ref (ad 1004)) (cS G) U H ∧
  va_T .byte (ad 1005) 100 (fun j => .int (nI (48 + j / 10))) (cS G) U H ∧
  va_Z "java/lang/Integer" "DigitTens" "[B" (.ref (ad 1005)) (cS G) U H ∧
  va_Z "java/lang/String" "COMPACT_STRINGS" "Z" (.int 1) (cS G) U H ∧
  (va_Z "jdk/internal/util/Preconditions" "SIOOBE_FORMATTER" "Ljava/util/function/BiFunction;" .null (cS G) U H ∨ va_Z "jdk/internal/util/Preconditions" "SIOOBE_FORMATTER" "Ljava/util/function/BiFunction;" (.ref (ad 1006)) (cS G) U H) ∧ Aow U
theorem Ro.same {G : Cx} {ad : Nat → Nat} {u U : State} {H : Heap} (hv : U.vm = u.vm) (h : Ro G ad u H) : Ro G ad U H := by
  have ha : u.vm.Alike U.vm := by rw [hv]; exact Vm.Alike.refl u.vm
  obtain ⟨h0, h1, h2, h3, h4, h5, h6, h7, h8, h9, h10, h11, h12⟩ := h
  exact ⟨h0.moved ha, h1.moved ha, h2.moved ha, vk_R.same hv h3, vk_R.same hv h4, h5.moved ha, h6.moved ha, h7.moved ha, h8.moved ha, h9.moved ha, h10.moved ha, h11.imp (fun h => h.moved ha) (fun h => h.moved ha), h12.same hv⟩
theorem Ro.warm {G : Cx} {ad : Nat → Nat} {u U : State} {H : Heap} (hW : u.WarmedH U.vm) (h : Ro G ad u H) : Ro G ad U H := by
  have ha := hW.alike
  obtain ⟨h0, h1, h2, h3, h4, h5, h6, h7, h8, h9, h10, h11, h12⟩ := h
  exact ⟨h0.moved ha, h1.moved ha, h2.moved ha, vk_R.warm hW h3, vk_R.warm hW h4, h5.moved ha, h6.moved ha, h7.moved ha, h8.moved ha, h9.moved ha, h10.moved ha, h11.imp (fun h => h.moved ha) (fun h => h.moved ha), h12.warm hW⟩
theorem Ro.kept {G : Cx} {ad : Nat → Nat} {U : State} {H H1 : Heap} (h : Ro G ad U H) (hq : ∀ a : Nat, a < H.size → ¬ cS G a → H1[a]? = H[a]?) : Ro G ad U H1 := by
  obtain ⟨h0, h1, h2, h3, h4, h5, h6, h7, h8, h9, h10, h11, h12⟩ := h
  exact ⟨h0.kept hq, h1.kept hq, h2.kept hq, h3, h4, h5.kept hq, h6.kept hq, h7.kept hq, h8.kept hq, h9.kept hq, h10.kept hq, h11.imp (fun h => h.kept hq) (fun h => h.kept hq), h12⟩
theorem Ro.ad {G : Cx} {ad ad' : Nat → Nat} {U : State} {H : Heap} (h : Ro G ad U H) (he : ∀ k, 1000 ≤ k → ad' k = ad k) : Ro G ad' U H := by
  unfold Ro at h ⊢
  rw [he 1000 (by omega), he 1001 (by omega), he 1002 (by omega), he 1003 (by omega), he 1004 (by omega), he 1005 (by omega), he 1006 (by omega)]
  exact h
def Tb (G : Cx) (U : State) : Prop := (∀ w ∈ nw, va_Nw w U) ∧ va_K (cD G) vwCl (tysOf G) U
theorem nw_nest {w : Cond} (h : w ∈ nw) : ∃ a i x k, w = .methodLinkNest a i x k := by
  have h1 := (List.mem_filter.mp h).2
  cases w <;> first | exact ⟨_, _, _, _, rfl⟩ | cases h1
theorem Tb.same {G : Cx} {u U : State} (hv : U.vm = u.vm) (h : Tb G u) : Tb G U := by
  refine ⟨fun w hw => ?_, h.2.moved (by rw [hv]; exact Vm.Alike.refl u.vm)⟩
  obtain ⟨a, i, x, k, rfl⟩ := nw_nest hw
  exact va_Nw.same rfl hv.symm (h.1 _ hw)
theorem Tb.warm {G : Cx} {u U : State} (hW : u.WarmedH U.vm) (h : Tb G u) : Tb G U := by
  refine ⟨fun w hw => ?_, h.2.moved hW.alike⟩
  obtain ⟨a, i, x, k, rfl⟩ := nw_nest hw
  exact va_Nw.warmM hW (h.1 _ hw)
def xv (ad : Nat → Nat) (v : Value) : Value := match v with
  | .ref k => .ref (ad k)
  | u => u
def xa (ad : Nat → Nat) (a : vp_A) : vp_A := match a with
  | (n, .inr (.inr (.inr (.inr f)))) => (n, .inr (.inr (.inr (.inr (fun j => (f j).map ad)))))
  | b => b
def xe (G : Cx) (ad : Nat → Nat) (e : va_E) : va_E := match e with
  | .inl (k, a) => .inl (cA G k, xa ad a)
  | .inr (c, fs) => .inr (c, fs.map (xv ad))
def okk (μ : Hp) (k : Nat) : Prop := μ k ≠ none ∨ 1000 ≤ k
def okv (μ : Hp) (v : Value) : Prop := ∀ k, v = .ref k → okk μ k
def oke (μ : Hp) (e : va_E) : Prop := match e with
  | .inl (_, (_, .inr (.inr (.inr (.inr f))))) => ∀ j k, f j = some k → okk μ k
  | .inl _ => True
  | .inr (_, fs) => ∀ v ∈ fs, okv μ v
def Ag (μ : Hp) (ad ad' : Nat → Nat) : Prop := ∀ k, okk μ k → ad' k = ad k
def Sb (μ μ' : Hp) : Prop := ∀ k, μ k ≠ none → μ' k ≠ none
theorem Sb.okk {μ μ' : Hp} (h : Sb μ μ') {k : Nat} (hk : okk μ k) : okk μ' k := hk.imp (h k) id
theorem Sb.okv {μ μ' : Hp} (h : Sb μ μ') {v : Value} (hv : okv μ v) : okv μ' v := fun k e => h.okk (hv k e)
theorem Sb.oke {μ μ' : Hp} (h : Sb μ μ') {e : va_E} (he : oke μ e) : oke μ' e := by
  match e, he with
  | .inl (_, (_, .inr (.inr (.inr (.inr f))))), he => exact fun j k q => h.okk (he j k q)
  | .inl (_, (_, .inl f)), _ => trivial
  | .inl (_, (_, .inr (.inl f))), _ => trivial
  | .inl (_, (_, .inr (.inr (.inl f)))), _ => trivial
  | .inl (_, (_, .inr (.inr (.inr (.inl f))))), _ => trivial
  | .inr (_, fs), he => exact fun v hv => h.okv (he v hv)
theorem Ag.refl {μ : Hp} {ad : Nat → Nat} : Ag μ ad ad := fun _ _ => rfl
theorem Ag.trans {μ μ' : Hp} {a b c : Nat → Nat} (h1 : Ag μ a b) (hs : Sb μ μ') (h2 : Ag μ' b c) : Ag μ a c := fun k hk => (h2 k (hs.okk hk)).trans (h1 k hk)
theorem Sb.trans {μ μ' μ2 : Hp} (h1 : Sb μ μ') (h2 : Sb μ' μ2) : Sb μ μ2 := fun k h => h2 k (h1 k h)
theorem xv_ag {μ : Hp} {ad ad' : Nat → Nat} {v : Value} (hv : okv μ v) (h : Ag μ ad ad') : xv ad' v = xv ad v := by
  cases v <;> first | rfl | exact congrArg Value.ref (h _ (hv _ rfl))
theorem xvs_ag {μ : Hp} {ad ad' : Nat → Nat} {l : List Value} (hv : ∀ v ∈ l, okv μ v) (h : Ag μ ad ad') : l.map (xv ad') = l.map (xv ad) := List.map_congr_left fun v m => xv_ag (hv v m) h
theorem xe_ag {G : Cx} {μ : Hp} {ad ad' : Nat → Nat} {e : va_E} (he : oke μ e) (h : Ag μ ad ad') : xe G ad' e = xe G ad e := by
  match e, he with
  | .inl (c, (n, .inr (.inr (.inr (.inr f))))), he =>
    have : (fun j => (f j).map ad') = (fun j => (f j).map ad) := by
      funext j
      cases hf : f j with
      | none => rfl
      | some k => exact congrArg some (h k (he j k hf))
    show Sum.inl (cA G c, n, _) = Sum.inl (cA G c, n, _)
    rw [this]
  | .inl (_, (_, .inl f)), _ => rfl
  | .inl (_, (_, .inr (.inl f))), _ => rfl
  | .inl (_, (_, .inr (.inr (.inl f)))), _ => rfl
  | .inl (_, (_, .inr (.inr (.inr (.inl f))))), _ => rfl
  | .inr (c, fs), he =>
    show Sum.inr (c, fs.map (xv ad')) = Sum.inr (c, fs.map (xv ad))
    rw [xvs_ag he h]
def up (μ : Hp) (i : Nat) (e : va_E) : Hp := fun j => if j = i then some e else μ j
theorem up_s (μ : Hp) (i : Nat) (e : va_E) : up μ i e i = some e := if_pos rfl
theorem up_n {μ : Hp} {i j : Nat} {e : va_E} {x : Option va_E} (h : j ≠ i) (hx : μ j = x) : up μ i e j = x := (if_neg h).trans hx
theorem up_up (μ : Hp) (i : Nat) (e e' : va_E) : up (up μ i e) i e' = up μ i e' := by
  funext j
  by_cases h : j = i <;> simp [up, h]
theorem up_comm (μ : Hp) {i j : Nat} (h : i ≠ j) (e e' : va_E) : up (up μ i e) j e' = up (up μ j e') i e := by
  funext k
  by_cases h1 : k = i
  · subst h1; simp [up, h]
  · by_cases h2 : k = j
    · subst h2; simp [up, h1]
    · simp [up, h1, h2]
theorem up_id {μ : Hp} {i : Nat} {e : va_E} (h : μ i = some e) : up μ i e = μ := by
  funext j
  by_cases hj : j = i
  · subst hj; rw [up_s, h]
  · exact if_neg hj
theorem up_sb (μ : Hp) (i : Nat) (e : va_E) : Sb μ (up μ i e) := fun k h => by
  by_cases hk : k = i
  · subst hk; rw [up_s]; exact fun z => by cases z
  · rw [show up μ i e k = μ k from if_neg hk]; exact h
/-- the world: the heap holds the cells -/
def Wd (G : Cx) (ad : Nat → Nat) (μ : Hp) (H : Heap) : Prop := cB G ≤ H.size ∧ (∀ i e, μ i = some e → va_at (cD G) vwCl (ad i, xe G ad e) H ∧ oke μ e ∧ cB G ≤ ad i ∧ i < 1000) ∧ ∀ i j, μ i ≠ none → μ j ≠ none → ad i = ad j → i = j
theorem Wd.put {G : Cx} {ad : Nat → Nat} {μ : Hp} {H H1 : Heap} {i : Nat} {e0 e : va_E} (h : Wd G ad μ H) (hi : μ i = some e0) (hz : H1.size = H.size) (hat : va_at (cD G) vwCl (ad i, xe G ad e) H1) (oq : ∀ q : Nat, q ≠ ad i → H1[q]? = H[q]?) (hok : oke μ e) : Wd G ad (up μ i e) H1 := by
  have hn : μ i ≠ none := by rw [hi]; exact fun z => by cases z
  have hd : ∀ k, up μ i e k ≠ none → μ k ≠ none := fun k hk => by
    by_cases hki : k = i
    · subst hki; exact hn
    · rw [show up μ i e k = μ k from if_neg hki] at hk; exact hk
  refine ⟨by rw [hz]; exact h.1, fun k e1 hk => ?_, fun a b ha hb => h.2.2 a b (hd a ha) (hd b hb)⟩
  by_cases hki : k = i
  · subst hki
    rw [up_s] at hk
    cases hk
    exact ⟨hat, (up_sb μ k e).oke hok, (h.2.1 k e0 hi).2.2⟩
  · rw [show up μ i e k = μ k from if_neg hki] at hk
    obtain ⟨h1, h2, h3⟩ := h.2.1 k e1 hk
    refine ⟨h1.kept (oq _ fun z => hki (h.2.2 k i (by rw [hk]; exact fun z => by cases z) hn z)), (up_sb μ i e).oke h2, h3⟩
theorem Wd.new {G : Cx} {ad : Nat → Nat} {μ : Hp} {H H1 : Heap} {i : Nat} {e : va_E} (h : Wd G ad μ H) (hi : μ i = none) (hl : i < 1000) (hz : H.size ≤ H1.size) (hat : va_at (cD G) vwCl (H.size, xe G ad e) H1) (oq : ∀ q : Nat, q < H.size → H1[q]? = H[q]?) (hok : oke μ e) :
    ∃ ad', ad' i = H.size ∧ Ag μ ad ad' ∧ Wd G ad' (up μ i e) H1 := by
  have hnk : ¬ okk μ i := fun z => by rcases z with z | z; exact z hi; omega
  have hag : Ag μ ad (fun k => if k = i then H.size else ad k) := fun k hk => by
    show (if k = i then H.size else ad k) = ad k
    exact if_neg (fun q => hnk (by rw [← q]; exact hk))
  have lt : ∀ k e1, μ k = some e1 → ad k < H.size := fun k e1 hk => (h.2.1 k e1 hk).1.lt
  refine ⟨fun k => if k = i then H.size else ad k, if_pos rfl, hag, Nat.le_trans h.1 hz, fun k e1 hk => ?_, fun a b ha hb hab => ?_⟩
  · by_cases hki : k = i
    · subst hki
      rw [up_s] at hk
      cases hk
      refine ⟨?_, (up_sb μ k e).oke hok, ?_, hl⟩
      · rw [xe_ag hok hag]
        show va_at (cD G) vwCl ((if k = k then H.size else ad k), xe G ad e) H1
        rw [if_pos rfl]
        exact hat
      · show cB G ≤ (if k = k then H.size else ad k)
        rw [if_pos rfl]
        exact h.1
    · rw [show up μ i e k = μ k from if_neg hki] at hk
      obtain ⟨h1, h2, h3⟩ := h.2.1 k e1 hk
      refine ⟨?_, (up_sb μ i e).oke h2, ?_⟩
      · rw [xe_ag h2 hag]
        show va_at (cD G) vwCl ((if k = i then H.size else ad k), xe G ad e1) H1
        rw [if_neg hki]
        exact h1.kept (oq _ (lt k e1 hk))
      · show cB G ≤ (if k = i then H.size else ad k) ∧ _
        rw [if_neg hki]
        exact h3
  · have hab : (if a = i then H.size else ad a) = (if b = i then H.size else ad b) := hab
    by_cases hai : a = i <;> by_cases hbi : b = i
    · rw [hai, hbi]
    · rw [if_pos hai, if_neg hbi] at hab
      rw [show up μ i e b = μ b from if_neg hbi] at hb
      cases hmb : μ b with
      | none => exact absurd hmb hb
      | some eb => have := lt b eb hmb; omega
    · rw [if_neg hai, if_pos hbi] at hab
      rw [show up μ i e a = μ a from if_neg hai] at ha
      cases hma : μ a with
      | none => exact absurd hma ha
      | some ea => have := lt a ea hma; omega
    · rw [if_neg hai, if_neg hbi] at hab
      rw [show up μ i e a = μ a from if_neg hai] at ha
      rw [show up μ i e b = μ b from if_neg hbi] at hb
      exact h.2.2 a b ha hb hab
theorem Wd.mut {G : Cx} {ad : Nat → Nat} {μ : Hp} {H : Heap} (h : Wd G ad μ H) {i : Nat} {e : va_E} (hi : μ i = some e) : va_at (cD G) vwCl (ad i, xe G ad e) H := (h.2.1 i e hi).1
/-! ===== the judgement ===== -/
def Fr (G : Cx) (M : MD) (d : Nat) (p : Program) (R : Room) (s : State) (m : MethodId) (args : Array Value) (meth : Method) (c : Code) : Prop :=
  p.tables.exec = Jvm.exec ∧ c.code = M.2.1 ∧ c.maxLocals = M.2.2.1 ∧ meth.sig.returnType = M.2.2.2 ∧ s.vm.findClass M.1.cls = some m.cls ∧ meth.locks = false ∧ meth.name = M.1.name ∧ (∀ w ∈ gw, w.before args s = true) ∧ Tb G s ∧ d ≤ R.frames ∧ 60 * d ≤ R.locals
def xl (ad : Nat → Nat) (ls : List (Nat × Value)) : List (Nat × Value) := ls.map (fun q => (q.1, xv ad q.2))
def okl (μ : Hp) (ls : List (Nat × Value)) : Prop := ∀ q ∈ ls, okv μ q.2
def oks (μ : Hp) (st : List Value) : Prop := ∀ v ∈ st, okv μ v
/-- an instruction that returns r -/
def RetAt (M : MD) (pc : Nat) (r : Option Value) : Prop := match r with
  | none => decode M.2.1 pc = .ok (.return_, 1) ∧ M.2.2.2 = none
  | some (.int v) => decode M.2.1 pc = .ok (.ireturn, 1) ∧ ∃ t, M.2.2.2 = some t ∧ narrow t (.int v) = .int v
  | some (.long _) => decode M.2.1 pc = .ok (.lreturn, 1) ∧ M.2.2.2 = some .long
  | some (.float _) => decode M.2.1 pc = .ok (.freturn, 1) ∧ M.2.2.2 = some .float
  | some (.double _) => decode M.2.1 pc = .ok (.dreturn, 1) ∧ M.2.2.2 = some .double
  | some (.retAddr _) => False
  | some _ => decode M.2.1 pc = .ok (.areturn, 1) ∧ ∃ t, M.2.2.2 = some t ∧ ((∃ n, t = .object n) ∨ ∃ u, t = .array u)
def En (G : Cx) (M : MD) (p : Program) (l : Launch) (e : Env) (R : Room) (s : State) (m : MethodId) (args : Array Value) (below : List Frame) (meth : Method) (c : Code) (Q : State → Prop) (ad : Nat → Nat) (μ : Hp) (kc ks : Nat) (P : Option Value → Hp → Prop) : Prop :=
  ∀ (r : Option Value) (μ' : Hp) (ad' : Nat → Nat) (H' : Heap) (locs' : List Loc) (cells' slots' pc' : Nat) (sl : Array Slot), P r μ' → Wd G ad' μ' H' → Ag μ ad ad' → Sb μ μ' → (∀ v, r = some v → okv μ' v) → va_S (cS G) s.heap H' locs' → cells' ≤ kc → slots' ≤ ks → RetAt M pc' r →
    W p l e R s m args below meth c H' locs' cells' slots' Q (F0 m pc' sl (r.map (xv ad')).toList)
theorem En.to {G : Cx} {M : MD} {p : Program} {l : Launch} {e : Env} {R : Room} {s : State} {m : MethodId} {args : Array Value} {below : List Frame} {meth : Method} {c : Code} {Q : State → Prop} {ad ad1 : Nat → Nat} {μ μ1 : Hp} {kc ks kc1 ks1 : Nat} {P : Option Value → Hp → Prop}
    (h : En G M p l e R s m args below meth c Q ad μ kc ks P) (ha : Ag μ ad ad1) (hs : Sb μ μ1) (h1 : kc1 ≤ kc) (h2 : ks1 ≤ ks) : En G M p l e R s m args below meth c Q ad1 μ1 kc1 ks1 P :=
  fun r μ' ad' H' locs' cells' slots' pc' sl q1 q2 q3 q4 q5 q6 q7 q8 q9 => h r μ' ad' H' locs' cells' slots' pc' sl q1 q2 (ha.trans hs q3) (hs.trans q4) q5 q6 (Nat.le_trans q7 h1) (Nat.le_trans q8 h2) q9
/-- from pc, with these locals and this stack over the cells μ, the method comes to a return r, μ' with P; at most mc cells of ms slots are made on the way; calls go at most d deep -/
def V (G : Cx) (M : MD) (d mc ms : Nat) (P : Option Value → Hp → Prop) (pc : Nat) (ls : List (Nat × Value)) (st : List Value) (μ : Hp) : Prop :=
  ∀ (p : Program) (l : Launch) (e : Env) (R : Room) (s : State) (m : MethodId) (args : Array Value) (below : List Frame) (meth : Method) (c : Code) (Q : State → Prop) (ad : Nat → Nat) (H : Heap) (locs : List Loc) (cells slots : Nat) (sl : Array Slot),
    Fr G M d p R s m args meth c → Wd G ad μ H → va_S (cS G) s.heap H locs → Ro G ad s s.heap → okl μ ls → oks μ st → lv_has sl M.2.2.1 (xl ad ls) → cells + mc ≤ R.cells → slots + ms ≤ R.slots → En G M p l e R s m args below meth c Q ad μ (cells + mc) (slots + ms) P →
    W p l e R s m args below meth c H locs cells slots Q (F0 m pc sl (st.map (xv ad)))
/-- one answer, one end -/
def Rt (r : Option Value) (μ' : Hp) : Option Value → Hp → Prop := fun r' μ2 => r' = r ∧ μ2 = μ'
theorem okv_i {μ : Hp} {x : Int32} : okv μ (.int x) := fun k h => by cases h
theorem okv_l {μ : Hp} {x : Int64} : okv μ (.long x) := fun k h => by cases h
theorem okv_f {μ : Hp} {x : UInt32} : okv μ (.float x) := fun k h => by cases h
theorem okv_d {μ : Hp} {x : UInt64} : okv μ (.double x) := fun k h => by cases h
theorem okv_z {μ : Hp} : okv μ .null := fun k h => by cases h
theorem oks_c {μ : Hp} {v : Value} {st : List Value} (h : okv μ v) (hs : oks μ st) : oks μ (v :: st) := fun u hu => by
  rcases List.mem_cons.mp hu with rfl | hu
  · exact h
  · exact hs u hu
theorem oks_t {μ : Hp} {v : Value} {st : List Value} (hs : oks μ (v :: st)) : oks μ st := fun u hu => hs u (List.mem_cons_of_mem _ hu)
theorem oks_h {μ : Hp} {v : Value} {st : List Value} (hs : oks μ (v :: st)) : okv μ v := hs v List.mem_cons_self
theorem xl_at {ad : Nat → Nat} {ls : List (Nat × Value)} {q i : Nat} {v : Value} (h : ls[q]? = some (i, v)) : (xl ad ls)[q]? = some (i, xv ad v) := by
  unfold xl
  rw [List.getElem?_map, h]
  rfl
theorem okl_at {μ : Hp} {ls : List (Nat × Value)} {q i : Nat} {v : Value} (h : okl μ ls) (hq : ls[q]? = some (i, v)) : okv μ v := h (i, v) (List.mem_of_getElem? hq)
theorem xv_cat (ad : Nat → Nat) (v : Value) : (xv ad v).category = v.category := by cases v <;> rfl
def st1 (i : Nat) (v : Value) (ls : List (Nat × Value)) : List (Nat × Value) := (i, v) :: ls.filter (fun q => !(q.1 == i) && !(q.1 + 1 == i && q.2.category == 2))
def st2 (i : Nat) (v : Value) (ls : List (Nat × Value)) : List (Nat × Value) := (i, v) :: ls.filter (fun q => !(q.1 == i) && (!(q.1 == i + 1) && !(q.1 + 1 == i && q.2.category == 2)))
theorem xl_st1 (ad : Nat → Nat) (i : Nat) (v : Value) (ls : List (Nat × Value)) : (i, xv ad v) :: (xl ad ls).filter (fun q => !(q.1 == i) && !(q.1 + 1 == i && q.2.category == 2)) = xl ad (st1 i v ls) := by
  unfold xl st1
  rw [List.map_cons, List.filter_map]
  congr 3
  funext q
  show _ = _
  simp [xv_cat]
theorem xl_st2 (ad : Nat → Nat) (i : Nat) (v : Value) (ls : List (Nat × Value)) : (i, xv ad v) :: (xl ad ls).filter (fun q => !(q.1 == i) && (!(q.1 == i + 1) && !(q.1 + 1 == i && q.2.category == 2))) = xl ad (st2 i v ls) := by
  unfold xl st2
  rw [List.map_cons, List.filter_map]
  congr 3
  funext q
  show _ = _
  simp [xv_cat]
theorem okl_st1 {μ : Hp} {i : Nat} {v : Value} {ls : List (Nat × Value)} (h : okl μ ls) (hv : okv μ v) : okl μ (st1 i v ls) := fun q hq => by
  rcases List.mem_cons.mp hq with rfl | hq
  · exact hv
  · exact h q (List.mem_filter.mp hq).1
theorem okl_st2 {μ : Hp} {i : Nat} {v : Value} {ls : List (Nat × Value)} (h : okl μ ls) (hv : okv μ v) : okl μ (st2 i v ls) := fun q hq => by
  rcases List.mem_cons.mp hq with rfl | hq
  · exact hv
  · exact h q (List.mem_filter.mp hq).1
section VROWS
variable {G : Cx} {M : MD} {d mc ms : Nat} {P : Option Value → Hp → Prop} {pc : Nat} {ls : List (Nat × Value)} {st : List Value} {μ : Hp}
theorem V.to {pc' : Nat} {s0 s1 : List Value} (k : V G M d mc ms P pc' ls s1 μ) (hok : oks μ s0 → oks μ s1)
    (hw : ∀ {p : Program} {l : Launch} {e : Env} {R : Room} {s : State} {m : MethodId} {args : Array Value} {below : List Frame} {meth : Method} {c : Code} {Q : State → Prop} {ad : Nat → Nat} {H : Heap} {locs : List Loc} {cells slots : Nat} {sl : Array Slot}, Fr G M d p R s m args meth c → Wd G ad μ H → va_S (cS G) s.heap H locs → Ro G ad s s.heap → lv_has sl M.2.2.1 (xl ad ls) →
      W p l e R s m args below meth c H locs cells slots Q (F0 m pc' sl (s1.map (xv ad))) → W p l e R s m args below meth c H locs cells slots Q (F0 m pc sl (s0.map (xv ad)))) : V G M d mc ms P pc ls s0 μ :=
  fun p l e R s m args below meth c Q ad H locs cells slots sl F hW hS hR hl hs hsl h1 h2 hE => hw F hW hS hR hsl (k p l e R s m args below meth c Q ad H locs cells slots sl F hW hS hR hl (hok hs) hsl h1 h2 hE)
theorem V.ifs {pa pb : Nat} {s0 s1 : List Value} {C : Prop} (ka : C → V G M d mc ms P pa ls s1 μ) (kb : ¬ C → V G M d mc ms P pb ls s1 μ) (hok : oks μ s0 → oks μ s1)
    (hw : ∀ {p : Program} {l : Launch} {e : Env} {R : Room} {s : State} {m : MethodId} {args : Array Value} {below : List Frame} {meth : Method} {c : Code} {Q : State → Prop} {ad : Nat → Nat} {H : Heap} {locs : List Loc} {cells slots : Nat} {sl : Array Slot}, Fr G M d p R s m args meth c →
      (C → W p l e R s m args below meth c H locs cells slots Q (F0 m pa sl (s1.map (xv ad)))) → (¬ C → W p l e R s m args below meth c H locs cells slots Q (F0 m pb sl (s1.map (xv ad)))) → W p l e R s m args below meth c H locs cells slots Q (F0 m pc sl (s0.map (xv ad)))) : V G M d mc ms P pc ls s0 μ :=
  fun p l e R s m args below meth c Q ad H locs cells slots sl F hW hS hR hl hs hsl h1 h2 hE => hw F (fun z => ka z p l e R s m args below meth c Q ad H locs cells slots sl F hW hS hR hl (hok hs) hsl h1 h2 hE) (fun z => kb z p l e R s m args below meth c Q ad H locs cells slots sl F hW hS hR hl (hok hs) hsl h1 h2 hE)
theorem v_ls {ls' : List (Nat × Value)} (h : ls = ls') (k : V G M d mc ms P pc ls' st μ) : V G M d mc ms P pc ls st μ := h ▸ k
theorem v_hp {μ' : Hp} (h : μ = μ') (k : V G M d mc ms P pc ls st μ') : V G M d mc ms P pc ls st μ := h ▸ k
theorem v_st {st' : List Value} (h : st = st') (k : V G M d mc ms P pc ls st' μ) : V G M d mc ms P pc ls st μ := h ▸ k
theorem v_post {P' : Option Value → Hp → Prop} (k : V G M d mc ms P' pc ls st μ) (h : ∀ r μ', P' r μ' → P r μ') : V G M d mc ms P pc ls st μ :=
  fun p l e R s m args below meth c Q ad H locs cells slots sl F hW hS hR hl hs hsl h1 h2 hE => k p l e R s m args below meth c Q ad H locs cells slots sl F hW hS hR hl hs hsl h1 h2 (fun r μ' ad' H' locs' cells' slots' pc' sl q1 => hE r μ' ad' H' locs' cells' slots' pc' sl (h r μ' q1))
theorem v_less {mc' ms' : Nat} (hc : mc' ≤ mc) (hs9 : ms' ≤ ms) (k : V G M d mc' ms' P pc ls st μ) : V G M d mc ms P pc ls st μ :=
  fun p l e R s m args below meth c Q ad H locs cells slots sl F hW hS hR hl hs hsl h1 h2 hE => k p l e R s m args below meth c Q ad H locs cells slots sl F hW hS hR hl hs hsl (by omega) (by omega) (hE.to Ag.refl (fun _ z => z) (by omega) (by omega))
/-- fewer listed locals -/
theorem v_pick (ks : List Nat) {ls' : List (Nat × Value)} (h : lv_pick ls ks = ls') (k : V G M d mc ms P pc ls' st μ) : V G M d mc ms P pc ls st μ := by
  subst h
  intro p l e R s m args below meth c Q ad H locs cells slots sl F hW hS hR hl hs hsl h1 h2 hE
  refine k p l e R s m args below meth c Q ad H locs cells slots sl F hW hS hR (fun q hq => ?_) hs ⟨hsl.1, hsl.2.1, fun q hq => ?_⟩ h1 h2 hE
  · obtain ⟨i, -, hi⟩ := List.mem_filterMap.mp hq
    exact hl q (List.mem_of_getElem? hi)
  · obtain ⟨q', hq', rfl⟩ := List.mem_map.mp hq
    obtain ⟨i, -, hi⟩ := List.mem_filterMap.mp hq'
    exact hsl.2.2 _ (List.mem_map.mpr ⟨q', List.mem_of_getElem? hi, rfl⟩)
/-- a name for the top of the stack -/
theorem v_topi {x : Int32} (k : ∀ y : Int32, y = x → V G M d mc ms P pc ls (.int y :: st) μ) : V G M d mc ms P pc ls (.int x :: st) μ := k x rfl
theorem v_topl {x : Int64} (k : ∀ y : Int64, y = x → V G M d mc ms P pc ls (.long y :: st) μ) : V G M d mc ms P pc ls (.long x :: st) μ := k x rfl

theorem v_iconst {n : Int} {v : Int32} (hd : decode M.2.1 pc = .ok (.iconst n, 1)) (hv : Int32.ofInt n = v) (k : V G M d mc ms P (pc + 1) ls (.int v :: st) μ) : V G M d mc ms P (pc) ls (st) μ :=
  V.to k (fun h => oks_c okv_i (h)) (fun F _ _ _ hsl w => lv_iconst F.1 F.2.1 hd hv w)
theorem v_bipush {n : Int} {v : Int32} (hd : decode M.2.1 pc = .ok (.bipush n, 2)) (hv : (Int8.ofInt n).toInt32 = v) (k : V G M d mc ms P (pc + 2) ls (.int v :: st) μ) : V G M d mc ms P (pc) ls (st) μ :=
  V.to k (fun h => oks_c okv_i (h)) (fun F _ _ _ hsl w => lv_bipush F.1 F.2.1 hd hv w)
theorem v_sipush {n : Int} {v : Int32} (hd : decode M.2.1 pc = .ok (.sipush n, 3)) (hv : (Int16.ofInt n).toInt32 = v) (k : V G M d mc ms P (pc + 3) ls (.int v :: st) μ) : V G M d mc ms P (pc) ls (st) μ :=
  V.to k (fun h => oks_c okv_i (h)) (fun F _ _ _ hsl w => lv_sipush F.1 F.2.1 hd hv w)
theorem v_lconst {n : Fin 2} {v : Int64} (hd : decode M.2.1 pc = .ok (.lconst n, 1)) (hv : Int64.ofNat (n : Nat) = v) (k : V G M d mc ms P (pc + 1) ls (.long v :: st) μ) : V G M d mc ms P (pc) ls (st) μ :=
  V.to k (fun h => oks_c okv_l (h)) (fun F _ _ _ hsl w => lv_lconst F.1 F.2.1 hd hv w)
theorem v_null  (hd : decode M.2.1 pc = .ok (.aconst_null, 1)) (k : V G M d mc ms P (pc + 1) ls (.null :: st) μ) : V G M d mc ms P (pc) ls (st) μ :=
  V.to k (fun h => oks_c okv_z (h)) (fun F _ _ _ hsl w => lv_null F.1 F.2.1 hd w)
theorem v_fconst0  (hd : decode M.2.1 pc = .ok (.fconst 0, 1)) (k : V G M d mc ms P (pc + 1) ls (.float FP.fconst0 :: st) μ) : V G M d mc ms P (pc) ls (st) μ :=
  V.to k (fun h => oks_c okv_f (h)) (fun F _ _ _ hsl w => lv_fconst0 F.1 F.2.1 hd w)
theorem v_dconst0  (hd : decode M.2.1 pc = .ok (.dconst 0, 1)) (k : V G M d mc ms P (pc + 1) ls (.double FP.dconst0 :: st) μ) : V G M d mc ms P (pc) ls (st) μ :=
  V.to k (fun h => oks_c okv_d (h)) (fun F _ _ _ hsl w => lv_dconst0 F.1 F.2.1 hd w)
theorem v_dconst1  (hd : decode M.2.1 pc = .ok (.dconst 1, 1)) (k : V G M d mc ms P (pc + 1) ls (.double FP.dconst1 :: st) μ) : V G M d mc ms P (pc) ls (st) μ :=
  V.to k (fun h => oks_c okv_d (h)) (fun F _ _ _ hsl w => lv_dconst1 F.1 F.2.1 hd w)
theorem v_iload_n {j : Fin 4} {i : Nat} {x : Int32} (q : Nat) (hd : decode M.2.1 pc = .ok (.iload_n j, 1)) (hi : (j : Nat) = i) (hq : ls[q]? = some (i, .int x)) (k : V G M d mc ms P (pc + 1) ls (.int x :: st) μ) : V G M d mc ms P (pc) ls (st) μ :=
  V.to k (fun h => oks_c okv_i h) (fun F _ _ _ hsl w => lv_iload_n F.1 F.2.1 hd hi (lv_at hsl q (xl_at hq)) w)
theorem v_iload {i : Nat} {x : Int32} (q : Nat) (hd : decode M.2.1 pc = .ok (.iload i, 2)) (hq : ls[q]? = some (i, .int x)) (k : V G M d mc ms P (pc + 2) ls (.int x :: st) μ) : V G M d mc ms P (pc) ls (st) μ :=
  V.to k (fun h => oks_c okv_i h) (fun F _ _ _ hsl w => lv_iload F.1 F.2.1 hd (lv_at hsl q (xl_at hq)) w)
theorem v_lload_n {j : Fin 4} {i : Nat} {x : Int64} (q : Nat) (hd : decode M.2.1 pc = .ok (.lload_n j, 1)) (hi : (j : Nat) = i) (hq : ls[q]? = some (i, .long x)) (k : V G M d mc ms P (pc + 1) ls (.long x :: st) μ) : V G M d mc ms P (pc) ls (st) μ :=
  V.to k (fun h => oks_c okv_l h) (fun F _ _ _ hsl w => lv_lload_n F.1 F.2.1 hd hi (lv_at hsl q (xl_at hq)) w)
theorem v_lload {i : Nat} {x : Int64} (q : Nat) (hd : decode M.2.1 pc = .ok (.lload i, 2)) (hq : ls[q]? = some (i, .long x)) (k : V G M d mc ms P (pc + 2) ls (.long x :: st) μ) : V G M d mc ms P (pc) ls (st) μ :=
  V.to k (fun h => oks_c okv_l h) (fun F _ _ _ hsl w => lv_lload F.1 F.2.1 hd (lv_at hsl q (xl_at hq)) w)
theorem v_fload_n {j : Fin 4} {i : Nat} {x : UInt32} (q : Nat) (hd : decode M.2.1 pc = .ok (.fload_n j, 1)) (hi : (j : Nat) = i) (hq : ls[q]? = some (i, .float x)) (k : V G M d mc ms P (pc + 1) ls (.float x :: st) μ) : V G M d mc ms P (pc) ls (st) μ :=
  V.to k (fun h => oks_c okv_f h) (fun F _ _ _ hsl w => lv_fload_n F.1 F.2.1 hd hi (lv_at hsl q (xl_at hq)) w)
theorem v_fload {i : Nat} {x : UInt32} (q : Nat) (hd : decode M.2.1 pc = .ok (.fload i, 2)) (hq : ls[q]? = some (i, .float x)) (k : V G M d mc ms P (pc + 2) ls (.float x :: st) μ) : V G M d mc ms P (pc) ls (st) μ :=
  V.to k (fun h => oks_c okv_f h) (fun F _ _ _ hsl w => lv_fload F.1 F.2.1 hd (lv_at hsl q (xl_at hq)) w)
theorem v_dload_n {j : Fin 4} {i : Nat} {x : UInt64} (q : Nat) (hd : decode M.2.1 pc = .ok (.dload_n j, 1)) (hi : (j : Nat) = i) (hq : ls[q]? = some (i, .double x)) (k : V G M d mc ms P (pc + 1) ls (.double x :: st) μ) : V G M d mc ms P (pc) ls (st) μ :=
  V.to k (fun h => oks_c okv_d h) (fun F _ _ _ hsl w => lv_dload_n F.1 F.2.1 hd hi (lv_at hsl q (xl_at hq)) w)
theorem v_dload {i : Nat} {x : UInt64} (q : Nat) (hd : decode M.2.1 pc = .ok (.dload i, 2)) (hq : ls[q]? = some (i, .double x)) (k : V G M d mc ms P (pc + 2) ls (.double x :: st) μ) : V G M d mc ms P (pc) ls (st) μ :=
  V.to k (fun h => oks_c okv_d h) (fun F _ _ _ hsl w => lv_dload F.1 F.2.1 hd (lv_at hsl q (xl_at hq)) w)
theorem v_aload_n {j : Fin 4} {i : Nat} {x : Nat} (q : Nat) (hd : decode M.2.1 pc = .ok (.aload_n j, 1)) (hi : (j : Nat) = i) (hq : ls[q]? = some (i, .ref x)) (k : V G M d mc ms P (pc + 1) ls (.ref x :: st) μ) : V G M d mc ms P (pc) ls (st) μ :=
  fun p l e R s m args below meth c Q ad H locs cells slots sl F hW hS hR hl hs hsl h1 h2 hE => lv_aload_n F.1 F.2.1 hd hi (lv_at hsl q (xl_at hq)) (k p l e R s m args below meth c Q ad H locs cells slots sl F hW hS hR hl (oks_c (okl_at hl hq) hs) hsl h1 h2 hE)
theorem v_aload {i : Nat} {x : Nat} (q : Nat) (hd : decode M.2.1 pc = .ok (.aload i, 2)) (hq : ls[q]? = some (i, .ref x)) (k : V G M d mc ms P (pc + 2) ls (.ref x :: st) μ) : V G M d mc ms P (pc) ls (st) μ :=
  fun p l e R s m args below meth c Q ad H locs cells slots sl F hW hS hR hl hs hsl h1 h2 hE => lv_aload F.1 F.2.1 hd (lv_at hsl q (xl_at hq)) (k p l e R s m args below meth c Q ad H locs cells slots sl F hW hS hR hl (oks_c (okl_at hl hq) hs) hsl h1 h2 hE)
theorem v_istore_n {j : Fin 4} {i : Nat} {x : Int32} (hd : decode M.2.1 pc = .ok (.istore_n j, 1)) (hi : (j : Nat) = i) (hn : i < M.2.2.1) (k : ∀ z : Int32, z = x → V G M d mc ms P (pc + 1) (st1 i (.int z) ls) st μ) : V G M d mc ms P pc ls (.int x :: st) μ :=
  fun p l e R s m args below meth c Q ad H locs cells slots sl F hW hS hR hl hs hsl h1 h2 hE => lv_istore_n F.1 F.2.1 hd hi hsl hn (xl_st1 ad i (.int x) ls) (fun sl' hsl' => k x rfl p l e R s m args below meth c Q ad H locs cells slots sl' F hW hS hR (okl_st1 hl (oks_h hs)) (oks_t hs) hsl' h1 h2 hE)
theorem v_istore {i : Nat} {x : Int32} (hd : decode M.2.1 pc = .ok (.istore i, 2)) (hn : i < M.2.2.1) (k : ∀ z : Int32, z = x → V G M d mc ms P (pc + 2) (st1 i (.int z) ls) st μ) : V G M d mc ms P pc ls (.int x :: st) μ :=
  fun p l e R s m args below meth c Q ad H locs cells slots sl F hW hS hR hl hs hsl h1 h2 hE => lv_istore F.1 F.2.1 hd hsl hn (xl_st1 ad i (.int x) ls) (fun sl' hsl' => k x rfl p l e R s m args below meth c Q ad H locs cells slots sl' F hW hS hR (okl_st1 hl (oks_h hs)) (oks_t hs) hsl' h1 h2 hE)
theorem v_lstore_n {j : Fin 4} {i : Nat} {x : Int64} (hd : decode M.2.1 pc = .ok (.lstore_n j, 1)) (hi : (j : Nat) = i) (hn : i + 1 < M.2.2.1) (k : ∀ z : Int64, z = x → V G M d mc ms P (pc + 1) (st2 i (.long z) ls) st μ) : V G M d mc ms P pc ls (.long x :: st) μ :=
  fun p l e R s m args below meth c Q ad H locs cells slots sl F hW hS hR hl hs hsl h1 h2 hE => lv_lstore_n F.1 F.2.1 hd hi hsl hn (xl_st2 ad i (.long x) ls) (fun sl' hsl' => k x rfl p l e R s m args below meth c Q ad H locs cells slots sl' F hW hS hR (okl_st2 hl (oks_h hs)) (oks_t hs) hsl' h1 h2 hE)
theorem v_lstore {i : Nat} {x : Int64} (hd : decode M.2.1 pc = .ok (.lstore i, 2)) (hn : i + 1 < M.2.2.1) (k : ∀ z : Int64, z = x → V G M d mc ms P (pc + 2) (st2 i (.long z) ls) st μ) : V G M d mc ms P pc ls (.long x :: st) μ :=
  fun p l e R s m args below meth c Q ad H locs cells slots sl F hW hS hR hl hs hsl h1 h2 hE => lv_lstore F.1 F.2.1 hd hsl hn (xl_st2 ad i (.long x) ls) (fun sl' hsl' => k x rfl p l e R s m args below meth c Q ad H locs cells slots sl' F hW hS hR (okl_st2 hl (oks_h hs)) (oks_t hs) hsl' h1 h2 hE)
theorem v_fstore_n {j : Fin 4} {i : Nat} {x : UInt32} (hd : decode M.2.1 pc = .ok (.fstore_n j, 1)) (hi : (j : Nat) = i) (hn : i < M.2.2.1) (k : ∀ z : UInt32, z = x → V G M d mc ms P (pc + 1) (st1 i (.float z) ls) st μ) : V G M d mc ms P pc ls (.float x :: st) μ :=
  fun p l e R s m args below meth c Q ad H locs cells slots sl F hW hS hR hl hs hsl h1 h2 hE => lv_fstore_n F.1 F.2.1 hd hi hsl hn (xl_st1 ad i (.float x) ls) (fun sl' hsl' => k x rfl p l e R s m args below meth c Q ad H locs cells slots sl' F hW hS hR (okl_st1 hl (oks_h hs)) (oks_t hs) hsl' h1 h2 hE)
theorem v_fstore {i : Nat} {x : UInt32} (hd : decode M.2.1 pc = .ok (.fstore i, 2)) (hn : i < M.2.2.1) (k : ∀ z : UInt32, z = x → V G M d mc ms P (pc + 2) (st1 i (.float z) ls) st μ) : V G M d mc ms P pc ls (.float x :: st) μ :=
  fun p l e R s m args below meth c Q ad H locs cells slots sl F hW hS hR hl hs hsl h1 h2 hE => lv_fstore F.1 F.2.1 hd hsl hn (xl_st1 ad i (.float x) ls) (fun sl' hsl' => k x rfl p l e R s m args below meth c Q ad H locs cells slots sl' F hW hS hR (okl_st1 hl (oks_h hs)) (oks_t hs) hsl' h1 h2 hE)
theorem v_dstore_n {j : Fin 4} {i : Nat} {x : UInt64} (hd : decode M.2.1 pc = .ok (.dstore_n j, 1)) (hi : (j : Nat) = i) (hn : i + 1 < M.2.2.1) (k : ∀ z : UInt64, z = x → V G M d mc ms P (pc + 1) (st2 i (.double z) ls) st μ) : V G M d mc ms P pc ls (.double x :: st) μ :=
  fun p l e R s m args below meth c Q ad H locs cells slots sl F hW hS hR hl hs hsl h1 h2 hE => lv_dstore_n F.1 F.2.1 hd hi hsl hn (xl_st2 ad i (.double x) ls) (fun sl' hsl' => k x rfl p l e R s m args below meth c Q ad H locs cells slots sl' F hW hS hR (okl_st2 hl (oks_h hs)) (oks_t hs) hsl' h1 h2 hE)
theorem v_dstore {i : Nat} {x : UInt64} (hd : decode M.2.1 pc = .ok (.dstore i, 2)) (hn : i + 1 < M.2.2.1) (k : ∀ z : UInt64, z = x → V G M d mc ms P (pc + 2) (st2 i (.double z) ls) st μ) : V G M d mc ms P pc ls (.double x :: st) μ :=
  fun p l e R s m args below meth c Q ad H locs cells slots sl F hW hS hR hl hs hsl h1 h2 hE => lv_dstore F.1 F.2.1 hd hsl hn (xl_st2 ad i (.double x) ls) (fun sl' hsl' => k x rfl p l e R s m args below meth c Q ad H locs cells slots sl' F hW hS hR (okl_st2 hl (oks_h hs)) (oks_t hs) hsl' h1 h2 hE)
theorem v_astore_n {j : Fin 4} {i : Nat} {x : Nat} (hd : decode M.2.1 pc = .ok (.astore_n j, 1)) (hi : (j : Nat) = i) (hn : i < M.2.2.1) (k : ∀ z : Nat, z = x → V G M d mc ms P (pc + 1) (st1 i (.ref z) ls) st μ) : V G M d mc ms P pc ls (.ref x :: st) μ :=
  fun p l e R s m args below meth c Q ad H locs cells slots sl F hW hS hR hl hs hsl h1 h2 hE => lv_astore_n F.1 F.2.1 hd hi hsl hn (xl_st1 ad i (.ref x) ls) (fun sl' hsl' => k x rfl p l e R s m args below meth c Q ad H locs cells slots sl' F hW hS hR (okl_st1 hl (oks_h hs)) (oks_t hs) hsl' h1 h2 hE)
theorem v_astore {i : Nat} {x : Nat} (hd : decode M.2.1 pc = .ok (.astore i, 2)) (hn : i < M.2.2.1) (k : ∀ z : Nat, z = x → V G M d mc ms P (pc + 2) (st1 i (.ref z) ls) st μ) : V G M d mc ms P pc ls (.ref x :: st) μ :=
  fun p l e R s m args below meth c Q ad H locs cells slots sl F hW hS hR hl hs hsl h1 h2 hE => lv_astore F.1 F.2.1 hd hsl hn (xl_st1 ad i (.ref x) ls) (fun sl' hsl' => k x rfl p l e R s m args below meth c Q ad H locs cells slots sl' F hW hS hR (okl_st1 hl (oks_h hs)) (oks_t hs) hsl' h1 h2 hE)
theorem v_iinc {i : Nat} {n : Int} {x v : Int32} (q : Nat) (hd : decode M.2.1 pc = .ok (.iinc i n, 3)) (hq : ls[q]? = some (i, .int x)) (hv : Int32.ofInt n = v) (hn : i < M.2.2.1) (k : ∀ z : Int32, z = x + v → V G M d mc ms P (pc + 3) (st1 i (.int z) ls) st μ) : V G M d mc ms P pc ls st μ := by
  subst hv
  exact fun p l e R s m args below meth c Q ad H locs cells slots sl F hW hS hR hl hs hsl h1 h2 hE => lv_iinc F.1 F.2.1 hd hsl (k := q) (xl_at hq) rfl hn (xl_st1 ad i (.int (x + Int32.ofInt n)) ls) (fun sl' hsl' => k _ rfl p l e R s m args below meth c Q ad H locs cells slots sl' F hW hS hR (okl_st1 hl okv_i) hs hsl' h1 h2 hE)
theorem v_iadd {x y : Int32} (hd : decode M.2.1 pc = .ok (.iadd, 1)) (k : V G M d mc ms P (pc + 1) ls (.int (x + y) :: st) μ) : V G M d mc ms P (pc) ls (.int y :: .int x :: st) μ :=
  V.to k (fun h => oks_c okv_i (oks_t (oks_t h))) (fun F _ _ _ hsl w => lv_iadd F.1 F.2.1 hd w)
theorem v_isub {x y : Int32} (hd : decode M.2.1 pc = .ok (.isub, 1)) (k : V G M d mc ms P (pc + 1) ls (.int (x - y) :: st) μ) : V G M d mc ms P (pc) ls (.int y :: .int x :: st) μ :=
  V.to k (fun h => oks_c okv_i (oks_t (oks_t h))) (fun F _ _ _ hsl w => lv_isub F.1 F.2.1 hd w)
theorem v_imul {x y : Int32} (hd : decode M.2.1 pc = .ok (.imul, 1)) (k : V G M d mc ms P (pc + 1) ls (.int (x * y) :: st) μ) : V G M d mc ms P (pc) ls (.int y :: .int x :: st) μ :=
  V.to k (fun h => oks_c okv_i (oks_t (oks_t h))) (fun F _ _ _ hsl w => lv_imul F.1 F.2.1 hd w)
theorem v_iand {x y : Int32} (hd : decode M.2.1 pc = .ok (.iand, 1)) (k : V G M d mc ms P (pc + 1) ls (.int (x &&& y) :: st) μ) : V G M d mc ms P (pc) ls (.int y :: .int x :: st) μ :=
  V.to k (fun h => oks_c okv_i (oks_t (oks_t h))) (fun F _ _ _ hsl w => lv_iand F.1 F.2.1 hd w)
theorem v_ior {x y : Int32} (hd : decode M.2.1 pc = .ok (.ior, 1)) (k : V G M d mc ms P (pc + 1) ls (.int (x ||| y) :: st) μ) : V G M d mc ms P (pc) ls (.int y :: .int x :: st) μ :=
  V.to k (fun h => oks_c okv_i (oks_t (oks_t h))) (fun F _ _ _ hsl w => lv_ior F.1 F.2.1 hd w)
theorem v_ixor {x y : Int32} (hd : decode M.2.1 pc = .ok (.ixor, 1)) (k : V G M d mc ms P (pc + 1) ls (.int (x ^^^ y) :: st) μ) : V G M d mc ms P (pc) ls (.int y :: .int x :: st) μ :=
  V.to k (fun h => oks_c okv_i (oks_t (oks_t h))) (fun F _ _ _ hsl w => lv_ixor F.1 F.2.1 hd w)
theorem v_ishl {x y : Int32} (hd : decode M.2.1 pc = .ok (.ishl, 1)) (k : V G M d mc ms P (pc + 1) ls (.int (x <<< (y &&& 31)) :: st) μ) : V G M d mc ms P (pc) ls (.int y :: .int x :: st) μ :=
  V.to k (fun h => oks_c okv_i (oks_t (oks_t h))) (fun F _ _ _ hsl w => lv_ishl F.1 F.2.1 hd w)
theorem v_ishr {x y : Int32} (hd : decode M.2.1 pc = .ok (.ishr, 1)) (k : V G M d mc ms P (pc + 1) ls (.int (x >>> (y &&& 31)) :: st) μ) : V G M d mc ms P (pc) ls (.int y :: .int x :: st) μ :=
  V.to k (fun h => oks_c okv_i (oks_t (oks_t h))) (fun F _ _ _ hsl w => lv_ishr F.1 F.2.1 hd w)
theorem v_idiv {x y : Int32} (hd : decode M.2.1 pc = .ok (.idiv, 1)) (hne : ¬ y = 0) (k : V G M d mc ms P (pc + 1) ls (.int (x / y) :: st) μ) : V G M d mc ms P (pc) ls (.int y :: .int x :: st) μ :=
  V.to k (fun h => oks_c okv_i (oks_t (oks_t h))) (fun F _ _ _ hsl w => lv_idiv F.1 F.2.1 hd hne w)
theorem v_irem {x y : Int32} (hd : decode M.2.1 pc = .ok (.irem, 1)) (hne : ¬ y = 0) (k : V G M d mc ms P (pc + 1) ls (.int (x - x / y * y) :: st) μ) : V G M d mc ms P (pc) ls (.int y :: .int x :: st) μ :=
  V.to k (fun h => oks_c okv_i (oks_t (oks_t h))) (fun F _ _ _ hsl w => lv_irem F.1 F.2.1 hd hne w)
theorem v_ladd {x y : Int64} (hd : decode M.2.1 pc = .ok (.ladd, 1)) (k : V G M d mc ms P (pc + 1) ls (.long (x + y) :: st) μ) : V G M d mc ms P (pc) ls (.long y :: .long x :: st) μ :=
  V.to k (fun h => oks_c okv_l (oks_t (oks_t h))) (fun F _ _ _ hsl w => lv_ladd F.1 F.2.1 hd w)
theorem v_lsub {x y : Int64} (hd : decode M.2.1 pc = .ok (.lsub, 1)) (k : V G M d mc ms P (pc + 1) ls (.long (x - y) :: st) μ) : V G M d mc ms P (pc) ls (.long y :: .long x :: st) μ :=
  V.to k (fun h => oks_c okv_l (oks_t (oks_t h))) (fun F _ _ _ hsl w => lv_lsub F.1 F.2.1 hd w)
theorem v_lmul {x y : Int64} (hd : decode M.2.1 pc = .ok (.lmul, 1)) (k : V G M d mc ms P (pc + 1) ls (.long (x * y) :: st) μ) : V G M d mc ms P (pc) ls (.long y :: .long x :: st) μ :=
  V.to k (fun h => oks_c okv_l (oks_t (oks_t h))) (fun F _ _ _ hsl w => lv_lmul F.1 F.2.1 hd w)
theorem v_land {x y : Int64} (hd : decode M.2.1 pc = .ok (.land, 1)) (k : V G M d mc ms P (pc + 1) ls (.long (x &&& y) :: st) μ) : V G M d mc ms P (pc) ls (.long y :: .long x :: st) μ :=
  V.to k (fun h => oks_c okv_l (oks_t (oks_t h))) (fun F _ _ _ hsl w => lv_land F.1 F.2.1 hd w)
theorem v_lor {x y : Int64} (hd : decode M.2.1 pc = .ok (.lor, 1)) (k : V G M d mc ms P (pc + 1) ls (.long (x ||| y) :: st) μ) : V G M d mc ms P (pc) ls (.long y :: .long x :: st) μ :=
  V.to k (fun h => oks_c okv_l (oks_t (oks_t h))) (fun F _ _ _ hsl w => lv_lor F.1 F.2.1 hd w)
theorem v_lxor {x y : Int64} (hd : decode M.2.1 pc = .ok (.lxor, 1)) (k : V G M d mc ms P (pc + 1) ls (.long (x ^^^ y) :: st) μ) : V G M d mc ms P (pc) ls (.long y :: .long x :: st) μ :=
  V.to k (fun h => oks_c okv_l (oks_t (oks_t h))) (fun F _ _ _ hsl w => lv_lxor F.1 F.2.1 hd w)
theorem v_ldiv {x y : Int64} (hd : decode M.2.1 pc = .ok (.ldiv, 1)) (hne : ¬ y = 0) (k : V G M d mc ms P (pc + 1) ls (.long (x / y) :: st) μ) : V G M d mc ms P (pc) ls (.long y :: .long x :: st) μ :=
  V.to k (fun h => oks_c okv_l (oks_t (oks_t h))) (fun F _ _ _ hsl w => lv_ldiv F.1 F.2.1 hd hne w)
theorem v_lrem {x y : Int64} (hd : decode M.2.1 pc = .ok (.lrem, 1)) (hne : ¬ y = 0) (k : V G M d mc ms P (pc + 1) ls (.long (x - x / y * y) :: st) μ) : V G M d mc ms P (pc) ls (.long y :: .long x :: st) μ :=
  V.to k (fun h => oks_c okv_l (oks_t (oks_t h))) (fun F _ _ _ hsl w => lv_lrem F.1 F.2.1 hd hne w)
theorem v_ineg {x : Int32} (hd : decode M.2.1 pc = .ok (.ineg, 1)) (k : V G M d mc ms P (pc + 1) ls (.int (-x) :: st) μ) : V G M d mc ms P (pc) ls (.int x :: st) μ :=
  V.to k (fun h => oks_c okv_i (oks_t h)) (fun F _ _ _ hsl w => lv_ineg F.1 F.2.1 hd w)
theorem v_lneg {x : Int64} (hd : decode M.2.1 pc = .ok (.lneg, 1)) (k : V G M d mc ms P (pc + 1) ls (.long (-x) :: st) μ) : V G M d mc ms P (pc) ls (.long x :: st) μ :=
  V.to k (fun h => oks_c okv_l (oks_t h)) (fun F _ _ _ hsl w => lv_lneg F.1 F.2.1 hd w)
theorem v_lshl {x : Int64} {y : Int32} (hd : decode M.2.1 pc = .ok (.lshl, 1)) (k : V G M d mc ms P (pc + 1) ls (.long (x <<< (y.toInt64 &&& 63)) :: st) μ) : V G M d mc ms P (pc) ls (.int y :: .long x :: st) μ :=
  V.to k (fun h => oks_c okv_l (oks_t (oks_t h))) (fun F _ _ _ hsl w => lv_lshl F.1 F.2.1 hd rfl w)
theorem v_lshr {x : Int64} {y : Int32} (hd : decode M.2.1 pc = .ok (.lshr, 1)) (k : V G M d mc ms P (pc + 1) ls (.long (x >>> (y.toInt64 &&& 63)) :: st) μ) : V G M d mc ms P (pc) ls (.int y :: .long x :: st) μ :=
  V.to k (fun h => oks_c okv_l (oks_t (oks_t h))) (fun F _ _ _ hsl w => lv_lshr F.1 F.2.1 hd rfl w)
theorem v_iushr {x y : Int32} (hd : decode M.2.1 pc = .ok (.iushr, 1)) (k : V G M d mc ms P (pc + 1) ls (.int (x.toUInt32 >>> (y.toUInt32 &&& Int32.toUInt32 31)).toInt32 :: st) μ) : V G M d mc ms P (pc) ls (.int y :: .int x :: st) μ :=
  V.to k (fun h => oks_c okv_i (oks_t (oks_t h))) (fun F _ _ _ hsl w => lv_iushr F.1 F.2.1 hd rfl w)
theorem v_i2l {x : Int32} (hd : decode M.2.1 pc = .ok (.i2l, 1)) (k : V G M d mc ms P (pc + 1) ls (.long x.toInt64 :: st) μ) : V G M d mc ms P (pc) ls (.int x :: st) μ :=
  V.to k (fun h => oks_c okv_l (oks_t h)) (fun F _ _ _ hsl w => lv_i2l F.1 F.2.1 hd rfl w)
theorem v_l2i {x : Int64} (hd : decode M.2.1 pc = .ok (.l2i, 1)) (k : V G M d mc ms P (pc + 1) ls (.int x.toInt32 :: st) μ) : V G M d mc ms P (pc) ls (.long x :: st) μ :=
  V.to k (fun h => oks_c okv_i (oks_t h)) (fun F _ _ _ hsl w => lv_l2i F.1 F.2.1 hd rfl w)
theorem v_i2b {x : Int32} (hd : decode M.2.1 pc = .ok (.i2b, 1)) (k : V G M d mc ms P (pc + 1) ls (.int x.toInt8.toInt32 :: st) μ) : V G M d mc ms P (pc) ls (.int x :: st) μ :=
  V.to k (fun h => oks_c okv_i (oks_t h)) (fun F _ _ _ hsl w => lv_i2b F.1 F.2.1 hd rfl w)
theorem v_i2c {x : Int32} (hd : decode M.2.1 pc = .ok (.i2c, 1)) (k : V G M d mc ms P (pc + 1) ls (.int (x.toUInt32 % 65536).toInt32 :: st) μ) : V G M d mc ms P (pc) ls (.int x :: st) μ :=
  V.to k (fun h => oks_c okv_i (oks_t h)) (fun F _ _ _ hsl w => lv_i2c F.1 F.2.1 hd rfl w)
theorem v_fadd {x y : UInt32} (hd : decode M.2.1 pc = .ok (.fadd, 1)) (hne : vf_n32 (FP.fadd x y)) (k : V G M d mc ms P (pc + 1) ls (.float (FP.fadd x y) :: st) μ) : V G M d mc ms P (pc) ls (.float y :: .float x :: st) μ :=
  V.to k (fun h => oks_c okv_f (oks_t (oks_t h))) (fun F _ _ _ hsl w => lv_fadd F.1 F.2.1 hd hne w)
theorem v_fsub {x y : UInt32} (hd : decode M.2.1 pc = .ok (.fsub, 1)) (hne : vf_n32 (FP.fsub x y)) (k : V G M d mc ms P (pc + 1) ls (.float (FP.fsub x y) :: st) μ) : V G M d mc ms P (pc) ls (.float y :: .float x :: st) μ :=
  V.to k (fun h => oks_c okv_f (oks_t (oks_t h))) (fun F _ _ _ hsl w => lv_fsub F.1 F.2.1 hd hne w)
theorem v_fmul {x y : UInt32} (hd : decode M.2.1 pc = .ok (.fmul, 1)) (hne : vf_n32 (FP.fmul x y)) (k : V G M d mc ms P (pc + 1) ls (.float (FP.fmul x y) :: st) μ) : V G M d mc ms P (pc) ls (.float y :: .float x :: st) μ :=
  V.to k (fun h => oks_c okv_f (oks_t (oks_t h))) (fun F _ _ _ hsl w => lv_fmul F.1 F.2.1 hd hne w)
theorem v_fdiv {x y : UInt32} (hd : decode M.2.1 pc = .ok (.fdiv, 1)) (hne : vf_n32 (FP.fdiv x y)) (k : V G M d mc ms P (pc + 1) ls (.float (FP.fdiv x y) :: st) μ) : V G M d mc ms P (pc) ls (.float y :: .float x :: st) μ :=
  V.to k (fun h => oks_c okv_f (oks_t (oks_t h))) (fun F _ _ _ hsl w => lv_fdiv F.1 F.2.1 hd hne w)
theorem v_dadd {x y : UInt64} (hd : decode M.2.1 pc = .ok (.dadd, 1)) (hne : vf_n64 (FP.dadd x y)) (k : V G M d mc ms P (pc + 1) ls (.double (FP.dadd x y) :: st) μ) : V G M d mc ms P (pc) ls (.double y :: .double x :: st) μ :=
  V.to k (fun h => oks_c okv_d (oks_t (oks_t h))) (fun F _ _ _ hsl w => lv_dadd F.1 F.2.1 hd hne w)
theorem v_dsub {x y : UInt64} (hd : decode M.2.1 pc = .ok (.dsub, 1)) (hne : vf_n64 (FP.dsub x y)) (k : V G M d mc ms P (pc + 1) ls (.double (FP.dsub x y) :: st) μ) : V G M d mc ms P (pc) ls (.double y :: .double x :: st) μ :=
  V.to k (fun h => oks_c okv_d (oks_t (oks_t h))) (fun F _ _ _ hsl w => lv_dsub F.1 F.2.1 hd hne w)
theorem v_dmul {x y : UInt64} (hd : decode M.2.1 pc = .ok (.dmul, 1)) (hne : vf_n64 (FP.dmul x y)) (k : V G M d mc ms P (pc + 1) ls (.double (FP.dmul x y) :: st) μ) : V G M d mc ms P (pc) ls (.double y :: .double x :: st) μ :=
  V.to k (fun h => oks_c okv_d (oks_t (oks_t h))) (fun F _ _ _ hsl w => lv_dmul F.1 F.2.1 hd hne w)
theorem v_ddiv {x y : UInt64} (hd : decode M.2.1 pc = .ok (.ddiv, 1)) (hne : vf_n64 (FP.ddiv x y)) (k : V G M d mc ms P (pc + 1) ls (.double (FP.ddiv x y) :: st) μ) : V G M d mc ms P (pc) ls (.double y :: .double x :: st) μ :=
  V.to k (fun h => oks_c okv_d (oks_t (oks_t h))) (fun F _ _ _ hsl w => lv_ddiv F.1 F.2.1 hd hne w)
theorem v_i2f {x : Int32} (hd : decode M.2.1 pc = .ok (.i2f, 1)) (k : V G M d mc ms P (pc + 1) ls (.float (FP.i2f x) :: st) μ) : V G M d mc ms P (pc) ls (.int x :: st) μ :=
  V.to k (fun h => oks_c okv_f (oks_t h)) (fun F _ _ _ hsl w => lv_i2f F.1 F.2.1 hd w)
theorem v_f2i {x : UInt32} (hd : decode M.2.1 pc = .ok (.f2i, 1)) (k : V G M d mc ms P (pc + 1) ls (.int (FP.f2i x) :: st) μ) : V G M d mc ms P (pc) ls (.float x :: st) μ :=
  V.to k (fun h => oks_c okv_i (oks_t h)) (fun F _ _ _ hsl w => lv_f2i F.1 F.2.1 hd w)
theorem v_l2d {x : Int64} (hd : decode M.2.1 pc = .ok (.l2d, 1)) (k : V G M d mc ms P (pc + 1) ls (.double (FP.l2d x) :: st) μ) : V G M d mc ms P (pc) ls (.long x :: st) μ :=
  V.to k (fun h => oks_c okv_d (oks_t h)) (fun F _ _ _ hsl w => lv_l2d F.1 F.2.1 hd w)
theorem v_d2l {x : UInt64} (hd : decode M.2.1 pc = .ok (.d2l, 1)) (k : V G M d mc ms P (pc + 1) ls (.long (FP.d2l x) :: st) μ) : V G M d mc ms P (pc) ls (.double x :: st) μ :=
  V.to k (fun h => oks_c okv_l (oks_t h)) (fun F _ _ _ hsl w => lv_d2l F.1 F.2.1 hd w)
theorem v_f2d {x : UInt32} (hd : decode M.2.1 pc = .ok (.f2d, 1)) (hne : vf_n64 (FP.f2d x)) (k : V G M d mc ms P (pc + 1) ls (.double (FP.f2d x) :: st) μ) : V G M d mc ms P (pc) ls (.float x :: st) μ :=
  V.to k (fun h => oks_c okv_d (oks_t h)) (fun F _ _ _ hsl w => lv_f2d F.1 F.2.1 hd hne w)
theorem v_d2f {x : UInt64} (hd : decode M.2.1 pc = .ok (.d2f, 1)) (hne : vf_n32 (FP.d2f x)) (k : V G M d mc ms P (pc + 1) ls (.float (FP.d2f x) :: st) μ) : V G M d mc ms P (pc) ls (.double x :: st) μ :=
  V.to k (fun h => oks_c okv_f (oks_t h)) (fun F _ _ _ hsl w => lv_d2f F.1 F.2.1 hd hne w)
theorem v_fcmp {x y : UInt32} {op : CmpOp} (hd : decode M.2.1 pc = .ok (.fcmp op, 1)) (k : V G M d mc ms P (pc + 1) ls (.int (Op.cmpValue (FP.fcmp x y) op) :: st) μ) : V G M d mc ms P (pc) ls (.float y :: .float x :: st) μ :=
  V.to k (fun h => oks_c okv_i (oks_t (oks_t h))) (fun F _ _ _ hsl w => lv_fcmp F.1 F.2.1 hd w)
theorem v_dcmp {x y : UInt64} {op : CmpOp} (hd : decode M.2.1 pc = .ok (.dcmp op, 1)) (k : V G M d mc ms P (pc + 1) ls (.int (Op.cmpValue (FP.dcmp x y) op) :: st) μ) : V G M d mc ms P (pc) ls (.double y :: .double x :: st) μ :=
  V.to k (fun h => oks_c okv_i (oks_t (oks_t h))) (fun F _ _ _ hsl w => lv_dcmp F.1 F.2.1 hd w)
theorem v_dup {va : Value} (hd : decode M.2.1 pc = .ok (.dup, 1)) (hva : va.category = 1) (k : V G M d mc ms P (pc + 1) ls (va :: va :: st) μ) : V G M d mc ms P pc ls (va :: st) μ :=
  V.to k (fun h => oks_c (oks_h h) h) (fun F _ _ _ hsl w => lv_dup F.1 F.2.1 hd (by rw [xv_cat]; exact hva) w)
theorem v_pop {va : Value} (hd : decode M.2.1 pc = .ok (.pop, 1)) (hva : va.category = 1) (k : V G M d mc ms P (pc + 1) ls st μ) : V G M d mc ms P pc ls (va :: st) μ :=
  V.to k (fun h => oks_t h) (fun F _ _ _ hsl w => lv_pop F.1 F.2.1 hd (by rw [xv_cat]; exact hva) w)
theorem v_dup_x1 {va vb : Value} (hd : decode M.2.1 pc = .ok (.dup_x1, 1)) (hva : va.category = 1) (hvb : vb.category = 1) (k : V G M d mc ms P (pc + 1) ls (va :: vb :: va :: st) μ) : V G M d mc ms P pc ls (va :: vb :: st) μ :=
  V.to k (fun h => oks_c (oks_h h) (oks_c (oks_h (oks_t h)) (oks_c (oks_h h) (oks_t (oks_t h))))) (fun F _ _ _ hsl w => lv_dup_x1 F.1 F.2.1 hd (by rw [xv_cat]; exact hva) (by rw [xv_cat]; exact hvb) w)
theorem v_dup2_11 {va vb : Value} (hd : decode M.2.1 pc = .ok (.dup2, 1)) (hva : va.category = 1) (hvb : vb.category = 1) (k : V G M d mc ms P (pc + 1) ls (va :: vb :: va :: vb :: st) μ) : V G M d mc ms P pc ls (va :: vb :: st) μ :=
  V.to k (fun h => oks_c (oks_h h) (oks_c (oks_h (oks_t h)) h)) (fun F _ _ _ hsl w => lv_dup2_11 F.1 F.2.1 hd (by rw [xv_cat]; exact hva) (by rw [xv_cat]; exact hvb) w)
theorem v_lcmp {x y : Int64} (hd : decode M.2.1 pc = .ok (.lcmp, 1)) (k : V G M d mc ms P (pc + 1) ls (.int (lg_cmp x y) :: st) μ) : V G M d mc ms P pc ls (.long y :: .long x :: st) μ :=
  V.to k (fun h => oks_c okv_i (oks_t (oks_t h))) (fun F _ _ _ hsl w => W.lcmp F.1 F.2.1 hd w)
theorem v_if_eq {x : Int32} {off : Int} {tgt : Nat} (hd : decode M.2.1 pc = .ok (.ifCond .eq off, 3)) (ht : (pc : Int) + off = (tgt : Int)) (ka : x = 0 → V G M d mc ms P tgt ls st μ) (kb : ¬ (x = 0) → V G M d mc ms P (pc + 3) ls st μ) : V G M d mc ms P pc ls (.int x :: st) μ :=
  V.ifs ka kb (fun h => oks_t h) (fun F wa wb => lv_if_eq F.1 F.2.1 hd ht wa wb)
theorem v_if_ne {x : Int32} {off : Int} {tgt : Nat} (hd : decode M.2.1 pc = .ok (.ifCond .ne off, 3)) (ht : (pc : Int) + off = (tgt : Int)) (ka : ¬ x = 0 → V G M d mc ms P tgt ls st μ) (kb : x = 0 → V G M d mc ms P (pc + 3) ls st μ) : V G M d mc ms P pc ls (.int x :: st) μ :=
  V.ifs (C := x = 0) kb ka (fun h => oks_t h) (fun F wa wb => lv_if_ne F.1 F.2.1 hd ht wb wa)
theorem v_if_lt {x : Int32} {off : Int} {tgt : Nat} (hd : decode M.2.1 pc = .ok (.ifCond .lt off, 3)) (ht : (pc : Int) + off = (tgt : Int)) (ka : x < 0 → V G M d mc ms P tgt ls st μ) (kb : ¬ (x < 0) → V G M d mc ms P (pc + 3) ls st μ) : V G M d mc ms P pc ls (.int x :: st) μ :=
  V.ifs ka kb (fun h => oks_t h) (fun F wa wb => lv_if_lt F.1 F.2.1 hd ht wa wb)
theorem v_if_ge {x : Int32} {off : Int} {tgt : Nat} (hd : decode M.2.1 pc = .ok (.ifCond .ge off, 3)) (ht : (pc : Int) + off = (tgt : Int)) (ka : 0 ≤ x → V G M d mc ms P tgt ls st μ) (kb : ¬ (0 ≤ x) → V G M d mc ms P (pc + 3) ls st μ) : V G M d mc ms P pc ls (.int x :: st) μ :=
  V.ifs ka kb (fun h => oks_t h) (fun F wa wb => lv_if_ge F.1 F.2.1 hd ht wa wb)
theorem v_if_gt {x : Int32} {off : Int} {tgt : Nat} (hd : decode M.2.1 pc = .ok (.ifCond .gt off, 3)) (ht : (pc : Int) + off = (tgt : Int)) (ka : 0 < x → V G M d mc ms P tgt ls st μ) (kb : ¬ (0 < x) → V G M d mc ms P (pc + 3) ls st μ) : V G M d mc ms P pc ls (.int x :: st) μ :=
  V.ifs ka kb (fun h => oks_t h) (fun F wa wb => lv_if_gt F.1 F.2.1 hd ht wa wb)
theorem v_if_le {x : Int32} {off : Int} {tgt : Nat} (hd : decode M.2.1 pc = .ok (.ifCond .le off, 3)) (ht : (pc : Int) + off = (tgt : Int)) (ka : x ≤ 0 → V G M d mc ms P tgt ls st μ) (kb : ¬ (x ≤ 0) → V G M d mc ms P (pc + 3) ls st μ) : V G M d mc ms P pc ls (.int x :: st) μ :=
  V.ifs ka kb (fun h => oks_t h) (fun F wa wb => lv_if_le F.1 F.2.1 hd ht wa wb)
theorem v_icmp_eq {x y : Int32} {off : Int} {tgt : Nat} (hd : decode M.2.1 pc = .ok (.if_icmp .eq off, 3)) (ht : (pc : Int) + off = (tgt : Int)) (ka : x = y → V G M d mc ms P tgt ls st μ) (kb : ¬ (x = y) → V G M d mc ms P (pc + 3) ls st μ) : V G M d mc ms P pc ls (.int y :: .int x :: st) μ :=
  V.ifs ka kb (fun h => oks_t (oks_t h)) (fun F wa wb => lv_icmp_eq F.1 F.2.1 hd ht wa wb)
theorem v_icmp_ne {x y : Int32} {off : Int} {tgt : Nat} (hd : decode M.2.1 pc = .ok (.if_icmp .ne off, 3)) (ht : (pc : Int) + off = (tgt : Int)) (ka : ¬ x = y → V G M d mc ms P tgt ls st μ) (kb : x = y → V G M d mc ms P (pc + 3) ls st μ) : V G M d mc ms P pc ls (.int y :: .int x :: st) μ :=
  V.ifs (C := x = y) kb ka (fun h => oks_t (oks_t h)) (fun F wa wb => lv_icmp_ne F.1 F.2.1 hd ht wb wa)
theorem v_icmp_lt {x y : Int32} {off : Int} {tgt : Nat} (hd : decode M.2.1 pc = .ok (.if_icmp .lt off, 3)) (ht : (pc : Int) + off = (tgt : Int)) (ka : x < y → V G M d mc ms P tgt ls st μ) (kb : ¬ (x < y) → V G M d mc ms P (pc + 3) ls st μ) : V G M d mc ms P pc ls (.int y :: .int x :: st) μ :=
  V.ifs ka kb (fun h => oks_t (oks_t h)) (fun F wa wb => lv_icmp_lt F.1 F.2.1 hd ht wa wb)
theorem v_icmp_ge {x y : Int32} {off : Int} {tgt : Nat} (hd : decode M.2.1 pc = .ok (.if_icmp .ge off, 3)) (ht : (pc : Int) + off = (tgt : Int)) (ka : y ≤ x → V G M d mc ms P tgt ls st μ) (kb : ¬ (y ≤ x) → V G M d mc ms P (pc + 3) ls st μ) : V G M d mc ms P pc ls (.int y :: .int x :: st) μ :=
  V.ifs ka kb (fun h => oks_t (oks_t h)) (fun F wa wb => lv_icmp_ge F.1 F.2.1 hd ht wa wb)
theorem v_icmp_gt {x y : Int32} {off : Int} {tgt : Nat} (hd : decode M.2.1 pc = .ok (.if_icmp .gt off, 3)) (ht : (pc : Int) + off = (tgt : Int)) (ka : y < x → V G M d mc ms P tgt ls st μ) (kb : ¬ (y < x) → V G M d mc ms P (pc + 3) ls st μ) : V G M d mc ms P pc ls (.int y :: .int x :: st) μ :=
  V.ifs ka kb (fun h => oks_t (oks_t h)) (fun F wa wb => lv_icmp_gt F.1 F.2.1 hd ht wa wb)
theorem v_icmp_le {x y : Int32} {off : Int} {tgt : Nat} (hd : decode M.2.1 pc = .ok (.if_icmp .le off, 3)) (ht : (pc : Int) + off = (tgt : Int)) (ka : x ≤ y → V G M d mc ms P tgt ls st μ) (kb : ¬ (x ≤ y) → V G M d mc ms P (pc + 3) ls st μ) : V G M d mc ms P pc ls (.int y :: .int x :: st) μ :=
  V.ifs ka kb (fun h => oks_t (oks_t h)) (fun F wa wb => lv_icmp_le F.1 F.2.1 hd ht wa wb)
theorem v_goto {off : Int} {tgt : Nat} (hd : decode M.2.1 pc = .ok (.goto off, 3)) (ht : (pc : Int) + off = (tgt : Int)) (k : V G M d mc ms P tgt ls st μ) : V G M d mc ms P pc ls st μ :=
  V.to k (fun h => h) (fun F _ _ _ hsl w => lv_goto F.1 F.2.1 hd ht w)
theorem v_tableOut {dflt lo hi : Int} {offs : Array Int} {len : Nat} {x : Int32} {tgt : Nat} (hd : decode M.2.1 pc = .ok (.tableswitch dflt lo hi offs, len)) (h : x.toInt < lo ∨ hi < x.toInt) (ht : (pc : Int) + dflt = (tgt : Int)) (k : V G M d mc ms P tgt ls st μ) : V G M d mc ms P pc ls (.int x :: st) μ :=
  V.to k (fun h => oks_t h) (fun F _ _ _ hsl w => lv_tableOut F.1 F.2.1 hd h ht w)
theorem v_tableIn {dflt lo hi : Int} {offs : Array Int} {len : Nat} {x : Int32} {off : Int} {tgt : Nat} (hd : decode M.2.1 pc = .ok (.tableswitch dflt lo hi offs, len)) (h1 : ¬ x.toInt < lo) (h2 : ¬ hi < x.toInt) (ho : offs[(x.toInt - lo).toNat]? = some off) (ht : (pc : Int) + off = (tgt : Int)) (k : V G M d mc ms P tgt ls st μ) : V G M d mc ms P pc ls (.int x :: st) μ :=
  V.to k (fun h => oks_t h) (fun F _ _ _ hsl w => lv_tableIn F.1 F.2.1 hd h1 h2 ho ht w)
theorem v_lookup {dflt : Int} {ps : Array (Int × Int)} {len : Nat} {x : Int32} {off : Int} {tgt : Nat} (hd : decode M.2.1 pc = .ok (.lookupswitch dflt ps, len)) (hp : (ps.toList.zip (ps.toList.drop 1)).all (fun (a, next) => a.1 < next.1) = true) (ho : Op.lookupswitch.offset ps.toList dflt x.toInt = off) (ht : (pc : Int) + off = (tgt : Int)) (k : V G M d mc ms P tgt ls st μ) : V G M d mc ms P pc ls (.int x :: st) μ :=
  V.to k (fun h => oks_t h) (fun F _ _ _ hsl w => lv_lookup F.1 F.2.1 hd hp ho ht w)
/-! returns -/
theorem v_iret {v : Int32} {t : FieldType} (hd : decode M.2.1 pc = .ok (.ireturn, 1)) (hr : M.2.2.2 = some t) (hn : narrow t (.int v) = .int v) (hP : P (some (.int v)) μ) : V G M d mc ms P pc ls [.int v] μ :=
  fun p l e R s m args below meth c Q ad H locs cells slots sl F hW hS hR hl hs hsl h1 h2 hE => hE (some (.int v)) μ ad H locs cells slots pc sl hP hW Ag.refl (fun _ z => z) (fun u e => by cases e; exact okv_i) hS (by omega) (by omega) ⟨hd, t, hr, hn⟩
theorem v_lret {v : Int64} (hd : decode M.2.1 pc = .ok (.lreturn, 1)) (hr : M.2.2.2 = some .long) (hP : P (some (.long v)) μ) : V G M d mc ms P pc ls [.long v] μ :=
  fun p l e R s m args below meth c Q ad H locs cells slots sl F hW hS hR hl hs hsl h1 h2 hE => hE (some (.long v)) μ ad H locs cells slots pc sl hP hW Ag.refl (fun _ z => z) (fun u e => by cases e; exact okv_l) hS (by omega) (by omega) ⟨hd, hr⟩
theorem v_fret {v : UInt32} (hd : decode M.2.1 pc = .ok (.freturn, 1)) (hr : M.2.2.2 = some .float) (hP : P (some (.float v)) μ) : V G M d mc ms P pc ls [.float v] μ :=
  fun p l e R s m args below meth c Q ad H locs cells slots sl F hW hS hR hl hs hsl h1 h2 hE => hE (some (.float v)) μ ad H locs cells slots pc sl hP hW Ag.refl (fun _ z => z) (fun u e => by cases e; exact okv_f) hS (by omega) (by omega) ⟨hd, hr⟩
theorem v_dret {v : UInt64} (hd : decode M.2.1 pc = .ok (.dreturn, 1)) (hr : M.2.2.2 = some .double) (hP : P (some (.double v)) μ) : V G M d mc ms P pc ls [.double v] μ :=
  fun p l e R s m args below meth c Q ad H locs cells slots sl F hW hS hR hl hs hsl h1 h2 hE => hE (some (.double v)) μ ad H locs cells slots pc sl hP hW Ag.refl (fun _ z => z) (fun u e => by cases e; exact okv_d) hS (by omega) (by omega) ⟨hd, hr⟩
theorem v_aret {a : Nat} {t : FieldType} (hd : decode M.2.1 pc = .ok (.areturn, 1)) (hr : M.2.2.2 = some t) (ht : (∃ n, t = .object n) ∨ ∃ u, t = .array u) (hP : P (some (.ref a)) μ) : V G M d mc ms P pc ls [.ref a] μ :=
  fun p l e R s m args below meth c Q ad H locs cells slots sl F hW hS hR hl hs hsl h1 h2 hE => hE (some (.ref a)) μ ad H locs cells slots pc sl hP hW Ag.refl (fun _ z => z) (fun u e => by cases e; exact oks_h hs) hS (by omega) (by omega) ⟨hd, t, hr, ht⟩
theorem v_vret (hd : decode M.2.1 pc = .ok (.return_, 1)) (hr : M.2.2.2 = none) (hP : P none μ) : V G M d mc ms P pc ls [] μ :=
  fun p l e R s m args below meth c Q ad H locs cells slots sl F hW hS hR hl hs hsl h1 h2 hE => hE none μ ad H locs cells slots pc sl hP hW Ag.refl (fun _ z => z) (fun u e => by cases e) hS (by omega) (by omega) ⟨hd, hr⟩
end VROWS
