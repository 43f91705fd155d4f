/-! THE CLAIM OUT OF ONE WALK OF THE LAW'S BODY. Your part is whole_start (and what it stands on); all else here is the same for every law, but numbers. -/
def R_law : String := "FilterPileLaw"
def lw_P (b : Addr) (xs : List Int32) (args : Array Value) (s : State) : Prop := args = #[.ref b] ∧ s.IntsAt b xs ∧ xs.length ≤ 2560 ∧ (Jvm.Cond.and given_1 narrow_1).before args s = true
/-- what a walk over the start with the record d0 says of its end, said of the start itself -/
theorem lw_closed {s t : State} {o : Outcome} {d0 : Drawn} {L : List Loc} {k n : Nat} (hd0 : s.drawn.sameBut d0 lw_cs) (hv : ∃ v, o = .returned v) (hW : (s.setDrawn d0).WarmedH t.vm) (hs : (s.setDrawn d0).sameButNew ({ t with vm := s.vm } : State) L k n) : State.butDraws s t lw_cs (fun t1 => Framed s o t1 L k n) := by
  have h2 : t.drawn = d0 := congrArg State.drawn hs.1
  refine ⟨⟨hv, hW, State.sameButNew.setDrawn hs s.drawn⟩, ?_, by decide⟩
  rw [h2]
  exact hd0
def lw_Q (_ : Array Value) (s : State) (o : Outcome) (t : State) : Prop := o = .returned (some (.int 1)) ∧ State.butDraws s t lw_cs (fun t1 => Framed s o t1 [] 600000 7302250)
def lw_Z (below : List Frame) (a : Array Value) (s : State) : State → Prop := fun t => ∃ o, t.status = .running ∧ Ended t below o ∧ lw_Q a s o t
/-- the law's own end, with 1 on the stack, nothing written that was there before, its room as the claim has it; d0: the record of draws at this point (at the entry s.drawn: begin with 'refine W.base ?_' and 'have hd0 := Drawn.sameBut.refl s.drawn lw_cs') -/
theorem lw_ret {p : Program} {l : Launch} {e : Env} {s : State} {m : MethodId} {below : List Frame} {meth : Method} {c : Code} {b : Nat} {d0 : Drawn} (hd0 : s.drawn.sameBut d0 lw_cs) (hx : p.tables.exec = Jvm.exec) (hb : c.code = code) (hr : meth.sig.returnType = ret) (hlocks : meth.locks = false) {pc : Nat} {H : Heap} {ls : Array Slot} (hdg : decode code pc = .ok (.ireturn, 1)) : W p l e room_1 (s.setDrawn d0) m #[Value.ref b] below meth c H [] 600000 7302250 (lw_Z below #[Value.ref b] s) (F0 m pc ls [.int 1]) := by
  intro T hT X
  obtain ⟨fs, hret, hrun, hended, hW, hframe⟩ := X.leave (v := some (.int 1)) (hlocks := hlocks) (fun h => by rw [hr] at h; cases h)
  have hmeth' : T.vm.method? m = some meth := X.method'
  refine ⟨T.setFrames fs, ?_, .returned (some (.int 1)), hrun, hended, rfl, lw_closed hd0 ⟨_, rfl⟩ hW hframe⟩
  jvm_step X.here [X.here.top, hx, hb, hdg, hmeth', hr, ret, narrow_b1]
  (try refine ⟨rfl, ?_⟩); (try refine ⟨rfl, ?_⟩)
  first | (intro acts; rw [hret _ acts rfl rfl rfl]) | rw [hret _ _ rfl rfl rfl]
  exact Steps.refl _
/-- what holds at the law's entry: the machine, the code, the tables' words (any of lw_tbl by 'hts w (by decide +kernel)'), the script of L ints xs at the cell b, what the Statement gives of the start (any of its parts by flat_of_before) -/
def lw_At (p : Program) (s : State) (m : MethodId) (meth : Method) (c : Code) (b L : Nat) (xs : Nat → Int32) : Prop :=
  p.tables.exec = Jvm.exec ∧ c.code = code ∧ meth.sig.returnType = ret ∧ c.maxLocals = 4 ∧ s.vm.findClass R_law = some m.cls ∧ (∀ w ∈ lw_tbl, w.before #[Value.ref b] s = true) ∧ va_X b L xs s s.heap ∧ b < s.heap.size ∧ meth.locks = false ∧ (Jvm.Cond.and given_1 narrow_1).before #[Value.ref b] s = true ∧ meth.name = "law"
theorem arr_known {s : State} {args : Array Value} {ty : FieldType} (h : (Cond.arrayClass ty).before args s = true) (hno : ∀ C, ty ≠ .object C) : ∃ cA, ArrOfT s cA ty ∧ va_RA s cA ty := by
  obtain ⟨c, k, comp, h1, h2, h3⟩ := Cond.arrayClass_spec h
  refine ⟨c, fun N z => ⟨fun x hx => (by cases hx), k, h2, comp, h3⟩, ?_⟩
  cases ty <;> first | exact h1 | exact absurd rfl (hno _)
theorem arr_over {s : State} {t : FieldType} (h : AoA t s) : ∃ cA, ArrOfT s cA (.array t) ∧ va_RA s cA (.array t) := by
  obtain ⟨comp, c, k, -, -, h2, h3, h4⟩ := Jvm.Stand.arrayOver_specB h
  exact ⟨c, fun N z => ⟨fun x hx => (by cases hx), k, h2, comp, h3⟩, h4⟩
theorem arr_obj {s : State} {C : String} (h : va_AO C s) : ∃ cA, ArrOfT s cA (.object C) ∧ va_RA s cA (.object C) := by
  obtain ⟨comp, c, k, h1, -, h3, h4, h5⟩ := Cond.arrayOver_spec h
  exact ⟨c, fun N z => ⟨fun x hx => (by cases hx), k, h3, comp, h4⟩, k, comp, h3, h4, h1, h5⟩
abbrev flN : List Cond := flatC (Jvm.Cond.and given_1 narrow_1)
abbrev tmA : Term := .static "FilterPile" "KIND_ABOVE" "[I"
abbrev tmO : Term := .static "java/lang/Integer" "DigitOnes" "[B"
abbrev tmT : Term := .static "java/lang/Integer" "DigitTens" "[B"
abbrev tmS : Term := .string "FilterPile$Reader" 49
abbrev tmV : Term := .field tmS "java/lang/String" "value" "[B"
theorem fl_above : ∀ j, j < 7 → Cond.eq (.elem tmA (.int (Int32.ofNat j))) (.int (kaT j)) ∈ flN := va_run (N := 7) (p := 8) (f := fun j => Cond.eq (.elem tmA (.int (Int32.ofNat j))) (.int (kaT j))) (by decide +kernel)
theorem fl_ones : ∀ j, j < 100 → Cond.eq (.elem tmO (.int (Int32.ofNat j))) (.int (nI (48 + j % 10))) ∈ flN := va_run (N := 100) (p := 22) (f := fun j => Cond.eq (.elem tmO (.int (Int32.ofNat j))) (.int (nI (48 + j % 10)))) (by decide +kernel)
theorem fl_tens : ∀ j, j < 100 → Cond.eq (.elem tmT (.int (Int32.ofNat j))) (.int (nI (48 + j / 10))) ∈ flN := va_run (N := 100) (p := 125) (f := fun j => Cond.eq (.elem tmT (.int (Int32.ofNat j))) (.int (nI (48 + j / 10)))) (by decide +kernel)
theorem fl_text : ∀ j, j < 7 → Cond.eq (.elem tmV (.int (Int32.ofNat j))) (.int (ltB.getD j 0)) ∈ flN := va_run (N := 7) (p := 229) (f := fun j => Cond.eq (.elem tmV (.int (Int32.ofNat j))) (.int (ltB.getD j 0))) (by decide +kernel)
theorem cls_known {s : State} {args : Array Value} (hg : ∀ w ∈ gw, w.before args s = true) : ∀ k : Nat, ∃ p : ClassId × (Nat → Nat), ∀ q : vw_C, vwCl[k]? = some q → u_Kn s q.1 q.2.1 q.2.2 p.1 p.2 := by
  intro k
  match k with
  | 0 =>
    obtain ⟨c, i, h⟩ := u_known (C := RJ4) (T := TJ4) (N := 4) (n := 4) hg la_J4 (hg _ it_J4)
    exact ⟨(c, i), fun q hq => by cases hq; exact h⟩
  | 1 =>
    obtain ⟨c, i, h⟩ := u_known (C := RX0) (T := TX0) (N := 6) (n := 6) hg la_X0 (hg _ it_X0)
    exact ⟨(c, i), fun q hq => by cases hq; exact h⟩
  | 2 =>
    obtain ⟨c, i, h⟩ := u_known (C := RX1) (T := TX1) (N := 5) (n := 5) hg la_X1 (hg _ it_X1)
    exact ⟨(c, i), fun q hq => by cases hq; exact h⟩
  | 3 =>
    obtain ⟨c, i, h⟩ := u_known (C := RX2) (T := TX2) (N := 1) (n := 1) hg la_X2 (hg _ it_X2)
    exact ⟨(c, i), fun q hq => by cases hq; exact h⟩
  | 4 =>
    obtain ⟨c, i, h⟩ := u_known (C := RX3) (T := TX3) (N := 7) (n := 7) hg la_X3 (hg _ it_X3)
    exact ⟨(c, i), fun q hq => by cases hq; exact h⟩
  | 5 =>
    obtain ⟨c, i, h⟩ := u_known (C := RX4) (T := TX4) (N := 7) (n := 7) hg la_X4 (hg _ it_X4)
    exact ⟨(c, i), fun q hq => by cases hq; exact h⟩
  | 6 =>
    obtain ⟨c, i, h⟩ := u_known (C := RX5) (T := TX5) (N := 3) (n := 3) hg la_X5 (hg _ it_X5)
    exact ⟨(c, i), fun q hq => by cases hq; exact h⟩
  | 7 =>
    obtain ⟨c, i, h⟩ := u_known (C := RX6) (T := TX6) (N := 13) (n := 13) hg la_X6 (hg _ it_X6)
    exact ⟨(c, i), fun q hq => by cases hq; exact h⟩
  | 8 =>
    obtain ⟨c, i, h⟩ := u_known (C := RX7) (T := TX7) (N := 40) (n := 40) hg la_X7 (hg _ it_X7)
    exact ⟨(c, i), fun q hq => by cases hq; exact h⟩
  | k + 9 => exact ⟨(0, fun _ => 0), fun q hq => absurd (List.getElem?_eq_some_iff.mp hq).1 (by show ¬ k + 9 < 9; omega)⟩
set_option maxRecDepth 20000 in
set_option maxHeartbeats 4000000 in
/-- what is only read, at the law's entry -/
theorem ro_entry {s : State} {b L : Nat} {xs : Nat → Int32} (hts : ∀ w ∈ lw_tbl, w.before #[Value.ref b] s = true) (hX : va_X b L xs s s.heap) (hbl : b < s.heap.size) (hgv : (Jvm.Cond.and given_1 narrow_1).before #[Value.ref b] s = true) (D : va_G) (A : Nat → ClassId) : ∃ ad : Nat → Nat, ad 1000 = b ∧ Ro (D, A, s.heap.size, L, xs) ad s s.heap := by
  have fl := flat_of_before _ hgv
  have hA : ∀ a : Nat, a < s.heap.size → ¬ cS (D, A, s.heap.size, L, xs) a := fun a h => Nat.not_le.mpr h
  obtain ⟨scr, x1, x2, x3, x4, x5⟩ := hX
  obtain ⟨tA, eA, hTA⟩ := va_Tof (tm := tmA) (ty := .int) (N := 7) (f := fun j => .int (kaT j)) (by decide) (fl _ (by decide +kernel)) (va_eqt (fl _ (by decide +kernel))) (fun j hj => va_eqt (fl _ (fl_above j hj))) hA
  obtain ⟨tO, eO, hTO⟩ := va_Tof (tm := tmO) (ty := .byte) (N := 100) (f := fun j => .int (nI (48 + j % 10))) (by decide) (fl _ (by decide +kernel)) (va_eqt (fl _ (by decide +kernel))) (fun j hj => va_eqt (fl _ (fl_ones j hj))) hA
  obtain ⟨tT, eT, hTT⟩ := va_Tof (tm := tmT) (ty := .byte) (N := 100) (f := fun j => .int (nI (48 + j / 10))) (by decide) (fl _ (by decide +kernel)) (va_eqt (fl _ (by decide +kernel))) (fun j hj => va_eqt (fl _ (fl_tens j hj))) hA
  obtain ⟨aK, aV, hSS, eS⟩ := vk_Sof (N := 1) (tm := fun _ => tmS) (len := [7]) (byt := [ltB]) (args := #[Value.ref b]) (s := s) (fun i hi => by obtain rfl : i = 0 := (by omega); decide) (fun i hi => fl _ (by decide +kernel)) (fun i hi => fl _ (by decide +kernel)) (fun i hi => fl _ (by decide +kernel)) (fun i hi => by obtain rfl : i = 0 := (by omega); exact fl _ (by decide +kernel)) (fun i hi j hj => by obtain rfl : i = 0 := (by omega); exact fl _ (fl_text j hj)) (fun i j hi hj h => absurd (by omega : i = j) h) hA
  have eS0 := eS 0 (by omega)
  have eF : (Term.string "FilterPile" 444).eval #[Value.ref b] s none [] s = some (.ref (aK 0)) := va_eqR (fl (Cond.eq tmS (.string "FilterPile" 444)) (by decide +kernel)) eS0
  obtain ⟨v, ev, hv⟩ := Cond.isRef_spec (fl (Cond.isRef (.static "jdk/internal/util/Preconditions" "SIOOBE_FORMATTER" "Ljava/util/function/BiFunction;")) (by decide +kernel))
  have hz : va_Z "jdk/internal/util/Preconditions" "SIOOBE_FORMATTER" "Ljava/util/function/BiFunction;" v (cS (D, A, s.heap.size, L, xs)) s s.heap := va_Zof (hts _ (by decide +kernel)) (hts _ (by decide +kernel)) ev hA
  obtain ⟨tF, hF⟩ : ∃ tF : Nat, v = .null ∨ v = .ref tF := by
    cases v with
    | ref a => exact ⟨a, Or.inr rfl⟩
    | null => exact ⟨0, Or.inl rfl⟩
    | _ => cases hv
  refine ⟨fun k => if k = 1000 then b else if k = 1001 then tA else if k = 1002 then aK 0 else if k = 1003 then aV 0 else if k = 1004 then tO else if k = 1005 then tT else tF, rfl, ?_⟩
  refine ⟨⟨scr, x1, x2, x3, Nat.le_of_eq x4.symm, by rw [x4], x5, hA b hbl⟩, hTA, va_Zof (hts _ (by decide +kernel)) (hts _ (by decide +kernel)) eA hA, vk_R.of (hts _ (by decide +kernel)) eS0, vk_R.of (hts _ (by decide +kernel)) eF, ⟨fun i hi => by obtain rfl : i = 0 := (by omega); exact hSS.1 0 hi, fun i j hi hj _ => (by omega : i = j)⟩, hTO, va_Zof (hts _ (by decide +kernel)) (hts _ (by decide +kernel)) eO hA, hTT, va_Zof (hts _ (by decide +kernel)) (hts _ (by decide +kernel)) eT hA, va_Zof (hts _ (by decide +kernel)) (hts _ (by decide +kernel)) (va_eqt (fl _ (by decide +kernel))) hA, hF.imp (fun e9 => by rw [e9] at hz; exact hz) (fun e9 => by rw [e9] at hz; exact hz), va_AO.of (hts _ (by decide +kernel)), hts (Cond.arrayOver (.array .int)) (by decide +kernel), hts (Cond.arrayOver (.array .long)) (by decide +kernel), sel_priv (n := 4) (hts (Cond.instantiable "java/lang/StringBuilder" 4) (by decide +kernel)) (hts (Cond.sameMethod seE.cls seE.cls seE.name seE.desc) (by decide +kernel)) (hts (Cond.privateMethod seE) (by decide +kernel)) (hts (Cond.instanceMethod seE) (by decide +kernel)), sel_priv (n := 4) (hts (Cond.instantiable "java/lang/StringBuilder" 4) (by decide +kernel)) (hts (Cond.sameMethod seC.cls seC.cls seC.name seC.desc) (by decide +kernel)) (hts (Cond.privateMethod seC) (by decide +kernel)) (hts (Cond.instanceMethod seC) (by decide +kernel))⟩
set_option maxRecDepth 20000 in
set_option maxHeartbeats 4000000 in
theorem whole_start {p : Program} {e : Env} {s : State} {m : MethodId} {below : List Frame} {meth : Method} {c : Code} (l : Launch) (hflags : l.flags = flags0) {b L : Nat} {xs : Nat → Int32} (hL : L ≤ 2560) (C0 : lw_At p s m meth c b L xs) : W p l e room_1 s m #[Value.ref b] below meth c s.heap [] 0 0 (lw_Z below #[Value.ref b] s) (entryFrame m ([Value.ref b] : List Value).toArray 4) := by
  obtain ⟨hx, hb, hr, hml, hown, hts, hX, hbl, hlocks, hgv, hnm⟩ := id C0
  have hg : ∀ w ∈ gw, w.before #[Value.ref b] s = true := fun w hw => hts w (List.mem_filter.mp hw).1
  obtain ⟨F, hF⟩ := Classical.axiomOfChoice (cls_known hg)
  have hR0 := ro_entry hts hX hbl hgv (fun k => (F k).1, fun k => (F k).2) (fun _ => 0)
  obtain ⟨ad0, _, hR1⟩ := hR0
  have hao := ro_ao hR1
  obtain ⟨cI, aI⟩ := arr_known (hg _ ac_I) (fun C z => by cases z)
  obtain ⟨cJ, aJ⟩ := arr_known (hg _ ac_J) (fun C z => by cases z)
  obtain ⟨cF, aF⟩ := arr_known (hg _ ac_F) (fun C z => by cases z)
  obtain ⟨cBt, aB⟩ := arr_known (hg _ ac_B) (fun C z => by cases z)
  obtain ⟨cI2, aI2⟩ := arr_over hao.2.1
  obtain ⟨cJ2, aJ2⟩ := arr_over hao.2.2.1
  obtain ⟨cLt, aL⟩ := arr_obj hao.1
  obtain ⟨ad, ha0, hR⟩ := ro_entry hts hX hbl hgv (fun k => (F k).1, fun k => (F k).2) (fun k => if k = 0 then cI else if k = 1 then cJ else if k = 2 then cF else if k = 3 then cBt else if k = 4 then cI2 else if k = 5 then cJ2 else cLt)
  generalize hG : ((fun k => (F k).1, fun k => (F k).2), (fun k => if k = 0 then cI else if k = 1 then cJ else if k = 2 then cF else if k = 3 then cBt else if k = 4 then cI2 else if k = 5 then cJ2 else cLt), s.heap.size, L, xs) = G at hR
  have hTb : Tb G s := by
    subst hG
    refine ⟨fun w hw => ?_, hF, fun k q hq => ?_⟩
    · obtain ⟨a, i, x, k, rfl⟩ := nw_nest hw
      exact hts _ (List.mem_filter.mp hw).1
    · match k, hq with
      | 0, hq => cases hq; exact aI
      | 1, hq => cases hq; exact aJ
      | 2, hq => cases hq; exact aF
      | 3, hq => cases hq; exact aB
      | 4, hq => cases hq; exact aI2
      | 5, hq => cases hq; exact aJ2
      | 6, hq => cases hq; exact aL
      | k + 7, hq => exact absurd (List.getElem?_eq_some_iff.mp hq).1 (by show ¬ k + 7 < 7; omega)
  have hcB : cB G = s.heap.size := by subst hG; rfl
  have hcL : cL G = L := by subst hG; rfl
  have hl := lv_entry ([.ref b]) (n := 4) (Nat.le_of_ble_eq_true rfl)
  rw [lg_entry_eq]
  generalize (lg_sl ([.ref b]) ++ List.replicate (4 - (lg_sl ([.ref b])).length) Slot.unset).toArray = sl at hl ⊢
  have hl : lv_has sl 4 (xl ad [(0, .ref 1000)]) := by
    show lv_has sl 4 [(0, .ref (ad 1000))]
    rw [ha0]
    exact hl
  have hS : va_S (cS G) s.heap s.heap [] := va_S.rf
  refine law_body (G := G) (P := fun r _ => r = some (.int 1)) (fun _ => rfl) (by rw [hcL]; exact hL) p l e room_1 s m #[Value.ref b] below meth c (lw_Z below #[Value.ref b] s) ad s.heap [] 0 0 sl ⟨hx, hb, hml, hr, hown, hlocks, hnm, hg, hTb, by decide, by decide⟩ ⟨Nat.le_of_eq hcB, fun i e9 h9 => (by cases h9), fun i j h9 => absurd rfl h9⟩ hS hR (fun q hq => ?_) (fun v hv => by cases hv) hl (by decide) (by decide) ?_
  · rw [List.mem_singleton.mp hq]
    exact okv_ro (by decide)
  · intro r μ' ad' H' locs' cells' slots' pc' sl' hP hW' hag hsb hok' hS' hc hs hret
    have hP : r = some (.int 1) := hP
    subst hP
    refine va_forget (fun q hq => by rw [← hcB]; exact hS'.2.2 q hq) ?_
    refine W.widen (k := 600000) (n := 7302250) (Nat.le_trans hc (by decide)) (Nat.le_trans hs (by decide)) ?_
    exact W.base (lw_ret (Drawn.sameBut.refl s.drawn lw_cs) hx hb hr hlocks hret.1)
set_option maxHeartbeats 4000000 in
theorem lw_walk (l : Launch) (hflags : l.flags = flags0) (b : Addr) (xs : List Int32) : MetFree l x (headSpec (Jvm.Cond.code x code maxLocals ret :: tables_1) room_1) (lw_P b xs) (fun _ _ _ _ _ => True) lw_Q := by
  refine MetFree.of_bodyS (code := code) (maxLocals := maxLocals) (ret := ret) (by decide) ?_ ?_
  · intro args s m h hn
    obtain ⟨meth, c, h1, h2, h3, h4, h5, h6, -, -⟩ := Cond.code_spec hn (atoms_spec (ws := Jvm.Cond.code x code maxLocals ret :: tables_1) h _ List.mem_cons_self)
    exact ⟨meth, c, h1, h2, h3, h4, h5, h6⟩
  · intro p e s m args below meth c s₁ B hml0 hP _
    obtain ⟨rfl, hx, hbd, hgv⟩ := hP
    obtain ⟨scr, harrAt, hlist, hof, hsmall⟩ := hx
    obtain ⟨hcb, hkn, -, -⟩ := State.arrayAt?_spec harrAt
    have hown : s.vm.findClass R_law = some m.cls := findClass_of_methodNamed B.named
    have hts0 : ∀ c ∈ (Jvm.Cond.code x code maxLocals ret :: tables_1), c.before #[Value.ref b] s = true := atoms_spec (ws := Jvm.Cond.code x code maxLocals ret :: tables_1) B.pre
    have hts : ∀ w ∈ lw_tbl, w.before #[Value.ref b] s = true := k2_hts_sels lw_privs (fun w hw => hts0 w (List.mem_cons_of_mem _ hw)) lw_privs_ok
    have hml : c.maxLocals = 4 := B.maxLocals_eq (hts0 _ List.mem_cons_self)
    have X₀ : Stand p l e room_1 s m #[Value.ref b] below meth c s₁ [] 0 0 := Stand.of_body B
    have hh0 : s₁.heap = s.heap := by rw [B.state]; rfl
    have hsz : scr.slots.size = xs.length := by rw [← Array.length_toList, hlist, List.length_map]
    have hval : ∀ j : Nat, j < xs.length → scr.slots[j]? = some (.int (xs.getD j 0)) := fun j hj => by
      rw [← Array.getElem?_toList, hlist]
      simp [hj]
    have hbl : b < s.heap.size := (Array.getElem?_eq_some_iff.mp hcb).1
    have hX : va_X b xs.length (fun j => xs.getD j 0) s s.heap := ⟨scr, hcb, hof, hkn, hsz, hval⟩
    have K : W p l e room_1 s m #[Value.ref b] below meth c s₁.heap [] 0 0 (lw_Z below #[Value.ref b] s) (entryFrame m ([Value.ref b] : List Value).toArray 4) := by
      rw [hh0]
      exact whole_start l hflags hbd ⟨B.exec, B.bytes, B.returns, hml, hown, hts, hX, hbl, B.notSynchronized, hgv, (name_of_methodNamed B.named B.method).1⟩
    obtain ⟨t, a1, o, b1, b2, b3⟩ := K s₁ rfl X₀
    exact ⟨t, o, a1, b1, b2, b3⟩
theorem lw_pre_spec {args : Array Value} {s : State} (h : (Jvm.Cond.and given_1 narrow_1).before args s = true) (hr : rest_1_c.before args s = true) : ∃ (b : Addr) (xs : List Int32), lw_P b xs args s := by
  have hs := flat_of_before _ h
  have hq := flat_of_before _ hr
  have hc : (Cond.count 1).before args s = true := hs _ (by decide +kernel)
  have harr : (Cond.arrayOf (.arg 0) .int).before args s = true := hs _ (by decide +kernel)
  have hle : (Cond.le (.length (.arg 0)) (.int 2560)).before args s = true := hs _ (by decide +kernel)
  have hlen : (Cond.isInt (.length (.arg 0))).before args s = true := hq _ (by decide +kernel)
  have hall : (Cond.all (.arg 0) (.isInt (.elem (.arg 0) (.index 0)))).before args s = true := hq _ (by decide +kernel)
  obtain ⟨b, xs, hb, hx⟩ := State.ints_of_pre rfl harr hlen hall
  have hsm : xs.length < 2 ^ 31 := hx.choose_spec.2.2.2
  have hev : (Term.length (.arg 0)).eval args s none [] s = some (.int xs.length.toInt32) := hx.length_eval hb
  have hv := Cond.le_ints hev (show (Term.int 2560).eval args s none [] s = some (.int 2560) from rfl)
  have hd : xs.length.toInt32 ≤ 2560 := by
    simpa [Cond.before, Cond.holds, hv] using hle
  have hN : xs.length ≤ 2560 := (Int32.ofNat_le_ofNat hsm (by decide)).mp (show Int32.ofNat xs.length ≤ Int32.ofNat 2560 from hd)
  exact ⟨b, xs, Cond.one_arg hc (show args[0]? = some (.ref b) from hb), hx, hN, h⟩
theorem lw_comes (l : Launch) (hflags : l.flags = flags0) : Comes l x (Jvm.Cond.code x code maxLocals ret :: tables_1) room_1 (fun tb e args s => Calls_1 tb e args s ∧ rest_1 tb e args s ∧ Pre_1 tb e args s)
    (fun _ _ args s o t => lw_Q args s o t) := by
  intro p e ha hc hk s m args below hf hfit hheap happ hpre
  obtain ⟨b, xs, hP⟩ := lw_pre_spec hpre.2.2 hpre.2.1
  obtain ⟨k, o, h1, h2, h3, hQ⟩ := lw_walk l hflags b xs p e ha hc hk s m args below hf ((Spec.applies_iff_loose hf).mp happ).1 hP trivial
  exact ⟨k, o, h1, h2, h3, hQ⟩
theorem lw_frame {s t : State} {o : Outcome} {args : Array Value} (h : State.butDraws s t lw_cs (fun t1 => Framed s o t1 [] 600000 7302250)) :
    State.butDraws s t [Jvm.Choice.named "NaN.bits"] (fun t1 => Framed s o t1 (fieldLocs frame_1_writes args s ++ arrayLocs frame_1_arrays args s ++ staticLocs frame_1_statics s) 600000 7302250) := h
theorem lw_limb (L : Cond) (hL : ∀ (args : Array Value) (s t : State), L.after args s (.returned (some (.int 1))) t = true) :
    ArmFor flags0 classFile x code maxLocals ret World_1 tables_1 room_1 Calls_1 rest_1 Pre_1
      (fun tb e a s o t => postC L tb e a s o t ∧ State.butDraws s t [Jvm.Choice.named "NaN.bits"] (fun t1 => Framed s o t1 (fieldLocs frame_1_writes a s ++ arrayLocs frame_1_arrays a s ++ staticLocs frame_1_statics s) 600000 7302250)) := by
  intro l hflags _ _ p e ha hc hk s m args below hf hfit hheap happ hpre
  obtain ⟨k, o, h1, h2, h3, rfl, hF⟩ := lw_comes l hflags p e ha hc hk s m args below hf hfit hheap happ hpre
  exact ⟨k, _, h1, h2, h3, hL args s _, lw_frame hF⟩
theorem i_vc : Claimed_1_1 ∧ Claimed_1_2 := ⟨lw_limb limb_1_1 (fun args s t => by simp [limb_1_1, Cond.after, Cond.holds, Cond.value]), lw_limb limb_1_2 (fun args s t => Cond.after_iff.mpr (by
  first | (rw [show limb_1_2 = Cond.eq .result (.int 1) from rfl, Cond.eq_ints (x := 1) (y := 1) rfl rfl]; simp; done) | (simp [limb_1_2, Cond.value, Term.eval]; done)))⟩
