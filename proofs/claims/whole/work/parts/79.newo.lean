def noRef (v : Value) : Bool := match v with
  | .ref _ => false
  | _ => true
theorem v_newo {G : Cx} {M : MD} {d mc ms : Nat} {P : Option Value → Hp → Prop} {pc : Nat} {ls : List (Nat × Value)} {st : List Value} {μ : Hp} {idx ci N : Nat} {C : String} {T : u_T} {fs : List Value} (ty : Nat → FieldType) (i : Nat) (hin : ∀ w ∈ u_ws C T N, w ∈ gw) (hty : ∀ k, k < N → parseFieldDescriptor (T k).2.2.1 = some (ty k)) (hcl : Cond.classLink M.1.cls idx C ∈ gw) (hinst : Cond.instantiable C N ∈ gw) (hini : Cond.initialized C ∈ gw) (hc : vwCl[ci]? = some (C, T, N)) (hfs : ∀ j, j < N → defaultValue (ty j) = vp_V fs j) (hnb : fs.all noRef = true) (hd : decode M.2.1 pc = .ok (.new idx, 3)) (hi : μ i = none) (hl : i < 1000)
    (k : V G M d mc ms P (pc + 3) ls (.ref i :: st) (up μ i (.inr (ci, fs)))) : V G M d (mc + 1) (ms + N) P pc ls st μ := by
  intro p l e R s m args below meth c Q ad H locs cells slots sl F hW hS hR hll hs hsl b1 b2 hE
  obtain ⟨f1, f2, f3, f4, f5, f6, f7, f8, f9, f10, f11⟩ := id F
  have hnr : ∀ v ∈ fs, ∀ k, v ≠ .ref k := fun v hv k z => by
    have := List.all_eq_true.mp hnb v hv
    rw [z] at this
    cases this
  have hKn := f9.2.1 ci _ hc
  refine W.newcK f1 f2 f5 (f8 _ hcl) (f8 _ hinst) (f8 _ hini) rfl hd (by omega) (by omega) hKn.2.1 rfl (fun H1 kC hkC e1 z1 o1 => ?_)
  refine v_fresh k hi hl (fun v hv k hk => absurd hk (hnr v hv k)) F hW hS hR hll hs hsl (by omega) (by omega) hE (by omega) (by omega) (by omega) ?_ o1
  have hm : fs.map (xv ad) = fs := by
    rw [List.map_congr_left (g := id) (fun v hv => ?_), List.map_id]
    cases v with
    | ref k => exact absurd rfl (hnr _ hv k)
    | _ => rfl
  show va_at (cD G) vwCl (H.size, .inr (ci, fs.map (xv ad))) H1
  rw [hm]
  exact ⟨_, hc, (u_born ty (fun w hw => f8 w hw) hin hKn hkC e1 hty).to hfs⟩
theorem la_J4_0 : u_lay RJ4 TJ4 0 ∈ gw := gwAt 290 (by decide +kernel) rfl
theorem la_J4_1 : u_lay RJ4 TJ4 1 ∈ gw := gwAt 292 (by decide +kernel) rfl
theorem la_J4_2 : u_lay RJ4 TJ4 2 ∈ gw := gwAt 294 (by decide +kernel) rfl
theorem la_J4_3 : u_lay RJ4 TJ4 3 ∈ gw := gwAt 296 (by decide +kernel) rfl
theorem la_J4 : ∀ w ∈ u_ws RJ4 TJ4 4, w ∈ gw := fun w hw => by
  obtain ⟨k, hk, rfl⟩ := List.mem_map.mp hw
  have hk := List.mem_range.mp hk
  match k, hk with
  | 0, _ => exact la_J4_0
  | 1, _ => exact la_J4_1
  | 2, _ => exact la_J4_2
  | 3, _ => exact la_J4_3
theorem it_J4 : Cond.instantiable RJ4 4 ∈ gw := gwAt 269 (by decide +kernel) rfl
theorem iz_J4 : Cond.initialized RJ4 ∈ gw := gwAt 73 (by decide +kernel) rfl
abbrev nu_J4 : va_E := .inr (0, [.null, .int 0, .int 0, .int 0])
theorem v_new_J4 {G : Cx} {M : MD} {d mc ms : Nat} {P : Option Value → Hp → Prop} {pc : Nat} {ls : List (Nat × Value)} {st : List Value} {μ : Hp} {idx : Nat} (i : Nat) (hcl : Cond.classLink M.1.cls idx RJ4 ∈ gw) (hd : decode M.2.1 pc = .ok (.new idx, 3)) (hi : μ i = none) (hl : i < 1000) (k : V G M d mc ms P (pc + 3) ls (.ref i :: st) (up μ i nu_J4)) : V G M d (mc + 1) (ms + 4) P pc ls st μ :=
  v_newo tyJ4 i la_J4 (by decide +kernel) hcl it_J4 iz_J4 rfl (by decide) (by decide) hd hi hl k
theorem la_X0_0 : u_lay RX0 TX0 0 ∈ gw := gwAt 148 (by decide +kernel) rfl
theorem la_X0_1 : u_lay RX0 TX0 1 ∈ gw := gwAt 150 (by decide +kernel) rfl
theorem la_X0_2 : u_lay RX0 TX0 2 ∈ gw := gwAt 152 (by decide +kernel) rfl
theorem la_X0_3 : u_lay RX0 TX0 3 ∈ gw := gwAt 154 (by decide +kernel) rfl
theorem la_X0_4 : u_lay RX0 TX0 4 ∈ gw := gwAt 156 (by decide +kernel) rfl
theorem la_X0_5 : u_lay RX0 TX0 5 ∈ gw := gwAt 158 (by decide +kernel) rfl
theorem la_X0 : ∀ w ∈ u_ws RX0 TX0 6, w ∈ gw := fun w hw => by
  obtain ⟨k, hk, rfl⟩ := List.mem_map.mp hw
  have hk := List.mem_range.mp hk
  match k, hk with
  | 0, _ => exact la_X0_0
  | 1, _ => exact la_X0_1
  | 2, _ => exact la_X0_2
  | 3, _ => exact la_X0_3
  | 4, _ => exact la_X0_4
  | 5, _ => exact la_X0_5
theorem it_X0 : Cond.instantiable RX0 6 ∈ gw := gwAt 97 (by decide +kernel) rfl
theorem iz_X0 : Cond.initialized RX0 ∈ gw := gwAt 66 (by decide +kernel) rfl
abbrev nu_X0 : va_E := .inr (1, [.null, .null, .int 0, .null, .null, .null])
theorem v_new_X0 {G : Cx} {M : MD} {d mc ms : Nat} {P : Option Value → Hp → Prop} {pc : Nat} {ls : List (Nat × Value)} {st : List Value} {μ : Hp} {idx : Nat} (i : Nat) (hcl : Cond.classLink M.1.cls idx RX0 ∈ gw) (hd : decode M.2.1 pc = .ok (.new idx, 3)) (hi : μ i = none) (hl : i < 1000) (k : V G M d mc ms P (pc + 3) ls (.ref i :: st) (up μ i nu_X0)) : V G M d (mc + 1) (ms + 6) P pc ls st μ :=
  v_newo tyX0 i la_X0 (by decide +kernel) hcl it_X0 iz_X0 rfl (by decide) (by decide) hd hi hl k
theorem la_X1_0 : u_lay RX1 TX1 0 ∈ gw := gwAt 119 (by decide +kernel) rfl
theorem la_X1_1 : u_lay RX1 TX1 1 ∈ gw := gwAt 121 (by decide +kernel) rfl
theorem la_X1_2 : u_lay RX1 TX1 2 ∈ gw := gwAt 123 (by decide +kernel) rfl
theorem la_X1_3 : u_lay RX1 TX1 3 ∈ gw := gwAt 125 (by decide +kernel) rfl
theorem la_X1_4 : u_lay RX1 TX1 4 ∈ gw := gwAt 127 (by decide +kernel) rfl
theorem la_X1 : ∀ w ∈ u_ws RX1 TX1 5, w ∈ gw := fun w hw => by
  obtain ⟨k, hk, rfl⟩ := List.mem_map.mp hw
  have hk := List.mem_range.mp hk
  match k, hk with
  | 0, _ => exact la_X1_0
  | 1, _ => exact la_X1_1
  | 2, _ => exact la_X1_2
  | 3, _ => exact la_X1_3
  | 4, _ => exact la_X1_4
theorem it_X1 : Cond.instantiable RX1 5 ∈ gw := gwAt 103 (by decide +kernel) rfl
theorem iz_X1 : Cond.initialized RX1 ∈ gw := gwAt 67 (by decide +kernel) rfl
abbrev nu_X1 : va_E := .inr (2, [.long 0, .long 0, .long 0, .long 0, .int 0])
theorem v_new_X1 {G : Cx} {M : MD} {d mc ms : Nat} {P : Option Value → Hp → Prop} {pc : Nat} {ls : List (Nat × Value)} {st : List Value} {μ : Hp} {idx : Nat} (i : Nat) (hcl : Cond.classLink M.1.cls idx RX1 ∈ gw) (hd : decode M.2.1 pc = .ok (.new idx, 3)) (hi : μ i = none) (hl : i < 1000) (k : V G M d mc ms P (pc + 3) ls (.ref i :: st) (up μ i nu_X1)) : V G M d (mc + 1) (ms + 5) P pc ls st μ :=
  v_newo tyX1 i la_X1 (by decide +kernel) hcl it_X1 iz_X1 rfl (by decide) (by decide) hd hi hl k
theorem la_X2_0 : u_lay RX2 TX2 0 ∈ gw := gwAt 265 (by decide +kernel) rfl
theorem la_X2 : ∀ w ∈ u_ws RX2 TX2 1, w ∈ gw := fun w hw => by
  obtain ⟨k, hk, rfl⟩ := List.mem_map.mp hw
  have hk := List.mem_range.mp hk
  match k, hk with
  | 0, _ => exact la_X2_0
theorem it_X2 : Cond.instantiable RX2 1 ∈ gw := gwAt 256 (by decide +kernel) rfl
theorem iz_X2 : Cond.initialized RX2 ∈ gw := gwAt 71 (by decide +kernel) rfl
abbrev nu_X2 : va_E := .inr (3, [.null])
theorem v_new_X2 {G : Cx} {M : MD} {d mc ms : Nat} {P : Option Value → Hp → Prop} {pc : Nat} {ls : List (Nat × Value)} {st : List Value} {μ : Hp} {idx : Nat} (i : Nat) (hcl : Cond.classLink M.1.cls idx RX2 ∈ gw) (hd : decode M.2.1 pc = .ok (.new idx, 3)) (hi : μ i = none) (hl : i < 1000) (k : V G M d mc ms P (pc + 3) ls (.ref i :: st) (up μ i nu_X2)) : V G M d (mc + 1) (ms + 1) P pc ls st μ :=
  v_newo tyX2 i la_X2 (by decide +kernel) hcl it_X2 iz_X2 rfl (by decide) (by decide) hd hi hl k
theorem la_X3_0 : u_lay RX3 TX3 0 ∈ gw := gwAt 240 (by decide +kernel) rfl
theorem la_X3_1 : u_lay RX3 TX3 1 ∈ gw := gwAt 242 (by decide +kernel) rfl
theorem la_X3_2 : u_lay RX3 TX3 2 ∈ gw := gwAt 244 (by decide +kernel) rfl
theorem la_X3_3 : u_lay RX3 TX3 3 ∈ gw := gwAt 246 (by decide +kernel) rfl
theorem la_X3_4 : u_lay RX3 TX3 4 ∈ gw := gwAt 248 (by decide +kernel) rfl
theorem la_X3_5 : u_lay RX3 TX3 5 ∈ gw := gwAt 250 (by decide +kernel) rfl
theorem la_X3_6 : u_lay RX3 TX3 6 ∈ gw := gwAt 252 (by decide +kernel) rfl
theorem la_X3 : ∀ w ∈ u_ws RX3 TX3 7, w ∈ gw := fun w hw => by
  obtain ⟨k, hk, rfl⟩ := List.mem_map.mp hw
  have hk := List.mem_range.mp hk
  match k, hk with
  | 0, _ => exact la_X3_0
  | 1, _ => exact la_X3_1
  | 2, _ => exact la_X3_2
  | 3, _ => exact la_X3_3
  | 4, _ => exact la_X3_4
  | 5, _ => exact la_X3_5
  | 6, _ => exact la_X3_6
theorem it_X3 : Cond.instantiable RX3 7 ∈ gw := gwAt 221 (by decide +kernel) rfl
theorem iz_X3 : Cond.initialized RX3 ∈ gw := gwAt 70 (by decide +kernel) rfl
abbrev nu_X3 : va_E := .inr (4, [.null, .null, .int 0, .int 0, .int 0, .null, .null])
theorem v_new_X3 {G : Cx} {M : MD} {d mc ms : Nat} {P : Option Value → Hp → Prop} {pc : Nat} {ls : List (Nat × Value)} {st : List Value} {μ : Hp} {idx : Nat} (i : Nat) (hcl : Cond.classLink M.1.cls idx RX3 ∈ gw) (hd : decode M.2.1 pc = .ok (.new idx, 3)) (hi : μ i = none) (hl : i < 1000) (k : V G M d mc ms P (pc + 3) ls (.ref i :: st) (up μ i nu_X3)) : V G M d (mc + 1) (ms + 7) P pc ls st μ :=
  v_newo tyX3 i la_X3 (by decide +kernel) hcl it_X3 iz_X3 rfl (by decide) (by decide) hd hi hl k
theorem la_X4_0 : u_lay RX4 TX4 0 ∈ gw := gwAt 185 (by decide +kernel) rfl
theorem la_X4_1 : u_lay RX4 TX4 1 ∈ gw := gwAt 187 (by decide +kernel) rfl
theorem la_X4_2 : u_lay RX4 TX4 2 ∈ gw := gwAt 189 (by decide +kernel) rfl
theorem la_X4_3 : u_lay RX4 TX4 3 ∈ gw := gwAt 191 (by decide +kernel) rfl
theorem la_X4_4 : u_lay RX4 TX4 4 ∈ gw := gwAt 193 (by decide +kernel) rfl
theorem la_X4_5 : u_lay RX4 TX4 5 ∈ gw := gwAt 195 (by decide +kernel) rfl
theorem la_X4_6 : u_lay RX4 TX4 6 ∈ gw := gwAt 197 (by decide +kernel) rfl
theorem la_X4 : ∀ w ∈ u_ws RX4 TX4 7, w ∈ gw := fun w hw => by
  obtain ⟨k, hk, rfl⟩ := List.mem_map.mp hw
  have hk := List.mem_range.mp hk
  match k, hk with
  | 0, _ => exact la_X4_0
  | 1, _ => exact la_X4_1
  | 2, _ => exact la_X4_2
  | 3, _ => exact la_X4_3
  | 4, _ => exact la_X4_4
  | 5, _ => exact la_X4_5
  | 6, _ => exact la_X4_6
theorem it_X4 : Cond.instantiable RX4 7 ∈ gw := gwAt 166 (by decide +kernel) rfl
theorem iz_X4 : Cond.initialized RX4 ∈ gw := gwAt 68 (by decide +kernel) rfl
abbrev nu_X4 : va_E := .inr (5, [.null, .int 0, .int 0, .null, .int 0, .null, .int 0])
theorem v_new_X4 {G : Cx} {M : MD} {d mc ms : Nat} {P : Option Value → Hp → Prop} {pc : Nat} {ls : List (Nat × Value)} {st : List Value} {μ : Hp} {idx : Nat} (i : Nat) (hcl : Cond.classLink M.1.cls idx RX4 ∈ gw) (hd : decode M.2.1 pc = .ok (.new idx, 3)) (hi : μ i = none) (hl : i < 1000) (k : V G M d mc ms P (pc + 3) ls (.ref i :: st) (up μ i nu_X4)) : V G M d (mc + 1) (ms + 7) P pc ls st μ :=
  v_newo tyX4 i la_X4 (by decide +kernel) hcl it_X4 iz_X4 rfl (by decide) (by decide) hd hi hl k
theorem la_X5_0 : u_lay RX5 TX5 0 ∈ gw := gwAt 213 (by decide +kernel) rfl
theorem la_X5_1 : u_lay RX5 TX5 1 ∈ gw := gwAt 215 (by decide +kernel) rfl
theorem la_X5_2 : u_lay RX5 TX5 2 ∈ gw := gwAt 217 (by decide +kernel) rfl
theorem la_X5 : ∀ w ∈ u_ws RX5 TX5 3, w ∈ gw := fun w hw => by
  obtain ⟨k, hk, rfl⟩ := List.mem_map.mp hw
  have hk := List.mem_range.mp hk
  match k, hk with
  | 0, _ => exact la_X5_0
  | 1, _ => exact la_X5_1
  | 2, _ => exact la_X5_2
theorem it_X5 : Cond.instantiable RX5 3 ∈ gw := gwAt 202 (by decide +kernel) rfl
theorem iz_X5 : Cond.initialized RX5 ∈ gw := gwAt 69 (by decide +kernel) rfl
abbrev nu_X5 : va_E := .inr (6, [.null, .null, .int 0])
theorem v_new_X5 {G : Cx} {M : MD} {d mc ms : Nat} {P : Option Value → Hp → Prop} {pc : Nat} {ls : List (Nat × Value)} {st : List Value} {μ : Hp} {idx : Nat} (i : Nat) (hcl : Cond.classLink M.1.cls idx RX5 ∈ gw) (hd : decode M.2.1 pc = .ok (.new idx, 3)) (hi : μ i = none) (hl : i < 1000) (k : V G M d mc ms P (pc + 3) ls (.ref i :: st) (up μ i nu_X5)) : V G M d (mc + 1) (ms + 3) P pc ls st μ :=
  v_newo tyX5 i la_X5 (by decide +kernel) hcl it_X5 iz_X5 rfl (by decide) (by decide) hd hi hl k
theorem la_X6_0 : u_lay RX6 TX6 0 ∈ gw := gwAt 315 (by decide +kernel) rfl
theorem la_X6_1 : u_lay RX6 TX6 1 ∈ gw := gwAt 317 (by decide +kernel) rfl
theorem la_X6_2 : u_lay RX6 TX6 2 ∈ gw := gwAt 319 (by decide +kernel) rfl
theorem la_X6_3 : u_lay RX6 TX6 3 ∈ gw := gwAt 321 (by decide +kernel) rfl
theorem la_X6_4 : u_lay RX6 TX6 4 ∈ gw := gwAt 323 (by decide +kernel) rfl
theorem la_X6_5 : u_lay RX6 TX6 5 ∈ gw := gwAt 325 (by decide +kernel) rfl
theorem la_X6_6 : u_lay RX6 TX6 6 ∈ gw := gwAt 327 (by decide +kernel) rfl
theorem la_X6_7 : u_lay RX6 TX6 7 ∈ gw := gwAt 329 (by decide +kernel) rfl
theorem la_X6_8 : u_lay RX6 TX6 8 ∈ gw := gwAt 331 (by decide +kernel) rfl
theorem la_X6_9 : u_lay RX6 TX6 9 ∈ gw := gwAt 333 (by decide +kernel) rfl
theorem la_X6_10 : u_lay RX6 TX6 10 ∈ gw := gwAt 335 (by decide +kernel) rfl
theorem la_X6_11 : u_lay RX6 TX6 11 ∈ gw := gwAt 337 (by decide +kernel) rfl
theorem la_X6_12 : u_lay RX6 TX6 12 ∈ gw := gwAt 339 (by decide +kernel) rfl
theorem la_X6 : ∀ w ∈ u_ws RX6 TX6 13, w ∈ gw := fun w hw => by
  obtain ⟨k, hk, rfl⟩ := List.mem_map.mp hw
  have hk := List.mem_range.mp hk
  match k, hk with
  | 0, _ => exact la_X6_0
  | 1, _ => exact la_X6_1
  | 2, _ => exact la_X6_2
  | 3, _ => exact la_X6_3
  | 4, _ => exact la_X6_4
  | 5, _ => exact la_X6_5
  | 6, _ => exact la_X6_6
  | 7, _ => exact la_X6_7
  | 8, _ => exact la_X6_8
  | 9, _ => exact la_X6_9
  | 10, _ => exact la_X6_10
  | 11, _ => exact la_X6_11
  | 12, _ => exact la_X6_12
theorem it_X6 : Cond.instantiable RX6 13 ∈ gw := gwAt 89 (by decide +kernel) rfl
theorem iz_X6 : Cond.initialized RX6 ∈ gw := gwAt 65 (by decide +kernel) rfl
abbrev nu_X6 : va_E := .inr (7, [.null, .null, .int 0, .null, .null, .null, .null, .null, .null, .null, .null, .null, .null])
theorem v_new_X6 {G : Cx} {M : MD} {d mc ms : Nat} {P : Option Value → Hp → Prop} {pc : Nat} {ls : List (Nat × Value)} {st : List Value} {μ : Hp} {idx : Nat} (i : Nat) (hcl : Cond.classLink M.1.cls idx RX6 ∈ gw) (hd : decode M.2.1 pc = .ok (.new idx, 3)) (hi : μ i = none) (hl : i < 1000) (k : V G M d mc ms P (pc + 3) ls (.ref i :: st) (up μ i nu_X6)) : V G M d (mc + 1) (ms + 13) P pc ls st μ :=
  v_newo tyX6 i la_X6 (by decide +kernel) hcl it_X6 iz_X6 rfl (by decide) (by decide) hd hi hl k
theorem la_X7_0 : u_lay RX7 TX7 0 ∈ gw := gwAt 1214 (by decide +kernel) rfl
theorem la_X7_1 : u_lay RX7 TX7 1 ∈ gw := gwAt 1216 (by decide +kernel) rfl
theorem la_X7_2 : u_lay RX7 TX7 2 ∈ gw := gwAt 1218 (by decide +kernel) rfl
theorem la_X7_3 : u_lay RX7 TX7 3 ∈ gw := gwAt 1220 (by decide +kernel) rfl
theorem la_X7_4 : u_lay RX7 TX7 4 ∈ gw := gwAt 1222 (by decide +kernel) rfl
theorem la_X7_5 : u_lay RX7 TX7 5 ∈ gw := gwAt 1224 (by decide +kernel) rfl
theorem la_X7_6 : u_lay RX7 TX7 6 ∈ gw := gwAt 1226 (by decide +kernel) rfl
theorem la_X7_7 : u_lay RX7 TX7 7 ∈ gw := gwAt 1228 (by decide +kernel) rfl
theorem la_X7_8 : u_lay RX7 TX7 8 ∈ gw := gwAt 1230 (by decide +kernel) rfl
theorem la_X7_9 : u_lay RX7 TX7 9 ∈ gw := gwAt 1232 (by decide +kernel) rfl
theorem la_X7_10 : u_lay RX7 TX7 10 ∈ gw := gwAt 1234 (by decide +kernel) rfl
theorem la_X7_11 : u_lay RX7 TX7 11 ∈ gw := gwAt 1236 (by decide +kernel) rfl
theorem la_X7_12 : u_lay RX7 TX7 12 ∈ gw := gwAt 1238 (by decide +kernel) rfl
theorem la_X7_13 : u_lay RX7 TX7 13 ∈ gw := gwAt 1240 (by decide +kernel) rfl
theorem la_X7_14 : u_lay RX7 TX7 14 ∈ gw := gwAt 1242 (by decide +kernel) rfl
theorem la_X7_15 : u_lay RX7 TX7 15 ∈ gw := gwAt 1244 (by decide +kernel) rfl
theorem la_X7_16 : u_lay RX7 TX7 16 ∈ gw := gwAt 1246 (by decide +kernel) rfl
theorem la_X7_17 : u_lay RX7 TX7 17 ∈ gw := gwAt 1248 (by decide +kernel) rfl
theorem la_X7_18 : u_lay RX7 TX7 18 ∈ gw := gwAt 1250 (by decide +kernel) rfl
theorem la_X7_19 : u_lay RX7 TX7 19 ∈ gw := gwAt 1252 (by decide +kernel) rfl
theorem la_X7_20 : u_lay RX7 TX7 20 ∈ gw := gwAt 1254 (by decide +kernel) rfl
theorem la_X7_21 : u_lay RX7 TX7 21 ∈ gw := gwAt 1256 (by decide +kernel) rfl
theorem la_X7_22 : u_lay RX7 TX7 22 ∈ gw := gwAt 1258 (by decide +kernel) rfl
theorem la_X7_23 : u_lay RX7 TX7 23 ∈ gw := gwAt 1260 (by decide +kernel) rfl
theorem la_X7_24 : u_lay RX7 TX7 24 ∈ gw := gwAt 1262 (by decide +kernel) rfl
theorem la_X7_25 : u_lay RX7 TX7 25 ∈ gw := gwAt 1264 (by decide +kernel) rfl
theorem la_X7_26 : u_lay RX7 TX7 26 ∈ gw := gwAt 1266 (by decide +kernel) rfl
theorem la_X7_27 : u_lay RX7 TX7 27 ∈ gw := gwAt 1268 (by decide +kernel) rfl
theorem la_X7_28 : u_lay RX7 TX7 28 ∈ gw := gwAt 1270 (by decide +kernel) rfl
theorem la_X7_29 : u_lay RX7 TX7 29 ∈ gw := gwAt 1272 (by decide +kernel) rfl
theorem la_X7_30 : u_lay RX7 TX7 30 ∈ gw := gwAt 1274 (by decide +kernel) rfl
theorem la_X7_31 : u_lay RX7 TX7 31 ∈ gw := gwAt 1276 (by decide +kernel) rfl
theorem la_X7_32 : u_lay RX7 TX7 32 ∈ gw := gwAt 1278 (by decide +kernel) rfl
theorem la_X7_33 : u_lay RX7 TX7 33 ∈ gw := gwAt 1280 (by decide +kernel) rfl
theorem la_X7_34 : u_lay RX7 TX7 34 ∈ gw := gwAt 1282 (by decide +kernel) rfl
theorem la_X7_35 : u_lay RX7 TX7 35 ∈ gw := gwAt 1284 (by decide +kernel) rfl
theorem la_X7_36 : u_lay RX7 TX7 36 ∈ gw := gwAt 1286 (by decide +kernel) rfl
theorem la_X7_37 : u_lay RX7 TX7 37 ∈ gw := gwAt 1288 (by decide +kernel) rfl
theorem la_X7_38 : u_lay RX7 TX7 38 ∈ gw := gwAt 1290 (by decide +kernel) rfl
theorem la_X7_39 : u_lay RX7 TX7 39 ∈ gw := gwAt 1292 (by decide +kernel) rfl
theorem la_X7 : ∀ w ∈ u_ws RX7 TX7 40, w ∈ gw := fun w hw => by
  obtain ⟨k, hk, rfl⟩ := List.mem_map.mp hw
  have hk := List.mem_range.mp hk
  match k, hk with
  | 0, _ => exact la_X7_0
  | 1, _ => exact la_X7_1
  | 2, _ => exact la_X7_2
  | 3, _ => exact la_X7_3
  | 4, _ => exact la_X7_4
  | 5, _ => exact la_X7_5
  | 6, _ => exact la_X7_6
  | 7, _ => exact la_X7_7
  | 8, _ => exact la_X7_8
  | 9, _ => exact la_X7_9
  | 10, _ => exact la_X7_10
  | 11, _ => exact la_X7_11
  | 12, _ => exact la_X7_12
  | 13, _ => exact la_X7_13
  | 14, _ => exact la_X7_14
  | 15, _ => exact la_X7_15
  | 16, _ => exact la_X7_16
  | 17, _ => exact la_X7_17
  | 18, _ => exact la_X7_18
  | 19, _ => exact la_X7_19
  | 20, _ => exact la_X7_20
  | 21, _ => exact la_X7_21
  | 22, _ => exact la_X7_22
  | 23, _ => exact la_X7_23
  | 24, _ => exact la_X7_24
  | 25, _ => exact la_X7_25
  | 26, _ => exact la_X7_26
  | 27, _ => exact la_X7_27
  | 28, _ => exact la_X7_28
  | 29, _ => exact la_X7_29
  | 30, _ => exact la_X7_30
  | 31, _ => exact la_X7_31
  | 32, _ => exact la_X7_32
  | 33, _ => exact la_X7_33
  | 34, _ => exact la_X7_34
  | 35, _ => exact la_X7_35
  | 36, _ => exact la_X7_36
  | 37, _ => exact la_X7_37
  | 38, _ => exact la_X7_38
  | 39, _ => exact la_X7_39
  | m + 40, h => exact absurd h (by omega)
theorem it_X7 : Cond.instantiable RX7 40 ∈ gw := gwAt 1168 (by decide +kernel) rfl
theorem iz_X7 : Cond.initialized RX7 ∈ gw := gwAt 76 (by decide +kernel) rfl
abbrev nu_X7 : va_E := .inr (8, [.null, .null, .int 0, .null, .long 0, .long 0, .null, .null, .null, .int 0, .int 0, .int 0, .null, .null, .int 0, .null, .null, .null, .null, .null, .null, .null, .int 0, .int 0, .int 0, .null, .int 0, .null, .null, .null, .int 0, .null, .int 0, .null, .null, .int 0, .null, .null, .null, .int 0])
theorem v_new_X7 {G : Cx} {M : MD} {d mc ms : Nat} {P : Option Value → Hp → Prop} {pc : Nat} {ls : List (Nat × Value)} {st : List Value} {μ : Hp} {idx : Nat} (i : Nat) (hcl : Cond.classLink M.1.cls idx RX7 ∈ gw) (hd : decode M.2.1 pc = .ok (.new idx, 3)) (hi : μ i = none) (hl : i < 1000) (k : V G M d mc ms P (pc + 3) ls (.ref i :: st) (up μ i nu_X7)) : V G M d (mc + 1) (ms + 40) P pc ls st μ :=
  v_newo tyX7 i la_X7 (by decide +kernel) hcl it_X7 iz_X7 rfl (by decide) (by decide) hd hi hl k
theorem ck_X6_9 : Cond.classLink RX6 9 RX0 ∈ gw := gwAt 96 (by decide +kernel) rfl
theorem ck_X6_30 : Cond.classLink RX6 30 RX4 ∈ gw := gwAt 165 (by decide +kernel) rfl
theorem ck_X6_37 : Cond.classLink RX6 37 RX5 ∈ gw := gwAt 201 (by decide +kernel) rfl
theorem ck_X6_44 : Cond.classLink RX6 44 RX3 ∈ gw := gwAt 220 (by decide +kernel) rfl
theorem ck_X6_51 : Cond.classLink RX6 51 RX2 ∈ gw := gwAt 255 (by decide +kernel) rfl
theorem ck_X6_58 : Cond.classLink RX6 58 RJ4 ∈ gw := gwAt 268 (by decide +kernel) rfl
theorem ck_X6_65 : Cond.classLink RX6 65 RX1 ∈ gw := gwAt 300 (by decide +kernel) rfl
theorem ck_X0_9 : Cond.classLink RX0 9 RX1 ∈ gw := gwAt 102 (by decide +kernel) rfl
theorem ck_X2_9 : Cond.classLink RX2 9 RX1 ∈ gw := gwAt 261 (by decide +kernel) rfl
theorem ck_X3_9 : Cond.classLink RX3 9 RX1 ∈ gw := gwAt 226 (by decide +kernel) rfl
theorem ck_L_7 : Cond.classLink RL 7 RX6 ∈ gw := gwAt 88 (by decide +kernel) rfl
theorem ck_L_10 : Cond.classLink RL 10 RX7 ∈ gw := gwAt 1167 (by decide +kernel) rfl
