theorem ac_I : Cond.arrayClass FieldType.int ∈ gw := gwAt 161 (by decide +kernel) rfl
theorem ac_F : Cond.arrayClass FieldType.float ∈ gw := gwAt 162 (by decide +kernel) rfl
theorem ac_J : Cond.arrayClass FieldType.long ∈ gw := gwAt 200 (by decide +kernel) rfl
theorem ac_B : Cond.arrayClass FieldType.byte ∈ gw := gwAt 299 (by decide +kernel) rfl
section NEWS
variable {G : Cx} {M : MD} {d mc ms : Nat} {P : Option Value → Hp → Prop} {pc : Nat} {ls : List (Nat × Value)} {st : List Value} {μ : Hp}
theorem v_newI (i N : Nat) (hN : N < 10000) (hd : decode M.2.1 pc = .ok (.newarray .int, 2)) (hi : μ i = none) (hl : i < 1000) (k : V G M d mc ms P (pc + 2) ls (.ref i :: st) (up μ i (arI N (fun _ => 0)))) : V G M d (mc + 1) (ms + N) P pc ls (.int (nI N) :: st) μ :=
  v_newa (atype := .int) (t := 0) (ty := .int) (a0 := (N, .inl (fun _ => 0))) (N := N) i ac_I rfl (fun s h => va_nm_int (h.2.2 0 _ rfl).2) (fun cA => rfl) (fun ad => rfl) (nn0 (by omega)) (clamp (by omega)) (by show N * _ ≤ _; simp [componentBytes]; omega) hd hi hl trivial k
theorem v_newJ (i N : Nat) (hN : N < 10000) (hd : decode M.2.1 pc = .ok (.newarray .long, 2)) (hi : μ i = none) (hl : i < 1000) (k : V G M d mc ms P (pc + 2) ls (.ref i :: st) (up μ i (arJ N (fun _ => 0)))) : V G M d (mc + 1) (ms + N) P pc ls (.int (nI N) :: st) μ :=
  v_newa (atype := .long) (t := 1) (ty := .long) (a0 := (N, .inr (.inl (fun _ => 0)))) (N := N) i ac_J rfl (fun s h => va_nm_long (h.2.2 1 _ rfl).2) (fun cA => rfl) (fun ad => rfl) (nn0 (by omega)) (clamp (by omega)) (by show N * _ ≤ _; simp [componentBytes]; omega) hd hi hl trivial k
theorem v_newF (i N : Nat) (hN : N < 10000) (hd : decode M.2.1 pc = .ok (.newarray .float, 2)) (hi : μ i = none) (hl : i < 1000) (k : V G M d mc ms P (pc + 2) ls (.ref i :: st) (up μ i (arF N (fun _ => 0)))) : V G M d (mc + 1) (ms + N) P pc ls (.int (nI N) :: st) μ :=
  v_newa (atype := .float) (t := 2) (ty := .float) (a0 := (N, .inr (.inr (.inl (fun _ => 0))))) (N := N) i ac_F rfl (fun s h => va_nm_float (h.2.2 2 _ rfl).2) (fun cA => rfl) (fun ad => rfl) (nn0 (by omega)) (clamp (by omega)) (by show N * _ ≤ _; simp [componentBytes]; omega) hd hi hl trivial k
theorem v_newB (i N : Nat) (hN : N < 10000) (hd : decode M.2.1 pc = .ok (.newarray .byte, 2)) (hi : μ i = none) (hl : i < 1000) (k : V G M d mc ms P (pc + 2) ls (.ref i :: st) (up μ i (arB N (fun _ => 0)))) : V G M d (mc + 1) (ms + N) P pc ls (.int (nI N) :: st) μ :=
  v_newa (atype := .byte) (t := 3) (ty := .byte) (a0 := (N, .inl (fun _ => 0))) (N := N) i ac_B rfl (fun s h => va_nm_byte (h.2.2 3 _ rfl).2) (fun cA => rfl) (fun ad => rfl) (nn0 (by omega)) (clamp (by omega)) (by show N * _ ≤ _; simp [componentBytes]; omega) hd hi hl trivial k
end NEWS
/-- the state of a new object -/
def stB : BN := ((16, 0, 0, 0, 0), [], fun _ => 0, fun _ _ => -1, fun r => nI r)
def st0 : ST := (stB, none, fun _ _ => 0, fun _ => -1, [], (0, fun _ => 0, fun _ => 0))
abbrev modN : va_E := .inr (8, [.null, .null, .int 0, .null, .long 0, .long 0, .null, .null, .null, .int 0, .int 0, .int 0, .null, .null, .int 0, .null, .null, .null, .null, .null, .null, .null, .int 0, .int 0, .int 0, .null, .int 0, .null, .null, .null, .int 0, .null, .int 0, .null, .null, .int 0, .null, .null, .null, .int 0])
set_option maxRecDepth 20000 in
set_option maxHeartbeats 4000000 in
theorem c_X7_init {G : Cx} (d : Nat) {μ : Hp} (h60 : μ 60 = some modN) (hfree : ∀ k, 60 < k → k < 100 → μ k = none) : Ct G (d + 1) 25 983 M_X7_init [.ref 60] μ (fun r μ' => r = none ∧ Mo st0 μ' ∧ Fp μ' μ) := by
  refine Ct.ofV (by decide +kernel) (Nat.le_of_ble_eq_true rfl) ?_
  refine v_ls (ls' := [(0, .ref 60)]) rfl ?_
  refine v_aload_n 0 dX7_init_0 rfl rfl ?_
  refine v_obj cs_X7_3 dX7_init_1 (Nat.le_of_ble_eq_true rfl) ?_
  refine v_aload_n 0 dX7_init_4 rfl rfl ?_
  refine v_iconst (v := 5) dX7_init_5 (by first | rfl | decide) ?_
  refine v_newJ (mc := 24) (ms := 978) 61 5 (by decide) dX7_init_6 (by repeat (first | exact hfree _ (by decide) (by decide) | refine up_n (by decide) ?_)) (by decide) ?_
  refine v_dup dX7_init_8 rfl ?_
  refine v_iconst (v := 0) dX7_init_9 (by first | rfl | decide) ?_
  refine v_ldc2 kc_X7_9 dX7_init_10 ?_
  refine v_last dX7_init_13 (up_s _ _ _) (nI_in' (k := 0) (by decide)) ?_
  refine v_hp (up_up _ _ _ _) ?_
  refine v_dup dX7_init_14 rfl ?_
  refine v_iconst (v := 1) dX7_init_15 (by first | rfl | decide) ?_
  refine v_lconst (v := 0) dX7_init_16 (by first | rfl | decide) ?_
  refine v_last dX7_init_17 (up_s _ _ _) (nI_in' (k := 1) (by decide)) ?_
  refine v_hp (up_up _ _ _ _) ?_
  refine v_dup dX7_init_18 rfl ?_
  refine v_iconst (v := 2) dX7_init_19 (by first | rfl | decide) ?_
  refine v_lconst (v := 0) dX7_init_20 (by first | rfl | decide) ?_
  refine v_last dX7_init_21 (up_s _ _ _) (nI_in' (k := 2) (by decide)) ?_
  refine v_hp (up_up _ _ _ _) ?_
  refine v_dup dX7_init_22 rfl ?_
  refine v_iconst (v := 3) dX7_init_23 (by first | rfl | decide) ?_
  refine v_lconst (v := 0) dX7_init_24 (by first | rfl | decide) ?_
  refine v_last dX7_init_25 (up_s _ _ _) (nI_in' (k := 3) (by decide)) ?_
  refine v_hp (up_up _ _ _ _) ?_
  refine v_dup dX7_init_26 rfl ?_
  refine v_iconst (v := 4) dX7_init_27 (by first | rfl | decide) ?_
  refine v_lconst (v := 0) dX7_init_28 (by first | rfl | decide) ?_
  refine v_last dX7_init_29 (up_s _ _ _) (nI_in' (k := 4) (by decide)) ?_
  refine v_hp (up_up _ _ _ _) ?_
  refine v_putF fp_X7_11 rfl dX7_init_30 (up_n (by decide) h60) (Nat.le_of_ble_eq_true rfl) (by first | rfl | decide) (by first | rfl | decide) ?_
  refine v_aload_n 0 dX7_init_33 rfl rfl ?_
  refine v_bipush (v := 8) dX7_init_34 (by first | rfl | decide) ?_
  refine v_newI (mc := 23) (ms := 970) 62 8 (by decide) dX7_init_36 (by repeat (first | exact hfree _ (by decide) (by decide) | refine up_n (by decide) ?_)) (by decide) ?_
  refine v_putF fp_X7_17 rfl dX7_init_38 (up_n (by decide) (up_s _ _ _)) (Nat.le_of_ble_eq_true rfl) (by first | rfl | decide) (by first | rfl | decide) ?_
  refine v_aload_n 0 dX7_init_41 rfl rfl ?_
  refine v_iconst (v := 5) dX7_init_42 (by first | rfl | decide) ?_
  refine v_newJ (mc := 22) (ms := 965) 63 5 (by decide) dX7_init_43 (by repeat (first | exact hfree _ (by decide) (by decide) | refine up_n (by decide) ?_)) (by decide) ?_
  refine v_putF fp_X7_21 rfl dX7_init_45 (up_n (by decide) (up_s _ _ _)) (Nat.le_of_ble_eq_true rfl) (by first | rfl | decide) (by first | rfl | decide) ?_
  refine v_aload_n 0 dX7_init_48 rfl rfl ?_
  refine v_iconst (v := 5) dX7_init_49 (by first | rfl | decide) ?_
  refine v_newI (mc := 21) (ms := 960) 64 5 (by decide) dX7_init_50 (by repeat (first | exact hfree _ (by decide) (by decide) | refine up_n (by decide) ?_)) (by decide) ?_
  refine v_putF fp_X7_24 rfl dX7_init_52 (up_n (by decide) (up_s _ _ _)) (Nat.le_of_ble_eq_true rfl) (by first | rfl | decide) (by first | rfl | decide) ?_
  refine v_aload_n 0 dX7_init_55 rfl rfl ?_
  refine v_sipush (v := 600) dX7_init_56 (by first | rfl | decide) ?_
  refine v_newJ (mc := 20) (ms := 360) 65 600 (by decide) dX7_init_59 (by repeat (first | exact hfree _ (by decide) (by decide) | refine up_n (by decide) ?_)) (by decide) ?_
  refine v_putF fp_X7_27 rfl dX7_init_61 (up_n (by decide) (up_s _ _ _)) (Nat.le_of_ble_eq_true rfl) (by first | rfl | decide) (by first | rfl | decide) ?_
  refine v_aload_n 0 dX7_init_64 rfl rfl ?_
  refine v_bipush (v := 120) dX7_init_65 (by first | rfl | decide) ?_
  refine v_newI (mc := 19) (ms := 240) 66 120 (by decide) dX7_init_67 (by repeat (first | exact hfree _ (by decide) (by decide) | refine up_n (by decide) ?_)) (by decide) ?_
  refine v_putF fp_X7_30 rfl dX7_init_69 (up_n (by decide) (up_s _ _ _)) (Nat.le_of_ble_eq_true rfl) (by first | rfl | decide) (by first | rfl | decide) ?_
  refine v_aload_n 0 dX7_init_72 rfl rfl ?_
  refine v_iconst (v := 5) dX7_init_73 (by first | rfl | decide) ?_
  refine v_newJ (mc := 18) (ms := 235) 67 5 (by decide) dX7_init_74 (by repeat (first | exact hfree _ (by decide) (by decide) | refine up_n (by decide) ?_)) (by decide) ?_
  refine v_putF fp_X7_33 rfl dX7_init_76 (up_n (by decide) (up_s _ _ _)) (Nat.le_of_ble_eq_true rfl) (by first | rfl | decide) (by first | rfl | decide) ?_
  refine v_aload_n 0 dX7_init_79 rfl rfl ?_
  refine v_iconst (v := 5) dX7_init_80 (by first | rfl | decide) ?_
  refine v_newJ (mc := 17) (ms := 230) 68 5 (by decide) dX7_init_81 (by repeat (first | exact hfree _ (by decide) (by decide) | refine up_n (by decide) ?_)) (by decide) ?_
  refine v_putF fp_X7_36 rfl dX7_init_83 (up_n (by decide) (up_s _ _ _)) (Nat.le_of_ble_eq_true rfl) (by first | rfl | decide) (by first | rfl | decide) ?_
  refine v_aload_n 0 dX7_init_86 rfl rfl ?_
  refine v_iconst (v := 5) dX7_init_87 (by first | rfl | decide) ?_
  refine v_newJ (mc := 16) (ms := 225) 69 5 (by decide) dX7_init_88 (by repeat (first | exact hfree _ (by decide) (by decide) | refine up_n (by decide) ?_)) (by decide) ?_
  refine v_putF fp_X7_39 rfl dX7_init_90 (up_n (by decide) (up_s _ _ _)) (Nat.le_of_ble_eq_true rfl) (by first | rfl | decide) (by first | rfl | decide) ?_
  refine v_aload_n 0 dX7_init_93 rfl rfl ?_
  refine v_bipush (v := 36) dX7_init_94 (by first | rfl | decide) ?_
  refine v_newJ (mc := 15) (ms := 189) 70 36 (by decide) dX7_init_96 (by repeat (first | exact hfree _ (by decide) (by decide) | refine up_n (by decide) ?_)) (by decide) ?_
  refine v_putF fp_X7_42 rfl dX7_init_98 (up_n (by decide) (up_s _ _ _)) (Nat.le_of_ble_eq_true rfl) (by first | rfl | decide) (by first | rfl | decide) ?_
  refine v_aload_n 0 dX7_init_101 rfl rfl ?_
  refine v_iconst (v := 3) dX7_init_102 (by first | rfl | decide) ?_
  refine v_newI (mc := 14) (ms := 186) 71 3 (by decide) dX7_init_103 (by repeat (first | exact hfree _ (by decide) (by decide) | refine up_n (by decide) ?_)) (by decide) ?_
  refine v_putF fp_X7_45 rfl dX7_init_105 (up_n (by decide) (up_s _ _ _)) (Nat.le_of_ble_eq_true rfl) (by first | rfl | decide) (by first | rfl | decide) ?_
  refine v_aload_n 0 dX7_init_108 rfl rfl ?_
  refine v_bipush (v := 8) dX7_init_109 (by first | rfl | decide) ?_
  refine v_newF (mc := 13) (ms := 178) 72 8 (by decide) dX7_init_111 (by repeat (first | exact hfree _ (by decide) (by decide) | refine up_n (by decide) ?_)) (by decide) ?_
  refine v_putF fp_X7_48 rfl dX7_init_113 (up_n (by decide) (up_s _ _ _)) (Nat.le_of_ble_eq_true rfl) (by first | rfl | decide) (by first | rfl | decide) ?_
  refine v_aload_n 0 dX7_init_116 rfl rfl ?_
  refine v_bipush (v := 12) dX7_init_117 (by first | rfl | decide) ?_
  refine v_newI (mc := 12) (ms := 166) 73 12 (by decide) dX7_init_119 (by repeat (first | exact hfree _ (by decide) (by decide) | refine up_n (by decide) ?_)) (by decide) ?_
  refine v_putF fp_X7_52 rfl dX7_init_121 (up_n (by decide) (up_s _ _ _)) (Nat.le_of_ble_eq_true rfl) (by first | rfl | decide) (by first | rfl | decide) ?_
  refine v_aload_n 0 dX7_init_124 rfl rfl ?_
  refine v_iconst (v := 3) dX7_init_125 (by first | rfl | decide) ?_
  refine v_newI (mc := 11) (ms := 163) 74 3 (by decide) dX7_init_126 (by repeat (first | exact hfree _ (by decide) (by decide) | refine up_n (by decide) ?_)) (by decide) ?_
  refine v_putF fp_X7_55 rfl dX7_init_128 (up_n (by decide) (up_s _ _ _)) (Nat.le_of_ble_eq_true rfl) (by first | rfl | decide) (by first | rfl | decide) ?_
  refine v_aload_n 0 dX7_init_131 rfl rfl ?_
  refine v_bipush (v := 60) dX7_init_132 (by first | rfl | decide) ?_
  refine v_newI (mc := 10) (ms := 103) 75 60 (by decide) dX7_init_134 (by repeat (first | exact hfree _ (by decide) (by decide) | refine up_n (by decide) ?_)) (by decide) ?_
  refine v_putF fp_X7_58 rfl dX7_init_136 (up_n (by decide) (up_s _ _ _)) (Nat.le_of_ble_eq_true rfl) (by first | rfl | decide) (by first | rfl | decide) ?_
  refine v_aload_n 0 dX7_init_139 rfl rfl ?_
  refine v_iconst (v := 3) dX7_init_140 (by first | rfl | decide) ?_
  refine v_newI (mc := 9) (ms := 100) 76 3 (by decide) dX7_init_141 (by repeat (first | exact hfree _ (by decide) (by decide) | refine up_n (by decide) ?_)) (by decide) ?_
  refine v_putF fp_X7_61 rfl dX7_init_143 (up_n (by decide) (up_s _ _ _)) (Nat.le_of_ble_eq_true rfl) (by first | rfl | decide) (by first | rfl | decide) ?_
  refine v_aload_n 0 dX7_init_146 rfl rfl ?_
  refine v_bipush (v := 8) dX7_init_147 (by first | rfl | decide) ?_
  refine v_newI (mc := 8) (ms := 92) 77 8 (by decide) dX7_init_149 (by repeat (first | exact hfree _ (by decide) (by decide) | refine up_n (by decide) ?_)) (by decide) ?_
  refine v_putF fp_X7_64 rfl dX7_init_151 (up_n (by decide) (up_s _ _ _)) (Nat.le_of_ble_eq_true rfl) (by first | rfl | decide) (by first | rfl | decide) ?_
  refine v_aload_n 0 dX7_init_154 rfl rfl ?_
  refine v_iconst (v := 4) dX7_init_155 (by first | rfl | decide) ?_
  refine v_newI (mc := 7) (ms := 88) 78 4 (by decide) dX7_init_156 (by repeat (first | exact hfree _ (by decide) (by decide) | refine up_n (by decide) ?_)) (by decide) ?_
  refine v_putF fp_X7_67 rfl dX7_init_158 (up_n (by decide) (up_s _ _ _)) (Nat.le_of_ble_eq_true rfl) (by first | rfl | decide) (by first | rfl | decide) ?_
  refine v_aload_n 0 dX7_init_161 rfl rfl ?_
  refine v_iconst (v := 4) dX7_init_162 (by first | rfl | decide) ?_
  refine v_newI (mc := 6) (ms := 84) 79 4 (by decide) dX7_init_163 (by repeat (first | exact hfree _ (by decide) (by decide) | refine up_n (by decide) ?_)) (by decide) ?_
  refine v_putF fp_X7_70 rfl dX7_init_165 (up_n (by decide) (up_s _ _ _)) (Nat.le_of_ble_eq_true rfl) (by first | rfl | decide) (by first | rfl | decide) ?_
  refine v_aload_n 0 dX7_init_168 rfl rfl ?_
  refine v_bipush (v := 48) dX7_init_169 (by first | rfl | decide) ?_
  refine v_newI (mc := 5) (ms := 36) 80 48 (by decide) dX7_init_171 (by repeat (first | exact hfree _ (by decide) (by decide) | refine up_n (by decide) ?_)) (by decide) ?_
  refine v_putF fp_X7_73 rfl dX7_init_173 (up_n (by decide) (up_s _ _ _)) (Nat.le_of_ble_eq_true rfl) (by first | rfl | decide) (by first | rfl | decide) ?_
  refine v_aload_n 0 dX7_init_176 rfl rfl ?_
  refine v_iconst (v := 5) dX7_init_177 (by first | rfl | decide) ?_
  refine v_newJ (mc := 4) (ms := 31) 81 5 (by decide) dX7_init_178 (by repeat (first | exact hfree _ (by decide) (by decide) | refine up_n (by decide) ?_)) (by decide) ?_
  refine v_putF fp_X7_76 rfl dX7_init_180 (up_n (by decide) (up_s _ _ _)) (Nat.le_of_ble_eq_true rfl) (by first | rfl | decide) (by first | rfl | decide) ?_
  refine v_aload_n 0 dX7_init_183 rfl rfl ?_
  refine v_bipush (v := 8) dX7_init_184 (by first | rfl | decide) ?_
  refine v_newI (mc := 3) (ms := 23) 82 8 (by decide) dX7_init_186 (by repeat (first | exact hfree _ (by decide) (by decide) | refine up_n (by decide) ?_)) (by decide) ?_
  refine v_putF fp_X7_79 rfl dX7_init_188 (up_n (by decide) (up_s _ _ _)) (Nat.le_of_ble_eq_true rfl) (by first | rfl | decide) (by first | rfl | decide) ?_
  refine v_aload_n 0 dX7_init_191 rfl rfl ?_
  refine v_bipush (v := 8) dX7_init_192 (by first | rfl | decide) ?_
  refine v_newF (mc := 2) (ms := 15) 83 8 (by decide) dX7_init_194 (by repeat (first | exact hfree _ (by decide) (by decide) | refine up_n (by decide) ?_)) (by decide) ?_
  refine v_putF fp_X7_82 rfl dX7_init_196 (up_n (by decide) (up_s _ _ _)) (Nat.le_of_ble_eq_true rfl) (by first | rfl | decide) (by first | rfl | decide) ?_
  refine v_aload_n 0 dX7_init_199 rfl rfl ?_
  refine v_bipush (v := 12) dX7_init_200 (by first | rfl | decide) ?_
  refine v_newI (mc := 1) (ms := 3) 84 12 (by decide) dX7_init_202 (by repeat (first | exact hfree _ (by decide) (by decide) | refine up_n (by decide) ?_)) (by decide) ?_
  refine v_putF fp_X7_85 rfl dX7_init_204 (up_n (by decide) (up_s _ _ _)) (Nat.le_of_ble_eq_true rfl) (by first | rfl | decide) (by first | rfl | decide) ?_
  refine v_aload_n 0 dX7_init_207 rfl rfl ?_
  refine v_iconst (v := 3) dX7_init_208 (by first | rfl | decide) ?_
  refine v_newI (mc := 0) (ms := 0) 85 3 (by decide) dX7_init_209 (by repeat (first | exact hfree _ (by decide) (by decide) | refine up_n (by decide) ?_)) (by decide) ?_
  refine v_putF fp_X7_88 rfl dX7_init_211 (up_n (by decide) (up_s _ _ _)) (Nat.le_of_ble_eq_true rfl) (by first | rfl | decide) (by first | rfl | decide) ?_
  refine v_iconst (v := 0) dX7_init_214 (by first | rfl | decide) ?_
  refine v_istore_n dX7_init_215 rfl (by decide) (fun x1_1 e_x1_1 => ?_)
  refine v_ls (ls' := [(1, .int x1_1), (0, .ref 60)]) rfl ?_
  subst e_x1_1
  refine v_iload_n 0 dX7_init_216 rfl rfl ?_
  refine v_iconst (v := 3) dX7_init_217 (by first | rfl | decide) ?_
  refine v_icmp_ge (tgt := 234) dX7_init_218 (by decide) (fun hc218 => ?_) (fun hc218 => ?_)
  · exact absurd hc218 (by decide)
  ·
    refine v_aload_n 1 dX7_init_221 rfl rfl ?_
    refine v_get fl_X7_45 dX7_init_222 (up_s _ _ _) rfl ?_
    refine v_iload_n 0 dX7_init_225 rfl rfl ?_
    refine v_iconst (v := -1) dX7_init_226 (by first | rfl | decide) ?_
    refine v_iast dX7_init_227 (up_n (by decide) (up_n (by decide) (up_n (by decide) (up_n (by decide) (up_n (by decide) (up_n (by decide) (up_n (by decide) (up_n (by decide) (up_n (by decide) (up_n (by decide) (up_n (by decide) (up_n (by decide) (up_n (by decide) (up_n (by decide) (up_n (by decide) (up_n (by decide) (up_n (by decide) (up_n (by decide) (up_n (by decide) (up_n (by decide) (up_n (by decide) (up_n (by decide) (up_n (by decide) (up_n (by decide) (up_n (by decide) (up_n (by decide) (up_n (by decide) (up_n (by decide) (up_n (by decide) (up_s _ _ _)))))))))))))))))))))))))))))) (nI_in' (k := 0) (by decide)) ?_
    refine v_iinc (v := 1) 0 dX7_init_228 rfl rfl (by decide) (fun z_ ez_ => ?_)
    obtain rfl : z_ = 1 := by rw [ez_]; decide
    refine v_ls (ls' := [(1, .int (1)), (0, .ref 60)]) rfl ?_
    refine v_goto (tgt := 216) dX7_init_231 (by decide) ?_
    refine v_iload_n 0 dX7_init_216 rfl rfl ?_
    refine v_iconst (v := 3) dX7_init_217 (by first | rfl | decide) ?_
    refine v_icmp_ge (tgt := 234) dX7_init_218 (by decide) (fun hc218 => ?_) (fun hc218 => ?_)
    · exact absurd hc218 (by decide)
    ·
      refine v_aload_n 1 dX7_init_221 rfl rfl ?_
      refine v_get fl_X7_45 dX7_init_222 (up_n (by decide) (up_s _ _ _)) rfl ?_
      refine v_iload_n 0 dX7_init_225 rfl rfl ?_
      refine v_iconst (v := -1) dX7_init_226 (by first | rfl | decide) ?_
      refine v_iast dX7_init_227 (up_s _ _ _) (nI_in' (k := 1) (by decide)) ?_
      refine v_hp (up_up _ _ _ _) ?_
      refine v_iinc (v := 1) 0 dX7_init_228 rfl rfl (by decide) (fun z_ ez_ => ?_)
      obtain rfl : z_ = 2 := by rw [ez_]; decide
      refine v_ls (ls' := [(1, .int (2)), (0, .ref 60)]) rfl ?_
      refine v_goto (tgt := 216) dX7_init_231 (by decide) ?_
      refine v_iload_n 0 dX7_init_216 rfl rfl ?_
      refine v_iconst (v := 3) dX7_init_217 (by first | rfl | decide) ?_
      refine v_icmp_ge (tgt := 234) dX7_init_218 (by decide) (fun hc218 => ?_) (fun hc218 => ?_)
      · exact absurd hc218 (by decide)
      ·
        refine v_aload_n 1 dX7_init_221 rfl rfl ?_
        refine v_get fl_X7_45 dX7_init_222 (up_n (by decide) (up_s _ _ _)) rfl ?_
        refine v_iload_n 0 dX7_init_225 rfl rfl ?_
        refine v_iconst (v := -1) dX7_init_226 (by first | rfl | decide) ?_
        refine v_iast dX7_init_227 (up_s _ _ _) (nI_in' (k := 2) (by decide)) ?_
        refine v_hp (up_up _ _ _ _) ?_
        refine v_iinc (v := 1) 0 dX7_init_228 rfl rfl (by decide) (fun z_ ez_ => ?_)
        obtain rfl : z_ = 3 := by rw [ez_]; decide
        refine v_ls (ls' := [(1, .int (3)), (0, .ref 60)]) rfl ?_
        refine v_goto (tgt := 216) dX7_init_231 (by decide) ?_
        refine v_iload_n 0 dX7_init_216 rfl rfl ?_
        refine v_iconst (v := 3) dX7_init_217 (by first | rfl | decide) ?_
        refine v_icmp_ge (tgt := 234) dX7_init_218 (by decide) (fun hc218 => ?_) (fun hc218 => ?_)
        ·
          refine v_iconst (v := 0) dX7_init_234 (by first | rfl | decide) ?_
          refine v_istore_n dX7_init_235 rfl (by decide) (fun x1_5 e_x1_5 => ?_)
          refine v_ls (ls' := [(1, .int x1_5), (0, .ref 60)]) rfl ?_
          subst e_x1_5
          refine v_iload_n 0 dX7_init_236 rfl rfl ?_
          refine v_bipush (v := 12) dX7_init_237 (by first | rfl | decide) ?_
          refine v_icmp_ge (tgt := 255) dX7_init_239 (by decide) (fun hc239 => ?_) (fun hc239 => ?_)
          · exact absurd hc239 (by decide)
          ·
            refine v_aload_n 1 dX7_init_242 rfl rfl ?_
            refine v_get fl_X7_52 dX7_init_243 (up_n (by decide) (up_s _ _ _)) rfl ?_
            refine v_iload_n 0 dX7_init_246 rfl rfl ?_
            refine v_iconst (v := -1) dX7_init_247 (by first | rfl | decide) ?_
            refine v_iast dX7_init_248 (up_n (by decide) (up_n (by decide) (up_n (by decide) (up_n (by decide) (up_n (by decide) (up_n (by decide) (up_n (by decide) (up_n (by decide) (up_n (by decide) (up_n (by decide) (up_n (by decide) (up_n (by decide) (up_n (by decide) (up_n (by decide) (up_n (by decide) (up_n (by decide) (up_n (by decide) (up_n (by decide) (up_n (by decide) (up_n (by decide) (up_n (by decide) (up_n (by decide) (up_n (by decide) (up_n (by decide) (up_n (by decide) (up_n (by decide) (up_s _ _ _))))))))))))))))))))))))))) (nI_in' (k := 0) (by decide)) ?_
            refine v_iinc (v := 1) 0 dX7_init_249 rfl rfl (by decide) (fun z_ ez_ => ?_)
            obtain rfl : z_ = 1 := by rw [ez_]; decide
            refine v_ls (ls' := [(1, .int (1)), (0, .ref 60)]) rfl ?_
            refine v_goto (tgt := 236) dX7_init_252 (by decide) ?_
            refine v_iload_n 0 dX7_init_236 rfl rfl ?_
            refine v_bipush (v := 12) dX7_init_237 (by first | rfl | decide) ?_
            refine v_icmp_ge (tgt := 255) dX7_init_239 (by decide) (fun hc239 => ?_) (fun hc239 => ?_)
            · exact absurd hc239 (by decide)
            ·
              refine v_aload_n 1 dX7_init_242 rfl rfl ?_
              refine v_get fl_X7_52 dX7_init_243 (up_n (by decide) (up_n (by decide) (up_s _ _ _))) rfl ?_
              refine v_iload_n 0 dX7_init_246 rfl rfl ?_
              refine v_iconst (v := -1) dX7_init_247 (by first | rfl | decide) ?_
              refine v_iast dX7_init_248 (up_s _ _ _) (nI_in' (k := 1) (by decide)) ?_
              refine v_hp (up_up _ _ _ _) ?_
              refine v_iinc (v := 1) 0 dX7_init_249 rfl rfl (by decide) (fun z_ ez_ => ?_)
              obtain rfl : z_ = 2 := by rw [ez_]; decide
              refine v_ls (ls' := [(1, .int (2)), (0, .ref 60)]) rfl ?_
              refine v_goto (tgt := 236) dX7_init_252 (by decide) ?_
              refine v_iload_n 0 dX7_init_236 rfl rfl ?_
              refine v_bipush (v := 12) dX7_init_237 (by first | rfl | decide) ?_
              refine v_icmp_ge (tgt := 255) dX7_init_239 (by decide) (fun hc239 => ?_) (fun hc239 => ?_)
              · exact absurd hc239 (by decide)
              ·
                refine v_aload_n 1 dX7_init_242 rfl rfl ?_
                refine v_get fl_X7_52 dX7_init_243 (up_n (by decide) (up_n (by decide) (up_s _ _ _))) rfl ?_
                refine v_iload_n 0 dX7_init_246 rfl rfl ?_
                refine v_iconst (v := -1) dX7_init_247 (by first | rfl | decide) ?_
                refine v_iast dX7_init_248 (up_s _ _ _) (nI_in' (k := 2) (by decide)) ?_
                refine v_hp (up_up _ _ _ _) ?_
                refine v_iinc (v := 1) 0 dX7_init_249 rfl rfl (by decide) (fun z_ ez_ => ?_)
                obtain rfl : z_ = 3 := by rw [ez_]; decide
                refine v_ls (ls' := [(1, .int (3)), (0, .ref 60)]) rfl ?_
                refine v_goto (tgt := 236) dX7_init_252 (by decide) ?_
                refine v_iload_n 0 dX7_init_236 rfl rfl ?_
                refine v_bipush (v := 12) dX7_init_237 (by first | rfl | decide) ?_
                refine v_icmp_ge (tgt := 255) dX7_init_239 (by decide) (fun hc239 => ?_) (fun hc239 => ?_)
                · exact absurd hc239 (by decide)
                ·
                  refine v_aload_n 1 dX7_init_242 rfl rfl ?_
                  refine v_get fl_X7_52 dX7_init_243 (up_n (by decide) (up_n (by decide) (up_s _ _ _))) rfl ?_
                  refine v_iload_n 0 dX7_init_246 rfl rfl ?_
                  refine v_iconst (v := -1) dX7_init_247 (by first | rfl | decide) ?_
                  refine v_iast dX7_init_248 (up_s _ _ _) (nI_in' (k := 3) (by decide)) ?_
                  refine v_hp (up_up _ _ _ _) ?_
                  refine v_iinc (v := 1) 0 dX7_init_249 rfl rfl (by decide) (fun z_ ez_ => ?_)
                  obtain rfl : z_ = 4 := by rw [ez_]; decide
                  refine v_ls (ls' := [(1, .int (4)), (0, .ref 60)]) rfl ?_
                  refine v_goto (tgt := 236) dX7_init_252 (by decide) ?_
                  refine v_iload_n 0 dX7_init_236 rfl rfl ?_
                  refine v_bipush (v := 12) dX7_init_237 (by first | rfl | decide) ?_
                  refine v_icmp_ge (tgt := 255) dX7_init_239 (by decide) (fun hc239 => ?_) (fun hc239 => ?_)
                  · exact absurd hc239 (by decide)
                  ·
                    refine v_aload_n 1 dX7_init_242 rfl rfl ?_
                    refine v_get fl_X7_52 dX7_init_243 (up_n (by decide) (up_n (by decide) (up_s _ _ _))) rfl ?_
                    refine v_iload_n 0 dX7_init_246 rfl rfl ?_
                    refine v_iconst (v := -1) dX7_init_247 (by first | rfl | decide) ?_
                    refine v_iast dX7_init_248 (up_s _ _ _) (nI_in' (k := 4) (by decide)) ?_
                    refine v_hp (up_up _ _ _ _) ?_
                    refine v_iinc (v := 1) 0 dX7_init_249 rfl rfl (by decide) (fun z_ ez_ => ?_)
                    obtain rfl : z_ = 5 := by rw [ez_]; decide
                    refine v_ls (ls' := [(1, .int (5)), (0, .ref 60)]) rfl ?_
                    refine v_goto (tgt := 236) dX7_init_252 (by decide) ?_
                    refine v_iload_n 0 dX7_init_236 rfl rfl ?_
                    refine v_bipush (v := 12) dX7_init_237 (by first | rfl | decide) ?_
                    refine v_icmp_ge (tgt := 255) dX7_init_239 (by decide) (fun hc239 => ?_) (fun hc239 => ?_)
                    · exact absurd hc239 (by decide)
                    ·
                      refine v_aload_n 1 dX7_init_242 rfl rfl ?_
                      refine v_get fl_X7_52 dX7_init_243 (up_n (by decide) (up_n (by decide) (up_s _ _ _))) rfl ?_
                      refine v_iload_n 0 dX7_init_246 rfl rfl ?_
                      refine v_iconst (v := -1) dX7_init_247 (by first | rfl | decide) ?_
                      refine v_iast dX7_init_248 (up_s _ _ _) (nI_in' (k := 5) (by decide)) ?_
                      refine v_hp (up_up _ _ _ _) ?_
                      refine v_iinc (v := 1) 0 dX7_init_249 rfl rfl (by decide) (fun z_ ez_ => ?_)
                      obtain rfl : z_ = 6 := by rw [ez_]; decide
                      refine v_ls (ls' := [(1, .int (6)), (0, .ref 60)]) rfl ?_
                      refine v_goto (tgt := 236) dX7_init_252 (by decide) ?_
                      refine v_iload_n 0 dX7_init_236 rfl rfl ?_
                      refine v_bipush (v := 12) dX7_init_237 (by first | rfl | decide) ?_
                      refine v_icmp_ge (tgt := 255) dX7_init_239 (by decide) (fun hc239 => ?_) (fun hc239 => ?_)
                      · exact absurd hc239 (by decide)
                      ·
                        refine v_aload_n 1 dX7_init_242 rfl rfl ?_
                        refine v_get fl_X7_52 dX7_init_243 (up_n (by decide) (up_n (by decide) (up_s _ _ _))) rfl ?_
                        refine v_iload_n 0 dX7_init_246 rfl rfl ?_
                        refine v_iconst (v := -1) dX7_init_247 (by first | rfl | decide) ?_
                        refine v_iast dX7_init_248 (up_s _ _ _) (nI_in' (k := 6) (by decide)) ?_
                        refine v_hp (up_up _ _ _ _) ?_
                        refine v_iinc (v := 1) 0 dX7_init_249 rfl rfl (by decide) (fun z_ ez_ => ?_)
                        obtain rfl : z_ = 7 := by rw [ez_]; decide
                        refine v_ls (ls' := [(1, .int (7)), (0, .ref 60)]) rfl ?_
                        refine v_goto (tgt := 236) dX7_init_252 (by decide) ?_
                        refine v_iload_n 0 dX7_init_236 rfl rfl ?_
                        refine v_bipush (v := 12) dX7_init_237 (by first | rfl | decide) ?_
                        refine v_icmp_ge (tgt := 255) dX7_init_239 (by decide) (fun hc239 => ?_) (fun hc239 => ?_)
                        · exact absurd hc239 (by decide)
                        ·
                          refine v_aload_n 1 dX7_init_242 rfl rfl ?_
                          refine v_get fl_X7_52 dX7_init_243 (up_n (by decide) (up_n (by decide) (up_s _ _ _))) rfl ?_
                          refine v_iload_n 0 dX7_init_246 rfl rfl ?_
                          refine v_iconst (v := -1) dX7_init_247 (by first | rfl | decide) ?_
                          refine v_iast dX7_init_248 (up_s _ _ _) (nI_in' (k := 7) (by decide)) ?_
                          refine v_hp (up_up _ _ _ _) ?_
                          refine v_iinc (v := 1) 0 dX7_init_249 rfl rfl (by decide) (fun z_ ez_ => ?_)
                          obtain rfl : z_ = 8 := by rw [ez_]; decide
                          refine v_ls (ls' := [(1, .int (8)), (0, .ref 60)]) rfl ?_
                          refine v_goto (tgt := 236) dX7_init_252 (by decide) ?_
                          refine v_iload_n 0 dX7_init_236 rfl rfl ?_
                          refine v_bipush (v := 12) dX7_init_237 (by first | rfl | decide) ?_
                          refine v_icmp_ge (tgt := 255) dX7_init_239 (by decide) (fun hc239 => ?_) (fun hc239 => ?_)
                          · exact absurd hc239 (by decide)
                          ·
                            refine v_aload_n 1 dX7_init_242 rfl rfl ?_
                            refine v_get fl_X7_52 dX7_init_243 (up_n (by decide) (up_n (by decide) (up_s _ _ _))) rfl ?_
                            refine v_iload_n 0 dX7_init_246 rfl rfl ?_
                            refine v_iconst (v := -1) dX7_init_247 (by first | rfl | decide) ?_
                            refine v_iast dX7_init_248 (up_s _ _ _) (nI_in' (k := 8) (by decide)) ?_
                            refine v_hp (up_up _ _ _ _) ?_
                            refine v_iinc (v := 1) 0 dX7_init_249 rfl rfl (by decide) (fun z_ ez_ => ?_)
                            obtain rfl : z_ = 9 := by rw [ez_]; decide
                            refine v_ls (ls' := [(1, .int (9)), (0, .ref 60)]) rfl ?_
                            refine v_goto (tgt := 236) dX7_init_252 (by decide) ?_
                            refine v_iload_n 0 dX7_init_236 rfl rfl ?_
                            refine v_bipush (v := 12) dX7_init_237 (by first | rfl | decide) ?_
                            refine v_icmp_ge (tgt := 255) dX7_init_239 (by decide) (fun hc239 => ?_) (fun hc239 => ?_)
                            · exact absurd hc239 (by decide)
                            ·
                              refine v_aload_n 1 dX7_init_242 rfl rfl ?_
                              refine v_get fl_X7_52 dX7_init_243 (up_n (by decide) (up_n (by decide) (up_s _ _ _))) rfl ?_
                              refine v_iload_n 0 dX7_init_246 rfl rfl ?_
                              refine v_iconst (v := -1) dX7_init_247 (by first | rfl | decide) ?_
                              refine v_iast dX7_init_248 (up_s _ _ _) (nI_in' (k := 9) (by decide)) ?_
                              refine v_hp (up_up _ _ _ _) ?_
                              refine v_iinc (v := 1) 0 dX7_init_249 rfl rfl (by decide) (fun z_ ez_ => ?_)
                              obtain rfl : z_ = 10 := by rw [ez_]; decide
                              refine v_ls (ls' := [(1, .int (10)), (0, .ref 60)]) rfl ?_
                              refine v_goto (tgt := 236) dX7_init_252 (by decide) ?_
                              refine v_iload_n 0 dX7_init_236 rfl rfl ?_
                              refine v_bipush (v := 12) dX7_init_237 (by first | rfl | decide) ?_
                              refine v_icmp_ge (tgt := 255) dX7_init_239 (by decide) (fun hc239 => ?_) (fun hc239 => ?_)
                              · exact absurd hc239 (by decide)
                              ·
                                refine v_aload_n 1 dX7_init_242 rfl rfl ?_
                                refine v_get fl_X7_52 dX7_init_243 (up_n (by decide) (up_n (by decide) (up_s _ _ _))) rfl ?_
                                refine v_iload_n 0 dX7_init_246 rfl rfl ?_
                                refine v_iconst (v := -1) dX7_init_247 (by first | rfl | decide) ?_
                                refine v_iast dX7_init_248 (up_s _ _ _) (nI_in' (k := 10) (by decide)) ?_
                                refine v_hp (up_up _ _ _ _) ?_
                                refine v_iinc (v := 1) 0 dX7_init_249 rfl rfl (by decide) (fun z_ ez_ => ?_)
                                obtain rfl : z_ = 11 := by rw [ez_]; decide
                                refine v_ls (ls' := [(1, .int (11)), (0, .ref 60)]) rfl ?_
                                refine v_goto (tgt := 236) dX7_init_252 (by decide) ?_
                                refine v_iload_n 0 dX7_init_236 rfl rfl ?_
                                refine v_bipush (v := 12) dX7_init_237 (by first | rfl | decide) ?_
                                refine v_icmp_ge (tgt := 255) dX7_init_239 (by decide) (fun hc239 => ?_) (fun hc239 => ?_)
                                · exact absurd hc239 (by decide)
                                ·
                                  refine v_aload_n 1 dX7_init_242 rfl rfl ?_
                                  refine v_get fl_X7_52 dX7_init_243 (up_n (by decide) (up_n (by decide) (up_s _ _ _))) rfl ?_
                                  refine v_iload_n 0 dX7_init_246 rfl rfl ?_
                                  refine v_iconst (v := -1) dX7_init_247 (by first | rfl | decide) ?_
                                  refine v_iast dX7_init_248 (up_s _ _ _) (nI_in' (k := 11) (by decide)) ?_
                                  refine v_hp (up_up _ _ _ _) ?_
                                  refine v_iinc (v := 1) 0 dX7_init_249 rfl rfl (by decide) (fun z_ ez_ => ?_)
                                  obtain rfl : z_ = 12 := by rw [ez_]; decide
                                  refine v_ls (ls' := [(1, .int (12)), (0, .ref 60)]) rfl ?_
                                  refine v_goto (tgt := 236) dX7_init_252 (by decide) ?_
                                  refine v_iload_n 0 dX7_init_236 rfl rfl ?_
                                  refine v_bipush (v := 12) dX7_init_237 (by first | rfl | decide) ?_
                                  refine v_icmp_ge (tgt := 255) dX7_init_239 (by decide) (fun hc239 => ?_) (fun hc239 => ?_)
                                  ·
                                    refine v_iconst (v := 0) dX7_init_255 (by first | rfl | decide) ?_
                                    refine v_istore_n dX7_init_256 rfl (by decide) (fun x1_18 e_x1_18 => ?_)
                                    refine v_ls (ls' := [(1, .int x1_18), (0, .ref 60)]) rfl ?_
                                    subst e_x1_18
                                    refine v_iload_n 0 dX7_init_257 rfl rfl ?_
                                    refine v_iconst (v := 3) dX7_init_258 (by first | rfl | decide) ?_
                                    refine v_icmp_ge (tgt := 275) dX7_init_259 (by decide) (fun hc259 => ?_) (fun hc259 => ?_)
                                    · exact absurd hc259 (by decide)
                                    ·
                                      refine v_aload_n 1 dX7_init_262 rfl rfl ?_
                                      refine v_get fl_X7_55 dX7_init_263 (up_n (by decide) (up_n (by decide) (up_s _ _ _))) rfl ?_
                                      refine v_iload_n 0 dX7_init_266 rfl rfl ?_
                                      refine v_iload_n 0 dX7_init_267 rfl rfl ?_
                                      refine v_iast dX7_init_268 (up_n (by decide) (up_n (by decide) (up_n (by decide) (up_n (by decide) (up_n (by decide) (up_n (by decide) (up_n (by decide) (up_n (by decide) (up_n (by decide) (up_n (by decide) (up_n (by decide) (up_n (by decide) (up_n (by decide) (up_n (by decide) (up_n (by decide) (up_n (by decide) (up_n (by decide) (up_n (by decide) (up_n (by decide) (up_n (by decide) (up_n (by decide) (up_n (by decide) (up_n (by decide) (up_n (by decide) (up_n (by decide) (up_s _ _ _)))))))))))))))))))))))))) (nI_in' (k := 0) (by decide)) ?_
                                      refine v_iinc (v := 1) 0 dX7_init_269 rfl rfl (by decide) (fun z_ ez_ => ?_)
                                      obtain rfl : z_ = 1 := by rw [ez_]; decide
                                      refine v_ls (ls' := [(1, .int (1)), (0, .ref 60)]) rfl ?_
                                      refine v_goto (tgt := 257) dX7_init_272 (by decide) ?_
                                      refine v_iload_n 0 dX7_init_257 rfl rfl ?_
                                      refine v_iconst (v := 3) dX7_init_258 (by first | rfl | decide) ?_
                                      refine v_icmp_ge (tgt := 275) dX7_init_259 (by decide) (fun hc259 => ?_) (fun hc259 => ?_)
                                      · exact absurd hc259 (by decide)
                                      ·
                                        refine v_aload_n 1 dX7_init_262 rfl rfl ?_
                                        refine v_get fl_X7_55 dX7_init_263 (up_n (by decide) (up_n (by decide) (up_n (by decide) (up_s _ _ _)))) rfl ?_
                                        refine v_iload_n 0 dX7_init_266 rfl rfl ?_
                                        refine v_iload_n 0 dX7_init_267 rfl rfl ?_
                                        refine v_iast dX7_init_268 (up_s _ _ _) (nI_in' (k := 1) (by decide)) ?_
                                        refine v_hp (up_up _ _ _ _) ?_
                                        refine v_iinc (v := 1) 0 dX7_init_269 rfl rfl (by decide) (fun z_ ez_ => ?_)
                                        obtain rfl : z_ = 2 := by rw [ez_]; decide
                                        refine v_ls (ls' := [(1, .int (2)), (0, .ref 60)]) rfl ?_
                                        refine v_goto (tgt := 257) dX7_init_272 (by decide) ?_
                                        refine v_iload_n 0 dX7_init_257 rfl rfl ?_
                                        refine v_iconst (v := 3) dX7_init_258 (by first | rfl | decide) ?_
                                        refine v_icmp_ge (tgt := 275) dX7_init_259 (by decide) (fun hc259 => ?_) (fun hc259 => ?_)
                                        · exact absurd hc259 (by decide)
                                        ·
                                          refine v_aload_n 1 dX7_init_262 rfl rfl ?_
                                          refine v_get fl_X7_55 dX7_init_263 (up_n (by decide) (up_n (by decide) (up_n (by decide) (up_s _ _ _)))) rfl ?_
                                          refine v_iload_n 0 dX7_init_266 rfl rfl ?_
                                          refine v_iload_n 0 dX7_init_267 rfl rfl ?_
                                          refine v_iast dX7_init_268 (up_s _ _ _) (nI_in' (k := 2) (by decide)) ?_
                                          refine v_hp (up_up _ _ _ _) ?_
                                          refine v_iinc (v := 1) 0 dX7_init_269 rfl rfl (by decide) (fun z_ ez_ => ?_)
                                          obtain rfl : z_ = 3 := by rw [ez_]; decide
                                          refine v_ls (ls' := [(1, .int (3)), (0, .ref 60)]) rfl ?_
                                          refine v_goto (tgt := 257) dX7_init_272 (by decide) ?_
                                          refine v_iload_n 0 dX7_init_257 rfl rfl ?_
                                          refine v_iconst (v := 3) dX7_init_258 (by first | rfl | decide) ?_
                                          refine v_icmp_ge (tgt := 275) dX7_init_259 (by decide) (fun hc259 => ?_) (fun hc259 => ?_)
                                          ·
                                            refine v_nJ (g := lvO (sM st0)) (up_n (by decide) (up_n (by decide) (up_n (by decide) (up_n (by decide) (up_n (by decide) (up_n (by decide) (up_n (by decide) (up_n (by decide) (up_n (by decide) (up_n (by decide) (up_n (by decide) (up_n (by decide) (up_n (by decide) (up_n (by decide) (up_n (by decide) (up_n (by decide) (up_n (by decide) (up_n (by decide) (up_n (by decide) (up_n (by decide) (up_n (by decide) (up_n (by decide) (up_n (by decide) (up_n (by decide) (up_n (by decide) (up_n (by decide) (up_n (by decide) (up_n (by decide) (up_n (by decide) (up_n (by decide) (up_n (by decide) (up_n (by decide) (up_n (by decide) (up_n (by decide) (up_n (by decide) (up_n (by decide) (up_n (by decide) (up_n (by decide) (up_n (by decide) (up_n (by decide) (up_n (by decide) (up_n (by decide) (up_n (by decide) (up_n (by decide) (up_n (by decide) (up_n (by decide) (up_n (by decide) (up_n (by decide) (up_n (by decide) (up_n (by decide) (up_n (by decide) (up_n (by decide) (up_s _ _ _))))))))))))))))))))))))))))))))))))))))))))))))))))) (all5 rfl rfl rfl rfl rfl) ?_
                                            refine v_nI (g := sZ st0) (up_n (by decide) (up_n (by decide) (up_n (by decide) (up_s _ _ _)))) (by decide) ?_
                                            refine v_nI (g := rkF (sR st0)) (up_n (by decide) (up_n (by decide) (up_n (by decide) (up_s _ _ _)))) (by decide) ?_
                                            refine v_nI (g := sK st0) (up_n (by decide) (up_n (by decide) (up_n (by decide) (up_s _ _ _)))) (by decide) ?_
                                            
                                            refine v_vret dX7_init_275 rfl ?_
                                            exact ⟨rfl, ⟨0, 0, 0, 0, 0, 0, 0, 0, 0, 0, 0, _, _, _, _, _, _, _, _, _, _, _, _, (up_n (by decide) (up_n (by decide) (up_n (by decide) (up_n (by decide) (up_n (by decide) (up_n (by decide) (up_n (by decide) (up_s _ _ _)))))))), (up_n (by decide) (up_n (by decide) (up_n (by decide) (up_s _ _ _)))), (up_n (by decide) (up_n (by decide) (up_n (by decide) (up_n (by decide) (up_n (by decide) (up_n (by decide) (up_n (by decide) (up_n (by decide) (up_n (by decide) (up_n (by decide) (up_n (by decide) (up_n (by decide) (up_n (by decide) (up_n (by decide) (up_n (by decide) (up_n (by decide) (up_n (by decide) (up_n (by decide) (up_n (by decide) (up_n (by decide) (up_n (by decide) (up_n (by decide) (up_n (by decide) (up_n (by decide) (up_n (by decide) (up_n (by decide) (up_n (by decide) (up_n (by decide) (up_n (by decide) (up_n (by decide) (up_n (by decide) (up_n (by decide) (up_n (by decide) (up_n (by decide) (up_n (by decide) (up_n (by decide) (up_n (by decide) (up_n (by decide) (up_n (by decide) (up_n (by decide) (up_n (by decide) (up_n (by decide) (up_n (by decide) (up_n (by decide) (up_n (by decide) (up_n (by decide) (up_n (by decide) (up_n (by decide) (up_n (by decide) (up_n (by decide) (up_n (by decide) (up_n (by decide) (up_n (by decide) (up_n (by decide) (up_s _ _ _))))))))))))))))))))))))))))))))))))))))))))))))))))))), (up_n (by decide) (up_n (by decide) (up_n (by decide) (up_n (by decide) (up_n (by decide) (up_n (by decide) (up_n (by decide) (up_n (by decide) (up_n (by decide) (up_n (by decide) (up_n (by decide) (up_n (by decide) (up_n (by decide) (up_n (by decide) (up_n (by decide) (up_n (by decide) (up_n (by decide) (up_n (by decide) (up_n (by decide) (up_n (by decide) (up_n (by decide) (up_n (by decide) (up_n (by decide) (up_n (by decide) (up_n (by decide) (up_n (by decide) (up_n (by decide) (up_n (by decide) (up_n (by decide) (up_n (by decide) (up_n (by decide) (up_n (by decide) (up_n (by decide) (up_n (by decide) (up_n (by decide) (up_n (by decide) (up_n (by decide) (up_n (by decide) (up_n (by decide) (up_n (by decide) (up_n (by decide) (up_n (by decide) (up_n (by decide) (up_n (by decide) (up_n (by decide) (up_n (by decide) (up_n (by decide) (up_n (by decide) (up_n (by decide) (up_n (by decide) (up_n (by decide) (up_n (by decide) (up_s _ _ _))))))))))))))))))))))))))))))))))))))))))))))))))))), (up_n (by decide) (up_n (by decide) (up_n (by decide) (up_n (by decide) (up_n (by decide) (up_n (by decide) (up_n (by decide) (up_n (by decide) (up_n (by decide) (up_n (by decide) (up_n (by decide) (up_n (by decide) (up_n (by decide) (up_n (by decide) (up_n (by decide) (up_n (by decide) (up_n (by decide) (up_n (by decide) (up_n (by decide) (up_n (by decide) (up_n (by decide) (up_n (by decide) (up_n (by decide) (up_n (by decide) (up_n (by decide) (up_n (by decide) (up_n (by decide) (up_n (by decide) (up_n (by decide) (up_n (by decide) (up_n (by decide) (up_n (by decide) (up_n (by decide) (up_n (by decide) (up_n (by decide) (up_n (by decide) (up_n (by decide) (up_n (by decide) (up_n (by decide) (up_n (by decide) (up_n (by decide) (up_n (by decide) (up_n (by decide) (up_n (by decide) (up_n (by decide) (up_n (by decide) (up_n (by decide) (up_n (by decide) (up_n (by decide) (up_n (by decide) (up_s _ _ _))))))))))))))))))))))))))))))))))))))))))))))))))), (up_n (by decide) (up_n (by decide) (up_n (by decide) (up_n (by decide) (up_n (by decide) (up_n (by decide) (up_n (by decide) (up_n (by decide) (up_n (by decide) (up_n (by decide) (up_n (by decide) (up_n (by decide) (up_n (by decide) (up_n (by decide) (up_n (by decide) (up_n (by decide) (up_n (by decide) (up_n (by decide) (up_n (by decide) (up_n (by decide) (up_n (by decide) (up_n (by decide) (up_n (by decide) (up_n (by decide) (up_n (by decide) (up_n (by decide) (up_n (by decide) (up_n (by decide) (up_n (by decide) (up_n (by decide) (up_n (by decide) (up_n (by decide) (up_n (by decide) (up_n (by decide) (up_n (by decide) (up_n (by decide) (up_n (by decide) (up_n (by decide) (up_n (by decide) (up_n (by decide) (up_n (by decide) (up_n (by decide) (up_n (by decide) (up_n (by decide) (up_n (by decide) (up_n (by decide) (up_n (by decide) (up_n (by decide) (up_s _ _ _))))))))))))))))))))))))))))))))))))))))))))))))), (up_n (by decide) (up_n (by decide) (up_n (by decide) (up_n (by decide) (up_n (by decide) (up_n (by decide) (up_n (by decide) (up_n (by decide) (up_n (by decide) (up_n (by decide) (up_n (by decide) (up_n (by decide) (up_n (by decide) (up_n (by decide) (up_n (by decide) (up_n (by decide) (up_n (by decide) (up_n (by decide) (up_n (by decide) (up_n (by decide) (up_n (by decide) (up_n (by decide) (up_n (by decide) (up_n (by decide) (up_n (by decide) (up_n (by decide) (up_n (by decide) (up_n (by decide) (up_n (by decide) (up_n (by decide) (up_n (by decide) (up_n (by decide) (up_n (by decide) (up_n (by decide) (up_n (by decide) (up_n (by decide) (up_n (by decide) (up_n (by decide) (up_n (by decide) (up_n (by decide) (up_n (by decide) (up_n (by decide) (up_n (by decide) (up_n (by decide) (up_n (by decide) (up_n (by decide) (up_s _ _ _))))))))))))))))))))))))))))))))))))))))))))))), (up_n (by decide) (up_n (by decide) (up_n (by decide) (up_n (by decide) (up_n (by decide) (up_n (by decide) (up_n (by decide) (up_n (by decide) (up_n (by decide) (up_n (by decide) (up_n (by decide) (up_n (by decide) (up_n (by decide) (up_n (by decide) (up_n (by decide) (up_n (by decide) (up_n (by decide) (up_n (by decide) (up_n (by decide) (up_n (by decide) (up_n (by decide) (up_n (by decide) (up_n (by decide) (up_n (by decide) (up_n (by decide) (up_n (by decide) (up_n (by decide) (up_n (by decide) (up_n (by decide) (up_n (by decide) (up_n (by decide) (up_n (by decide) (up_n (by decide) (up_n (by decide) (up_n (by decide) (up_n (by decide) (up_n (by decide) (up_n (by decide) (up_n (by decide) (up_n (by decide) (up_n (by decide) (up_n (by decide) (up_n (by decide) (up_n (by decide) (up_s _ _ _))))))))))))))))))))))))))))))))))))))))))))), (up_n (by decide) (up_n (by decide) (up_n (by decide) (up_n (by decide) (up_n (by decide) (up_n (by decide) (up_n (by decide) (up_n (by decide) (up_n (by decide) (up_n (by decide) (up_n (by decide) (up_n (by decide) (up_n (by decide) (up_n (by decide) (up_n (by decide) (up_n (by decide) (up_n (by decide) (up_n (by decide) (up_n (by decide) (up_n (by decide) (up_n (by decide) (up_n (by decide) (up_n (by decide) (up_n (by decide) (up_n (by decide) (up_n (by decide) (up_n (by decide) (up_n (by decide) (up_n (by decide) (up_n (by decide) (up_n (by decide) (up_n (by decide) (up_n (by decide) (up_n (by decide) (up_n (by decide) (up_n (by decide) (up_n (by decide) (up_n (by decide) (up_n (by decide) (up_n (by decide) (up_n (by decide) (up_n (by decide) (up_s _ _ _))))))))))))))))))))))))))))))))))))))))))), (up_n (by decide) (up_n (by decide) (up_n (by decide) (up_n (by decide) (up_n (by decide) (up_n (by decide) (up_n (by decide) (up_n (by decide) (up_n (by decide) (up_n (by decide) (up_n (by decide) (up_n (by decide) (up_n (by decide) (up_n (by decide) (up_n (by decide) (up_n (by decide) (up_n (by decide) (up_n (by decide) (up_n (by decide) (up_n (by decide) (up_n (by decide) (up_n (by decide) (up_n (by decide) (up_n (by decide) (up_n (by decide) (up_n (by decide) (up_n (by decide) (up_n (by decide) (up_n (by decide) (up_n (by decide) (up_n (by decide) (up_n (by decide) (up_n (by decide) (up_n (by decide) (up_n (by decide) (up_n (by decide) (up_n (by decide) (up_n (by decide) (up_n (by decide) (up_n (by decide) (up_s _ _ _))))))))))))))))))))))))))))))))))))))))), (up_n (by decide) (up_n (by decide) (up_n (by decide) (up_n (by decide) (up_n (by decide) (up_n (by decide) (up_n (by decide) (up_n (by decide) (up_n (by decide) (up_n (by decide) (up_n (by decide) (up_n (by decide) (up_n (by decide) (up_n (by decide) (up_n (by decide) (up_n (by decide) (up_n (by decide) (up_n (by decide) (up_n (by decide) (up_n (by decide) (up_n (by decide) (up_n (by decide) (up_n (by decide) (up_n (by decide) (up_n (by decide) (up_n (by decide) (up_n (by decide) (up_n (by decide) (up_n (by decide) (up_n (by decide) (up_n (by decide) (up_n (by decide) (up_n (by decide) (up_n (by decide) (up_n (by decide) (up_n (by decide) (up_n (by decide) (up_n (by decide) (up_s _ _ _))))))))))))))))))))))))))))))))))))))), (up_n (by decide) (up_n (by decide) (up_s _ _ _))), (up_n (by decide) (up_n (by decide) (up_n (by decide) (up_n (by decide) (up_n (by decide) (up_n (by decide) (up_n (by decide) (up_n (by decide) (up_n (by decide) (up_n (by decide) (up_n (by decide) (up_n (by decide) (up_n (by decide) (up_n (by decide) (up_n (by decide) (up_n (by decide) (up_n (by decide) (up_n (by decide) (up_n (by decide) (up_n (by decide) (up_n (by decide) (up_n (by decide) (up_n (by decide) (up_n (by decide) (up_n (by decide) (up_n (by decide) (up_n (by decide) (up_n (by decide) (up_n (by decide) (up_n (by decide) (up_n (by decide) (up_n (by decide) (up_n (by decide) (up_n (by decide) (up_s _ _ _))))))))))))))))))))))))))))))))))), (up_n (by decide) (up_s _ _ _)), (up_s _ _ _), (up_n (by decide) (up_n (by decide) (up_n (by decide) (up_n (by decide) (up_n (by decide) (up_n (by decide) (up_n (by decide) (up_n (by decide) (up_n (by decide) (up_n (by decide) (up_n (by decide) (up_n (by decide) (up_n (by decide) (up_n (by decide) (up_n (by decide) (up_n (by decide) (up_n (by decide) (up_n (by decide) (up_n (by decide) (up_n (by decide) (up_n (by decide) (up_n (by decide) (up_n (by decide) (up_n (by decide) (up_n (by decide) (up_n (by decide) (up_n (by decide) (up_n (by decide) (up_s _ _ _))))))))))))))))))))))))))))), (up_n (by decide) (up_n (by decide) (up_n (by decide) (up_n (by decide) (up_n (by decide) (up_n (by decide) (up_n (by decide) (up_n (by decide) (up_n (by decide) (up_n (by decide) (up_n (by decide) (up_n (by decide) (up_n (by decide) (up_n (by decide) (up_n (by decide) (up_n (by decide) (up_n (by decide) (up_n (by decide) (up_n (by decide) (up_n (by decide) (up_n (by decide) (up_n (by decide) (up_n (by decide) (up_n (by decide) (up_n (by decide) (up_n (by decide) (up_s _ _ _))))))))))))))))))))))))))), (up_n (by decide) (up_n (by decide) (up_n (by decide) (up_n (by decide) (up_n (by decide) (up_n (by decide) (up_n (by decide) (up_n (by decide) (up_n (by decide) (up_n (by decide) (up_n (by decide) (up_n (by decide) (up_n (by decide) (up_n (by decide) (up_n (by decide) (up_n (by decide) (up_n (by decide) (up_n (by decide) (up_n (by decide) (up_n (by decide) (up_n (by decide) (up_n (by decide) (up_n (by decide) (up_n (by decide) (up_s _ _ _))))))))))))))))))))))))), (up_n (by decide) (up_n (by decide) (up_n (by decide) (up_n (by decide) (up_n (by decide) (up_n (by decide) (up_n (by decide) (up_n (by decide) (up_n (by decide) (up_n (by decide) (up_n (by decide) (up_n (by decide) (up_n (by decide) (up_n (by decide) (up_n (by decide) (up_n (by decide) (up_n (by decide) (up_n (by decide) (up_n (by decide) (up_n (by decide) (up_n (by decide) (up_n (by decide) (up_s _ _ _))))))))))))))))))))))), (up_n (by decide) (up_n (by decide) (up_n (by decide) (up_n (by decide) (up_n (by decide) (up_n (by decide) (up_n (by decide) (up_n (by decide) (up_n (by decide) (up_n (by decide) (up_n (by decide) (up_n (by decide) (up_n (by decide) (up_n (by decide) (up_n (by decide) (up_n (by decide) (up_n (by decide) (up_n (by decide) (up_n (by decide) (up_n (by decide) (up_s _ _ _))))))))))))))))))))), (up_n (by decide) (up_n (by decide) (up_n (by decide) (up_n (by decide) (up_n (by decide) (up_n (by decide) (up_n (by decide) (up_n (by decide) (up_n (by decide) (up_n (by decide) (up_n (by decide) (up_n (by decide) (up_n (by decide) (up_n (by decide) (up_n (by decide) (up_n (by decide) (up_n (by decide) (up_n (by decide) (up_s _ _ _))))))))))))))))))), ⟨_, _, _, _, _, (up_n (by decide) (up_n (by decide) (up_n (by decide) (up_n (by decide) (up_n (by decide) (up_n (by decide) (up_n (by decide) (up_n (by decide) (up_n (by decide) (up_n (by decide) (up_n (by decide) (up_n (by decide) (up_n (by decide) (up_n (by decide) (up_n (by decide) (up_n (by decide) (up_s _ _ _))))))))))))))))), (up_n (by decide) (up_n (by decide) (up_n (by decide) (up_n (by decide) (up_n (by decide) (up_n (by decide) (up_n (by decide) (up_n (by decide) (up_n (by decide) (up_n (by decide) (up_n (by decide) (up_n (by decide) (up_n (by decide) (up_n (by decide) (up_s _ _ _))))))))))))))), (up_n (by decide) (up_n (by decide) (up_n (by decide) (up_n (by decide) (up_n (by decide) (up_n (by decide) (up_n (by decide) (up_n (by decide) (up_n (by decide) (up_n (by decide) (up_n (by decide) (up_n (by decide) (up_s _ _ _))))))))))))), (up_n (by decide) (up_n (by decide) (up_n (by decide) (up_n (by decide) (up_n (by decide) (up_n (by decide) (up_n (by decide) (up_n (by decide) (up_n (by decide) (up_n (by decide) (up_s _ _ _))))))))))), (up_n (by decide) (up_n (by decide) (up_n (by decide) (up_n (by decide) (up_n (by decide) (up_n (by decide) (up_n (by decide) (up_n (by decide) (up_s _ _ _))))))))), fun b hb => by cases hb⟩, (fun j hj => absurd hj (Nat.not_lt_zero j)), (fun j hj => absurd hj (Nat.not_lt_zero j)), Nat.zero_le _⟩, fun i hi => by repeat (first | rfl | refine up_n (by omega) ?_)⟩
                                          · exact absurd (by decide) hc259
                                  · exact absurd (by decide) hc239
        · exact absurd (by decide) hc218

