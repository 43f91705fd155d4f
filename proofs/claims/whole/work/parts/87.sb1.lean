/-! ===== the builder: cells 45 and 46 .. 48 ===== -/
theorem v_bud {G : Cx} {M : MD} {d mc ms : Nat} {P : Option Value → Hp → Prop} {pc : Nat} {ls : List (Nat × Value)} {st : List Value} {μ : Hp} {mc1 ms1 : Nat} (h : mc1 ≤ mc) (h' : ms1 ≤ ms) (k : V G M d mc1 ms1 P pc ls st μ) : V G M d mc ms P pc ls st μ :=
  fun p l e R s m args below meth c Q ad H locs cells slots sl F hW hS hR hl hs hsl b1 b2 hE => k p l e R s m args below meth c Q ad H locs cells slots sl F hW hS hR hl hs hsl (by omega) (by omega) (hE.to Ag.refl (fun _ z => z) (by omega) (by omega))
abbrev sbC (b : Nat) (ml : Int32) (n : Nat) : va_E := .inr (0, [.ref b, .int 0, .int ml, .int (nI n)])
/-- a letter that is ASCII -/
def Ac (c : Int32) : Prop := ∃ k, k < 128 ∧ c = nI k
/-- the builder holds the text t and has room for q letters -/
def Sc (q : Nat) (t : List Int32) (μ : Hp) : Prop := ∃ (w : Nat) (f : Nat → Int32) (ml : Int32), (w < 3 ∧ q ≤ capO w ∧ sb_Fit f ∧ ∀ c ∈ t, Ac c) ∧ μ 45 = some (sbC (46 + w) ml t.length) ∧ μ (46 + w) = some (arB (capO w) f) ∧ Pl t f ∧ ∀ j, w < j → j < 3 → μ (46 + j) = none
def Fw (μ2 μ : Hp) : Prop := ∀ i, i < 45 ∨ 48 < i → μ2 i = μ i
theorem Fw.tr {μ3 μ2 μ : Hp} (h : Fw μ3 μ2) (h2 : Fw μ2 μ) : Fw μ3 μ := fun i hi => (h i hi).trans (h2 i hi)
theorem cap_le (w : Nat) : capO w ≤ 70 := by
  unfold capO
  split
  · omega
  · split <;> omega
theorem sub_le0 {a b : Nat} (h : a ≤ b) (hb : b < 2 ^ 30) : nI a - nI b ≤ 0 := by
  rw [Int32.le_iff_toInt_le, pk_sub_toInt (by omega) hb, Int32.toInt_zero]
  omega
theorem neg10 : ∀ v, v < 100 → ((-nI v ≤ -10) ↔ 10 ≤ v) := by decide +kernel
theorem neg100 : ∀ v, v < 100 → ¬ (-nI v ≤ -100) := by decide +kernel
theorem neg100' : ∀ v, v < 100 → -100 < -nI v := by decide +kernel
theorem neg9 : ∀ v, v < 100 → ((-9 ≤ -nI v) ↔ v < 10) := by decide +kernel
theorem byte_id : ∀ k, k < 128 → (nI k).toInt8.toInt32 = nI k := by decide +kernel
theorem nar_by : ∀ k, k < 128 → vp_nar .byte (nI k) = nI k := fun k hk => byte_id k hk
theorem fit_b {k : Nat} (hk : k < 128) : fits .byte (.int (nI k)) = true := by rw [← byte_id k hk]; exact pk_fb _
theorem chr_id : ∀ k, k < 128 → ((nI k &&& 255).toUInt32 % 65536).toInt32 = nI k := by decide +kernel
theorem num_1 {v : Nat} (h : v < 10) : numS v = [nI (48 + v)] := if_pos h
theorem num_2 {v : Nat} (h : ¬ v < 10) : numS v = [nI (48 + v / 10), nI (48 + v % 10)] := if_neg h
theorem num_ac {v : Nat} (hv : v < 100) : ∀ c ∈ numS v, Ac c := by
  by_cases h : v < 10
  · rw [num_1 h]
    intro c hc
    rw [List.mem_singleton.mp hc]
    exact ⟨_, by omega, rfl⟩
  · rw [num_2 h]
    intro c hc
    rcases List.mem_cons.mp hc with rfl | hc
    · exact ⟨_, by omega, rfl⟩
    · rw [List.mem_singleton.mp hc]
      exact ⟨_, by omega, rfl⟩
theorem ac_app {a b : List Int32} (ha : ∀ c ∈ a, Ac c) (hb : ∀ c ∈ b, Ac c) : ∀ c ∈ a ++ b, Ac c := fun c hc => (List.mem_append.mp hc).elim (ha c) (hb c)

set_option maxRecDepth 20000 in
set_option maxHeartbeats 4000000 in
theorem c_J5_isLatin1_aae02 {G : Cx} (d : Nat) {μ : Hp} {b n : Nat} {ml : Int32} (h45 : μ 45 = some (sbC b ml n)) : Ct G (d) 0 0 M_J5_isLatin1_aae02 [.ref 45] μ (Rt (some (.int 1)) μ) := by
  refine Ct.ofV (by decide +kernel) (Nat.le_of_ble_eq_true rfl) ?_
  refine v_ls (ls' := [(0, .ref 45)]) rfl ?_
  refine v_gets (ro_compact G) flo_J5_18 dJ5_isLatin1_aae02_0 (okv_i) ?_
  refine v_if_eq (tgt := 17) dJ5_isLatin1_aae02_3 (by decide) (fun hc3 => ?_) (fun hc3 => ?_)
  · exact absurd hc3 (by decide)
  ·
    refine v_aload_n 0 dJ5_isLatin1_aae02_6 rfl rfl ?_
    refine v_get fl_J5_22 dJ5_isLatin1_aae02_7 h45 rfl ?_
    refine v_if_ne (tgt := 17) dJ5_isLatin1_aae02_10 (by decide) (fun hc10 => ?_) (fun hc10 => ?_)
    · exact absurd rfl hc10
    ·
      refine v_iconst (v := 1) dJ5_isLatin1_aae02_13 (by first | rfl | decide) ?_
      refine v_goto (tgt := 18) dJ5_isLatin1_aae02_14 (by decide) ?_
      refine v_iret dJ5_isLatin1_aae02_18 rfl (by first | rfl | decide | exact nar_b (by first | assumption | rfl)) ?_
      exact ⟨rfl, rfl⟩

set_option maxRecDepth 20000 in
set_option maxHeartbeats 4000000 in
theorem c_J1_canEncode_fc78d {G : Cx} (d : Nat) {μ : Hp} {c : Int32}  : Ct G (d) 0 0 M_J1_canEncode_fc78d [.int c] μ (Rt (some (.int (if 255 < c then 0 else 1))) μ) := by
  refine Ct.ofV (by decide +kernel) (Nat.le_of_ble_eq_true rfl) ?_
  refine v_ls (ls' := [(0, .int c)]) rfl ?_
  refine v_iload_n 0 dJ1_canEncode_fc78d_0 rfl rfl ?_
  refine v_sipush (v := 255) dJ1_canEncode_fc78d_1 (by first | rfl | decide) ?_
  refine v_icmp_gt (tgt := 11) dJ1_canEncode_fc78d_4 (by decide) (fun hc4 => ?_) (fun hc4 => ?_)
  ·
    refine v_iconst (v := 0) dJ1_canEncode_fc78d_11 (by first | rfl | decide) ?_
    refine v_iret dJ1_canEncode_fc78d_12 rfl (by first | rfl | decide | exact nar_b (by first | assumption | rfl)) ?_
    exact ⟨by simp only [if_pos hc4, if_neg (Int32.not_le.mpr hc4)], rfl⟩
  ·
    refine v_iconst (v := 1) dJ1_canEncode_fc78d_7 (by first | rfl | decide) ?_
    refine v_goto (tgt := 12) dJ1_canEncode_fc78d_8 (by decide) ?_
    refine v_iret dJ1_canEncode_fc78d_12 rfl (by first | rfl | decide | exact nar_b (by first | assumption | rfl)) ?_
    exact ⟨by simp only [if_neg hc4, if_pos (Int32.not_lt.mp hc4)], rfl⟩

set_option maxRecDepth 20000 in
set_option maxHeartbeats 4000000 in
theorem c_J8_newLength_cabcc {G : Cx} (d : Nat) {μ : Hp} {a g p : Int32} (h1 : (0 : Int32) < a + maxO g p) (h2 : a + maxO g p ≤ 2147483639) : Ct G (d + 1) 0 0 M_J8_newLength_cabcc [.int a, .int g, .int p] μ (Rt (some (.int (a + maxO g p))) μ) := by
  refine Ct.ofV (by decide +kernel) (Nat.le_of_ble_eq_true rfl) ?_
  refine v_ls (ls' := [(0, .int a), (1, .int g), (2, .int p)]) rfl ?_
  refine v_iload_n 0 dJ8_newLength_cabcc_0 rfl rfl ?_
  refine v_iload_n 1 dJ8_newLength_cabcc_1 rfl rfl ?_
  refine v_iload_n 2 dJ8_newLength_cabcc_2 rfl rfl ?_
  refine v_callS (c_J9_max_7cf53 d ) cs_J8_194 dJ8_newLength_cabcc_3 rfl rfl (Nat.le_of_ble_eq_true rfl) ?_
  refine rt_k ?_
  refine v_iadd dJ8_newLength_cabcc_6 ?_
  refine v_istore_n dJ8_newLength_cabcc_7 rfl (by decide) (fun x3 e_x3 => ?_)
  refine v_ls (ls' := [(3, .int x3), (0, .int a), (1, .int g), (2, .int p)]) rfl ?_
  refine v_iconst (v := 0) dJ8_newLength_cabcc_8 (by first | rfl | decide) ?_
  refine v_iload_n 0 dJ8_newLength_cabcc_9 rfl rfl ?_
  refine v_icmp_ge (tgt := 21) dJ8_newLength_cabcc_10 (by decide) (fun hc10 => ?_) (fun hc10 => ?_)
  · rw [e_x3] at hc10
    exact absurd h1 (Int32.not_lt.mpr hc10)
  ·
    refine v_iload_n 0 dJ8_newLength_cabcc_13 rfl rfl ?_
    refine v_ldc kc_J8_200 dJ8_newLength_cabcc_14 ?_
    refine v_icmp_gt (tgt := 21) dJ8_newLength_cabcc_16 (by decide) (fun hc16 => ?_) (fun hc16 => ?_)
    · rw [e_x3] at hc16
      exact absurd hc16 (Int32.not_lt.mpr h2)
    ·
      refine v_iload_n 0 dJ8_newLength_cabcc_19 rfl rfl ?_
      refine v_iret dJ8_newLength_cabcc_20 rfl (by first | rfl | decide | exact nar_b (by first | assumption | rfl)) ?_
      exact ⟨by rw [e_x3], rfl⟩

set_option maxRecDepth 20000 in
set_option maxHeartbeats 4000000 in
theorem c_newCap_16 {G : Cx} (d : Nat) {μ : Hp} {b n q : Nat} {f : Nat → Int32} {ml : Int32} (h45 : μ 45 = some (sbC b ml n)) (hb : μ b = some (arB 16 f)) (hq : q = 17 ∨ q = 18) : Ct G (d + 2) 0 0 M_J5_newCapacity_0f7a4 [.ref 45, .int (nI q)] μ (Rt (some (.int 34)) μ) := by
  refine Ct.ofV (by decide +kernel) (Nat.le_of_ble_eq_true rfl) ?_
  refine v_ls (ls' := [(0, .ref 45), (1, .int (nI q))]) rfl ?_
  refine v_aload_n 0 dJ5_newCapacity_0f7a4_0 rfl rfl ?_
  refine v_get fl_J5_15 dJ5_newCapacity_0f7a4_1 h45 rfl ?_
  refine v_alen (v := 16) dJ5_newCapacity_0f7a4_4 hb rfl rfl ?_
  refine v_istore_n dJ5_newCapacity_0f7a4_5 rfl (by decide) (fun x2 e_x2 => ?_)
  refine v_ls (ls' := [(2, .int x2), (0, .ref 45), (1, .int (nI q))]) rfl ?_
  subst e_x2
  refine v_iload_n 2 dJ5_newCapacity_0f7a4_6 rfl rfl ?_
  refine v_aload_n 1 dJ5_newCapacity_0f7a4_7 rfl rfl ?_
  refine v_get fl_J5_22 dJ5_newCapacity_0f7a4_8 h45 rfl ?_
  refine v_ishl dJ5_newCapacity_0f7a4_11 ?_
  refine v_istore_n dJ5_newCapacity_0f7a4_12 rfl (by decide) (fun x3 e_x3 => ?_)
  refine v_ls (ls' := [(3, .int x3), (2, .int (16)), (0, .ref 45), (1, .int (nI q))]) rfl ?_
  obtain rfl : x3 = nI q := by rw [e_x3]; rcases hq with rfl | rfl <;> decide
  refine v_iload_n 0 dJ5_newCapacity_0f7a4_13 rfl rfl ?_
  refine v_iload_n 1 dJ5_newCapacity_0f7a4_14 rfl rfl ?_
  refine v_isub dJ5_newCapacity_0f7a4_15 ?_
  refine v_istore dJ5_newCapacity_0f7a4_16 (by decide) (fun x4 e_x4 => ?_)
  refine v_ls (ls' := [(4, .int x4), (3, .int (nI q)), (2, .int (16)), (0, .ref 45), (1, .int (nI q))]) rfl ?_
  refine v_iload_n 2 dJ5_newCapacity_0f7a4_18 rfl rfl ?_
  refine v_iload 0 dJ5_newCapacity_0f7a4_19 rfl ?_
  refine v_iload_n 2 dJ5_newCapacity_0f7a4_21 rfl rfl ?_
  refine v_iconst (v := 2) dJ5_newCapacity_0f7a4_22 (by first | rfl | decide) ?_
  refine v_aload_n 3 dJ5_newCapacity_0f7a4_23 rfl rfl ?_
  refine v_get fl_J5_22 dJ5_newCapacity_0f7a4_24 h45 rfl ?_
  refine v_ishl dJ5_newCapacity_0f7a4_27 ?_
  refine v_iadd dJ5_newCapacity_0f7a4_28 ?_
  refine v_callS (c_J8_newLength_cabcc d (by rw [e_x4]; rcases hq with rfl | rfl <;> decide) (by rw [e_x4]; rcases hq with rfl | rfl <;> decide)) cs_J5_114 dJ5_newCapacity_0f7a4_29 rfl rfl (Nat.le_of_ble_eq_true rfl) ?_
  refine rt_k ?_
  refine v_istore dJ5_newCapacity_0f7a4_32 (by decide) (fun x5 e_x5 => ?_)
  refine v_ls (ls' := [(5, .int x5), (4, .int x4), (3, .int (nI q)), (2, .int (16)), (0, .ref 45), (1, .int (nI q))]) rfl ?_
  obtain rfl : x5 = 34 := by rw [e_x5, e_x4]; rcases hq with rfl | rfl <;> decide
  refine v_iload 0 dJ5_newCapacity_0f7a4_34 rfl ?_
  refine v_ldc kc_J5_39 dJ5_newCapacity_0f7a4_36 ?_
  refine v_icmp_ne (tgt := 51) dJ5_newCapacity_0f7a4_38 (by decide) (fun hc38 => ?_) (fun hc38 => ?_)
  ·
    refine v_iload 0 dJ5_newCapacity_0f7a4_51 rfl ?_
    refine v_aload_n 4 dJ5_newCapacity_0f7a4_53 rfl rfl ?_
    refine v_get fl_J5_22 dJ5_newCapacity_0f7a4_54 h45 rfl ?_
    refine v_ishr dJ5_newCapacity_0f7a4_57 ?_
    refine v_iret dJ5_newCapacity_0f7a4_58 rfl (by first | rfl | decide | exact nar_b (by first | assumption | rfl)) ?_
    exact ⟨by decide, rfl⟩
  · exact absurd hc38 (by decide)

set_option maxRecDepth 20000 in
set_option maxHeartbeats 4000000 in
theorem c_copyOf_16 {G : Cx} (d : Nat) {μ : Hp} {b cn : Nat} {f : Nat → Int32} (hb : μ b = some (arB 16 f)) (hf : sb_Fit f) (hbc : b ≠ cn) (hfr : μ cn = none) (hl9 : cn < 1000) : Ct G (d + 1) 1 70 M_J7_copyOf_9075b [.ref b, .int 34] μ (fun r μ' => r = some (.ref cn) ∧ μ' cn = some (arB 34 (va_cpy f (fun _ => 0) 0 0 16)) ∧ ∀ i, i ≠ cn → μ' i = μ i) := by
  refine Ct.ofV (by decide +kernel) (Nat.le_of_ble_eq_true rfl) ?_
  refine v_ls (ls' := [(0, .ref b), (1, .int (34))]) rfl ?_
  refine v_iload_n 1 dJ7_copyOf_9075b_0 rfl rfl ?_
  refine v_aload_n 0 dJ7_copyOf_9075b_1 rfl rfl ?_
  refine v_alen (v := 16) dJ7_copyOf_9075b_2 hb rfl rfl ?_
  refine v_icmp_ne (tgt := 14) dJ7_copyOf_9075b_3 (by decide) (fun hc3 => ?_) (fun hc3 => ?_)
  ·
    refine v_iload_n 1 dJ7_copyOf_9075b_14 rfl rfl ?_
    refine v_newB (mc := 0) (ms := 36) cn 34 (by decide) dJ7_copyOf_9075b_15 hfr hl9 ?_
    refine v_astore_n dJ7_copyOf_9075b_17 rfl (by decide) (fun z_ ez_ => ?_)
    have ez9_ := ez_.symm
    subst ez9_
    refine v_ls (ls' := [(2, .ref cn), (0, .ref b), (1, .int (34))]) rfl ?_
    refine v_aload_n 1 dJ7_copyOf_9075b_18 rfl rfl ?_
    refine v_iconst (v := 0) dJ7_copyOf_9075b_19 (by first | rfl | decide) ?_
    refine v_aload_n 0 dJ7_copyOf_9075b_20 rfl rfl ?_
    refine v_iconst (v := 0) dJ7_copyOf_9075b_21 (by first | rfl | decide) ?_
    refine v_aload_n 1 dJ7_copyOf_9075b_22 rfl rfl ?_
    refine v_alen (v := 16) dJ7_copyOf_9075b_23 (up_n hbc hb) rfl rfl ?_
    refine v_iload_n 2 dJ7_copyOf_9075b_24 rfl rfl ?_
    refine v_callS (c_J9_min_7cf53 d) cs_J7_304 dJ7_copyOf_9075b_25 rfl rfl (Nat.le_of_ble_eq_true rfl) ?_
    refine rt_k ?_
    refine v_topi (fun y25 e_y25 => ?_)
    obtain rfl : y25 = 16 := by rw [e_y25]; decide
    refine v_copyi (t := 3) (ty := .byte) (d := d) cs_J7_150 dJ7_copyOf_9075b_28 (up_n hbc hb) (up_s _ _ _) rfl rfl (by decide) (by decide) (by decide) (by decide) (by decide) (fun i _ => hf _) (Nat.le_of_ble_eq_true rfl) ?_
    refine v_hp (up_up _ _ _ _) ?_
    refine v_aload_n 0 dJ7_copyOf_9075b_31 rfl rfl ?_
    refine v_aret dJ7_copyOf_9075b_32 rfl (by first | exact Or.inl ⟨_, rfl⟩ | exact Or.inr ⟨_, rfl⟩) ?_
    exact ⟨rfl, up_s _ _ _, fun i hi => up_n hi rfl⟩
  · exact absurd hc3 (by decide)

set_option maxRecDepth 20000 in
set_option maxHeartbeats 4000000 in
theorem c_grow_16 {G : Cx} (d : Nat) {μ : Hp} {b cn n q : Nat} {f : Nat → Int32} {ml : Int32} (h45 : μ 45 = some (sbC b ml n)) (hb : μ b = some (arB 16 f)) (hf : sb_Fit f) (hb4 : b ≠ 45) (hc4 : cn ≠ 45) (hbc : b ≠ cn) (hfr : μ cn = none) (hl9 : cn < 1000) (hq : q = 17 ∨ q = 18) : Ct G (d + 3) 1 70 M_J5_ensureCapacityInternal_d00df [.ref 45, .int (nI q)] μ (fun r μ' => r = none ∧ μ' 45 = some (sbC cn ml n) ∧ μ' cn = some (arB 34 (va_cpy f (fun _ => 0) 0 0 16)) ∧ ∀ i, i ≠ 45 → i ≠ cn → μ' i = μ i) := by
  refine Ct.ofV (by decide +kernel) (Nat.le_of_ble_eq_true rfl) ?_
  refine v_ls (ls' := [(0, .ref 45), (1, .int (nI q))]) rfl ?_
  refine v_aload_n 0 dJ5_ensureCapacityInternal_d00df_0 rfl rfl ?_
  refine v_get fl_J5_15 dJ5_ensureCapacityInternal_d00df_1 h45 rfl ?_
  refine v_alen (v := 16) dJ5_ensureCapacityInternal_d00df_4 hb rfl rfl ?_
  refine v_aload_n 0 dJ5_ensureCapacityInternal_d00df_5 rfl rfl ?_
  refine v_get fl_J5_22 dJ5_ensureCapacityInternal_d00df_6 h45 rfl ?_
  refine v_ishr dJ5_ensureCapacityInternal_d00df_9 ?_
  refine v_istore_n dJ5_ensureCapacityInternal_d00df_10 rfl (by decide) (fun x2 e_x2 => ?_)
  refine v_ls (ls' := [(2, .int x2), (0, .ref 45), (1, .int (nI q))]) rfl ?_
  obtain rfl : x2 = 16 := by rw [e_x2]; decide
  refine v_iload_n 2 dJ5_ensureCapacityInternal_d00df_11 rfl rfl ?_
  refine v_iload_n 0 dJ5_ensureCapacityInternal_d00df_12 rfl rfl ?_
  refine v_isub dJ5_ensureCapacityInternal_d00df_13 ?_
  refine v_if_le (tgt := 38) dJ5_ensureCapacityInternal_d00df_14 (by decide) (fun hc14 => ?_) (fun hc14 => ?_)
  · exact absurd hc14 (by rcases hq with rfl | rfl <;> decide)
  ·
    refine v_aload_n 1 dJ5_ensureCapacityInternal_d00df_17 rfl rfl ?_
    refine v_aload_n 1 dJ5_ensureCapacityInternal_d00df_18 rfl rfl ?_
    refine v_get fl_J5_15 dJ5_ensureCapacityInternal_d00df_19 h45 rfl ?_
    refine v_aload_n 1 dJ5_ensureCapacityInternal_d00df_22 rfl rfl ?_
    refine v_iload_n 2 dJ5_ensureCapacityInternal_d00df_23 rfl rfl ?_
    refine v_callVC (c_newCap_16 d h45 hb hq) cs_J5_104 dJ5_ensureCapacityInternal_d00df_24 h45 rfl rfl (Nat.le_of_ble_eq_true rfl) ?_
    refine rt_k ?_
    refine v_aload_n 1 dJ5_ensureCapacityInternal_d00df_27 rfl rfl ?_
    refine v_get fl_J5_22 dJ5_ensureCapacityInternal_d00df_28 h45 rfl ?_
    refine v_ishl dJ5_ensureCapacityInternal_d00df_31 ?_
    refine v_topi (fun y31 e_y31 => ?_)
    obtain rfl : y31 = 34 := by rw [e_y31]; decide
    refine v_callS (c_copyOf_16 (d + 1) hb hf hbc hfr hl9) cs_J5_108 dJ5_ensureCapacityInternal_d00df_32 rfl rfl (Nat.le_of_ble_eq_true rfl) ?_
    rintro _ m1 ⟨rfl, q1, q2⟩
    refine v_put fp_J5_15 dJ5_ensureCapacityInternal_d00df_35 ((q2 45 (Ne.symm hc4)).trans h45) (Nat.le_of_ble_eq_true rfl) (by first | rfl | decide) (by first | rfl | decide) ?_
    refine v_vret dJ5_ensureCapacityInternal_d00df_38 rfl ?_
    exact ⟨rfl, up_s _ _ _, up_n hc4 q1, fun i a b => (up_n a rfl).trans (q2 i b)⟩

set_option maxRecDepth 20000 in
set_option maxHeartbeats 4000000 in
theorem c_newCap_34 {G : Cx} (d : Nat) {μ : Hp} {b n q : Nat} {f : Nat → Int32} {ml : Int32} (h45 : μ 45 = some (sbC b ml n)) (hb : μ b = some (arB 34 f)) (hq : q = 35 ∨ q = 36) : Ct G (d + 2) 0 0 M_J5_newCapacity_0f7a4 [.ref 45, .int (nI q)] μ (Rt (some (.int 70)) μ) := by
  refine Ct.ofV (by decide +kernel) (Nat.le_of_ble_eq_true rfl) ?_
  refine v_ls (ls' := [(0, .ref 45), (1, .int (nI q))]) rfl ?_
  refine v_aload_n 0 dJ5_newCapacity_0f7a4_0 rfl rfl ?_
  refine v_get fl_J5_15 dJ5_newCapacity_0f7a4_1 h45 rfl ?_
  refine v_alen (v := 34) dJ5_newCapacity_0f7a4_4 hb rfl rfl ?_
  refine v_istore_n dJ5_newCapacity_0f7a4_5 rfl (by decide) (fun x2 e_x2 => ?_)
  refine v_ls (ls' := [(2, .int x2), (0, .ref 45), (1, .int (nI q))]) rfl ?_
  subst e_x2
  refine v_iload_n 2 dJ5_newCapacity_0f7a4_6 rfl rfl ?_
  refine v_aload_n 1 dJ5_newCapacity_0f7a4_7 rfl rfl ?_
  refine v_get fl_J5_22 dJ5_newCapacity_0f7a4_8 h45 rfl ?_
  refine v_ishl dJ5_newCapacity_0f7a4_11 ?_
  refine v_istore_n dJ5_newCapacity_0f7a4_12 rfl (by decide) (fun x3 e_x3 => ?_)
  refine v_ls (ls' := [(3, .int x3), (2, .int (34)), (0, .ref 45), (1, .int (nI q))]) rfl ?_
  obtain rfl : x3 = nI q := by rw [e_x3]; rcases hq with rfl | rfl <;> decide
  refine v_iload_n 0 dJ5_newCapacity_0f7a4_13 rfl rfl ?_
  refine v_iload_n 1 dJ5_newCapacity_0f7a4_14 rfl rfl ?_
  refine v_isub dJ5_newCapacity_0f7a4_15 ?_
  refine v_istore dJ5_newCapacity_0f7a4_16 (by decide) (fun x4 e_x4 => ?_)
  refine v_ls (ls' := [(4, .int x4), (3, .int (nI q)), (2, .int (34)), (0, .ref 45), (1, .int (nI q))]) rfl ?_
  refine v_iload_n 2 dJ5_newCapacity_0f7a4_18 rfl rfl ?_
  refine v_iload 0 dJ5_newCapacity_0f7a4_19 rfl ?_
  refine v_iload_n 2 dJ5_newCapacity_0f7a4_21 rfl rfl ?_
  refine v_iconst (v := 2) dJ5_newCapacity_0f7a4_22 (by first | rfl | decide) ?_
  refine v_aload_n 3 dJ5_newCapacity_0f7a4_23 rfl rfl ?_
  refine v_get fl_J5_22 dJ5_newCapacity_0f7a4_24 h45 rfl ?_
  refine v_ishl dJ5_newCapacity_0f7a4_27 ?_
  refine v_iadd dJ5_newCapacity_0f7a4_28 ?_
  refine v_callS (c_J8_newLength_cabcc d (by rw [e_x4]; rcases hq with rfl | rfl <;> decide) (by rw [e_x4]; rcases hq with rfl | rfl <;> decide)) cs_J5_114 dJ5_newCapacity_0f7a4_29 rfl rfl (Nat.le_of_ble_eq_true rfl) ?_
  refine rt_k ?_
  refine v_istore dJ5_newCapacity_0f7a4_32 (by decide) (fun x5 e_x5 => ?_)
  refine v_ls (ls' := [(5, .int x5), (4, .int x4), (3, .int (nI q)), (2, .int (34)), (0, .ref 45), (1, .int (nI q))]) rfl ?_
  obtain rfl : x5 = 70 := by rw [e_x5, e_x4]; rcases hq with rfl | rfl <;> decide
  refine v_iload 0 dJ5_newCapacity_0f7a4_34 rfl ?_
  refine v_ldc kc_J5_39 dJ5_newCapacity_0f7a4_36 ?_
  refine v_icmp_ne (tgt := 51) dJ5_newCapacity_0f7a4_38 (by decide) (fun hc38 => ?_) (fun hc38 => ?_)
  ·
    refine v_iload 0 dJ5_newCapacity_0f7a4_51 rfl ?_
    refine v_aload_n 4 dJ5_newCapacity_0f7a4_53 rfl rfl ?_
    refine v_get fl_J5_22 dJ5_newCapacity_0f7a4_54 h45 rfl ?_
    refine v_ishr dJ5_newCapacity_0f7a4_57 ?_
    refine v_iret dJ5_newCapacity_0f7a4_58 rfl (by first | rfl | decide | exact nar_b (by first | assumption | rfl)) ?_
    exact ⟨by decide, rfl⟩
  · exact absurd hc38 (by decide)

set_option maxRecDepth 20000 in
set_option maxHeartbeats 4000000 in
theorem c_copyOf_34 {G : Cx} (d : Nat) {μ : Hp} {b cn : Nat} {f : Nat → Int32} (hb : μ b = some (arB 34 f)) (hf : sb_Fit f) (hbc : b ≠ cn) (hfr : μ cn = none) (hl9 : cn < 1000) : Ct G (d + 1) 1 70 M_J7_copyOf_9075b [.ref b, .int 70] μ (fun r μ' => r = some (.ref cn) ∧ μ' cn = some (arB 70 (va_cpy f (fun _ => 0) 0 0 34)) ∧ ∀ i, i ≠ cn → μ' i = μ i) := by
  refine Ct.ofV (by decide +kernel) (Nat.le_of_ble_eq_true rfl) ?_
  refine v_ls (ls' := [(0, .ref b), (1, .int (70))]) rfl ?_
  refine v_iload_n 1 dJ7_copyOf_9075b_0 rfl rfl ?_
  refine v_aload_n 0 dJ7_copyOf_9075b_1 rfl rfl ?_
  refine v_alen (v := 34) dJ7_copyOf_9075b_2 hb rfl rfl ?_
  refine v_icmp_ne (tgt := 14) dJ7_copyOf_9075b_3 (by decide) (fun hc3 => ?_) (fun hc3 => ?_)
  ·
    refine v_iload_n 1 dJ7_copyOf_9075b_14 rfl rfl ?_
    refine v_newB (mc := 0) (ms := 0) cn 70 (by decide) dJ7_copyOf_9075b_15 hfr hl9 ?_
    refine v_astore_n dJ7_copyOf_9075b_17 rfl (by decide) (fun z_ ez_ => ?_)
    have ez9_ := ez_.symm
    subst ez9_
    refine v_ls (ls' := [(2, .ref cn), (0, .ref b), (1, .int (70))]) rfl ?_
    refine v_aload_n 1 dJ7_copyOf_9075b_18 rfl rfl ?_
    refine v_iconst (v := 0) dJ7_copyOf_9075b_19 (by first | rfl | decide) ?_
    refine v_aload_n 0 dJ7_copyOf_9075b_20 rfl rfl ?_
    refine v_iconst (v := 0) dJ7_copyOf_9075b_21 (by first | rfl | decide) ?_
    refine v_aload_n 1 dJ7_copyOf_9075b_22 rfl rfl ?_
    refine v_alen (v := 34) dJ7_copyOf_9075b_23 (up_n hbc hb) rfl rfl ?_
    refine v_iload_n 2 dJ7_copyOf_9075b_24 rfl rfl ?_
    refine v_callS (c_J9_min_7cf53 d) cs_J7_304 dJ7_copyOf_9075b_25 rfl rfl (Nat.le_of_ble_eq_true rfl) ?_
    refine rt_k ?_
    refine v_topi (fun y25 e_y25 => ?_)
    obtain rfl : y25 = 34 := by rw [e_y25]; decide
    refine v_copyi (t := 3) (ty := .byte) (d := d) cs_J7_150 dJ7_copyOf_9075b_28 (up_n hbc hb) (up_s _ _ _) rfl rfl (by decide) (by decide) (by decide) (by decide) (by decide) (fun i _ => hf _) (Nat.le_of_ble_eq_true rfl) ?_
    refine v_hp (up_up _ _ _ _) ?_
    refine v_aload_n 0 dJ7_copyOf_9075b_31 rfl rfl ?_
    refine v_aret dJ7_copyOf_9075b_32 rfl (by first | exact Or.inl ⟨_, rfl⟩ | exact Or.inr ⟨_, rfl⟩) ?_
    exact ⟨rfl, up_s _ _ _, fun i hi => up_n hi rfl⟩
  · exact absurd hc3 (by decide)

set_option maxRecDepth 20000 in
set_option maxHeartbeats 4000000 in
theorem c_grow_34 {G : Cx} (d : Nat) {μ : Hp} {b cn n q : Nat} {f : Nat → Int32} {ml : Int32} (h45 : μ 45 = some (sbC b ml n)) (hb : μ b = some (arB 34 f)) (hf : sb_Fit f) (hb4 : b ≠ 45) (hc4 : cn ≠ 45) (hbc : b ≠ cn) (hfr : μ cn = none) (hl9 : cn < 1000) (hq : q = 35 ∨ q = 36) : Ct G (d + 3) 1 70 M_J5_ensureCapacityInternal_d00df [.ref 45, .int (nI q)] μ (fun r μ' => r = none ∧ μ' 45 = some (sbC cn ml n) ∧ μ' cn = some (arB 70 (va_cpy f (fun _ => 0) 0 0 34)) ∧ ∀ i, i ≠ 45 → i ≠ cn → μ' i = μ i) := by
  refine Ct.ofV (by decide +kernel) (Nat.le_of_ble_eq_true rfl) ?_
  refine v_ls (ls' := [(0, .ref 45), (1, .int (nI q))]) rfl ?_
  refine v_aload_n 0 dJ5_ensureCapacityInternal_d00df_0 rfl rfl ?_
  refine v_get fl_J5_15 dJ5_ensureCapacityInternal_d00df_1 h45 rfl ?_
  refine v_alen (v := 34) dJ5_ensureCapacityInternal_d00df_4 hb rfl rfl ?_
  refine v_aload_n 0 dJ5_ensureCapacityInternal_d00df_5 rfl rfl ?_
  refine v_get fl_J5_22 dJ5_ensureCapacityInternal_d00df_6 h45 rfl ?_
  refine v_ishr dJ5_ensureCapacityInternal_d00df_9 ?_
  refine v_istore_n dJ5_ensureCapacityInternal_d00df_10 rfl (by decide) (fun x2 e_x2 => ?_)
  refine v_ls (ls' := [(2, .int x2), (0, .ref 45), (1, .int (nI q))]) rfl ?_
  obtain rfl : x2 = 34 := by rw [e_x2]; decide
  refine v_iload_n 2 dJ5_ensureCapacityInternal_d00df_11 rfl rfl ?_
  refine v_iload_n 0 dJ5_ensureCapacityInternal_d00df_12 rfl rfl ?_
  refine v_isub dJ5_ensureCapacityInternal_d00df_13 ?_
  refine v_if_le (tgt := 38) dJ5_ensureCapacityInternal_d00df_14 (by decide) (fun hc14 => ?_) (fun hc14 => ?_)
  · exact absurd hc14 (by rcases hq with rfl | rfl <;> decide)
  ·
    refine v_aload_n 1 dJ5_ensureCapacityInternal_d00df_17 rfl rfl ?_
    refine v_aload_n 1 dJ5_ensureCapacityInternal_d00df_18 rfl rfl ?_
    refine v_get fl_J5_15 dJ5_ensureCapacityInternal_d00df_19 h45 rfl ?_
    refine v_aload_n 1 dJ5_ensureCapacityInternal_d00df_22 rfl rfl ?_
    refine v_iload_n 2 dJ5_ensureCapacityInternal_d00df_23 rfl rfl ?_
    refine v_callVC (c_newCap_34 d h45 hb hq) cs_J5_104 dJ5_ensureCapacityInternal_d00df_24 h45 rfl rfl (Nat.le_of_ble_eq_true rfl) ?_
    refine rt_k ?_
    refine v_aload_n 1 dJ5_ensureCapacityInternal_d00df_27 rfl rfl ?_
    refine v_get fl_J5_22 dJ5_ensureCapacityInternal_d00df_28 h45 rfl ?_
    refine v_ishl dJ5_ensureCapacityInternal_d00df_31 ?_
    refine v_topi (fun y31 e_y31 => ?_)
    obtain rfl : y31 = 70 := by rw [e_y31]; decide
    refine v_callS (c_copyOf_34 (d + 1) hb hf hbc hfr hl9) cs_J5_108 dJ5_ensureCapacityInternal_d00df_32 rfl rfl (Nat.le_of_ble_eq_true rfl) ?_
    rintro _ m1 ⟨rfl, q1, q2⟩
    refine v_put fp_J5_15 dJ5_ensureCapacityInternal_d00df_35 ((q2 45 (Ne.symm hc4)).trans h45) (Nat.le_of_ble_eq_true rfl) (by first | rfl | decide) (by first | rfl | decide) ?_
    refine v_vret dJ5_ensureCapacityInternal_d00df_38 rfl ?_
    exact ⟨rfl, up_s _ _ _, up_n hc4 q1, fun i a b => (up_n a rfl).trans (q2 i b)⟩

set_option maxRecDepth 20000 in
set_option maxHeartbeats 4000000 in
theorem c_enough {G : Cx} (d : Nat) {μ : Hp} {b N n : Nat} {f : Nat → Int32} {ml : Int32} {q : Nat} (h45 : μ 45 = some (sbC b ml n)) (hb : μ b = some (arB N f)) (hN : N < 1000) (hq : q ≤ N) : Ct G (d + 3) 1 70 M_J5_ensureCapacityInternal_d00df [.ref 45, .int (nI q)] μ (Rt none μ) := by
  refine Ct.ofV (by decide +kernel) (Nat.le_of_ble_eq_true rfl) ?_
  refine v_ls (ls' := [(0, .ref 45), (1, .int (nI q))]) rfl ?_
  refine v_aload_n 0 dJ5_ensureCapacityInternal_d00df_0 rfl rfl ?_
  refine v_get fl_J5_15 dJ5_ensureCapacityInternal_d00df_1 h45 rfl ?_
  refine v_alen (v := (nI N)) dJ5_ensureCapacityInternal_d00df_4 hb rfl rfl ?_
  refine v_aload_n 0 dJ5_ensureCapacityInternal_d00df_5 rfl rfl ?_
  refine v_get fl_J5_22 dJ5_ensureCapacityInternal_d00df_6 h45 rfl ?_
  refine v_ishr dJ5_ensureCapacityInternal_d00df_9 ?_
  refine v_istore_n dJ5_ensureCapacityInternal_d00df_10 rfl (by decide) (fun x2 e_x2 => ?_)
  refine v_ls (ls' := [(2, .int x2), (0, .ref 45), (1, .int (nI q))]) rfl ?_
  obtain rfl : x2 = nI N := by rw [e_x2]; exact sb_shr0 (nI N)
  refine v_iload_n 2 dJ5_ensureCapacityInternal_d00df_11 rfl rfl ?_
  refine v_iload_n 0 dJ5_ensureCapacityInternal_d00df_12 rfl rfl ?_
  refine v_isub dJ5_ensureCapacityInternal_d00df_13 ?_
  refine v_if_le (tgt := 38) dJ5_ensureCapacityInternal_d00df_14 (by decide) (fun hc14 => ?_) (fun hc14 => ?_)
  ·
    refine v_vret dJ5_ensureCapacityInternal_d00df_38 rfl ?_
    exact ⟨rfl, rfl⟩
  · exact absurd (sub_le0 hq (by omega)) hc14

theorem c_ens {G : Cx} (d : Nat) {μ : Hp} {t : List Int32} {q : Nat} (h : Sc t.length t μ) (hq : q = t.length + 1 ∨ q = t.length + 2) (h70 : q ≤ 70) : Ct G (d + 3) 1 70 M_J5_ensureCapacityInternal_d00df [.ref 45, .int (nI q)] μ (fun r μ' => r = none ∧ Sc q t μ' ∧ Fw μ' μ) := by
  obtain ⟨w, f, ml, ⟨a1, a2, a3, a4⟩, h45, hB, hP, hN⟩ := h
  by_cases hc : q ≤ capO w
  · refine (c_enough d h45 hB (by have := cap_le w; omega) hc).post (fun r μ' z => ?_)
    obtain ⟨rfl, rfl⟩ := z
    exact ⟨rfl, ⟨w, f, ml, ⟨a1, hc, a3, a4⟩, h45, hB, hP, hN⟩, fun _ _ => rfl⟩
  · match w, a1, a2, h45, hB, hN, hc with
    | 0, _, a2, h45, hB, hN, hc =>
      have a2 : t.length ≤ 16 := a2
      have hc : ¬ q ≤ 16 := hc
      refine (c_grow_16 (b := 46) (cn := 47) d h45 hB a3 (by decide) (by decide) (by decide) (hN 1 (by decide) (by decide)) (by decide) (by omega)).post (fun r μ' z => ?_)
      obtain ⟨rfl, q1, q2, q3⟩ := z
      exact ⟨rfl, ⟨1, _, ml, ⟨by decide, by show q ≤ 34; omega, sb_fitC a3 sb_fit0, a4⟩, q1, q2, fun j hj => by rw [sb_cpy0 (by omega)]; exact hP j hj, fun j u v => (q3 _ (by omega) (by omega)).trans (hN j (by omega) v)⟩, fun i hi => q3 i (by omega) (by omega)⟩
    | 1, _, a2, h45, hB, hN, hc =>
      have a2 : t.length ≤ 34 := a2
      have hc : ¬ q ≤ 34 := hc
      refine (c_grow_34 (b := 47) (cn := 48) d h45 hB a3 (by decide) (by decide) (by decide) (hN 2 (by decide) (by decide)) (by decide) (by omega)).post (fun r μ' z => ?_)
      obtain ⟨rfl, q1, q2, q3⟩ := z
      exact ⟨rfl, ⟨2, _, ml, ⟨by decide, by show q ≤ 70; omega, sb_fitC a3 sb_fit0, a4⟩, q1, q2, fun j hj => by rw [sb_cpy0 (by omega)]; exact hP j hj, fun j u v => absurd v (by omega)⟩, fun i hi => q3 i (by omega) (by omega)⟩
    | 2, _, a2, h45, hB, hN, hc => exact absurd (show q ≤ 70 from h70) hc
