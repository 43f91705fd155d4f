/-- 1 if 0 ≤ x < n, else 0 -/
abbrev inO (x n : Int32) : Int32 := if x < 0 then 0 else if n ≤ x then 0 else 1
abbrev taO (k : Int32) : Int32 := if k = 2 then 1 else if k = 3 then 1 else if k = 4 then 1 else 0
abbrev tfO (k : Int32) : Int32 := if k = 0 then 0 else if k = 3 then 0 else 1
abbrev fpO (k : Int32) : Int32 := if k = 0 then 1 else if k = 1 then 1 else 0
abbrev tkO (t k : Int32) : Int32 := if t = 0 then spO k else if t = 1 then if prO k = 0 then 0 else 1 else 1
abbrev frO (v a b : Int64) : Int32 := if v < a then 0 else if b < v then 0 else 1
set_option maxRecDepth 20000 in
set_option maxHeartbeats 4000000 in
theorem c_X6_isKind {G : Cx} (d : Nat) {μ : Hp} {x : Int32}  : Ct G (d) 0 0 M_X6_isKind [.int x] μ (Rt (some (.int (inO x 7))) μ) := by
  refine Ct.ofV (by decide +kernel) (Nat.le_of_ble_eq_true rfl) ?_
  refine v_ls (ls' := [(0, .int x)]) rfl ?_
  refine v_iload_n 0 dX6_isKind_0 rfl rfl ?_
  refine v_if_lt (tgt := 14) dX6_isKind_1 (by decide) (fun c1 => ?_) (fun c1 => ?_)
  ·
    refine v_iconst (v := 0) dX6_isKind_14 (by first | rfl | decide) ?_
    refine v_iret dX6_isKind_15 rfl (by first | rfl | decide | exact nar_b (by first | assumption | rfl)) ?_
    exact ⟨by simp only [inO, taO, tfO, fpO, tkO, frO, if_pos c1, if_neg (Int32.not_le.mpr c1)], rfl⟩
  ·
    refine v_iload_n 0 dX6_isKind_4 rfl rfl ?_
    refine v_bipush (v := 7) dX6_isKind_5 (by first | rfl | decide) ?_
    refine v_icmp_ge (tgt := 14) dX6_isKind_7 (by decide) (fun c7 => ?_) (fun c7 => ?_)
    ·
      refine v_iconst (v := 0) dX6_isKind_14 (by first | rfl | decide) ?_
      refine v_iret dX6_isKind_15 rfl (by first | rfl | decide | exact nar_b (by first | assumption | rfl)) ?_
      exact ⟨by simp only [inO, taO, tfO, fpO, tkO, frO, if_neg c1, if_pos (Int32.not_lt.mp c1), if_pos c7, if_neg (Int32.not_lt.mpr c7)], rfl⟩
    ·
      refine v_iconst (v := 1) dX6_isKind_10 (by first | rfl | decide) ?_
      refine v_goto (tgt := 15) dX6_isKind_11 (by decide) ?_
      refine v_iret dX6_isKind_15 rfl (by first | rfl | decide | exact nar_b (by first | assumption | rfl)) ?_
      exact ⟨by simp only [inO, taO, tfO, fpO, tkO, frO, if_neg c1, if_pos (Int32.not_lt.mp c1), if_neg c7, if_pos (Int32.not_le.mp c7)], rfl⟩

set_option maxRecDepth 20000 in
set_option maxHeartbeats 4000000 in
theorem c_X6_isAngle {G : Cx} (d : Nat) {μ : Hp} {x : Int32}  : Ct G (d) 0 0 M_X6_isAngle [.int x] μ (Rt (some (.int (inO x 4))) μ) := by
  refine Ct.ofV (by decide +kernel) (Nat.le_of_ble_eq_true rfl) ?_
  refine v_ls (ls' := [(0, .int x)]) rfl ?_
  refine v_iload_n 0 dX6_isAngle_0 rfl rfl ?_
  refine v_if_lt (tgt := 13) dX6_isAngle_1 (by decide) (fun c1 => ?_) (fun c1 => ?_)
  ·
    refine v_iconst (v := 0) dX6_isAngle_13 (by first | rfl | decide) ?_
    refine v_iret dX6_isAngle_14 rfl (by first | rfl | decide | exact nar_b (by first | assumption | rfl)) ?_
    exact ⟨by simp only [inO, taO, tfO, fpO, tkO, frO, if_pos c1, if_neg (Int32.not_le.mpr c1)], rfl⟩
  ·
    refine v_iload_n 0 dX6_isAngle_4 rfl rfl ?_
    refine v_iconst (v := 4) dX6_isAngle_5 (by first | rfl | decide) ?_
    refine v_icmp_ge (tgt := 13) dX6_isAngle_6 (by decide) (fun c6 => ?_) (fun c6 => ?_)
    ·
      refine v_iconst (v := 0) dX6_isAngle_13 (by first | rfl | decide) ?_
      refine v_iret dX6_isAngle_14 rfl (by first | rfl | decide | exact nar_b (by first | assumption | rfl)) ?_
      exact ⟨by simp only [inO, taO, tfO, fpO, tkO, frO, if_neg c1, if_pos (Int32.not_lt.mp c1), if_pos c6, if_neg (Int32.not_lt.mpr c6)], rfl⟩
    ·
      refine v_iconst (v := 1) dX6_isAngle_9 (by first | rfl | decide) ?_
      refine v_goto (tgt := 14) dX6_isAngle_10 (by decide) ?_
      refine v_iret dX6_isAngle_14 rfl (by first | rfl | decide | exact nar_b (by first | assumption | rfl)) ?_
      exact ⟨by simp only [inO, taO, tfO, fpO, tkO, frO, if_neg c1, if_pos (Int32.not_lt.mp c1), if_neg c6, if_pos (Int32.not_le.mp c6)], rfl⟩

set_option maxRecDepth 20000 in
set_option maxHeartbeats 4000000 in
theorem c_X6_isFigure {G : Cx} (d : Nat) {μ : Hp} {x : Int32}  : Ct G (d) 0 0 M_X6_isFigure [.int x] μ (Rt (some (.int (inO x 17))) μ) := by
  refine Ct.ofV (by decide +kernel) (Nat.le_of_ble_eq_true rfl) ?_
  refine v_ls (ls' := [(0, .int x)]) rfl ?_
  refine v_iload_n 0 dX6_isFigure_0 rfl rfl ?_
  refine v_if_lt (tgt := 14) dX6_isFigure_1 (by decide) (fun c1 => ?_) (fun c1 => ?_)
  ·
    refine v_iconst (v := 0) dX6_isFigure_14 (by first | rfl | decide) ?_
    refine v_iret dX6_isFigure_15 rfl (by first | rfl | decide | exact nar_b (by first | assumption | rfl)) ?_
    exact ⟨by simp only [inO, taO, tfO, fpO, tkO, frO, if_pos c1, if_neg (Int32.not_le.mpr c1)], rfl⟩
  ·
    refine v_iload_n 0 dX6_isFigure_4 rfl rfl ?_
    refine v_bipush (v := 17) dX6_isFigure_5 (by first | rfl | decide) ?_
    refine v_icmp_ge (tgt := 14) dX6_isFigure_7 (by decide) (fun c7 => ?_) (fun c7 => ?_)
    ·
      refine v_iconst (v := 0) dX6_isFigure_14 (by first | rfl | decide) ?_
      refine v_iret dX6_isFigure_15 rfl (by first | rfl | decide | exact nar_b (by first | assumption | rfl)) ?_
      exact ⟨by simp only [inO, taO, tfO, fpO, tkO, frO, if_neg c1, if_pos (Int32.not_lt.mp c1), if_pos c7, if_neg (Int32.not_lt.mpr c7)], rfl⟩
    ·
      refine v_iconst (v := 1) dX6_isFigure_10 (by first | rfl | decide) ?_
      refine v_goto (tgt := 15) dX6_isFigure_11 (by decide) ?_
      refine v_iret dX6_isFigure_15 rfl (by first | rfl | decide | exact nar_b (by first | assumption | rfl)) ?_
      exact ⟨by simp only [inO, taO, tfO, fpO, tkO, frO, if_neg c1, if_pos (Int32.not_lt.mp c1), if_neg c7, if_pos (Int32.not_le.mp c7)], rfl⟩

set_option maxRecDepth 20000 in
set_option maxHeartbeats 4000000 in
theorem c_X6_isLightPart {G : Cx} (d : Nat) {μ : Hp} {x : Int32}  : Ct G (d) 0 0 M_X6_isLightPart [.int x] μ (Rt (some (.int (inO x 5))) μ) := by
  refine Ct.ofV (by decide +kernel) (Nat.le_of_ble_eq_true rfl) ?_
  refine v_ls (ls' := [(0, .int x)]) rfl ?_
  refine v_iload_n 0 dX6_isLightPart_0 rfl rfl ?_
  refine v_if_lt (tgt := 13) dX6_isLightPart_1 (by decide) (fun c1 => ?_) (fun c1 => ?_)
  ·
    refine v_iconst (v := 0) dX6_isLightPart_13 (by first | rfl | decide) ?_
    refine v_iret dX6_isLightPart_14 rfl (by first | rfl | decide | exact nar_b (by first | assumption | rfl)) ?_
    exact ⟨by simp only [inO, taO, tfO, fpO, tkO, frO, if_pos c1, if_neg (Int32.not_le.mpr c1)], rfl⟩
  ·
    refine v_iload_n 0 dX6_isLightPart_4 rfl rfl ?_
    refine v_iconst (v := 5) dX6_isLightPart_5 (by first | rfl | decide) ?_
    refine v_icmp_ge (tgt := 13) dX6_isLightPart_6 (by decide) (fun c6 => ?_) (fun c6 => ?_)
    ·
      refine v_iconst (v := 0) dX6_isLightPart_13 (by first | rfl | decide) ?_
      refine v_iret dX6_isLightPart_14 rfl (by first | rfl | decide | exact nar_b (by first | assumption | rfl)) ?_
      exact ⟨by simp only [inO, taO, tfO, fpO, tkO, frO, if_neg c1, if_pos (Int32.not_lt.mp c1), if_pos c6, if_neg (Int32.not_lt.mpr c6)], rfl⟩
    ·
      refine v_iconst (v := 1) dX6_isLightPart_9 (by first | rfl | decide) ?_
      refine v_goto (tgt := 14) dX6_isLightPart_10 (by decide) ?_
      refine v_iret dX6_isLightPart_14 rfl (by first | rfl | decide | exact nar_b (by first | assumption | rfl)) ?_
      exact ⟨by simp only [inO, taO, tfO, fpO, tkO, frO, if_neg c1, if_pos (Int32.not_lt.mp c1), if_neg c6, if_pos (Int32.not_le.mp c6)], rfl⟩

set_option maxRecDepth 20000 in
set_option maxHeartbeats 4000000 in
theorem c_X6_isList {G : Cx} (d : Nat) {μ : Hp} {x : Int32}  : Ct G (d) 0 0 M_X6_isList [.int x] μ (Rt (some (.int (inO x 3))) μ) := by
  refine Ct.ofV (by decide +kernel) (Nat.le_of_ble_eq_true rfl) ?_
  refine v_ls (ls' := [(0, .int x)]) rfl ?_
  refine v_iload_n 0 dX6_isList_0 rfl rfl ?_
  refine v_if_lt (tgt := 13) dX6_isList_1 (by decide) (fun c1 => ?_) (fun c1 => ?_)
  ·
    refine v_iconst (v := 0) dX6_isList_13 (by first | rfl | decide) ?_
    refine v_iret dX6_isList_14 rfl (by first | rfl | decide | exact nar_b (by first | assumption | rfl)) ?_
    exact ⟨by simp only [inO, taO, tfO, fpO, tkO, frO, if_pos c1, if_neg (Int32.not_le.mpr c1)], rfl⟩
  ·
    refine v_iload_n 0 dX6_isList_4 rfl rfl ?_
    refine v_iconst (v := 3) dX6_isList_5 (by first | rfl | decide) ?_
    refine v_icmp_ge (tgt := 13) dX6_isList_6 (by decide) (fun c6 => ?_) (fun c6 => ?_)
    ·
      refine v_iconst (v := 0) dX6_isList_13 (by first | rfl | decide) ?_
      refine v_iret dX6_isList_14 rfl (by first | rfl | decide | exact nar_b (by first | assumption | rfl)) ?_
      exact ⟨by simp only [inO, taO, tfO, fpO, tkO, frO, if_neg c1, if_pos (Int32.not_lt.mp c1), if_pos c6, if_neg (Int32.not_lt.mpr c6)], rfl⟩
    ·
      refine v_iconst (v := 1) dX6_isList_9 (by first | rfl | decide) ?_
      refine v_goto (tgt := 14) dX6_isList_10 (by decide) ?_
      refine v_iret dX6_isList_14 rfl (by first | rfl | decide | exact nar_b (by first | assumption | rfl)) ?_
      exact ⟨by simp only [inO, taO, tfO, fpO, tkO, frO, if_neg c1, if_pos (Int32.not_lt.mp c1), if_neg c6, if_pos (Int32.not_le.mp c6)], rfl⟩

set_option maxRecDepth 20000 in
set_option maxHeartbeats 4000000 in
theorem c_X6_isCell {G : Cx} (d : Nat) {μ : Hp} {x : Int32}  : Ct G (d) 0 0 M_X6_isCell [.int x] μ (Rt (some (.int (inO x 8))) μ) := by
  refine Ct.ofV (by decide +kernel) (Nat.le_of_ble_eq_true rfl) ?_
  refine v_ls (ls' := [(0, .int x)]) rfl ?_
  refine v_iload_n 0 dX6_isCell_0 rfl rfl ?_
  refine v_if_lt (tgt := 14) dX6_isCell_1 (by decide) (fun c1 => ?_) (fun c1 => ?_)
  ·
    refine v_iconst (v := 0) dX6_isCell_14 (by first | rfl | decide) ?_
    refine v_iret dX6_isCell_15 rfl (by first | rfl | decide | exact nar_b (by first | assumption | rfl)) ?_
    exact ⟨by simp only [inO, taO, tfO, fpO, tkO, frO, if_pos c1, if_neg (Int32.not_le.mpr c1)], rfl⟩
  ·
    refine v_iload_n 0 dX6_isCell_4 rfl rfl ?_
    refine v_bipush (v := 8) dX6_isCell_5 (by first | rfl | decide) ?_
    refine v_icmp_ge (tgt := 14) dX6_isCell_7 (by decide) (fun c7 => ?_) (fun c7 => ?_)
    ·
      refine v_iconst (v := 0) dX6_isCell_14 (by first | rfl | decide) ?_
      refine v_iret dX6_isCell_15 rfl (by first | rfl | decide | exact nar_b (by first | assumption | rfl)) ?_
      exact ⟨by simp only [inO, taO, tfO, fpO, tkO, frO, if_neg c1, if_pos (Int32.not_lt.mp c1), if_pos c7, if_neg (Int32.not_lt.mpr c7)], rfl⟩
    ·
      refine v_iconst (v := 1) dX6_isCell_10 (by first | rfl | decide) ?_
      refine v_goto (tgt := 15) dX6_isCell_11 (by decide) ?_
      refine v_iret dX6_isCell_15 rfl (by first | rfl | decide | exact nar_b (by first | assumption | rfl)) ?_
      exact ⟨by simp only [inO, taO, tfO, fpO, tkO, frO, if_neg c1, if_pos (Int32.not_lt.mp c1), if_neg c7, if_pos (Int32.not_le.mp c7)], rfl⟩

set_option maxRecDepth 20000 in
set_option maxHeartbeats 4000000 in
theorem c_X6_isRack {G : Cx} (d : Nat) {μ : Hp} {x : Int32}  : Ct G (d) 0 0 M_X6_isRack [.int x] μ (Rt (some (.int (inO x 3))) μ) := by
  refine Ct.ofV (by decide +kernel) (Nat.le_of_ble_eq_true rfl) ?_
  refine v_ls (ls' := [(0, .int x)]) rfl ?_
  refine v_iload_n 0 dX6_isRack_0 rfl rfl ?_
  refine v_if_lt (tgt := 13) dX6_isRack_1 (by decide) (fun c1 => ?_) (fun c1 => ?_)
  ·
    refine v_iconst (v := 0) dX6_isRack_13 (by first | rfl | decide) ?_
    refine v_iret dX6_isRack_14 rfl (by first | rfl | decide | exact nar_b (by first | assumption | rfl)) ?_
    exact ⟨by simp only [inO, taO, tfO, fpO, tkO, frO, if_pos c1, if_neg (Int32.not_le.mpr c1)], rfl⟩
  ·
    refine v_iload_n 0 dX6_isRack_4 rfl rfl ?_
    refine v_iconst (v := 3) dX6_isRack_5 (by first | rfl | decide) ?_
    refine v_icmp_ge (tgt := 13) dX6_isRack_6 (by decide) (fun c6 => ?_) (fun c6 => ?_)
    ·
      refine v_iconst (v := 0) dX6_isRack_13 (by first | rfl | decide) ?_
      refine v_iret dX6_isRack_14 rfl (by first | rfl | decide | exact nar_b (by first | assumption | rfl)) ?_
      exact ⟨by simp only [inO, taO, tfO, fpO, tkO, frO, if_neg c1, if_pos (Int32.not_lt.mp c1), if_pos c6, if_neg (Int32.not_lt.mpr c6)], rfl⟩
    ·
      refine v_iconst (v := 1) dX6_isRack_9 (by first | rfl | decide) ?_
      refine v_goto (tgt := 14) dX6_isRack_10 (by decide) ?_
      refine v_iret dX6_isRack_14 rfl (by first | rfl | decide | exact nar_b (by first | assumption | rfl)) ?_
      exact ⟨by simp only [inO, taO, tfO, fpO, tkO, frO, if_neg c1, if_pos (Int32.not_lt.mp c1), if_neg c6, if_pos (Int32.not_le.mp c6)], rfl⟩

set_option maxRecDepth 20000 in
set_option maxHeartbeats 4000000 in
theorem c_X6_isRackPlace {G : Cx} (d : Nat) {μ : Hp} {x : Int32}  : Ct G (d) 0 0 M_X6_isRackPlace [.int x] μ (Rt (some (.int (inO x 4))) μ) := by
  refine Ct.ofV (by decide +kernel) (Nat.le_of_ble_eq_true rfl) ?_
  refine v_ls (ls' := [(0, .int x)]) rfl ?_
  refine v_iload_n 0 dX6_isRackPlace_0 rfl rfl ?_
  refine v_if_lt (tgt := 13) dX6_isRackPlace_1 (by decide) (fun c1 => ?_) (fun c1 => ?_)
  ·
    refine v_iconst (v := 0) dX6_isRackPlace_13 (by first | rfl | decide) ?_
    refine v_iret dX6_isRackPlace_14 rfl (by first | rfl | decide | exact nar_b (by first | assumption | rfl)) ?_
    exact ⟨by simp only [inO, taO, tfO, fpO, tkO, frO, if_pos c1, if_neg (Int32.not_le.mpr c1)], rfl⟩
  ·
    refine v_iload_n 0 dX6_isRackPlace_4 rfl rfl ?_
    refine v_iconst (v := 4) dX6_isRackPlace_5 (by first | rfl | decide) ?_
    refine v_icmp_ge (tgt := 13) dX6_isRackPlace_6 (by decide) (fun c6 => ?_) (fun c6 => ?_)
    ·
      refine v_iconst (v := 0) dX6_isRackPlace_13 (by first | rfl | decide) ?_
      refine v_iret dX6_isRackPlace_14 rfl (by first | rfl | decide | exact nar_b (by first | assumption | rfl)) ?_
      exact ⟨by simp only [inO, taO, tfO, fpO, tkO, frO, if_neg c1, if_pos (Int32.not_lt.mp c1), if_pos c6, if_neg (Int32.not_lt.mpr c6)], rfl⟩
    ·
      refine v_iconst (v := 1) dX6_isRackPlace_9 (by first | rfl | decide) ?_
      refine v_goto (tgt := 14) dX6_isRackPlace_10 (by decide) ?_
      refine v_iret dX6_isRackPlace_14 rfl (by first | rfl | decide | exact nar_b (by first | assumption | rfl)) ?_
      exact ⟨by simp only [inO, taO, tfO, fpO, tkO, frO, if_neg c1, if_pos (Int32.not_lt.mp c1), if_neg c6, if_pos (Int32.not_le.mp c6)], rfl⟩

set_option maxRecDepth 20000 in
set_option maxHeartbeats 4000000 in
theorem c_X6_isFractionPart {G : Cx} (d : Nat) {μ : Hp} {x : Int32}  : Ct G (d) 0 0 M_X6_isFractionPart [.int x] μ (Rt (some (.int (fpO x))) μ) := by
  refine Ct.ofV (by decide +kernel) (Nat.le_of_ble_eq_true rfl) ?_
  refine v_ls (ls' := [(0, .int x)]) rfl ?_
  refine v_iload_n 0 dX6_isFractionPart_0 rfl rfl ?_
  refine v_if_eq (tgt := 9) dX6_isFractionPart_1 (by decide) (fun c1 => ?_) (fun c1 => ?_)
  ·
    refine v_iconst (v := 1) dX6_isFractionPart_9 (by first | rfl | decide) ?_
    refine v_goto (tgt := 14) dX6_isFractionPart_10 (by decide) ?_
    refine v_iret dX6_isFractionPart_14 rfl (by first | rfl | decide | exact nar_b (by first | assumption | rfl)) ?_
    exact ⟨by simp only [inO, taO, tfO, fpO, tkO, frO, if_pos c1], rfl⟩
  ·
    refine v_iload_n 0 dX6_isFractionPart_4 rfl rfl ?_
    refine v_iconst (v := 1) dX6_isFractionPart_5 (by first | rfl | decide) ?_
    refine v_icmp_ne (tgt := 13) dX6_isFractionPart_6 (by decide) (fun c6 => ?_) (fun c6 => ?_)
    ·
      refine v_iconst (v := 0) dX6_isFractionPart_13 (by first | rfl | decide) ?_
      refine v_iret dX6_isFractionPart_14 rfl (by first | rfl | decide | exact nar_b (by first | assumption | rfl)) ?_
      exact ⟨by simp only [inO, taO, tfO, fpO, tkO, frO, if_neg c1, if_neg c6], rfl⟩
    ·
      refine v_iconst (v := 1) dX6_isFractionPart_9 (by first | rfl | decide) ?_
      refine v_goto (tgt := 14) dX6_isFractionPart_10 (by decide) ?_
      refine v_iret dX6_isFractionPart_14 rfl (by first | rfl | decide | exact nar_b (by first | assumption | rfl)) ?_
      exact ⟨by simp only [inO, taO, tfO, fpO, tkO, frO, if_neg c1, if_pos c6], rfl⟩

set_option maxRecDepth 20000 in
set_option maxHeartbeats 4000000 in
theorem c_X6_tellsAngle {G : Cx} (d : Nat) {μ : Hp} {x : Int32}  : Ct G (d) 0 0 M_X6_tellsAngle [.int x] μ (Rt (some (.int (taO x))) μ) := by
  refine Ct.ofV (by decide +kernel) (Nat.le_of_ble_eq_true rfl) ?_
  refine v_ls (ls' := [(0, .int x)]) rfl ?_
  refine v_iload_n 0 dX6_tellsAngle_0 rfl rfl ?_
  refine v_iconst (v := 2) dX6_tellsAngle_1 (by first | rfl | decide) ?_
  refine v_icmp_eq (tgt := 15) dX6_tellsAngle_2 (by decide) (fun c2 => ?_) (fun c2 => ?_)
  ·
    refine v_iconst (v := 1) dX6_tellsAngle_15 (by first | rfl | decide) ?_
    refine v_goto (tgt := 20) dX6_tellsAngle_16 (by decide) ?_
    refine v_iret dX6_tellsAngle_20 rfl (by first | rfl | decide | exact nar_b (by first | assumption | rfl)) ?_
    exact ⟨by simp only [inO, taO, tfO, fpO, tkO, frO, if_pos c2], rfl⟩
  ·
    refine v_iload_n 0 dX6_tellsAngle_5 rfl rfl ?_
    refine v_iconst (v := 3) dX6_tellsAngle_6 (by first | rfl | decide) ?_
    refine v_icmp_eq (tgt := 15) dX6_tellsAngle_7 (by decide) (fun c7 => ?_) (fun c7 => ?_)
    ·
      refine v_iconst (v := 1) dX6_tellsAngle_15 (by first | rfl | decide) ?_
      refine v_goto (tgt := 20) dX6_tellsAngle_16 (by decide) ?_
      refine v_iret dX6_tellsAngle_20 rfl (by first | rfl | decide | exact nar_b (by first | assumption | rfl)) ?_
      exact ⟨by simp only [inO, taO, tfO, fpO, tkO, frO, if_neg c2, if_pos c7], rfl⟩
    ·
      refine v_iload_n 0 dX6_tellsAngle_10 rfl rfl ?_
      refine v_iconst (v := 4) dX6_tellsAngle_11 (by first | rfl | decide) ?_
      refine v_icmp_ne (tgt := 19) dX6_tellsAngle_12 (by decide) (fun c12 => ?_) (fun c12 => ?_)
      ·
        refine v_iconst (v := 0) dX6_tellsAngle_19 (by first | rfl | decide) ?_
        refine v_iret dX6_tellsAngle_20 rfl (by first | rfl | decide | exact nar_b (by first | assumption | rfl)) ?_
        exact ⟨by simp only [inO, taO, tfO, fpO, tkO, frO, if_neg c2, if_neg c7, if_neg c12], rfl⟩
      ·
        refine v_iconst (v := 1) dX6_tellsAngle_15 (by first | rfl | decide) ?_
        refine v_goto (tgt := 20) dX6_tellsAngle_16 (by decide) ?_
        refine v_iret dX6_tellsAngle_20 rfl (by first | rfl | decide | exact nar_b (by first | assumption | rfl)) ?_
        exact ⟨by simp only [inO, taO, tfO, fpO, tkO, frO, if_neg c2, if_neg c7, if_pos c12], rfl⟩

set_option maxRecDepth 20000 in
set_option maxHeartbeats 4000000 in
theorem c_X6_tellsFigure {G : Cx} (d : Nat) {μ : Hp} {x : Int32}  : Ct G (d) 0 0 M_X6_tellsFigure [.int x] μ (Rt (some (.int (tfO x))) μ) := by
  refine Ct.ofV (by decide +kernel) (Nat.le_of_ble_eq_true rfl) ?_
  refine v_ls (ls' := [(0, .int x)]) rfl ?_
  refine v_iload_n 0 dX6_tellsFigure_0 rfl rfl ?_
  refine v_if_eq (tgt := 13) dX6_tellsFigure_1 (by decide) (fun c1 => ?_) (fun c1 => ?_)
  ·
    refine v_iconst (v := 0) dX6_tellsFigure_13 (by first | rfl | decide) ?_
    refine v_iret dX6_tellsFigure_14 rfl (by first | rfl | decide | exact nar_b (by first | assumption | rfl)) ?_
    exact ⟨by simp only [inO, taO, tfO, fpO, tkO, frO, if_pos c1], rfl⟩
  ·
    refine v_iload_n 0 dX6_tellsFigure_4 rfl rfl ?_
    refine v_iconst (v := 3) dX6_tellsFigure_5 (by first | rfl | decide) ?_
    refine v_icmp_eq (tgt := 13) dX6_tellsFigure_6 (by decide) (fun c6 => ?_) (fun c6 => ?_)
    ·
      refine v_iconst (v := 0) dX6_tellsFigure_13 (by first | rfl | decide) ?_
      refine v_iret dX6_tellsFigure_14 rfl (by first | rfl | decide | exact nar_b (by first | assumption | rfl)) ?_
      exact ⟨by simp only [inO, taO, tfO, fpO, tkO, frO, if_neg c1, if_pos c6], rfl⟩
    ·
      refine v_iconst (v := 1) dX6_tellsFigure_9 (by first | rfl | decide) ?_
      refine v_goto (tgt := 14) dX6_tellsFigure_10 (by decide) ?_
      refine v_iret dX6_tellsFigure_14 rfl (by first | rfl | decide | exact nar_b (by first | assumption | rfl)) ?_
      exact ⟨by simp only [inO, taO, tfO, fpO, tkO, frO, if_neg c1, if_neg c6], rfl⟩

set_option maxRecDepth 20000 in
set_option maxHeartbeats 4000000 in
theorem c_X6_withAngle {G : Cx} (d : Nat) {μ : Hp} {c a : Int32}  : Ct G (d + 1) 0 0 M_X6_withAngle [.int c, .int a] μ (Rt (some (.int (cdO (kdO c) a (fgO c)))) μ) := by
  refine Ct.ofV (by decide +kernel) (Nat.le_of_ble_eq_true rfl) ?_
  refine v_ls (ls' := [(0, .int c), (1, .int a)]) rfl ?_
  refine v_iload_n 0 dX6_withAngle_0 rfl rfl ?_
  refine v_callS (c_X6_kindOf d ) cs_X6_144 dX6_withAngle_1 rfl rfl (Nat.le_of_ble_eq_true rfl) ?_
  refine rt_k ?_
  refine v_iload_n 1 dX6_withAngle_4 rfl rfl ?_
  refine v_iload_n 0 dX6_withAngle_5 rfl rfl ?_
  refine v_callS (c_X6_figureOf d ) cs_X6_150 dX6_withAngle_6 rfl rfl (Nat.le_of_ble_eq_true rfl) ?_
  refine rt_k ?_
  refine v_callS (c_X6_codeOf d ) cs_X6_103 dX6_withAngle_9 rfl rfl (Nat.le_of_ble_eq_true rfl) ?_
  refine rt_k ?_
  refine v_iret dX6_withAngle_12 rfl (by first | rfl | decide | exact nar_b (by first | assumption | rfl)) ?_
  exact ⟨rfl, rfl⟩

set_option maxRecDepth 20000 in
set_option maxHeartbeats 4000000 in
theorem c_X6_backwards {G : Cx} (d : Nat) {μ : Hp} {c : Int32}  : Ct G (d + 2) 0 0 M_X6_backwards [.int c] μ (Rt (some (.int (cdO (kdO c) (anO c) (4 - qtO c)))) μ) := by
  refine Ct.ofV (by decide +kernel) (Nat.le_of_ble_eq_true rfl) ?_
  refine v_ls (ls' := [(0, .int c)]) rfl ?_
  refine v_iload_n 0 dX6_backwards_0 rfl rfl ?_
  refine v_callS (c_X6_kindOf (d + 1) ) cs_X6_144 dX6_backwards_1 rfl rfl (Nat.le_of_ble_eq_true rfl) ?_
  refine rt_k ?_
  refine v_iload_n 0 dX6_backwards_4 rfl rfl ?_
  refine v_callS (c_X6_angleOf (d + 1) ) cs_X6_121 dX6_backwards_5 rfl rfl (Nat.le_of_ble_eq_true rfl) ?_
  refine rt_k ?_
  refine v_iconst (v := 4) dX6_backwards_8 (by first | rfl | decide) ?_
  refine v_iload_n 0 dX6_backwards_9 rfl rfl ?_
  refine v_callS (c_X6_quartersOf d ) cs_X6_162 dX6_backwards_10 rfl rfl (Nat.le_of_ble_eq_true rfl) ?_
  refine rt_k ?_
  refine v_isub dX6_backwards_13 ?_
  refine v_callS (c_X6_codeOf (d + 1) ) cs_X6_103 dX6_backwards_14 rfl rfl (Nat.le_of_ble_eq_true rfl) ?_
  refine rt_k ?_
  refine v_iret dX6_backwards_17 rfl (by first | rfl | decide | exact nar_b (by first | assumption | rfl)) ?_
  exact ⟨rfl, rfl⟩

set_option maxRecDepth 20000 in
set_option maxHeartbeats 4000000 in
theorem c_X6_takesKind {G : Cx} (d : Nat) {μ : Hp} {t k : Int32}  : Ct G (d + 1) 0 0 M_X6_takesKind [.int t, .int k] μ (Rt (some (.int (tkO t k))) μ) := by
  refine Ct.ofV (by decide +kernel) (Nat.le_of_ble_eq_true rfl) ?_
  refine v_ls (ls' := [(0, .int t), (1, .int k)]) rfl ?_
  refine v_iload_n 0 dX6_takesKind_0 rfl rfl ?_
  refine v_if_ne (tgt := 9) dX6_takesKind_1 (by decide) (fun c1 => ?_) (fun c1 => ?_)
  ·
    refine v_iload_n 0 dX6_takesKind_9 rfl rfl ?_
    refine v_iconst (v := 1) dX6_takesKind_10 (by first | rfl | decide) ?_
    refine v_icmp_ne (tgt := 21) dX6_takesKind_11 (by decide) (fun c11 => ?_) (fun c11 => ?_)
    ·
      refine v_iconst (v := 1) dX6_takesKind_21 (by first | rfl | decide) ?_
      refine v_goto (tgt := 26) dX6_takesKind_22 (by decide) ?_
      refine v_iret dX6_takesKind_26 rfl (by first | rfl | decide | exact nar_b (by first | assumption | rfl)) ?_
      exact ⟨by simp only [inO, taO, tfO, fpO, tkO, frO, if_neg c1, if_neg c11], rfl⟩
    ·
      refine v_iload_n 1 dX6_takesKind_14 rfl rfl ?_
      refine v_callS (c_X6_isPlateOrRotator d ) cs_X6_159 dX6_takesKind_15 rfl rfl (Nat.le_of_ble_eq_true rfl) ?_
      refine rt_k ?_
      refine v_if_eq (tgt := 25) dX6_takesKind_18 (by decide) (fun c18 => ?_) (fun c18 => ?_)
      ·
        refine v_iconst (v := 0) dX6_takesKind_25 (by first | rfl | decide) ?_
        refine v_iret dX6_takesKind_26 rfl (by first | rfl | decide | exact nar_b (by first | assumption | rfl)) ?_
        exact ⟨by simp only [inO, taO, tfO, fpO, tkO, frO, if_neg c1, if_pos c11, if_pos c18], rfl⟩
      ·
        refine v_iconst (v := 1) dX6_takesKind_21 (by first | rfl | decide) ?_
        refine v_goto (tgt := 26) dX6_takesKind_22 (by decide) ?_
        refine v_iret dX6_takesKind_26 rfl (by first | rfl | decide | exact nar_b (by first | assumption | rfl)) ?_
        exact ⟨by simp only [inO, taO, tfO, fpO, tkO, frO, if_neg c1, if_pos c11, if_neg c18], rfl⟩
  ·
    refine v_iload_n 1 dX6_takesKind_4 rfl rfl ?_
    refine v_callS (c_X6_isSheetOrPolar d ) cs_X6_147 dX6_takesKind_5 rfl rfl (Nat.le_of_ble_eq_true rfl) ?_
    refine rt_k ?_
    refine v_iret dX6_takesKind_8 rfl (by unfold spO; split <;> (try split) <;> decide) ?_
    exact ⟨by simp only [inO, taO, tfO, fpO, tkO, frO, if_pos c1], rfl⟩

set_option maxRecDepth 20000 in
set_option maxHeartbeats 4000000 in
theorem c_X6_isFrom {G : Cx} (d : Nat) {μ : Hp} {v a b : Int64}  : Ct G (d) 0 0 M_X6_isFrom [.long v, .long a, .long b] μ (Rt (some (.int (frO v a b))) μ) := by
  refine Ct.ofV (by decide +kernel) (Nat.le_of_ble_eq_true rfl) ?_
  refine v_ls (ls' := [(0, .long v), (2, .long a), (4, .long b)]) rfl ?_
  refine v_lload_n 0 dX6_isFrom_0 rfl rfl ?_
  refine v_lload_n 1 dX6_isFrom_1 rfl rfl ?_
  refine v_lc_lt (tgt := 17) dX6_isFrom_2 dX6_isFrom_3 (by decide) (fun c2 => ?_) (fun c2 => ?_)
  ·
    refine v_iconst (v := 0) dX6_isFrom_17 (by first | rfl | decide) ?_
    refine v_iret dX6_isFrom_18 rfl (by first | rfl | decide | exact nar_b (by first | assumption | rfl)) ?_
    exact ⟨by simp only [inO, taO, tfO, fpO, tkO, frO, if_pos c2, if_neg (Int64.not_le.mpr c2)], rfl⟩
  ·
    refine v_lload_n 0 dX6_isFrom_6 rfl rfl ?_
    refine v_lload 2 dX6_isFrom_7 rfl ?_
    refine v_lc_gt (tgt := 17) dX6_isFrom_9 dX6_isFrom_10 (by decide) (fun c9 => ?_) (fun c9 => ?_)
    ·
      refine v_iconst (v := 0) dX6_isFrom_17 (by first | rfl | decide) ?_
      refine v_iret dX6_isFrom_18 rfl (by first | rfl | decide | exact nar_b (by first | assumption | rfl)) ?_
      exact ⟨by simp only [inO, taO, tfO, fpO, tkO, frO, if_neg c2, if_pos (Int64.not_lt.mp c2), if_pos c9, if_neg (Int64.not_le.mpr c9)], rfl⟩
    ·
      refine v_iconst (v := 1) dX6_isFrom_13 (by first | rfl | decide) ?_
      refine v_goto (tgt := 18) dX6_isFrom_14 (by decide) ?_
      refine v_iret dX6_isFrom_18 rfl (by first | rfl | decide | exact nar_b (by first | assumption | rfl)) ?_
      exact ⟨by simp only [inO, taO, tfO, fpO, tkO, frO, if_neg c2, if_pos (Int64.not_lt.mp c2), if_neg c9, if_pos (Int64.not_lt.mp c9)], rfl⟩

def fraO (a b : Int64) (part : Int32) : Int64 := if gcdO a b < 1 then -9223372036854775808 else if part = 0 then a / gcdO a b else b / gcdO a b
set_option maxRecDepth 20000 in
set_option maxHeartbeats 4000000 in
theorem c_X6_fraction {G : Cx} (d : Nat) {μ : Hp} {a b : Int64} {part : Int32}  : Ct G (d + 2) 0 0 M_X6_fraction [.long a, .long b, .int part] μ (Rt (some (.long (fraO a b part))) μ) := by
  refine Ct.ofV (by decide +kernel) (Nat.le_of_ble_eq_true rfl) ?_
  refine v_ls (ls' := [(0, .long a), (2, .long b), (4, .int part)]) rfl ?_
  refine v_lload_n 0 dX6_fraction_0 rfl rfl ?_
  refine v_lload_n 1 dX6_fraction_1 rfl rfl ?_
  refine v_callS (c_X6_commonDivisor d ) cs_X6_409 dX6_fraction_2 rfl rfl (Nat.le_of_ble_eq_true rfl) ?_
  refine rt_k ?_
  refine v_lstore dX6_fraction_5 (by decide) (fun x5_1 e_x5_1 => ?_)
  refine v_ls (ls' := [(5, .long x5_1), (0, .long a), (2, .long b), (4, .int part)]) rfl ?_
  subst e_x5_1
  refine v_lload 0 dX6_fraction_7 rfl ?_
  refine v_lconst (v := 1) dX6_fraction_9 (by first | rfl | decide) ?_
  refine v_lc_ge (tgt := 18) dX6_fraction_10 dX6_fraction_11 (by decide) (fun c10 => ?_) (fun c10 => ?_)
  ·
    refine v_iload 3 dX6_fraction_18 rfl ?_
    refine v_if_ne (tgt := 30) dX6_fraction_20 (by decide) (fun c20 => ?_) (fun c20 => ?_)
    ·
      refine v_lload_n 2 dX6_fraction_30 rfl rfl ?_
      refine v_lload 0 dX6_fraction_31 rfl ?_
      refine v_ldiv dX6_fraction_33 (fun z => by rw [z] at c10; exact absurd c10 (by decide)) ?_
      refine v_lret dX6_fraction_34 rfl ?_
      exact ⟨by simp only [fraO, if_pos c10, if_neg (Int64.not_lt.mpr c10), if_neg c20], rfl⟩
    ·
      refine v_lload_n 1 dX6_fraction_23 rfl rfl ?_
      refine v_lload 0 dX6_fraction_24 rfl ?_
      refine v_ldiv dX6_fraction_26 (fun z => by rw [z] at c10; exact absurd c10 (by decide)) ?_
      refine v_goto (tgt := 34) dX6_fraction_27 (by decide) ?_
      refine v_lret dX6_fraction_34 rfl ?_
      exact ⟨by simp only [fraO, if_pos c10, if_neg (Int64.not_lt.mpr c10), if_pos c20], rfl⟩
  ·
    refine v_ldc2 kc_X6_174 dX6_fraction_14 ?_
    refine v_lret dX6_fraction_17 rfl ?_
    exact ⟨by simp only [fraO, if_neg c10, if_pos (Int64.not_le.mp c10)], rfl⟩

