/-! ===== piles as lists ===== -/
def Pl (l : List Int32) (p : Nat → Int32) : Prop := ∀ j, j < l.length → l[j]? = some (p j)
def runO (l : List Int32) (L : LT) : LT := l.foldl (fun L c => passO c L) L
theorem runO_nil (L : LT) : runO [] L = L := rfl
theorem runO_cons (c : Int32) (l : List Int32) (L : LT) : runO (c :: l) L = runO l (passO c L) := rfl
theorem runO_app (a b : List Int32) (L : LT) : runO (a ++ b) L = runO b (runO a L) := List.foldl_append
theorem Pl.at {l : List Int32} {p : Nat → Int32} (h : Pl l p) {j : Nat} (hj : j < l.length) : l[j] = p j := by
  have := h j hj
  rw [List.getElem?_eq_getElem hj] at this
  exact Option.some.inj this
theorem seg_cons {l : List Int32} {p : Nat → Int32} (h : Pl l p) {j b : Nat} (hj : j < (l.take b).length) : (l.take b).drop j = p j :: (l.take b).drop (j + 1) := by
  rw [List.drop_eq_getElem_cons hj, List.getElem_take, h.at (by rw [List.length_take] at hj; omega)]
theorem seg_nil {l : List Int32} {j b : Nat} (hj : (l.take b).length ≤ j) : (l.take b).drop j = [] := List.drop_of_length_le hj
theorem drop_cons {l : List Int32} {p : Nat → Int32} (h : Pl l p) {j : Nat} (hj : j < l.length) : l.drop j = p j :: l.drop (j + 1) := by
  rw [List.drop_eq_getElem_cons hj, h.at hj]
theorem Pl.app {l : List Int32} {p : Nat → Int32} (h : Pl l p) (c : Int32) : Pl (l ++ [c]) (upd p l.length c) := fun j hj => by
  rw [List.length_append, List.length_singleton] at hj
  by_cases e : j = l.length
  · subst e; simp [upd]
  · rw [List.getElem?_append_left (by omega), h j (by omega)]
    simp [upd, e]
theorem Pl.set {l : List Int32} {p : Nat → Int32} (h : Pl l p) (i : Nat) (c : Int32) : Pl (l.set i c) (upd p i c) := fun j hj => by
  rw [List.length_set] at hj
  by_cases e : j = i
  · subst e; rw [List.getElem?_set_self hj]; simp [upd]
  · rw [List.getElem?_set_ne (Ne.symm e), h j hj]; simp [upd, e]
/-- i taken out: what stands at j -/
theorem Pl.erase {l : List Int32} {p q : Nat → Int32} (h : Pl l p) {i : Nat} (hq : ∀ j, j + 1 < l.length → q j = if i ≤ j then p (j + 1) else p j) (hi : i < l.length) : Pl (l.eraseIdx i) q := fun j hj => by
  rw [List.length_eraseIdx_of_lt hi] at hj
  rw [List.getElem?_eraseIdx, hq j (by omega)]
  by_cases e : j < i
  · rw [if_pos e, if_neg (by omega), h j (by omega)]
  · rw [if_neg e, if_pos (by omega), h (j + 1) (by omega)]
theorem Pl.ins {l : List Int32} {p q : Nat → Int32} (h : Pl l p) {i : Nat} {c : Int32} (hi : i ≤ l.length) (hq : ∀ j, j ≤ l.length → q j = if j < i then p j else if j = i then c else p (j - 1)) : Pl (l.insertIdx i c) q := fun j hj => by
  rw [List.length_insertIdx_of_le_length hi] at hj
  rw [List.getElem?_insertIdx, hq j (by omega)]
  by_cases e : j < i
  · rw [if_pos e, if_pos e, h j (by omega)]
  · rw [if_neg e, if_neg e]
    by_cases e2 : j = i
    · rw [if_pos e2, if_pos e2, if_pos (by omega)]
    · rw [if_neg e2, if_neg e2, h (j - 1) (by omega)]
def cntO (c : Int32) (l : List Int32) : Nat := (l.filter (fun x => decide (x = c))).length
def bakO (l : List Int32) : Prop := ∀ c ∈ l, kdO c = 0 ∨ kdO c = 4 ∨ kdO c = 5
abbrev prO (k : Int32) : Int32 := if k = 4 then 1 else if k = 5 then 1 else 0
abbrev spO (k : Int32) : Int32 := if k = 2 then 1 else if k = 3 then 1 else 0
/-- how many of the first n are not -1 -/
def hldO (f : Nat → Int32) : Nat → Nat
  | 0 => 0
  | n + 1 => hldO f n + (if f n = -1 then 0 else 1)
theorem hldO_le (f : Nat → Int32) : ∀ n, hldO f n ≤ n
  | 0 => Nat.le_refl 0
  | n + 1 => by have := hldO_le f n; unfold hldO; split <;> omega
def litO (f : Nat → UInt32) : Nat → Nat
  | 0 => 0
  | n + 1 => litO f n + (if Op.cmpValue (FP.fcmp (f n) FP.fconst0) .l = 0 then 0 else 1)
theorem litO_le (f : Nat → UInt32) : ∀ n, litO f n ≤ n
  | 0 => Nat.le_refl 0
  | n + 1 => by have := litO_le f n; unfold litO; split <;> omega
abbrev rowF (b n : Nat) : Nat → Option Nat := fun i => if i < n then some (b + i) else none
theorem lit_le {m k : Nat} (hm : m < 2 ^ 31) (hk : k < 2 ^ 31) (x : Int32) (hx : x = nI m) : x ≤ nI k ↔ m ≤ k := by subst hx; exact nI_leI hm hk
theorem nI_in' {k n : Nat} (h : k < n) (hn : n < 2 ^ 31 := by decide) : vp_in (nI k) n := vp_in_nI h hn
theorem clamp {k : Nat} (h : k < 2 ^ 31) : (nI k).toNatClampNeg = k := nI_clamp h
theorem nI_sub1 {k : Nat} (h : 0 < k) : nI k - 1 = nI (k - 1) := by
  obtain ⟨j, rfl⟩ : ∃ j, k = j + 1 := ⟨k - 1, by omega⟩
  exact nI_pred j
