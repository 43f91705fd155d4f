/-! ===== the pure picture of light ===== -/
/-- i, q, u, v, e -/
abbrev LT : Type := Int64 × Int64 × Int64 × Int64 × Int32
abbrev ligL (L : LT) : va_E := .inr (2, [.long L.1, .long L.2.1, .long L.2.2.1, .long L.2.2.2.1, .int L.2.2.2.2])
abbrev benC (lr pr : Nat) (n : Int32) (cr rr tr : Nat) : va_E := .inr (1, [.ref lr, .ref pr, .int n, .ref cr, .ref rr, .ref tr])
abbrev arI (n : Nat) (f : Nat → Int32) : va_E := .inl (0, (n, .inl f))
abbrev arJ (n : Nat) (f : Nat → Int64) : va_E := .inl (1, (n, .inr (.inl f)))
abbrev arF (n : Nat) (f : Nat → UInt32) : va_E := .inl (2, (n, .inr (.inr (.inl f))))
abbrev arB (n : Nat) (f : Nat → Int32) : va_E := .inl (3, (n, .inl f))
abbrev arR (t n : Nat) (f : Nat → Option Nat) : va_E := .inl (t, (n, .inr (.inr (.inr (.inr f)))))
abbrev irem (x y : Int32) : Int32 := x - x / y * y
abbrev lrem (x y : Int64) : Int64 := x - x / y * y
abbrev kdO (c : Int32) : Int32 := c / 1000
abbrev anO (c : Int32) : Int32 := irem (c / 100) 10
abbrev fgO (c : Int32) : Int32 := irem c 100
abbrev cdO (k a f : Int32) : Int32 := 1000 * k + 100 * a + f
abbrev qtO (c : Int32) : Int32 := irem (fgO c) 4
abbrev alO (c : Int32) : Int32 := if kdO c = 3 then 4 else fgO c / 4
abbrev acO (c : Int32) : Int32 := if kdO c = 3 then 0 else irem (fgO c) 4
abbrev wiO (i p : Int64) : Int32 := if p < -i then 0 else if i < p then 0 else 1
abbrev sqO (L : LT) : Int64 := L.2.1 * L.2.1 + L.2.2.1 * L.2.2.1 + L.2.2.2.1 * L.2.2.2.1
def mayO (L : LT) : Int32 := if L.1 < 0 then 0 else if wiO L.1 L.2.1 = 0 then 0 else if wiO L.1 L.2.2.1 = 0 then 0 else if wiO L.1 L.2.2.2.1 = 0 then 0 else if L.1 * L.1 < sqO L then 0 else 1
def likeO (L K : LT) : Int32 := if L.1 = K.1 then if L.2.1 = K.2.1 then if L.2.2.1 = K.2.2.1 then if L.2.2.2.1 = K.2.2.2.1 then if L.2.2.2.2 = K.2.2.2.2 then 1 else 0 else 0 else 0 else 0 else 0
def partO (L : LT) (k : Int32) : Int64 := if k = 0 then L.1 else if k = 1 then L.2.1 else if k = 2 then L.2.2.1 else if k = 3 then L.2.2.2.1 else L.2.2.2.2.toInt64
def unitO (c : Int32) : LT := (if c = 0 then 1 else 0, if c = 1 then 1 else 0, if c = 2 then 1 else 0, if c = 3 then 1 else 0, 0)
def greyO (x y : Int32) (L : LT) : LT := (x.toInt64 * L.1, y.toInt64 * L.2.1, y.toInt64 * L.2.2.1, y.toInt64 * L.2.2.2.1, L.2.2.2.2 + 4)
def turnO (a : Int32) (L : LT) : LT := if a = 0 then (L.1, L.2.1, L.2.2.2.1, -L.2.2.1, L.2.2.2.2) else if a = 1 then (L.1, -L.2.2.2.1, L.2.2.1, L.2.1, L.2.2.2.2) else if a = 2 then (L.1, L.2.1, -L.2.2.2.1, L.2.2.1, L.2.2.2.2) else if a = 3 then (L.1, L.2.2.2.1, L.2.2.1, -L.2.1, L.2.2.2.2) else (L.1, -L.2.2.1, L.2.1, L.2.2.2.1, L.2.2.2.2)
def turnsO : Nat → Int32 → LT → LT
  | 0, _, L => L
  | n + 1, a, L => turnsO n a (turnO a L)
/-- a SHEET: angle, along, across -/
def sheetO (g a b : Int32) (L : LT) : LT :=
  let s := (a * a + b * b).toInt64
  let f := (a * a - b * b).toInt64
  let t := (2 * a * b).toInt64
  let sg : Int64 := if g < 2 then 1 else -1
  if irem g 2 = 0 then
    let p := sg * L.2.1
    (s * L.1 + f * p, sg * (f * L.1 + s * p), t * L.2.2.1, t * L.2.2.2.1, L.2.2.2.2 + 5)
  else
    let p := sg * L.2.2.1
    (s * L.1 + f * p, t * L.2.1, sg * (f * L.1 + s * p), t * L.2.2.2.1, L.2.2.2.2 + 5)
abbrev evnO (L : LT) : Prop := (((L.1 ||| L.2.1) ||| L.2.2.1) ||| L.2.2.2.1) &&& 1 = 0
def halfO (L : LT) : LT := (L.1 >>> ((1 : Int32).toInt64 &&& 63), L.2.1 >>> ((1 : Int32).toInt64 &&& 63), L.2.2.1 >>> ((1 : Int32).toInt64 &&& 63), L.2.2.2.1 >>> ((1 : Int32).toInt64 &&& 63), L.2.2.2.2 - 1)
def lowN : Nat → LT → LT
  | 0, L => L
  | n + 1, L => if L.2.2.2.2 ≤ 0 then L else if evnO L then lowN n (halfO L) else L
def lowO (L : LT) : LT := lowN L.2.2.2.2.toNatClampNeg L
def goO (c : Int32) (L : LT) : LT := if kdO c = 1 then greyO (fgO c) (fgO c) L else if kdO c = 2 then sheetO (anO c) (alO c) (acO c) L else if kdO c = 3 then sheetO (anO c) (alO c) (acO c) L else if kdO c = 4 then turnsO (qtO c).toNatClampNeg (if kdO c = 5 then 4 else anO c) L else if kdO c = 5 then turnsO (qtO c).toNatClampNeg (if kdO c = 5 then 4 else anO c) L else if kdO c = 6 then greyO 16 (fgO c) L else L
def passO (c : Int32) (L : LT) : LT := lowO (goO c L)
abbrev maxO (a b : Int32) : Int32 := if a < b then b else a
abbrev absO (a : Int64) : Int64 := if 0 ≤ a then a else -a
abbrev cmpO (x y : Int64) : Int32 := if y ≤ x then if x = y then 0 else 1 else -1
abbrev shlO (x : Int64) (y : Int32) : Int64 := x <<< (y.toInt64 &&& 63)
def cmpI (L K : LT) : Int32 := cmpO (shlO L.1 (maxO L.2.2.2.2 K.2.2.2.2 - L.2.2.2.2)) (shlO K.1 (maxO L.2.2.2.2 K.2.2.2.2 - K.2.2.2.2))
def gcdN : Nat → Int64 → Int64 → Int64
  | 0, g, _ => g
  | n + 1, g, r => if r = 0 then g else gcdN n r (lrem g r)
def gcdO (a b : Int64) : Int64 := gcdN 200 (absO a) (absO b)
def shrO (L : LT) : LT :=
  let c := gcdO (gcdO L.1 L.2.1) (gcdO L.2.2.1 L.2.2.2.1)
  if c ≤ 1 then L else (L.1 / c, L.2.1 / c, L.2.2.1 / c, L.2.2.2.1 / c, L.2.2.2.2)
abbrev ovrO (p : Int64) : Int32 := if 3037000499 < p then 1 else if p < -3037000499 then 1 else 0
def fstO (L : LT) : Int32 := if ovrO L.2.1 = 0 then if ovrO L.2.2.1 = 0 then if ovrO L.2.2.2.1 = 0 then if 9223372036854775807 - L.2.1 * L.2.1 < L.2.2.1 * L.2.2.1 then 3 else if 9223372036854775807 - L.2.1 * L.2.1 - L.2.2.1 * L.2.2.1 < L.2.2.2.1 * L.2.2.2.1 then 4 else if ovrO L.1 = 0 then -1 else 5 else 2 else 1 else 0
theorem tnc_pos {x : Int32} (h : ¬ x ≤ 0) : ∃ n, x.toNatClampNeg = n + 1 ∧ (x - 1).toNatClampNeg = n := by
  rw [Int32.le_iff_toInt_le, Int32.toInt_zero] at h
  have h1 : (x - 1).toInt = x.toInt - 1 := by
    rw [Int32.toInt_sub]
    have := x.toInt_lt
    exact Int.bmod_eq_of_le (by simp; omega) (by simp; omega)
  refine ⟨(x - 1).toNatClampNeg, ?_, rfl⟩
  rw [show x.toNatClampNeg = x.toInt.toNat from rfl, show (x - 1).toNatClampNeg = (x - 1).toInt.toNat from rfl, h1]
  omega
theorem tnc_lt (x : Int32) : x.toNatClampNeg < 2 ^ 31 := by
  rw [show x.toNatClampNeg = x.toInt.toNat from rfl]
  have := x.toInt_lt
  omega
theorem le_nI {q : Int32} {k : Nat} (hk : k < 2 ^ 31) : q ≤ nI k ↔ q.toNatClampNeg ≤ k := by
  rw [Int32.le_iff_toInt_le, nI_toInt hk, show q.toNatClampNeg = q.toInt.toNat from rfl]
  omega
theorem lt_nI {q : Int32} {k : Nat} (hk : k < 2 ^ 31) : nI k < q ↔ k < q.toNatClampNeg := by
  rw [Int32.lt_iff_toInt_lt, nI_toInt hk, show q.toNatClampNeg = q.toInt.toNat from rfl]
  omega
