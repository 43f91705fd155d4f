/-! ===== the pure reader of a TEXT ===== -/
/-- place, places of the open GROUPS, FILTERS so far -/
abbrev PS : Type := Nat × List Nat × List Int32
abbrev nxP (tp : List Int32) (k : Nat) : Int32 := tp.getD k 0
def ixP (c : Int32) : Int32 := if c = 103 then 0 else if c = 121 then 1 else if c = 115 then 2 else if c = 112 then 3 else if c = 119 then 4 else if c = 114 then 5 else if c = 102 then 6 else -1
/-- a figure no more than most, or -1 -/
def figP (tp : List Int32) (k : Nat) (most : Int32) : Int32 := if nxP tp k - 48 < 0 then -1 else if nxP tp k - 48 ≤ most then nxP tp k - 48 else -1
/-- a number of one or two figures, or -1; the place behind it (or of the fault) -/
def numP (tp : List Int32) (k : Nat) : Int32 × Nat := if figP tp k 9 < 0 then (-1, k) else if figP tp (k + 1) 9 < 0 then (figP tp k 9, k + 1) else if inO (10 * figP tp k 9 + figP tp (k + 1) 9) 17 = 0 then (-1, k + 1) else (10 * figP tp k 9 + figP tp (k + 1) 9, k + 2)
/-- the FIGURE of a FILTER, where its letter tells one; then it is kept -/
def filN (tp : List Int32) (kind angle : Int32) (s : PS) : Bool × PS := if tfO kind = 0 then (true, (s.1, s.2.1, s.2.2 ++ [cdO kind angle 0])) else if (numP tp s.1).1 < 0 then (false, ((numP tp s.1).2, s.2)) else (true, ((numP tp s.1).2, s.2.1, s.2.2 ++ [cdO kind angle (numP tp s.1).1]))
def filP (tp : List Int32) (kind : Int32) (s : PS) : Bool × PS := if taO kind = 0 then filN tp kind 0 s else if figP tp s.1 3 < 0 then (false, s) else if tfO kind = 0 then filN tp kind (figP tp s.1 3) (s.1 + 1, s.2) else if nxP tp (s.1 + 1) = 44 then filN tp kind (figP tp s.1 3) (s.1 + 2, s.2) else (false, (s.1 + 1, s.2))
def rptP : Nat → Nat → List Int32 → List Int32
  | 0, _, cs => cs
  | m + 1, n, cs => rptP m (n + 1) (cs ++ [cs.getD n 0])
def grpP (tp : List Int32) (rec : PS → Bool × PS) (s : PS) : Bool × PS :=
  if nxP tp (s.1 + 1) = 40 then
    match rec (s.1 + 2, s.2.1 ++ [s.1 + 1], s.2.2) with
    | (false, s2) => (false, s2)
    | (true, s2) => if nxP tp s2.1 = 41 then (true, (s2.1 + 1, s.2.1, rptP ((s2.2.2.length - s.2.2.length) * ((nxP tp s.1 - 48).toNatClampNeg - 1)) s.2.2.length s2.2.2)) else (false, s2)
  else (false, (s.1 + 1, s.2))
def itemP (tp : List Int32) (g : Nat) (rec : PS → Bool × PS) (s : PS) : Bool × PS := if ixP (nxP tp s.1) < 0 then (if nxP tp s.1 < 50 then (false, s) else if 52 < nxP tp s.1 then (false, s) else if g = 0 then (false, s) else grpP tp rec s) else filP tp (ixP (nxP tp s.1)) (s.1 + 1, s.2)
def itmsL (tp : List Int32) (g : Nat) (rec : PS → Bool × PS) : Nat → PS → Bool × PS
  | 0, s => (false, s)
  | m + 1, s => match itemP tp g rec s with
    | (false, s1) => (false, s1)
    | (true, s1) => if nxP tp s1.1 = 59 then itmsL tp g rec m (s1.1 + 1, s1.2) else (true, s1)
def itmsP (tp : List Int32) : Nat → PS → Bool × PS
  | 0 => itmsL tp 0 (fun s => (false, s)) 60
  | g + 1 => itmsL tp (g + 1) (itmsP tp g) 60
