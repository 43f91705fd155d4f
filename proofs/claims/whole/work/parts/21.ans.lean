/-! ===== what each call answers, and the state behind it ===== -/
abbrev VD : Int64 := -9223372036854775808
abbrev sN (σ : ST) : Int32 := nI (sP σ).length
abbrev atP (σ : ST) (i : Int32) : Int32 := (sP σ).getD i.toNatClampNeg 0
def rLamp (σ : ST) (i q u v : Int32) : Int32 × ST := if i < 0 then (-2, σ) else if 1000 < i then (-2, σ) else if mayO (i.toInt64, q.toInt64, u.toInt64, v.toInt64, 0) = 0 then (-2, σ) else (1, toM σ (i.toInt64, q.toInt64, u.toInt64, v.toInt64, 0))
def rApp (σ : ST) (c : Int32) : Int32 × ST := if (sP σ).length = 8 then (-4, σ) else (sN σ, toP σ (sP σ ++ [c]))
def rAdd (σ : ST) (k a f : Int32) : Int32 × ST := if inO k 7 = 0 then (-1, σ) else if inO a 4 = 0 then (-2, σ) else if inO f 17 = 0 then (-2, σ) else rApp σ (cdO k a f)
abbrev tolO (c w : Int32) : Int32 := if w = 0 then kdO c else if w = 1 then anO c else fgO c
abbrev witO (c w v : Int32) : Int32 := cdO (if w = 0 then v else kdO c) (if w = 1 then v else anO c) (if w = 2 then v else fgO c)
abbrev nmO (w : Int32) : Int32 := if w = 0 then 7 else if w = 1 then 4 else 17
def rChange (σ : ST) (i w v : Int32) : Int32 × ST := if inO i (sN σ) = 0 then (-1, σ) else if inO w 3 = 0 then (-1, σ) else if inO v (nmO w) = 0 then (-2, σ) else (tolO (atP σ i) w, toP σ ((sP σ).set i.toNatClampNeg (witO (atP σ i) w v)))
/-- an angle turned -/
def trnO (a y : Int32) : Int32 := nI ((a.toInt + y.toInt) % 4).toNat
def rTurn (σ : ST) (i y : Int32) : Int32 × ST := if inO i (sN σ) = 0 then (-1, σ) else (trnO (anO (atP σ i)) y, toP σ ((sP σ).set i.toNatClampNeg (cdO (kdO (atP σ i)) (trnO (anO (atP σ i)) y) (fgO (atP σ i)))))
def rMove (σ : ST) (i j : Int32) : Int32 × ST := if inO i (sN σ) = 0 then (-1, σ) else if inO j (sN σ) = 0 then (-1, σ) else if i = j then (0, σ) else (1, toP σ (((sP σ).eraseIdx i.toNatClampNeg).insertIdx j.toNatClampNeg (atP σ i)))
def rCut (σ : ST) (i : Int32) : Int32 × ST := if inO i (sN σ) = 0 then (-1, σ) else (nI ((sP σ).length - 1), toP σ ((sP σ).eraseIdx i.toNatClampNeg))
def rClear (σ : ST) : Int32 × ST := (sN σ, toP σ [])
def ofO (c w : Int32) : Int32 := if w = 0 then kdO c else if w = 1 then anO c else if w = 2 then fgO c else if w = 3 then (if spO (kdO c) = 0 then -5 else alO c) else if w = 4 then (if spO (kdO c) = 0 then -5 else acO c) else if w = 5 then (if prO (kdO c) = 0 then -5 else qtO c) else if w = 6 then c else -1
def rOf (σ : ST) (i w : Int32) : Int32 := if inO i (sN σ) = 0 then -1 else ofO (atP σ i) w
/-- KIND k of a FILTER, is it under KIND h? -/
def undO (k h : Int32) : Int32 := if h = 0 then 1 else if h = 1 then (if k = 1 then 1 else if k = 2 then 1 else if k = 3 then 1 else if k = 6 then 1 else 0) else if h = 2 then (if k = 2 then 1 else if k = 3 then 1 else 0) else if h = 4 then (if k = 4 then 1 else if k = 5 then 1 else 0) else if k = h then 1 else 0
def rUnder (σ : ST) (i h : Int32) : Int32 := if inO i (sN σ) = 0 then -1 else if inO h 7 = 0 then -1 else undO (kdO (atP σ i)) h
/-- the LIGHT BEHIND k -/
abbrev behO (σ : ST) (k : Nat) : LT := runO ((sP σ).take k) (sM σ)
/-- 1 if 0 ≤ x ≤ n, else 0 -/
abbrev beO (x n : Int32) : Int32 := if x < 0 then 0 else if x ≤ n then 1 else 0
def rLight (σ : ST) (k w : Int32) : Int64 := if beO k (sN σ) = 0 then VD else if inO w 5 = 0 then VD else partO (behO σ k.toNatClampNeg) w
def lefO (σ : ST) (B : LT) (p : Int32) : Int64 := if (sM σ).1 = 0 then VD else fraO B.1 (shlO (sM σ).1 B.2.2.2.2) p
def rLeft (σ : ST) (k p : Int32) : Int64 := if beO k (sN σ) = 0 then VD else if fpO p = 0 then VD else lefO σ (behO σ k.toNatClampNeg) p
abbrev tooW (w : Nat × (Nat → Int32) × (Nat → Int32)) (x : Int32) : Nat × (Nat → Int32) × (Nat → Int32) := (1, upd w.2.1 0 4, upd w.2.2 0 x)
def degO (σ : ST) (B : LT) (p : Int32) : Int64 × ST := if B.1 = 0 then (VD, σ) else if fstO (shrO B) < 0 then (fraO (sqO (shrO B)) ((shrO B).1 * (shrO B).1) p, σ) else (VD, toW σ (tooW (sW σ) (fstO (shrO B))))
def rDegree (σ : ST) (k p : Int32) : Int64 × ST := if beO k (sN σ) = 0 then (VD, σ) else if fpO p = 0 then (VD, σ) else degO σ (behO σ k.toNatClampNeg) p
abbrev sorO (S : LT) : Int32 := if sqO S = S.1 * S.1 then (if S.2.2.2.1 = 0 then 2 else if S.2.1 = 0 then (if S.2.2.1 = 0 then 3 else 4) else 4) else 5
def srtO (σ : ST) (B : LT) : Int32 × ST := if B.1 = 0 then (0, σ) else if B.2.1 = 0 ∧ B.2.2.1 = 0 ∧ B.2.2.2.1 = 0 then (1, σ) else if fstO (shrO B) < 0 then (sorO (shrO B), σ) else (-9, toW σ (tooW (sW σ) (fstO (shrO B))))
def rSort (σ : ST) (k : Int32) : Int32 × ST := if beO k (sN σ) = 0 then (-1, σ) else srtO σ (behO σ k.toNatClampNeg)
def rOrder (σ : ST) (w : Int32) : Int32 := if inO w 4 = 0 then -1 else if 5 < (sP σ).length then -3 else if w = 0 then (ordersO (sP σ) (sM σ)).2.1.2 else if w = 1 then (ordersO (sP σ) (sM σ)).2.2.2 else if w = 2 then nI (ordersO (sP σ) (sM σ)).1.length else comO (ordersO (sP σ) (sM σ))
def rOrderL (σ : ST) (h w : Int32) : Int64 := if inO h 2 = 0 then VD else if inO w 5 = 0 then VD else if 5 < (sP σ).length then VD else partO (if h = 0 then (ordersO (sP σ) (sM σ)).2.1.1 else (ordersO (sP σ) (sM σ)).2.2.1) w
def matO (σ : ST) (r c : Int32) : LT := lowO (partO (runO (sP σ) (unitO c)) r, 0, 0, 0, (runO (sP σ) (unitO c)).2.2.2.2)
def rMatrix (σ : ST) (r c w : Int32) : Int64 := if inO r 4 = 0 then VD else if inO c 4 = 0 then VD else if inO w 2 = 0 then VD else if w = 0 then (matO σ r c).1 else (matO σ r c).2.2.2.2.toInt64
abbrev two (a b : Int32) (L : LT) : LT := passO b (passO a L)
def trdN (a b : Int32) (c : Nat) : Nat → Int32
  | 0 => 1
  | m + 1 => if two a b (unitO (nI c)) = two b a (unitO (nI c)) then trdN a b (c + 1) m else 0
def trdO (a b : Int32) : Int32 := trdN a b 0 4
def rTrade (σ : ST) (i j : Int32) : Int32 := if inO i (sN σ) = 0 then -1 else if inO j (sN σ) = 0 then -1 else trdO (atP σ i) (atP σ j)
/-- what comes out behind all with this CODE in place of FILTER i -/
abbrev inst (σ : ST) (i : Nat) (c : Int32) : LT := runO ((sP σ).drop (i + 1)) (passO c (behO σ i))
abbrev angC (c : Int32) (a : Nat) : Int32 := cdO (kdO c) (nI a) (fgO c)
def angL (σ : ST) (i n : Nat) : List (LT × Int32) := (List.range n).map (fun a => (inst σ i (angC ((sP σ).getD i 0) a), nI a))
def angO (σ : ST) (i : Nat) : OC := (angL σ i 4).foldl meetO ([], (sM σ, 0), (sM σ, 0))
def rAngle (σ : ST) (i w : Int32) : Int32 := if inO i (sN σ) = 0 then -1 else if inO w 3 = 0 then -1 else if w = 0 then (angO σ i.toNatClampNeg).2.2.2 else if w = 1 then (angO σ i.toNatClampNeg).2.1.2 else nI (angO σ i.toNatClampNeg).1.length
def rWithout (σ : ST) (i p : Int32) : Int64 := if inO i (sN σ) = 0 then VD else if fpO p = 0 then VD else lefO σ (runO ((sP σ).drop (i.toNatClampNeg + 1)) (behO σ i.toNatClampNeg)) p
/-- the first place from here on that is dark -/
def darO (L : LT) (k : Nat) : List Int32 → Int32
  | [] => if L.1 = 0 then nI k else -5
  | c :: r => if L.1 = 0 then nI k else darO (passO c L) (k + 1) r
def rDarkens (σ : ST) : Int32 := darO (sM σ) 0 (sP σ)
/-- a pair met: how many so far, the first -/
abbrev crsO (a b : Int32) : Prop := (two a b (unitO 0)).1 = 0
abbrev crS (l : List Int32) (x : Nat × Int32) (i j : Nat) : Nat × Int32 := if crsO (l.getD i 0) (l.getD j 0) then (x.1 + 1, if x.1 = 0 then 10 * nI i + nI j else x.2) else x
def crJ (l : List Int32) (i : Nat) (x : Nat × Int32) (j : Nat) : Nat → Nat × Int32
  | 0 => x
  | m + 1 => crJ l i (crS l x i j) (j + 1) m
def crI (l : List Int32) (x : Nat × Int32) (i : Nat) : Nat → Nat × Int32
  | 0 => x
  | m + 1 => crI l (crJ l i x (i + 1) (l.length - (i + 1))) (i + 1) m
def rCrossed (σ : ST) (w : Int32) : Int32 := if inO w 2 = 0 then -1 else if w = 0 then nI (crI (sP σ) (0, -5) 0 (sP σ).length).1 else (crI (sP σ) (0, -5) 0 (sP σ).length).2
/-- unlike CODES, the CODE that stands most often, how often -/
abbrev taS (l : List Int32) (x : Nat × Int32 × Nat) (i : Nat) : Nat × Int32 × Nat := (if cntO (l.getD i 0) (l.take i) = 0 then x.1 + 1 else x.1, if x.2.2 < cntO (l.getD i 0) l then l.getD i 0 else x.2.1, if x.2.2 < cntO (l.getD i 0) l then cntO (l.getD i 0) l else x.2.2)
def taI (l : List Int32) (x : Nat × Int32 × Nat) (i : Nat) : Nat → Nat × Int32 × Nat
  | 0 => x
  | m + 1 => taI l (taS l x i) (i + 1) m
def rTally (σ : ST) (w : Int32) : Int32 := if inO w 3 = 0 then -1 else if w = 0 then nI (taI (sP σ) (0, -5, 0) 0 (sP σ).length).1 else if w = 1 then (taI (sP σ) (0, -5, 0) 0 (sP σ).length).2.1 else nI (taI (sP σ) (0, -5, 0) 0 (sP σ).length).2.2
abbrev mkL (σ : ST) (t : Nat) (n : Int32) (f : Nat → Int64) : ST := toZ (toL σ (rowU (sL σ) t f)) (upd (sZ σ) t n)
def rList (σ : ST) (t n : Int32) : Int32 × ST := if inO t 3 = 0 then (-1, σ) else if 12 < n then (-2, σ) else if n < -1 then (-14, σ) else (1, mkL σ t.toNatClampNeg n (fun _ => 0))
abbrev zAt (σ : ST) (t : Int32) : Int32 := sZ σ t.toNatClampNeg
abbrev lAt (σ : ST) (t : Int32) : Nat → Int64 := sL σ t.toNatClampNeg
def rPut (σ : ST) (t i : Int32) (v : Int64) : Int32 × ST := if inO t 3 = 0 then (-1, σ) else if zAt σ t = -1 then (-11, σ) else if inO i (zAt σ t) = 0 then (-13, σ) else (1, toL σ (rowU (sL σ) t.toNatClampNeg (vp_updL (lAt σ t) i.toNatClampNeg v)))
def rGet (σ : ST) (t i : Int32) : Int64 := if inO t 3 = 0 then VD else if inO i (zAt σ t) = 0 then VD else lAt σ t i.toNatClampNeg
def l5F (L : LT) : Nat → Int64 := fun j => if j < 5 then lvO L j else 0
def rLay (σ : ST) (t k : Int32) : Int32 × ST := if inO t 3 = 0 then (-1, σ) else if beO k (sN σ) = 0 then (-1, σ) else (1, mkL σ t.toNatClampNeg 5 (l5F (behO σ k.toNatClampNeg)))
def rdgF (B : LT) : Nat → Int64
  | 0 => B.1 + B.2.1
  | 1 => B.1 + B.2.2.1
  | 2 => B.1 - B.2.1
  | 3 => B.1 + B.2.2.2.1
  | 4 => (B.2.2.2.2 + 1).toInt64
  | _ => 0
def rReadings (σ : ST) (t : Int32) : Int32 × ST := if inO t 3 = 0 then (-1, σ) else (1, mkL σ t.toNatClampNeg 5 (rdgF (behO σ (sP σ).length)))
/-- the LIGHT of READINGS -/
def refO (f : Nat → Int64) : LT := lowO (f 0 + f 2, f 0 - f 2, 2 * f 1 - (f 0 + f 2), 2 * f 3 - (f 0 + f 2), (f 4).toInt32)
def refB (f : Nat → Int64) : Int32 := if frO (f 0) 0 1000000 = 0 then 0 else if frO (f 1) 0 1000000 = 0 then 0 else if frO (f 2) 0 1000000 = 0 then 0 else if frO (f 3) 0 1000000 = 0 then 0 else frO (f 4) 1 20
def rRefound (σ : ST) (t w : Int32) : Int64 := if inO t 3 = 0 then VD else if inO w 6 = 0 then VD else if zAt σ t < 5 then VD else if refB (lAt σ t) = 0 then VD else if w = 5 then (mayO (refO (lAt σ t))).toInt64 else partO (refO (lAt σ t)) w
/-- the LIGHT that a LIST tells -/
def telO (f : Nat → Int64) : LT := lowO (f 0, f 1, f 2, f 3, (f 4).toInt32)
def telB (f : Nat → Int64) : Int32 := if frO (f 0) 0 1000000 = 0 then 0 else if frO (f 4) 0 20 = 0 then 0 else mayO (telO f)
def tlsB (σ : ST) (t : Int32) : Int32 := if zAt σ t < 5 then 0 else telB (lAt σ t)
def rThrough (σ : ST) (t w : Int32) : Int64 := if inO t 3 = 0 then VD else if inO w 5 = 0 then VD else if tlsB σ t = 0 then VD else partO (runO (sP σ) (telO (lAt σ t))) w
abbrev bakC (c : Int32) : Int32 := cdO (kdO c) (anO c) (4 - qtO c)
def bakL (l : List Int32) (L : LT) : LT := runO (l.reverse.map bakC) L
def rBefore (σ : ST) (t w : Int32) : Int64 := if inO t 3 = 0 then VD else if inO w 5 = 0 then VD else if tlsB σ t = 0 then VD else if ∀ c ∈ sP σ, kdO c = 0 ∨ prO (kdO c) ≠ 0 then partO (bakL (sP σ) (telO (lAt σ t))) w else VD
/-- CODE number n of KIND k; those that fit: how many, the first, their KINDS as bits -/
abbrev fndC (k r : Nat) : Int32 := cdO (nI k) (nI (r / 17)) (nI (r % 17))
abbrev fndS (σ : ST) (i : Nat) (T : LT) (x : Nat × Int32 × Int32) (k r : Nat) : Nat × Int32 × Int32 := if inst σ i (fndC k r) = T then (x.1 + 1, if x.1 = 0 then fndC k r else x.2.1, x.2.2 ||| ((1 : Int32) <<< (nI k &&& 31))) else x
def fndR (σ : ST) (i : Nat) (T : LT) (k : Nat) (x : Nat × Int32 × Int32) (r : Nat) : Nat → Nat × Int32 × Int32
  | 0 => x
  | m + 1 => fndR σ i T k (fndS σ i T x k r) (r + 1) m
def fndK (σ : ST) (i : Nat) (T : LT) (x : Nat × Int32 × Int32) (k : Nat) : Nat → Nat × Int32 × Int32
  | 0 => x
  | m + 1 => fndK σ i T (fndR σ i T k x 0 68) (k + 1) m
def fndO (σ : ST) (i : Nat) (T : LT) : Nat × Int32 × Int32 := fndK σ i T (0, -5, 0) 0 7
def rFound (σ : ST) (t i w : Int32) : Int32 := if inO t 3 = 0 then -1 else if inO i (sN σ) = 0 then -1 else if inO w 3 = 0 then -1 else if zAt σ t = -1 then -11 else if tlsB σ t = 0 then -2 else if w = 0 then nI (fndO σ i.toNatClampNeg (telO (lAt σ t))).1 else if w = 1 then (fndO σ i.toNatClampNeg (telO (lAt σ t))).2.1 else (fndO σ i.toNatClampNeg (telO (lAt σ t))).2.2
/-! floats -/
def meaO (B : LT) : UInt64 := FP.ddiv (FP.l2d B.1) (FP.l2d (shlO 1 B.2.2.2.2))
def rMeter (σ : ST) (k w : Int32) : Int64 := if beO k (sN σ) = 0 then VD else if inO w 2 = 0 then VD else if w = 0 then (FP.d2f (meaO (behO σ k.toNatClampNeg))).toInt32.toInt64 else (meaO (behO σ k.toNatClampNeg)).toInt64
abbrev allM (σ : ST) : UInt32 := FP.d2f (meaO (behO σ (sP σ).length))
abbrev fAt (σ : ST) (c : Int32) : UInt32 := sF σ c.toNatClampNeg
def rExpose (σ : ST) (c : Int32) : Int32 × ST := if inO c 8 = 0 then (-1, σ) else ((FP.fadd (fAt σ c) (allM σ)).toInt32, toF σ (vf_upd (sF σ) c.toNatClampNeg (FP.fadd (fAt σ c) (allM σ))))
abbrev dimO (x : UInt32) (n : Int32) : UInt32 := FP.fdiv (FP.fmul x (FP.i2f n)) 1098907648
def rDim (σ : ST) (c n : Int32) : Int32 × ST := if inO c 8 = 0 then (-1, σ) else if inO n 17 = 0 then (-2, σ) else ((dimO (fAt σ c) n).toInt32, toF σ (vf_upd (sF σ) c.toNatClampNeg (dimO (fAt σ c) n)))
def rFilm (σ : ST) (c w : Int32) : Int32 := if inO c 8 = 0 then -1 else if w = 0 then (fAt σ c).toInt32 else if w = 1 then FP.f2i (FP.fmul (fAt σ c) 1148846080) else if w = 2 then (if FP.fcmp (fAt σ c) (allM σ) = some .gt then 1 else 0) else -1
def sumN (f : Nat → UInt32) : Nat → UInt32
  | 0 => FP.fconst0
  | n + 1 => FP.fadd (sumN f n) (f n)
def sumW (f : Nat → UInt32) : Nat → UInt64
  | 0 => FP.dconst0
  | n + 1 => FP.dadd (sumW f n) (FP.f2d (f n))
def rSum (σ : ST) (w : Int32) : Int64 := if inO w 2 = 0 then VD else if w = 0 then (sumN (sF σ) 8).toInt32.toInt64 else (sumW (sF σ) 8).toInt64
/-! RACKS -/
abbrev kAt (σ : ST) (r : Int32) : Int32 := sK σ r.toNatClampNeg
abbrev rAt (σ : ST) (r i : Int32) : Int32 := sR σ r.toNatClampNeg i.toNatClampNeg
abbrev putR (σ : ST) (r i c : Int32) : ST := toR σ (rowU (sR σ) r.toNatClampNeg (upd (sR σ r.toNatClampNeg) i.toNatClampNeg c))
def rStore (σ : ST) (r i k : Int32) : Int32 × ST := if inO r 3 = 0 then (-1, σ) else if inO k (sN σ) = 0 then (-1, σ) else if inO i 4 = 0 then (-13, σ) else if tkO (kAt σ r) (kdO (atP σ k)) = 0 then (-16, σ) else (1, putR σ r i (atP σ k))
/-- the CODE in a place of a RACK, or why there is none -/
def rkcO (σ : ST) (r i : Int32) : Int32 := if inO r 3 = 0 then -1 else if inO i 4 = 0 then -13 else if rAt σ r i = -1 then -5 else rAt σ r i
def rEmpty (σ : ST) (r i : Int32) : Int32 × ST := (rkcO σ r i, if rkcO σ r i < 0 then σ else putR σ r i (-1))
def rFetch (σ : ST) (r i : Int32) : Int32 × ST := if rkcO σ r i < 0 then (rkcO σ r i, σ) else rApp σ (rkcO σ r i)
def rRack (σ : ST) (r i : Int32) : Int32 := if inO r 3 = 0 then -1 else if i = -1 then kAt σ r else rkcO σ r i
def rCopy (σ : ST) (r o9 : Int32) : Int32 × ST := if inO r 3 = 0 then (-1, σ) else if inO o9 3 = 0 then (-1, σ) else (nI (hldO (sR σ r.toNatClampNeg) 4), toK (toR σ (rowU (sR σ) o9.toNatClampNeg (sR σ r.toNatClampNeg))) (upd (sK σ) o9.toNatClampNeg (kAt σ r)))
/-! texts -/
def rFeed (σ : ST) (c : Int32) : Int32 × ST := if c < 1 then (-2, σ) else if 127 < c then (-2, σ) else if (sT σ).length = 60 then (-4, σ) else (nI ((sT σ).length + 1), toT σ (sT σ ++ [c]))
def rWipe (σ : ST) : Int32 × ST := (nI (sT σ).length, toT σ [])
abbrev notW (w : Nat × (Nat → Int32) × (Nat → Int32)) (x y : Int32) : Nat × (Nat → Int32) × (Nat → Int32) := (w.1 + 1, upd w.2.1 w.1 x, upd w.2.2 w.1 y)
def fltW (w : Nat × (Nat → Int32) × (Nat → Int32)) (s : PS) : Nat × (Nat → Int32) × (Nat → Int32) := notW (s.2.1.foldl (fun w k => notW w 2 (nI k)) (0, w.2)) 1 (nI s.1)
def rRead (σ : ST) : Int32 × ST := match txtP (sT σ) with
  | (false, s) => (-100 - nI s.1, toW (toT σ []) (fltW (sW σ) s))
  | (true, s) => if 8 < s.2.2.length then (-4, toW (toT σ []) (notW (0, (sW σ).2) 3 (nI s.2.2.length))) else (nI s.2.2.length, toP (toT σ []) s.2.2)
def rWhy (σ : ST) (i w : Int32) : Int32 := if i < 0 then -1 else if inO w 2 = 0 then -1 else if nI (sW σ).1 ≤ i then -5 else if w = 0 then (sW σ).2.1 i.toNatClampNeg else (sW σ).2.2 i.toNatClampNeg
def numS (v : Nat) : List Int32 := if v < 10 then [nI (48 + v)] else [nI (48 + v / 10), nI (48 + v % 10)]
def letS (k : Int32) : Int32 := if k = 0 then 103 else if k = 1 then 121 else if k = 2 then 115 else if k = 3 then 112 else if k = 4 then 119 else if k = 5 then 114 else 102
def filS (c : Int32) : List Int32 := [letS (kdO c)] ++ (if taO (kdO c) = 0 then [] else numS (anO c).toNatClampNeg) ++ (if taO (kdO c) = 0 then [] else if tfO (kdO c) = 0 then [] else [44]) ++ (if tfO (kdO c) = 0 then [] else numS (fgO c).toNatClampNeg)
def splS : List Int32 → List Int32
  | [] => []
  | c :: r => 59 :: (filS c ++ splS r)
def spell (l : List Int32) : List Int32 := (splS l).drop 1
def rSpelled (σ : ST) (i : Int32) : Int32 := if i = -1 then nI (spell (sP σ)).length else if inO i (nI (spell (sP σ)).length) = 0 then -1 else (spell (sP σ)).getD i.toNatClampNeg 0
/-! THE IMAGE -/
def rImage (σ : ST) : Int32 × ST := (sN σ, toI σ (some (sB σ)))
def rUndo (σ : ST) : Int32 × ST := match sI σ with
  | none => (-3, σ)
  | some b => (nI b.2.1.length, toB σ b)
def rCount (σ : ST) (w : Int32) : Int32 := if w = 0 then sN σ else if w = 1 then nI (sT σ).length else if w = 2 then nI (sW σ).1 else if w = 3 then nI (hldO (sR σ 0) 4) + nI (hldO (sR σ 1) 4) + nI (hldO (sR σ 2) 4) else if w = 4 then nI (litO (sF σ) 8) else -1
/-! contracts of calls -/
/-- the class answered v, and holds σ -/
def Po (σ : ST) (v : Value) (μ : Hp) : Option Value → Hp → Prop := fun r μ2 => r = some v ∧ Cl σ μ2 ∧ Fo μ2 μ
theorem in_ix {x : Int32} {n : Nat} (hn : n < 2 ^ 31) (h : ¬ inO x (nI n) = 0) : ∃ k, k < n ∧ x = nI k := by
  rcases pk_ix x hn with h1 | h1 | h1
  · exact absurd (by simp only [inO, if_pos h1]) h
  · exact absurd (by unfold inO; split <;> simp [h1]) h
  · exact h1
theorem in_1 {x n : Int32} (h : ¬ inO x n = 0) : inO x n = 1 := by grind
/-- the PILE is one of FILTERS, no more than eight -/
def Wp (l : List Int32) : Prop := l.length ≤ 8 ∧ ∀ c ∈ l, Vc c
theorem Wp.at {l : List Int32} (h : Wp l) {k : Nat} (hk : k < l.length) : Vc (l.getD k 0) := by
  apply h.2
  rw [List.getD_eq_getElem?_getD, List.getElem?_eq_getElem hk]
  exact List.getElem_mem _
