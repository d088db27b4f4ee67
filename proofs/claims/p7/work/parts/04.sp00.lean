def kC (f9 : Nat → Int32) (tc : Int32) (i : Int) : Int := if 0 ≤ i ∧ i < tc.toInt then (f9 i.toNat).toInt else -2
def kK (f11 : Nat → Int64) (i : Int) : Int := (f11 i.toNat).toInt
def pC (f10 : Nat → Int32) (i : Int) : Int := (f10 i.toNat).toInt
def kA (f9 : Nat → Int32) (tc ta tf : Int32) : Int := if tf.toInt = -2 then kC f9 tc ta.toInt else -2
def kBn (f9 : Nat → Int32) (tc ta tf : Int32) : Int := if tf.toInt = -2 then kC f9 tc (ta.toInt + 1) else -2
def rI (f : Nat → Int32) : Nat → Int := fun k => (f k).toInt
def rJ (f : Nat → Int64) : Nat → Int := fun k => (f k).toInt
def gG (f : Nat → Int) (n d k : Int) : Int := if 0 ≤ k ∧ k < n then f k.toNat else d
abbrev gV := Nat → Nat → Int
def eT (f13 : Nat → Int64) (f14 f15 f16 f17 f18 f19 f20 f21 f22 f23 f24 f25 f26 : Nat → Int32) (bn sn : Int32) : gV := fun c => match c with
  | 0 => rJ f13
  | 1 => rI f14
  | 2 => rI f15
  | 3 => rI f16
  | 4 => rI f18
  | 5 => rI f19
  | 6 => rI f20
  | 7 => rI f23
  | 8 => rI f24
  | 9 => rI f26
  | 10 => fun _ => bn.toInt
  | 11 => fun _ => sn.toInt
  | 12 => rI f17
  | 13 => rI f21
  | 14 => rI f22
  | 15 => rI f25
  | _ => fun _ => 0
def tFind (ks nx : Nat → Int) (n key : Int) : Nat → Int → Int
  | 0, _ => -1
  | f + 1, k => if 0 ≤ k ∧ k < n then (if ks k.toNat = key then k else tFind ks nx n key f (nx k.toNat)) else -1
def sFind (ks nx : Nat → Int) (n : Int) (fs ps : Nat → Int) (sn key : Int) : Nat → Int → Int
  | 0, _ => -1
  | f + 1, s => if 0 ≤ s ∧ s < sn then (if 0 ≤ tFind ks nx n key 1501 (fs s.toNat) then tFind ks nx n key 1501 (fs s.toNat) else sFind ks nx n fs ps sn key f (ps s.toNat)) else -1
def gMe (e : gV) (w key : Int) : Int := sFind (e 0) (e 5) (e 10 0) (e 8) (e 7) (e 11 0) key 333 w
def nK (e : gV) (k : Int) : Int := gG (e 1) (e 10 0) 0 k
def nT (e : gV) (k : Int) : Int := gG (e 2) (e 10 0) 0 k
def nC (e : gV) (k : Int) : Int := gG (e 3) (e 10 0) 0 k
def nX (e : gV) (k : Int) : Int := gG (e 5) (e 10 0) (-1) k
def nH (e : gV) (k : Int) : Int := gG (e 6) (e 10 0) (-1) k
def vF (e : gV) (s : Int) : Int := gG (e 8) (e 11 0) (-1) s
abbrev isAr (e : gV) (k : Int) : Prop := nK e k = 2 ∨ nK e k = 7
abbrev isLa (e : gV) (k : Int) : Prop := nK e k = 5 ∨ nK e k = 8
abbrev isSi (e : gV) (k : Int) : Prop := nK e k = 1 ∨ nK e k = 6
abbrev isFn (e : gV) (k : Int) : Prop := nK e k = 3 ∧ ¬ nT e k = 0
abbrev okN (t ty : Int) : Prop := t = 0 ∨ ty = 0 ∨ t = ty
def xNe (t ty : Int) : Option Int := if okN t ty then some 0 else none
def xEl (e : gV) (k c : Int) : Option Int := if isAr e k then (if nK e k = 2 ∧ ¬ nC e k = c then none else some (nT e k)) else none
def xRe (e : gV) (k c : Int) : Option Int := if isFn e k then (if nC e k = c then some (nT e k) else none) else none
def xVa (e : gV) (k : Int) : Option Int := if isSi e k then some (nT e k) else xRe e k 0
def xHo (e : gV) (k p : Int) : Option Int :=
  if nK e p = 7 then (if isAr e k ∧ nT e k = nT e p then some 0 else none)
  else if nK e p = 8 then (if isLa e k then some 0 else none)
  else if isAr e k ∨ isLa e k ∨ isSi e k then some 0 else (xRe e k 0).bind fun _ => some 0
abbrev gD := List (Int × Int) × Bool × (gV → Option Int)
abbrev gR := Option (Int × gD)
abbrev gL := Nat → Int → Int → gR
abbrev gA := Bool × Int × Bool × (gV → Option Int)
def tkn (kd : Int → Int) (k i : Int) : Option Int := if kd i = k then some (i + 1) else none
def dN (ty : Int) (d : gV → Option Int) : gV → Option Int := fun e => (d e).bind fun t => if okN t ty then some t else none
def dC (ty r : Int) (d : gV → Option Int) : gV → Option Int := fun e => (d e).bind fun t => if okN t ty then some r else none
def dO (ty r : Int) (d d2 : gV → Option Int) : gV → Option Int := fun e => (d e).bind fun t => if okN t ty then ((d2 e).bind fun t2 => if okN t2 ty then some r else none) else none
def dIf (d1 d2 d3 : gV → Option Int) : gV → Option Int := fun e => (dN 2 d1 e).bind fun _ => (d2 e).bind fun t => (dN t d3 e).bind fun _ => some t
def gNd (ty : Int) (d : gD) : gD := (d.1, d.2.1, dN ty d.2.2)
def gCs (ty r : Int) (d : gD) : gD := (d.1, false, dC ty r d.2.2)
def gBo (ty r : Int) (d d2 : gD) : gD := (d.1 ++ d2.1, false, dO ty r d.2.2 d2.2.2)
def gIf (d1 d2 d3 : gD) : gD := (d1.1 ++ (d2.1 ++ d3.1), false, dIf d1.2.2 d2.2.2 d3.2.2)
def gPa (d : gD) : gD := (d.1, false, d.2.2)
def gCt (r : Int) : gD := ([], false, fun _ => some r)
def dS1 (d : gV → Option Int) : gV → Option Int := fun e => (dN 1 d e).bind fun _ => some 1
def dS2 (d d2 : gV → Option Int) : gV → Option Int := fun e => (dN 1 d e).bind fun _ => (dN 1 d2 e).bind fun _ => some 2
def dEl (w key : Int) (s : gV → Option Int) : gV → Option Int := fun e => (s e).bind fun c => xEl e (gMe e w key) c
def xU (e : gV) (w key : Int) : Option Int := if gMe e w key < 0 then none else some (gMe e w key)
def dVa (w key : Int) : gV → Option Int := fun e => xVa e (gMe e w key)
def aX (e : gV) (w : Int) (a : gA) (p : Int) : Option Int :=
  if nK e p = 6 then dN (nT e p) a.2.2.2 e else if a.1 = true then xHo e (gMe e w a.2.1) p
  else (a.2.2.2 e).bind fun t => if (a.2.2.1 = true ∧ t = 0) ∨ nK e p = 0 then some 0 else none
def aS (e : gV) (w : Int) (o : Option Int) (a : gA) : Option Int := o.bind fun p => (aX e w a p).bind fun _ => some (nX e p)
def aAll (e : gV) (w : Int) (as : List gA) (p : Int) : Option Int := as.foldl (aS e w) (some p)
def aCnt (e : gV) (w : Int) (as : List gA) (p : Int) : Option Int := (aAll e w as p).bind fun _ => some (as.length : Int)
def dCa (w key : Int) (as : List gA) : gV → Option Int := fun e => (aCnt e w as (vF e (nH e (gMe e w key)))).bind fun c => xRe e (gMe e w key) c
def gBrk (kd : Int → Int) (lo : gL) (w i : Int) : gR := (tkn kd 34 i).bind fun i => (lo 0 w i).bind fun p => (tkn kd 35 p.1).bind fun j => some (j, p.2)
def gSub (kd : Int → Int) (lo : gL) (w i : Int) : gR := (tkn kd 36 i).bind fun i => (lo 0 w i).bind fun p =>
  if kd p.1 = 38 then (lo 0 w (p.1 + 1)).bind fun q => (tkn kd 37 q.1).bind fun j => some (j, (p.2.1 ++ q.2.1, false, dS2 p.2.2.2 q.2.2.2))
  else (tkn kd 37 p.1).bind fun j => some (j, (p.2.1, false, dS1 p.2.2.2))
def gAlo (kd : Int → Int) (i : Int) : Bool := decide (kd i = 27 ∧ (kd (i + 1) = 38 ∨ kd (i + 1) = 35))
def gAc1 (kd ky : Int → Int) (i : Int) (d : gD) : gA := (gAlo kd i, ky i, decide (kd i = 11), d.2.2)
def gAcE (kd : Int → Int) (G : Int → List (Int × Int) → List gA → Option (Int × List (Int × Int) × List gA)) (j : Int) (us : List (Int × Int)) (as : List gA) : Option (Int × List (Int × Int) × List gA) :=
  if kd j = 38 then G (j + 1) us as else (tkn kd 35 j).bind fun j => some (j, us, as)
def gAct (kd ky : Int → Int) (X : Int → gR) : Nat → Int → List (Int × Int) → List gA → Option (Int × List (Int × Int) × List gA)
  | 0, _, _, _ => none
  | f + 1, i, us, as => (X i).bind fun p => gAcE kd (gAct kd ky X f) p.1 (us ++ p.2.1) (as ++ [gAc1 kd ky i p.2])
def gAcs (kd ky : Int → Int) (lo : gL) (w i : Int) : Option (Int × List (Int × Int) × List gA) := (tkn kd 34 i).bind fun i => gAct kd ky (lo 0 w) 3002 i [] []
def gNam (kd ky : Int → Int) (lo : gL) (w i : Int) : gR := (tkn kd 27 i).bind fun i1 =>
  if kd i1 = 36 then (gSub kd lo w i1).bind fun q => some (q.1, ((i, w) :: q.2.1, false, dEl w (ky i) q.2.2.2))
  else if kd i1 = 34 then (gAcs kd ky lo w i1).bind fun q => some (q.1, ((i, w) :: q.2.1, false, dCa w (ky i) q.2.2))
  else some (i1, ([(i, w)], true, dVa w (ky i)))
def gAtm (kd ky : Int → Int) (lo : gL) (w i : Int) : gR :=
  if kd i = 28 then some (i + 1, gCt 1) else if kd i = 20 ∨ kd i = 21 then some (i + 1, gCt 2)
  else if kd i = 34 then (gBrk kd lo w i).bind fun p => some (p.1, gPa p.2) else if kd i = 27 then gNam kd ky lo w i else none
def gChn (kd : Int → Int) (f : Int → gR) (t : Int → Bool) (ty : Int) : Nat → Int → gD → gR
  | 0, _, _ => none
  | k + 1, j, d => if t (kd j) = true then (f (j + 1)).bind fun p => gChn kd f t ty k p.1 (gBo ty ty d p.2) else some (j, d)
def gRow (kd : Int → Int) (f : Int → gR) (t : Int → Bool) (ty : Int) (i : Int) : gR := (f i).bind fun p => gChn kd f t ty 3002 p.1 p.2
def tPow (k : Int) : Bool := decide (k = 33)
def tTrm (k : Int) : Bool := decide (k = 32 ∨ k = 25)
def tSum (k : Int) : Bool := decide (k = 30 ∨ k = 31)
def tAnd (k : Int) : Bool := decide (k = 23)
def tOr (k : Int) : Bool := decide (k = 24)
def gPow (kd ky : Int → Int) (lo : gL) (w : Int) : Int → gR := gRow kd (gAtm kd ky lo w) tPow 1
def gTrm (kd ky : Int → Int) (lo : gL) (w : Int) : Int → gR := gRow kd (gPow kd ky lo w) tTrm 1
def gSum (kd ky : Int → Int) (lo : gL) (w i : Int) : gR :=
  if tSum (kd i) = true then (gTrm kd ky lo w (i + 1)).bind fun p => gChn kd (gTrm kd ky lo w) tSum 1 3002 p.1 (gCs 1 1 p.2) else gRow kd (gTrm kd ky lo w) tSum 1 i
def gRel (kd ky : Int → Int) (lo : gL) (w i : Int) : gR := (gSum kd ky lo w i).bind fun p =>
  if 41 ≤ kd p.1 ∧ kd p.1 ≤ 46 then (gSum kd ky lo w (p.1 + 1)).bind fun q => some (q.1, gBo 1 2 p.2 q.2) else some (p.1, p.2)
def gDen (kd ky : Int → Int) (lo : gL) (w i : Int) : gR := if kd i = 22 then (tkn kd 22 i).bind fun i => (lo 2 w i).bind fun p => some (p.1, gCs 2 2 p.2) else gRel kd ky lo w i
def gCon (kd ky : Int → Int) (lo : gL) (w : Int) : Int → gR := gRow kd (gDen kd ky lo w) tAnd 2
def gEit (kd ky : Int → Int) (lo : gL) (w : Int) : Int → gR := gRow kd (gCon kd ky lo w) tOr 2
def gCnd (kd : Int → Int) (lo : gL) (w i : Int) : gR := (tkn kd 11 i).bind fun i => (lo 0 w i).bind fun p => (tkn kd 12 p.1).bind fun i => (lo 1 w i).bind fun q => (tkn kd 13 q.1).bind fun i => (lo 0 w i).bind fun r => some (r.1, gIf p.2 q.2 r.2)
def gExp (kd ky : Int → Int) (lo : gL) (w i : Int) : gR := if kd i = 11 then gCnd kd lo w i else gEit kd ky lo w i
def gBun (kd ky : Int → Int) (lo : gL) : gL := fun c => if c = 0 then gExp kd ky lo else if c = 1 then gEit kd ky lo else gDen kd ky lo
def gLev (kd ky : Int → Int) : Nat → gL
  | 0 => fun _ _ _ => none
  | n + 1 => gBun kd ky (gLev kd ky n)
def gLo (f9 : Nat → Int32) (f11 : Nat → Int64) (tc td : Int32) : gL := gLev (kC f9 tc) (kK f11) (20 - td.toInt).toNat
