abbrev gE := Nat × Int × Int × Int × Int × Int
abbrev gB := List (Int × Int) × List gE × List Int × (gV → Option Int)
abbrev gS := Option (Int × Int × Int × gB)
abbrev gM := Nat → Int → Int → Int → Int → Int → gS
def b0 : gB := ([], [], [], fun _ => some 0)
def bSq (a b : gB) : gB := (a.1 ++ b.1, a.2.1 ++ b.2.1, a.2.2.1 ++ b.2.2.1, fun e => (a.2.2.2 e).bind fun _ => b.2.2.2 e)
def bEv (v : gE) : gB := ([], [v], [], fun _ => some 0)
def bOp (v : gE) (p : Int) : gB := ([], [v], [p], fun _ => some 0)
def bEx (ty : Int) (d : gD) : gB := (d.1, [], [], fun e => (dN ty d.2.2 e).bind fun _ => some 0)
def bUs (i w : Int) (x : gV → Option Int) : gB := ([(i, w)], [], [], x)
def xLa (e : gV) (k : Int) : Option Int := if isLa e k then some 0 else none
def xSw (e : gV) (k : Int) : Option Int := if nK e k = 4 then some 0 else none
def xCt (e : gV) (k : Int) : Option Int := if isSi e k then (xNe (nT e k) 1) else none
def xCl (e : gV) (k c : Int) : Option Int := if nK e k = 3 ∧ nC e k = c then some 0 else none
def sPr (e : gV) (s : Int) : Int := gG (e 9) (e 11 0) (-1) s
def sPa (e : gV) (s : Int) : Int := gG (e 7) (e 11 0) (-1) s
def wIn (e : gV) (k : Int) : Nat → Int → Bool
  | 0, _ => false
  | f + 1, s => if 0 ≤ s then (if sPr e s = k then true else wIn e k f (sPa e s)) else false
def xTa (e : gV) (w k : Int) : Option Int := if isSi e k ∨ (isFn e k ∧ wIn e k 333 w = true) then some (nT e k) else none
def gTyp (kd : Int → Int) (i : Int) : Option (Int × Int) := if kd i = 4 then some (i + 1, 2) else (tkn kd 3 i).bind fun j => some (j, 1)
def vD (ky : Int → Int) (i kind ty w : Int) : gE := (0, ky i, i, kind, ty, w)
def gSto (kd ky : Int → Int) (kind ty w i q : Int) : Option (Int × Int × gB) := (if q < 60 then tkn kd 27 i else none).bind fun j => some (j, q + 1, bEv (vD ky i kind ty w))
def vOwn : gE := (1, 0, 0, 0, 0, 0)
def vOpB (w : Int) : gE := (2, w, 0, 0, 0, 0)
def vOpP (w : Int) : gE := (3, w, 0, 0, 0, 0)
def vDim (n d : Int) : gE := (4, n, d, 0, 0, 0)
def vCnt (c : Int) : gE := (5, c, 0, 0, 0, 0)
def vVal (ky : Int → Int) (i w : Int) : gE := (6, ky i, i, w, 0, 0)
def vSpc (ky : Int → Int) (i kind ty w : Int) : gE := (7, ky i, i, kind, ty, w)
def vAll (w : Int) : gE := (8, w, 0, 0, 0, 0)
def gVa1 (own : Int) (b : gB) : gB := if own = 0 then b else bSq b (bEv vOwn)
def gVas (kd ky : Int → Int) (own ty w : Int) : Nat → Int → Int → gB → Option (Int × Int × gB)
  | 0, _, _, _ => none
  | f + 1, i, q, b => (gSto kd ky 1 ty w i q).bind fun p => if kd p.1 = 38 then gVas kd ky own ty w f (p.1 + 1) p.2.1 (bSq b (gVa1 own p.2.2)) else some (p.1, p.2.1, bSq b (gVa1 own p.2.2))
def gSgN (kd ky : Int → Int) (ty w : Int) : Nat → Int → Int → gB → Int → Option (Int × Int × gB × Int)
  | 0, _, _, _, _ => none
  | f + 1, i, q, b, n => (gSto kd ky 2 ty w i q).bind fun p => if kd p.1 = 38 then gSgN kd ky ty w f (p.1 + 1) p.2.1 (bSq b p.2.2) (n + 1) else some (p.1, p.2.1, bSq b p.2.2, n + 1)
def gBnd (kd : Int → Int) (X : Int → gR) (i : Int) (b : gB) : Option (Int × gB) := (X i).bind fun p => (tkn kd 40 p.1).bind fun i => (X i).bind fun r => some (r.1, bSq (bSq b (bEx 1 p.2)) (bEx 1 r.2))
def gSeg (kd ky : Int → Int) (X : Int → Int → gR) (ty wo w i q : Int) (b : gB) : Option (Int × Int × gB) := (gSgN kd ky ty w 3002 i q b 0).bind fun p => (tkn kd 36 p.1).bind fun i => (gBnd kd (X wo) i p.2.2.1).bind fun r =>
  if kd r.1 = 38 then (gBnd kd (X wo) (r.1 + 1) r.2).bind fun s => (tkn kd 37 s.1).bind fun j => some (j, p.2.1, bSq s.2 (bEv (vDim p.2.2.2 2)))
  else (tkn kd 37 r.1).bind fun j => some (j, p.2.1, bSq r.2 (bEv (vDim p.2.2.2 1)))
def gSgs (kd ky : Int → Int) (X : Int → Int → gR) (ty wo w : Int) : Nat → Int → Int → gB → Option (Int × Int × gB)
  | 0, _, _, _ => none
  | f + 1, i, q, b => (gSeg kd ky X ty wo w i q b).bind fun p => if kd p.1 = 38 then gSgs kd ky X ty wo w f (p.1 + 1) p.2.1 p.2.2 else some p
def dLa (w key : Int) : gV → Option Int := fun e => xLa e (gMe e w key)
def gLaU (kd ky : Int → Int) (w i : Int) : Option (Int × gB) := (tkn kd 27 i).bind fun j => some (j, bUs i w (dLa w (ky i)))
def gSwN (kd ky : Int → Int) (w : Int) : Nat → Int → Int → gB → Option (Int × gB)
  | 0, _, _, _ => none
  | f + 1, c, i, b => (if c < 20 then gLaU kd ky w i else none).bind fun p => if kd p.1 = 38 then gSwN kd ky w f (c + 1) (p.1 + 1) (bSq b p.2) else some (p.1, bSq b p.2)
def gSwi (kd ky : Int → Int) (w i : Int) : Option (Int × gB) := (tkn kd 9 i).bind fun i => (tkn kd 27 i).bind fun j => (tkn kd 47 j).bind fun k => gSwN kd ky w 3002 0 k (bEv (vD ky i 4 0 w))
def gPaN (kd ky : Int → Int) (w : Int) : Nat → Int → Int → gB → Option (Int × Int × gB)
  | 0, _, _, _ => none
  | f + 1, c, i, b => (if c < 6 then tkn kd 27 i else none).bind fun j => if kd j = 38 then gPaN kd ky w f (c + 1) (j + 1) (bSq b (bEv (vD ky i 0 0 w))) else some (j, c + 1, bSq b (bEv (vD ky i 0 0 w)))
def gPar (kd ky : Int → Int) (w i : Int) : Option (Int × Int × gB) := (tkn kd 34 i).bind fun i => (gPaN kd ky w 3002 0 i b0).bind fun p => (tkn kd 35 p.1).bind fun j => some (j, p.2.1, p.2.2)
def gLst (kd : Int → Int) (v : Int → gE) : Nat → Int → gB → Option (Int × gB)
  | 0, _, _ => none
  | f + 1, i, b => (tkn kd 27 i).bind fun j => if kd j = 38 then gLst kd v f (j + 1) (bSq b (bEv (v i))) else some (j, bSq b (bEv (v i)))
def gVls (kd ky : Int → Int) (w i : Int) : Option (Int × gB) := if kd i = 7 then (tkn kd 7 i).bind fun i => (gLst kd (fun i => vVal ky i w) 3002 i b0).bind fun p => (tkn kd 39 p.1).bind fun j => some (j, p.2) else some (i, b0)
def gSp1 (kd ky : Int → Int) (w i : Int) (b : gB) : Option (Int × gB) :=
  if kd i = 10 then (tkn kd 10 i).bind fun i => gLst kd (fun i => vSpc ky i 8 0 w) 3002 i b
  else (gTyp kd i).bind fun t => if kd t.1 = 5 then gLst kd (fun i => vSpc ky i 7 t.2 w) 3002 (t.1 + 1) b else gLst kd (fun i => vSpc ky i 6 t.2 w) 3002 t.1 b
def gSps (kd ky : Int → Int) (w : Int) : Nat → Int → gB → Option (Int × gB)
  | 0, _, _ => none
  | f + 1, i, b => if kd i = 3 ∨ kd i = 4 ∨ kd i = 10 then (gSp1 kd ky w i b).bind fun p => (tkn kd 39 p.1).bind fun j => gSps kd ky w f j p.2 else some (i, b)
def gHed (kd ky : Int → Int) (w i : Int) (b : gB) : Option (Int × gB) :=
  if kd i = 34 then (gPar kd ky w i).bind fun p => (tkn kd 39 p.1).bind fun j => (gVls kd ky w j).bind fun v => (gSps kd ky w 3002 v.1 (bSq (bSq (bSq b p.2.2) (bEv (vCnt p.2.1))) v.2)).bind fun s => some (s.1, bSq s.2 (bEv (vAll w)))
  else (tkn kd 39 i).bind fun j => some (j, b)
def gPro (kd ky : Int → Int) (L : Int) (lm : gM) (ty w i o q : Int) : gS := (tkn kd 6 i).bind fun i => (tkn kd 27 i).bind fun j => if o < L then
    (gHed kd ky o j (bSq (bEv (vD ky i 3 ty w)) (bOp (vOpP w) w))).bind fun p => (lm 0 0 o p.1 (o + 1) 0).bind fun r => some (r.1, r.2.1, q, bSq p.2 r.2.2.2) else none
def gTyD (kd ky : Int → Int) (L : Int) (X : Int → Int → gR) (lm : gM) (wo ty w i o q : Int) : gS :=
  if kd i = 6 then gPro kd ky L lm ty w i o q
  else if kd i = 5 then (tkn kd 5 i).bind fun i => (gSgs kd ky X ty wo w 3002 i q b0).bind fun p => some (p.1, o, p.2.1, p.2.2)
  else (gVas kd ky 0 ty w 3002 i q b0).bind fun p => some (p.1, o, p.2.1, p.2.2)
def gDcl (kd ky : Int → Int) (L : Int) (X : Int → Int → gR) (lm : gM) (wo w i o q : Int) : gS :=
  if kd i = 9 then (gSwi kd ky w i).bind fun p => some (p.1, o, q, p.2)
  else if kd i = 8 then (tkn kd 8 i).bind fun i => (gTyp kd i).bind fun t => (gVas kd ky 1 t.2 w 3002 t.1 q b0).bind fun p => some (p.1, o, p.2.1, p.2.2)
  else if kd i = 3 ∨ kd i = 4 then (gTyp kd i).bind fun t => gTyD kd ky L X lm wo t.2 w t.1 o q else gTyD kd ky L X lm wo 0 w i o q
def isDc (k : Int) : Bool := decide (k = 3 ∨ k = 4 ∨ k = 8 ∨ k = 6 ∨ k = 9)
def gDcs (kd : Int → Int) (D : Int → Int → Int → gS) : Nat → Int → Int → Int → gB → gS
  | 0, _, _, _, _ => none
  | f + 1, i, o, q, b => if isDc (kd i) = true then (D i o q).bind fun p => (tkn kd 39 p.1).bind fun j => gDcs kd D f j p.2.1 p.2.2.1 (bSq b p.2.2.2) else some (i, o, q, b)
def gLbs (kd ky : Int → Int) (w : Int) : Nat → Int → gB → Option (Int × gB)
  | 0, _, _ => none
  | f + 1, i, b => if kd i = 27 ∧ kd (i + 1) = 40 then (tkn kd 27 i).bind fun j => (tkn kd 40 j).bind fun k => gLbs kd ky w f k (bSq b (bEv (vD ky i 5 0 w))) else some (i, b)
def gSt1 (kd ky : Int → Int) (w : Int) (P : Int → Int → Int → gS) (i o q : Int) (b : gB) : gS := (gLbs kd ky w 3002 i b).bind fun p => (P p.1 o q).bind fun r => some (r.1, r.2.1, r.2.2.1, bSq p.2 r.2.2.2)
def gSts (kd ky : Int → Int) (w : Int) (P : Int → Int → Int → gS) : Nat → Int → Int → Int → gB → gS
  | 0, _, _, _, _ => none
  | f + 1, i, o, q, b => (gSt1 kd ky w P i o q b).bind fun p => if kd p.1 = 39 then gSts kd ky w P f (p.1 + 1) p.2.1 p.2.2.1 p.2.2.2 else some p
def gBlk (kd ky : Int → Int) (L : Int) (lm : gM) (w i o q : Int) : gS := (tkn kd 1 i).bind fun i => if o < L then
    (gDcs kd (fun i o' q => lm 1 w o i o' q) 3002 i (o + 1) q (bOp (vOpB w) w)).bind fun p => (gSts kd ky o (lm 0 0 o) 3002 p.1 p.2.1 p.2.2.1 p.2.2.2).bind fun r => (tkn kd 2 r.1).bind fun j => some (j, r.2.1, r.2.2.1, r.2.2.2) else none
