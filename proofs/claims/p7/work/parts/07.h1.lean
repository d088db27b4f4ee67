def rAll (T : gV) : Nat → Int → Int → Int
  | 0, _, sw => sw
  | f + 1, k, sw => if 0 ≤ k then rAll T f (nX T k) (if nK T k = 0 then min sw (gG (T 12) (T 10 0) 0 k) else sw) else sw
def gTyp (kd : Int → Int) (i : Int) : Option (Int × Int) := if kd i = 4 then some (i + 1, 2) else (tkn kd 3 i).bind fun j => some (j, 1)
def vD (ky : Int → Int) (i kind ty w : Int) : gE := (0, ky i, i, kind, ty, w)
def gSto (kd ky : Int → Int) (kind ty w i q : Int) : Option (Int × Int × gB) := (if q < 60 then tkn kd 27 i else none).bind fun j => some (j, q + 1, bEv (vD ky i kind ty w))
def vOwn : gE := (1, 0, 0, 0, 0, 0)
def vOpB (w : Int) : gE := (2, w, 0, 0, 0, 0)
def vOpP (w : Int) : gE := (3, w, 0, 0, 0, 0)
def vDim (n d : Int) : gE := (4, n, d, 0, 0, 0)
def vCnt (c : Int) : gE := (5, c, 0, 0, 0, 0)
def vVal (ky : Int → Int) (i w : Int) : gE := (6, ky i, i, w, 0, 0)
def vSpc (ky : Int → Int) (i kind ty w : Int) : gE := (7, ky i, i, kind, ty, w)
def vAll (w : Int) : gE := (8, w, 0, 0, 0, 0)
def gVa1 (own : Int) (b : gB) : gB := if own = 0 then b else bSq b (bEv vOwn)
def gLp {σ : Type} (kd : Int → Int) (sep : Int) (S : σ → Int → Option (Int × σ)) : Nat → Int → σ → Option (Int × σ)
  | 0, _, _ => none
  | f + 1, i, x => (S x i).bind fun p => if kd p.1 = sep then gLp kd sep S f (p.1 + 1) p.2 else some p
def sVa (kd ky : Int → Int) (own ty w : Int) (x : Int × gB) (i : Int) : Option (Int × Int × gB) := (gSto kd ky 1 ty w i x.1).bind fun p => some (p.1, p.2.1, bSq x.2 (gVa1 own p.2.2))
def gVas (kd ky : Int → Int) (own ty w i q : Int) (b : gB) : Option (Int × Int × gB) := gLp kd 38 (sVa kd ky own ty w) 3002 i (q, b)
def sSg (kd ky : Int → Int) (ty w : Int) (x : Int × gB × Int) (i : Int) : Option (Int × Int × gB × Int) := (gSto kd ky 2 ty w i x.1).bind fun p => some (p.1, p.2.1, bSq x.2.1 p.2.2, x.2.2 + 1)
def gSgN (kd ky : Int → Int) (ty w i q : Int) (b : gB) : Option (Int × Int × gB × Int) := gLp kd 38 (sSg kd ky ty w) 3002 i (q, b, 0)
def gBnd (kd : Int → Int) (X : Int → gR) (i : Int) : Option (Int × gB) := (X i).bind fun p => (tkn kd 40 p.1).bind fun i => (X i).bind fun r => some (r.1, bSq (bEx 1 p.2) (bEx 1 r.2))
def gSeg (kd ky : Int → Int) (X : Int → Int → gR) (ty wo w i q : Int) : Option (Int × Int × gB) := (gSgN kd ky ty w i q b0).bind fun p => (tkn kd 36 p.1).bind fun i => (gBnd kd (X wo) i).bind fun r =>
  if kd r.1 = 38 then (gBnd kd (X wo) (r.1 + 1)).bind fun s => (tkn kd 37 s.1).bind fun j => some (j, p.2.1, bSq (bSq (bSq p.2.2.1 r.2) s.2) (bEv (vDim p.2.2.2 2)))
  else (tkn kd 37 r.1).bind fun j => some (j, p.2.1, bSq (bSq p.2.2.1 r.2) (bEv (vDim p.2.2.2 1)))
def sSe (kd ky : Int → Int) (X : Int → Int → gR) (ty wo w : Int) (x : Int × gB) (i : Int) : Option (Int × Int × gB) := (gSeg kd ky X ty wo w i x.1).bind fun p => some (p.1, p.2.1, bSq x.2 p.2.2)
def gSgs (kd ky : Int → Int) (X : Int → Int → gR) (ty wo w i q : Int) (b : gB) : Option (Int × Int × gB) := gLp kd 38 (sSe kd ky X ty wo w) 3002 i (q, b)
def dLa (w key : Int) : gV → Option Int := fun e => xLa e (gMe e w key)
def gLaU (kd ky : Int → Int) (w i : Int) : Option (Int × gB) := (tkn kd 27 i).bind fun j => some (j, bUs i w (dLa w (ky i)))
def sSw (kd ky : Int → Int) (w : Int) (x : Int × gB) (i : Int) : Option (Int × Int × gB) := (if x.1 < 20 then gLaU kd ky w i else none).bind fun p => some (p.1, x.1 + 1, bSq x.2 p.2)
def gSwi (kd ky : Int → Int) (w i : Int) : Option (Int × gB) := (tkn kd 9 i).bind fun i => (tkn kd 27 i).bind fun j => (tkn kd 47 j).bind fun k => (gLp kd 38 (sSw kd ky w) 3002 k (0, bEv (vD ky i 4 0 w))).bind fun p => some (p.1, p.2.2)
def sPn (kd ky : Int → Int) (w : Int) (x : Int × gB) (i : Int) : Option (Int × Int × gB) := (if x.1 < 6 then tkn kd 27 i else none).bind fun j => some (j, x.1 + 1, bSq x.2 (bEv (vD ky i 0 0 w)))
def gPar (kd ky : Int → Int) (w i : Int) : Option (Int × Int × gB) := (tkn kd 34 i).bind fun i => (gLp kd 38 (sPn kd ky w) 3002 i (0, b0)).bind fun p => (tkn kd 35 p.1).bind fun j => some (j, p.2.1, p.2.2)
def sLs (kd : Int → Int) (v : Int → gE) (b : gB) (i : Int) : Option (Int × gB) := (tkn kd 27 i).bind fun j => some (j, bSq b (bEv (v i)))
def gLst (kd : Int → Int) (v : Int → gE) (i : Int) (b : gB) : Option (Int × gB) := gLp kd 38 (sLs kd v) 3002 i b
def gVls (kd ky : Int → Int) (w i : Int) : Option (Int × gB) := if kd i = 7 then (tkn kd 7 i).bind fun i => (gLst kd (fun i => vVal ky i w) i b0).bind fun p => (tkn kd 39 p.1).bind fun j => some (j, p.2) else some (i, b0)
def gSp1 (kd ky : Int → Int) (w i : Int) : Option (Int × gB) :=
  if kd i = 10 then (tkn kd 10 i).bind fun i => gLst kd (fun i => vSpc ky i 8 0 w) i b0
  else (gTyp kd i).bind fun t => if kd t.1 = 5 then gLst kd (fun i => vSpc ky i 7 t.2 w) (t.1 + 1) b0 else gLst kd (fun i => vSpc ky i 6 t.2 w) t.1 b0
def gSps (kd ky : Int → Int) (w : Int) : Nat → Int → gB → Option (Int × gB)
  | 0, _, _ => none
  | f + 1, i, b => if kd i = 3 ∨ kd i = 4 ∨ kd i = 10 then (gSp1 kd ky w i).bind fun p => (tkn kd 39 p.1).bind fun j => gSps kd ky w f j (bSq b p.2) else some (i, b)
def dAl (w : Int) : gV → Option Int := fun e => if rAll e 1501 (vF e w) 3001 = 3001 then some 0 else none
def bAl (w : Int) : gB := ([], [vAll w], [], dAl w)
def gHed (kd ky : Int → Int) (w i : Int) (b : gB) : Option (Int × gB) :=
  if kd i = 34 then (gPar kd ky w i).bind fun p => (tkn kd 39 p.1).bind fun j => (gVls kd ky w j).bind fun v => (gSps kd ky w 3002 v.1 b0).bind fun s => some (s.1, bSq (bSq (bSq (bSq (bSq b p.2.2) (bEv (vCnt p.2.1))) v.2) s.2) (bAl w))
  else (tkn kd 39 i).bind fun j => some (j, b)
def gPro (kd ky : Int → Int) (L : Int) (lm : gM) (ty w i o q : Int) : gS := (tkn kd 6 i).bind fun i => (tkn kd 27 i).bind fun j => if o < L then
    (gHed kd ky o j (bSq (bEv (vD ky i 3 ty w)) (bOp (vOpP w) w))).bind fun p => (lm 0 0 o p.1 (o + 1) 0).bind fun r => some (r.1, r.2.1, q, bSq p.2 r.2.2.2) else none
def gTyD (kd ky : Int → Int) (L : Int) (X : Int → Int → gR) (lm : gM) (wo ty w i o q : Int) : gS :=
  if kd i = 6 then gPro kd ky L lm ty w i o q
  else if kd i = 5 then (tkn kd 5 i).bind fun i => (gSgs kd ky X ty wo w i q b0).bind fun p => some (p.1, o, p.2.1, p.2.2)
  else (gVas kd ky 0 ty w i q b0).bind fun p => some (p.1, o, p.2.1, p.2.2)
def gDcl (kd ky : Int → Int) (L : Int) (X : Int → Int → gR) (lm : gM) (wo w i o q : Int) : gS :=
  if kd i = 9 then (gSwi kd ky w i).bind fun p => some (p.1, o, q, p.2)
  else if kd i = 8 then (tkn kd 8 i).bind fun i => (gTyp kd i).bind fun t => (gVas kd ky 1 t.2 w t.1 q b0).bind fun p => some (p.1, o, p.2.1, p.2.2)
  else if kd i = 3 ∨ kd i = 4 then (gTyp kd i).bind fun t => gTyD kd ky L X lm wo t.2 w t.1 o q else gTyD kd ky L X lm wo 0 w i o q
def isDc (k : Int) : Bool := decide (k = 3 ∨ k = 4 ∨ k = 8 ∨ k = 6 ∨ k = 9)
def gDcs (kd : Int → Int) (D : Int → Int → Int → gS) : Nat → Int → Int → Int → gB → gS
  | 0, _, _, _, _ => none
  | f + 1, i, o, q, b => if isDc (kd i) = true then (D i o q).bind fun p => (tkn kd 39 p.1).bind fun j => gDcs kd D f j p.2.1 p.2.2.1 (bSq b p.2.2.2) else some (i, o, q, b)
def gLbs (kd ky : Int → Int) (w : Int) : Nat → Int → gB → Option (Int × gB)
  | 0, _, _ => none
  | f + 1, i, b => if kd i = 27 ∧ kd (i + 1) = 40 then (tkn kd 27 i).bind fun j => (tkn kd 40 j).bind fun k => gLbs kd ky w f k (bSq b (bEv (vD ky i 5 0 w))) else some (i, b)
def gSt1 (kd ky : Int → Int) (w : Int) (P : Int → Int → Int → gS) (i o q : Int) : gS := (gLbs kd ky w 3002 i b0).bind fun p => (P p.1 o q).bind fun r => some (r.1, r.2.1, r.2.2.1, bSq p.2 r.2.2.2)
def sSt (kd ky : Int → Int) (w : Int) (P : Int → Int → Int → gS) (x : Int × Int × gB) (i : Int) : gS := (gSt1 kd ky w P i x.1 x.2.1).bind fun p => some (p.1, p.2.1, p.2.2.1, bSq x.2.2 p.2.2.2)
def gSts (kd ky : Int → Int) (w : Int) (P : Int → Int → Int → gS) (i o q : Int) (b : gB) : gS := gLp kd 39 (sSt kd ky w P) 3002 i (o, q, b)
def gBlk (kd ky : Int → Int) (L : Int) (lm : gM) (w i o q : Int) : gS := (tkn kd 1 i).bind fun i => if o < L then
    (gDcs kd (fun i o' q => lm 1 w o i o' q) 3002 i (o + 1) q (bOp (vOpB w) w)).bind fun p => (gSts kd ky o (lm 0 0 o) p.1 p.2.1 p.2.2.1 p.2.2.2).bind fun r => (tkn kd 2 r.1).bind fun j => some (j, r.2.1, r.2.2.1, r.2.2.2) else none
def dTa (w key : Int) : gV → Option Int := fun e => xTa e w (gMe e w key)
def gLf1 (kd ky : Int → Int) (lo : gL) (w i : Int) : gR := (tkn kd 27 i).bind fun j =>
  if kd j = 36 then (gSub kd lo w j).bind fun q => (tkn kd 47 q.1).bind fun k => some (k, ((i, w) :: q.2.1, false, dEl w (ky i) q.2.2.2))
  else (tkn kd 47 j).bind fun k => some (k, ([(i, w)], false, dTa w (ky i)))
def gLfS (a d : gD) : gD := (a.1 ++ d.1, false, fun e => (a.2.2 e).bind fun t0 => (d.2.2 e).bind fun t => if okN t t0 then some t0 else none)
def gAsE (a d : gD) : gB := (a.1 ++ d.1, [], [], fun e => (a.2.2 e).bind fun t0 => (dN t0 d.2.2 e).bind fun _ => some 0)
def gLfs (kd ky : Int → Int) (lo : gL) (w : Int) : Nat → Int → gD → Option (Int × gB)
  | 0, _, _ => none
  | f + 1, i, a => if gLfT kd i = true then (gLf1 kd ky lo w i).bind fun p => gLfs kd ky lo w f p.1 (gLfS a p.2) else (gExp kd ky lo w i).bind fun r => some (r.1, gAsE a r.2)
def gAsn (kd ky : Int → Int) (lo : gL) (w i : Int) : Option (Int × gB) := (gLf1 kd ky lo w i).bind fun p => gLfs kd ky lo w 3002 p.1 p.2
def dCl (w key : Int) (as : List gA) : gV → Option Int := fun e => (aCnt e w as (vF e (nH e (gMe e w key)))).bind fun c => xCl e (gMe e w key) c
def gCll (kd ky : Int → Int) (lo : gL) (w i : Int) : Option (Int × gB) := (tkn kd 27 i).bind fun j =>
  if kd j = 34 then (gAcs kd ky lo w j).bind fun q => some (q.1, ((i, w) :: q.2.1, [], [], dCl w (ky i) q.2.2)) else some (j, bUs i w (fun e => xCl e (gMe e w (ky i)) 0))
def gJmp (kd ky : Int → Int) (lo : gL) (w i : Int) : Option (Int × gB) := (tkn kd 19 i).bind fun i =>
  if kd (i + 1) = 36 then (tkn kd 27 i).bind fun j => (tkn kd 36 j).bind fun k => (lo 0 w k).bind fun p => (tkn kd 37 p.1).bind fun j => some (j, bSq (bUs i w (fun e => xSw e (gMe e w (ky i)))) (bEx 1 p.2))
  else gLaU kd ky w i
def gCho (kd : Int → Int) (X : Int → gR) (P : Int → Int → Int → gS) (i o q : Int) : gS := (tkn kd 11 i).bind fun i => (X i).bind fun p => (tkn kd 12 p.1).bind fun j =>
  if kd j = 11 ∨ kd j = 14 then none else (P j o q).bind fun r =>
    if kd r.1 = 13 then (tkn kd 13 r.1).bind fun k => (P k r.2.1 r.2.2.1).bind fun s => some (s.1, s.2.1, s.2.2.1, bSq (bSq (bEx 2 p.2) r.2.2.2) s.2.2.2) else some (r.1, r.2.1, r.2.2.1, bSq (bEx 2 p.2) r.2.2.2)
def gEl1 (kd : Int → Int) (X : Int → gR) (i : Int) : Option (Int × gB) := (X i).bind fun p =>
  if kd p.1 = 16 then (X (p.1 + 1)).bind fun r => (tkn kd 17 r.1).bind fun k => (X k).bind fun s => some (s.1, bSq (bSq (bEx 1 p.2) (bEx 1 r.2)) (bEx 1 s.2))
  else if kd p.1 = 18 then (X (p.1 + 1)).bind fun r => some (r.1, bSq (bEx 1 p.2) (bEx 2 r.2)) else some (p.1, bEx 1 p.2)
def sEl (kd : Int → Int) (X : Int → gR) (b : gB) (i : Int) : Option (Int × gB) := (gEl1 kd X i).bind fun p => some (p.1, bSq b p.2)
def gEls (kd : Int → Int) (X : Int → gR) (i : Int) (b : gB) : Option (Int × gB) := gLp kd 38 (sEl kd X) 3002 i b
def gFor (kd ky : Int → Int) (X : Int → gR) (P : Int → Int → Int → gS) (w i o q : Int) : gS := (tkn kd 14 i).bind fun i => (tkn kd 27 i).bind fun j => (tkn kd 47 j).bind fun k =>
  (gEls kd X k (bUs i w (fun e => xCt e (gMe e w (ky i))))).bind fun p => (tkn kd 15 p.1).bind fun j => (P j o q).bind fun r => some (r.1, r.2.1, r.2.2.1, bSq p.2 r.2.2.2)
def gPln (kd ky : Int → Int) (L : Int) (lo : gL) (lm : gM) (w i o q : Int) : gS :=
  if kd i = 1 then gBlk kd ky L lm w i o q
  else if kd i = 27 then (if kd (i + 1) = 47 ∨ kd (i + 1) = 36 then (gAsn kd ky lo w i).bind fun p => some (p.1, o, q, p.2) else (gCll kd ky lo w i).bind fun p => some (p.1, o, q, p.2))
  else if kd i = 19 then (gJmp kd ky lo w i).bind fun p => some (p.1, o, q, p.2)
  else if kd i = 11 then gCho kd (gExp kd ky lo w) (lm 0 0 w) i o q
  else if kd i = 14 then gFor kd ky (gExp kd ky lo w) (lm 0 0 w) w i o q
  else if kd i = 26 then (tkn kd 26 i).bind fun i => (gBrk kd lo w i).bind fun p => some (p.1, o, q, bEx 1 p.2)
  else some (i, o, q, b0)
def gSB (kd ky : Int → Int) (L : Int) (lo : gL) (lm : gM) : gM := fun c wo w i o q => if c = 0 then gPln kd ky L lo lm w i o q else gDcl kd ky L (gExp kd ky lo) lm wo w i o q
def gSL (kd ky : Int → Int) (L : Int) : Nat → gM
  | 0 => fun _ _ _ _ _ _ => none
  | n + 1 => gSB kd ky L (gLev kd ky n) (gSL kd ky L n)
def gPrg (kd ky : Int → Int) (L : Int) : gS := (gBlk kd ky L (gSL kd ky L 20) (-1) 0 0 0).bind fun r => if kd r.1 = 0 then some r else none
def gSo (f9 : Nat → Int32) (f11 : Nat → Int64) (tc td : Int32) : gM := gSL (kC f9 tc) (kK f11) 333 (20 - td.toInt).toNat
def gst (T : gV) (c k : Nat) (v : Int) : gV := fun c' k' => if c' = c ∧ k' = k then v else T c' k'
def gsc (T : gV) (c : Nat) (v : Int) : gV := fun c' k' => if c' = c then v else T c' k'
abbrev gW := gV × Int
def rRow (T : gV) (key pl kind ty w : Int) : gV :=
  let k := (T 10 0).toNat
  gsc (gst (gst (gst (gst (gst (gst (gst (gst (gst (gst T 0 k key) 1 k kind) 2 k ty) 3 k 0) 12 k pl) 4 k w) 5 k (-1)) 6 k (-1)) 13 k (-1)) 14 k 0) 10 (T 10 0 + 1)
def rChn (T : gV) (w n : Int) : gV := if T 8 w.toNat < 0 then gst T 8 w.toNat n else if 0 ≤ T 15 w.toNat ∧ T 15 w.toNat < T 10 0 then gst T 5 (T 15 w.toNat).toNat n else T
def rDcl (T : gV) (key pl kind ty w : Int) : gV := gst (rChn (rRow T key pl kind ty w) w (T 10 0)) 15 w.toNat (T 10 0)
def rDup (T : gV) (key w : Int) : Prop := 0 ≤ tFind (T 0) (T 5) (T 10 0) key 1501 (T 8 w.toNat)
def rOpn (T : gV) (w p : Int) : gV := let k := (T 11 0).toNat
  gsc (gst (gst (gst (gst T 7 k w) 8 k (-1)) 15 k (-1)) 9 k p) 11 (T 11 0 + 1)
def rDim (T : gV) (n d : Int) : gV := fun c k => if c = 3 ∧ T 10 0 - n ≤ (k : Int) ∧ (k : Int) < T 10 0 then d else T c k
def rPar (T : gV) (key w : Int) : Int := tFind (T 0) (T 5) (T 10 0) key 1501 (vF T w)
def gRn1 (pl : Int → Int) (x : gW) (v : gE) : gW := match v with
  | (0, key, i, kind, ty, w) => (rDcl x.1 key (pl i) kind ty w, if 0 ≤ tFind (x.1 0) (x.1 5) (x.1 10 0) key 1501 (x.1 8 w.toNat) then min x.2 (pl i) else x.2)
  | (1, _) => (gst x.1 14 (x.1 10 0 - 1).toNat 1, x.2)
  | (2, w, _) => (rOpn x.1 w (sPr x.1 w), x.2)
  | (3, w, _) => (rOpn (gst x.1 6 (x.1 10 0 - 1).toNat (x.1 11 0)) w (x.1 10 0 - 1), x.2)
  | (4, n, d, _) => (rDim x.1 n d, x.2)
  | (5, c, _) => (gst x.1 3 (x.1 10 0 - 1 - c).toNat c, x.2)
  | (6, key, i, w, _) => if rPar x.1 key w < 0 ∨ 0 ≤ gG (x.1 13) (x.1 10 0) (-1) (rPar x.1 key w) then (x.1, min x.2 (pl i)) else (gst x.1 13 (rPar x.1 key w).toNat (pl i), x.2)
  | (7, key, i, kind, ty, w) => if rPar x.1 key w < 0 ∨ ¬ nK x.1 (rPar x.1 key w) = 0 then (x.1, min x.2 (pl i)) else (gst (gst x.1 1 (rPar x.1 key w).toNat kind) 2 (rPar x.1 key w).toNat ty, if ¬ kind = 6 ∧ 0 ≤ gG (x.1 13) (x.1 10 0) (-1) (rPar x.1 key w) then min x.2 (gG (x.1 13) (x.1 10 0) (-1) (rPar x.1 key w)) else x.2)
  | (_, w, _) => (x.1, rAll x.1 1501 (vF x.1 w) x.2)
def gRun (pl : Int → Int) (vs : List gE) (x : gW) : gW := vs.foldl (gRn1 pl) x
theorem gRun_a {pl : Int → Int} {us vs : List gE} {x : gW} : gRun pl (us ++ vs) x = gRun pl vs (gRun pl us x) := List.foldl_append
