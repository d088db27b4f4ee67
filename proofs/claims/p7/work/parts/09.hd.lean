section
variable {pl ky kd : Int → Int} {L : Int} {lo : gL} {lm : gM} {X : Int → Int → gR} {P : Int → Int → Int → gS} {D : Int → Int → Int → gS} {ss sw sw1 sw2 sw3 sw4 sw5 w wo ty so so1 so2 so5 s ks ks1 ks2 ks5 sc sc1 sc2 sc5 sc6 sl1 r r1 r2 i i2 tf0 tf tf1 tf2 tf3 tf4 tf5 tf6 tf7 ta ta1 ta2 ta3 ta4 ta5 ta6 ta7 td td1 tdb bn bn1 o q : Int} {T T1 T2 T3 T4 T5 : gV} {m m1 m2 m3 m4 m5 : Nat → Int32} {b : gB}
theorem P_pro (h1 : dQ kd 6 tf tf1 ta ta1 td td1) (hz : ¬ td < 20 → lm = fun _ _ _ _ _ _ => none) (h2 : cQ (tkn kd 27 ta1) tf1 tf2 (rDc pl ky ss T T1 sw sw1 m m1 (vD ky ta1 3 ty w) bn bn1 ta2 r)) (h3 : oP so tf2 tf3 ss so1 sc1 sl1 T1 T2 w r bn1) (hH : tf3 = -2 → cQ (gHed kd ky sc1 ta2 (bSq (bEv (vD ky ta1 3 ty w)) (bOp (vOpP w) w))) tf3 tf4 (fun p => ta4 = p.1 ∧ bX pl ky ss T T4 sw sw4 m m4 p.2)) (dH : tf4 = -2 → tf3 = -2)
    (h5 : tf4 = -2 → cQ (lm 0 0 so ta4 (so + 1) 0) tf4 tf5 (rB pl ky ss T4 T5 sw4 sw5 m4 m5 (so + 1) so5 ks5 so sc5 ta5)) (d5 : tf5 = -2 → tf4 = -2) (hc : tf5 = -2 → sc6 = w) : cQ (gPro kd ky 333 lm ty w ta so ks) tf tf5 (rB pl ky ss T T5 sw sw5 m m5 so so5 ks w sc6 ta5) := by
  have d3 : tf3 = -2 → tf2 = -2 := h3.1
  refine cQ_d h1 (fun h => h2.1 (d3 (dH (d5 h)))) (fun q q' a => ?_) (fun a0 a1 a2 a3 a4 => ?_)
  · rw [hz q']
    cases tkn kd 27 a with
    | none => rfl
    | some j =>
      show (if so < 333 then _ else none) = none
      by_cases hc : so < 333
      · rw [if_pos hc]
        cases gHed kd ky so j (bSq (bEv (vD ky a 3 ty w)) (bOp (vOpP w) w)) with
        | none => rfl
        | some p => rfl
      · rw [if_neg hc]
  refine cQ_b h2 (fun h => d3 (dH (d5 h))) ?_
  rintro j - q2 ⟨hj, _⟩
  subst hj
  have h4 := h3.2 q2
  by_cases hL : so < 333
  · obtain ⟨q3, e1, e2, _⟩ := h4.1 hL
    subst e2
    have hH := hH q3
    rw [q3] at hH
    rw [q2]
    rw [if_pos hL]
    refine cQ_B hH d5 ?_
    rintro ⟨j4, p4⟩ hF - q4 ⟨hj, s4⟩
    obtain rfl : ta4 = j4 := hj
    refine cQ_b (h5 q4) (fun h => h) ?_
    rintro ⟨j6, o6, k6, b6⟩ - q6 ⟨hj, g1, g2, g3, g4, g5⟩
    refine cQ_p (fun h => h) (fun _ => cQ_e (fun q6 => ⟨hj, g1, rfl, ?_, hc q6, bX_q s4 g5⟩))
    show so5 = sc1 + ((p4.2.2.1 ++ b6.2.2.1).length : Int)
    have e : p4.2.2.1 = [w] := np_hed hF
    have g3 : so5 = sc1 + 1 + (b6.2.2.1.length : Int) := g3
    rw [e, List.length_append]
    show so5 = sc1 + ((1 + b6.2.2.1.length : Nat) : Int)
    omega
  · have n3 := h4.2 hL
    rw [if_neg hL]
    exact cQ_n (fun h => n3 (dH (d5 h)))
theorem K_pro (h : oK (gPro kd ky 333 lm ty w ta so ks) T sw so) (h0 : ¬ ss = 0) (h1 : dQ kd 6 tf tf1 ta ta1 td td1) (h2 : cQ (tkn kd 27 ta1) tf1 tf2 (rDc pl ky ss T T1 sw sw1 m m1 (vD ky ta1 3 ty w) bn bn1 ta2 r)) (h3 : oP so tf2 tf3 ss so1 sc1 sl1 T1 T2 w r bn1) (hH : cQ (gHed kd ky sc1 ta2 (bSq (bEv (vD ky ta1 3 ty w)) (bOp (vOpP w) w))) tf3 tf4 (fun p => ta4 = p.1 ∧ bX pl ky ss T T4 sw sw4 m m4 p.2)) (q : tf4 = -2) : oK (lm 0 0 so ta4 (so + 1) 0) T4 sw4 (so + 1) ∧ (T4 7 so.toNat = w ∧ so < T4 11 0) ∧ so1 = so + 1 ∧ sc1 = so := by
  have q3 := hH.1 q
  have q2 := h3.1 q3
  obtain ⟨a, ha, ra⟩ := cQ_a h2 q2
  have a2 := tkn_j ha
  have a1 := dQ_l h1 (h2.1 q2)
  have ea : ta2 = a := ra.1
  by_cases hL : so < 333
  · obtain ⟨_, e1, e2, _⟩ := (h3.2 q2).1 hL
    subst e2
    obtain ⟨p, hp, rp⟩ := cQ_a hH q
    have ep : ta4 = p.1 := rp.1
    unfold gPro at h
    rw [tkn_p a1.2.2.2.1, ← a1.2.2.2.2] at h
    have h : oK ((tkn kd 27 ta1).bind _) T sw sc1 := h
    rw [ha, ← ea] at h
    have h : oK (if sc1 < 333 then _ else none) T sw sc1 := h
    rw [if_pos hL, hp] at h
    have h : oK ((lm 0 0 sc1 p.1 (sc1 + 1) 0).bind _) T sw sc1 := h
    rw [← ep] at h
    have e : p.2.2.2.1 = [w] := np_hed hp
    have z := rp.2.2 h0 h.1
    have y := oK_r (us := [w]) h (fun r a hr => by cases hr; exact ⟨[], by show p.2.2.2.1 ++ gPs r = [w] ++ gPs r ++ []; rw [e, List.append_nil]⟩)
    refine ⟨oK_t y z.1 z.2.1, ?_, e1, rfl⟩
    obtain ⟨_, a, ha, hpar⟩ := h
    obtain ⟨r, _, hr⟩ := bind_s ha
    cases hr
    have hpar : okPar T (p.2.2.2.1 ++ gPs r) sc1 := hpar
    rw [e] at hpar
    have hpar : sc1 < T 11 0 ∧ T 7 sc1.toNat = w ∧ _ := hpar
    rw [z.1]
    exact ⟨hpar.2.1, hpar.1⟩
  · exact absurd q3 ((h3.2 q2).2 hL)
def rBk (pl ky : Int → Int) (ss : Int) (T T' : gV) (sw sw' : Int) (m m' : Nat → Int32) (s0 w so' ks' sc' : Int) (o q : Int) (b : gB) : Prop := so' = o ∧ ks' = q ∧ so' = s0 + (b.2.2.1.length : Int) ∧ sc' = s0 ∧ (T' 7 s0.toNat = w ∧ s0 < T' 11 0) ∧ bX pl ky ss T T' sw sw' m m' b
def cDc (kd : Int → Int) (D : Int → Int → Int → gS) (F : gS) (tf0 tf ta i : Int) (R : Int → Int → gB → Prop) : Prop :=
  (tf = -2 → tf0 = -2) ∧ (tf0 = -2 → (tf = -2 → i ≤ ta ∧ ∃ (k : Nat) (o q : Int) (x : gB), 3002 ≤ (k : Int) + i ∧ F = gDcs kd D k ta o q x ∧ R o q x) ∧ (¬ tf = -2 → F = none))
variable {F : gS} {R R' : Int → Int → gB → Prop}
theorem cDc_0 (h0 : 0 ≤ ta) (h : tf = -2 → R o q b) : cDc kd D (gDcs kd D 3002 ta o q b) tf tf ta 0 R := ⟨fun q => q, fun q0 => ⟨fun _ => ⟨h0, 3002, o, q, b, by omega, rfl, h q0⟩, fun q => absurd q0 q⟩⟩
theorem cDc_s (h : cDc kd D F tf tf1 ta1 i R) (hk : tf1 = -2 ∧ isDc (kd ta1) = true) (h1 : ∀ o q x, R o q x → cQ (D ta1 o q) tf1 tf2 (fun a => ta2 = a.1 ∧ R' a.2.1 a.2.2.1 (bSq x a.2.2.2))) (h2 : cQ (tkn kd 39 ta2) tf2 tf3 (fun j => ta3 = j)) (hm : ta1 ≤ ta2) (hi : i ≤ 3000) (hi2 : i2 = i + 1) : cDc kd D F tf tf3 ta3 i2 R' := by
  refine ⟨fun q => h.1 hk.1, fun q0 => ?_⟩
  obtain ⟨hit, k, o, q, x, hkk, hF, hs⟩ := (h.2 q0).1 hk.1
  obtain ⟨k', rfl⟩ : ∃ k' : Nat, k = k' + 1 := ⟨k - 1, by omega⟩
  have h1 := h1 o q x hs
  have hF2 : F = (D ta1 o q).bind fun p => (tkn kd 39 p.1).bind fun j => gDcs kd D k' j p.2.1 p.2.2.1 (bSq x p.2.2.2) := by
    rw [hF]
    show (if isDc (kd ta1) = true then _ else _) = _
    rw [if_pos hk.2]
  cases hf : D ta1 o q with
  | none =>
    rw [hf] at hF2
    exact ⟨fun q => absurd (h2.1 q) ((h1.2 hk.1).2 hf), fun _ => hF2⟩
  | some p =>
    have a := (h1.2 hk.1).1 p hf
    rw [hf] at hF2
    have hF3 : F = (tkn kd 39 ta2).bind fun j => gDcs kd D k' j p.2.1 p.2.2.1 (bSq x p.2.2.2) := by rw [hF2, a.2.1]; rfl
    cases ht : tkn kd 39 ta2 with
    | none =>
      rw [ht] at hF3
      exact ⟨fun q => absurd q ((h2.2 a.1).2 ht), fun _ => hF3⟩
    | some j =>
      have c := (h2.2 a.1).1 j ht
      have d := tkn_j ht
      rw [ht] at hF3
      refine ⟨fun q => ⟨by have := c.2; omega, k', p.2.1, p.2.2.1, bSq x p.2.2.2, by omega, ?_, a.2.2⟩, fun q => absurd c.1 q⟩
      rw [hF3, c.2]
      rfl
theorem cDc_x (h : cDc kd D F tf tf1 ta1 i R) (hk : tf1 = -2 → ¬ isDc (kd ta1) = true) (hi : i ≤ 3001) : cQ F tf tf1 (fun p => ta1 = p.1 ∧ R p.2.1 p.2.2.1 p.2.2.2) := by
  refine cQ_p h.1 (fun q0 => ?_)
  by_cases q1 : tf1 = -2
  · obtain ⟨hit, k, o, q, x, hkk, hF, hs⟩ := (h.2 q0).1 q1
    obtain ⟨k', rfl⟩ : ∃ k' : Nat, k = k' + 1 := ⟨k - 1, by omega⟩
    have : F = some (ta1, o, q, x) := by
      rw [hF]
      show (if isDc (kd ta1) = true then _ else _) = _
      rw [if_neg (hk q1)]
    rw [this, q0, q1]
    exact cQ_e (fun _ => ⟨rfl, hs⟩)
  · rw [(h.2 q0).2 q1]
    exact cQ_n q1
theorem cDc_y {G : Int × Int × Int × gB → Prop} (h : cDc kd D F tf tf1 ta1 i R) (hi : 3001 ≤ i) (ht : ta1 < 3001) : cQ F tf tf1 G := by
  refine cQ_p h.1 (fun q0 => ?_)
  have hd : ¬ tf1 = -2 := fun q1 => by
    have := ((h.2 q0).1 q1).1
    omega
  rw [(h.2 q0).2 hd]
  exact cQ_n hd
theorem P_bd {x : gB} (hx : rBk pl ky ss T T1 sw sw1 m m1 s w so1 ks1 sc1 o q x) (hD : D = gDcl kd ky 333 X lm w s) (hwo : wo = w) (h : cQ (gDcl kd ky 333 X lm wo sc1 ta so1 ks1) tf1 tf2 (rB pl ky ss T1 T2 sw1 sw2 m1 m2 so1 so2 ks2 sc1 sc2 ta2)) (hp : T2 7 s.toNat = w ∧ s < T2 11 0) : cQ (D ta o q) tf1 tf2 (fun a => ta2 = a.1 ∧ rBk pl ky ss T T2 sw sw2 m m2 s w so2 ks2 sc2 a.2.1 a.2.2.1 (bSq x a.2.2.2)) := by
  obtain ⟨e1, e2, e3, e4, e5, e6⟩ := hx
  subst hwo hD
  rw [← e1, ← e2]
  rw [e4] at h
  refine cQ_w h ?_
  rintro ⟨j6, o6, k6, b6⟩ - - ⟨hj, g1, g2, g3, g4, g5⟩
  refine ⟨hj, g1, g2, ?_, g4, hp, bX_q e6 g5⟩
  show so2 = s + ((x.2.2.1 ++ b6.2.2.1).length : Int)
  have g3 : so2 = so1 + (b6.2.2.1.length : Int) := g3
  rw [List.length_append]
  omega
theorem P_bs {x : Int × Int × gB} (hx : rBk pl ky ss T T1 sw sw1 m m1 s w so1 ks1 sc1 x.1 x.2.1 x.2.2) (hP : P = gPln kd ky 333 lo lm s) (h : cQ (gSt1 kd ky sc1 (gPln kd ky 333 lo lm sc1) ta so1 ks1) tf1 tf2 (rB pl ky ss T1 T2 sw1 sw2 m1 m2 so1 so2 ks2 sc1 sc2 ta2)) (hp : T2 7 s.toNat = w ∧ s < T2 11 0) : cQ (sSt kd ky s P x ta) tf1 tf2 (fun p => ta2 = p.1 ∧ rBk pl ky ss T T2 sw sw2 m m2 s w so2 ks2 sc2 p.2.1 p.2.2.1 p.2.2.2) := by
  obtain ⟨e1, e2, e3, e4, e5, e6⟩ := hx
  subst hP
  unfold sSt
  rw [← e1, ← e2]
  rw [e4] at h
  refine cQ_b h (fun h => h) ?_
  rintro ⟨j6, o6, k6, b6⟩ - - ⟨hj, g1, g2, g3, g4, g5⟩
  refine cQ_e (fun _ => ⟨hj, g1, g2, ?_, g4, hp, bX_q e6 g5⟩)
  show so2 = s + ((x.2.2.2.2.1 ++ b6.2.2.1).length : Int)
  have g3 : so2 = so1 + (b6.2.2.1.length : Int) := g3
  rw [List.length_append]
  omega
def gBW (kd ky : Int → Int) (lm : gM) (w i o q : Int) : gS := (gDcs kd (lm 1 w o) 3002 i (o + 1) q (bOp (vOpB w) w)).bind fun p => gSts kd ky o (lm 0 0 o) p.1 p.2.1 p.2.2.1 p.2.2.2
theorem gBlk_e : gBlk kd ky L lm w ta so ks = (tkn kd 1 ta).bind fun i => if so < L then (gBW kd ky lm w i so ks).bind fun r => (tkn kd 2 r.1).bind fun j => some (j, r.2.1, r.2.2.1, r.2.2.2) else none := by
  unfold gBlk gBW
  cases tkn kd 1 ta with
  | none => rfl
  | some j =>
    show (if so < L then _ else _) = (if so < L then _ else _)
    by_cases hL : so < L
    · rw [if_pos hL, if_pos hL]
      show (gDcs kd (lm 1 w so) 3002 j (so + 1) ks (bOp (vOpB w) w)).bind _ = _
      cases gDcs kd (lm 1 w so) 3002 j (so + 1) ks (bOp (vOpB w) w) with
      | none => rfl
      | some p => rfl
    · rw [if_neg hL, if_neg hL]
theorem pf_dcs : ∀ (k : Nat) (i o q : Int) (b : gB) (a : Int × Int × Int × gB), gDcs kd D k i o q b = some a → ∃ ps, gPs a = b.2.2.1 ++ ps := by
  intro k
  induction k with
  | zero => intro i o q b a h; cases h
  | succ k ih =>
    intro i o q b a h
    have h : (if isDc (kd i) = true then (D i o q).bind fun p => (tkn kd 39 p.1).bind fun j => gDcs kd D k j p.2.1 p.2.2.1 (bSq b p.2.2.2) else some (i, o, q, b)) = some a := h
    by_cases hc : isDc (kd i) = true
    · rw [if_pos hc] at h
      obtain ⟨p, _, h⟩ := bind_s h
      obtain ⟨j, _, h⟩ := bind_s h
      obtain ⟨ps, e⟩ := ih _ _ _ _ _ h
      exact ⟨p.2.2.2.2.2.1 ++ ps, by rw [e, ← List.append_assoc]; rfl⟩
    · rw [if_neg hc] at h
      cases h
      exact ⟨[], (List.append_nil _).symm⟩
theorem pf_sts {k : Nat} {x : Int × Int × gB} {p : Int × Int × Int × gB} (h : gLp kd 39 (sSt kd ky w P) k i x = some p) : ∃ ps, gPs p = x.2.2.2.2.1 ++ ps := by
  refine gLp_i (Q := fun y => ∃ ps, y.2.2.2.2.1 = x.2.2.2.2.1 ++ ps) (fun y i p hy hp => ?_) k i x p ⟨[], (List.append_nil _).symm⟩ h
  obtain ⟨u, hu, hp⟩ := bind_s hp
  cases hp
  obtain ⟨ps, e⟩ := hy
  exact ⟨ps ++ gPs u, by show y.2.2.2.2.1 ++ gPs u = _; rw [e, List.append_assoc]⟩
theorem K_bl0 (h : oK (gBlk kd ky L lm w ta so ks) T sw so) (h1 : kd ta = 1) (hL : so < L) : oK (gBW kd ky lm w (ta + 1) so ks) T sw so ∧ (T 7 so.toNat = w ∧ so < T 11 0) := by
  rw [gBlk_e, tkn_p h1] at h
  have h : oK (if so < L then _ else none) T sw so := h
  rw [if_pos hL] at h
  have g : oK (gBW kd ky lm w (ta + 1) so ks) T sw so := oK_q h (fun r a hr => by
    obtain ⟨j, _, hr⟩ := bind_s hr
    cases hr
    exact ⟨[], (List.append_nil _).symm⟩)
  refine ⟨g, ?_⟩
  obtain ⟨_, a, ha, hpar⟩ := g
  obtain ⟨p, hp, ha⟩ := bind_s ha
  obtain ⟨ps, e⟩ := pf_sts ha
  obtain ⟨ps2, e2⟩ := pf_dcs _ _ _ _ _ _ hp
  have e2 : p.2.2.2.2.2.1 = [w] ++ ps2 := e2
  have e : gPs a = p.2.2.2.2.2.1 ++ ps := e
  rw [e, e2] at hpar
  have hpar : so < T 11 0 ∧ T 7 so.toNat = w ∧ _ := hpar
  exact ⟨hpar.2.1, hpar.1⟩
theorem K_bl1 (hW : oK (gBW kd ky lm w ta so ks) T sw so) (h0 : ¬ ss = 0) (inv : cDc kd (lm 1 w so) (gDcs kd (lm 1 w so) 3002 ta (so + 1) ks (bOp (vOpB w) w)) tf0 tf1 ta1 i (rBk pl ky ss T T1 sw sw1 m m1 so w so1 ks1 sc1)) (q : tf1 = -2) (c : isDc (kd ta1) = true) (hi : i ≤ 3000) : oK (lm 1 w so ta1 so1 ks1) T1 sw1 so1 := by
  obtain ⟨hit, k, o, q', x, hkk, hF, hs⟩ := (inv.2 (inv.1 q)).1 q
  obtain ⟨k', rfl⟩ : ∃ k' : Nat, k = k' + 1 := ⟨k - 1, by omega⟩
  obtain ⟨e1, e2, e3, e4, e5, e6⟩ := hs
  have g : oK (gDcs kd (lm 1 w so) 3002 ta (so + 1) ks (bOp (vOpB w) w)) T sw so := oK_q hW (fun r a hr => pf_sts hr)
  rw [hF] at g
  have g : oK (if isDc (kd ta1) = true then (lm 1 w so ta1 o q').bind fun p => (tkn kd 39 p.1).bind fun j => gDcs kd (lm 1 w so) k' j p.2.1 p.2.2.1 (bSq x p.2.2.2) else some (ta1, o, q', x)) T sw so := g
  rw [if_pos c] at g
  have z := e6.2 h0 g.1
  have y := oK_r (us := x.2.2.1) g (fun r a hr => by
    obtain ⟨j, _, hr⟩ := bind_s hr
    obtain ⟨ps, e⟩ := pf_dcs _ _ _ _ _ _ hr
    exact ⟨ps, e⟩)
  rw [← e3, ← e1, ← e2] at y
  exact oK_t y z.1 z.2.1
theorem K_bst {S : Int × Int × gB → Int → gS} {x : Int × Int × gB} {k : Nat} (hS : S = sSt kd ky s P) (g : oK ((S x ta).bind fun p => gLpE kd 39 S k p.1 p.2) T sw so) : oK (gSt1 kd ky s P ta x.1 x.2.1) T sw (so + (x.2.2.2.2.1.length : Int)) := by
  subst hS
  have g2 : oK (sSt kd ky s P x ta) T sw so := oK_q g (fun r a hr => by
    have hr : (if kd r.1 = 39 then gLp kd 39 (sSt kd ky s P) k (r.1 + 1) r.2 else some (r.1, r.2)) = some a := hr
    by_cases hc : kd r.1 = 39
    · rw [if_pos hc] at hr
      exact pf_sts hr
    · rw [if_neg hc] at hr
      cases hr
      exact ⟨[], (List.append_nil _).symm⟩)
  exact oK_r (us := x.2.2.2.2.1) g2 (fun r a hr => by cases hr; exact ⟨[], (List.append_nil _).symm⟩)
theorem K_bl2 (hW : oK (gBW kd ky lm w ta so ks) T sw so) (h0 : ¬ ss = 0) (hD : cQ (gDcs kd (lm 1 w so) 3002 ta (so + 1) ks (bOp (vOpB w) w)) tf0 tf1 (fun p => ta1 = p.1 ∧ rBk pl ky ss T T1 sw sw1 m m1 so w so1 ks1 sc1 p.2.1 p.2.2.1 p.2.2.2)) (q : tf1 = -2) : oK (gSt1 kd ky so (lm 0 0 so) ta1 so1 ks1) T1 sw1 so1 := by
  obtain ⟨p, hp, rp⟩ := cQ_a hD q
  obtain ⟨ep, e1, e2, e3, e4, e5, e6⟩ := rp
  unfold gBW at hW
  rw [hp] at hW
  have hW : oK (gLp kd 39 (sSt kd ky so (lm 0 0 so)) (3001 + 1) p.1 p.2) T sw so := hW
  rw [gLp_s, ← ep] at hW
  have z := e6.2 h0 hW.1
  have y := K_bst rfl hW
  rw [← e3, ← e1, ← e2] at y
  exact oK_t y z.1 z.2.1
theorem K_bl3 (hW : oK (gBW kd ky lm w ta so ks) T sw so) (h0 : ¬ ss = 0) (inv : cLp kd 39 (sSt kd ky so (lm 0 0 so)) (gBW kd ky lm w ta so ks) tf0 tf1 ta1 i (fun x => rBk pl ky ss T T1 sw sw1 m m1 so w so1 ks1 sc1 x.1 x.2.1 x.2.2)) (q : tf1 = -2) (ha : aQ kd 39 tf1 ta1 ta2 1) (hi : i ≤ 3000) : oK (gSt1 kd ky so (lm 0 0 so) ta2 so1 ks1) T1 sw1 so1 := by
  obtain ⟨hit, k, x, hkk, hF, hs⟩ := (inv.2 (inv.1 q)).1 q
  obtain ⟨k', rfl⟩ : ∃ k' : Nat, k = k' + 1 := ⟨k - 1, by omega⟩
  obtain ⟨e1, e2, e3, e4, e5, e6⟩ := hs
  have hc := aQ_t ha
  rw [hF] at hW
  have hW : oK (if kd ta1 = 39 then gLp kd 39 (sSt kd ky so (lm 0 0 so)) (k' + 1) (ta1 + 1) x else some (ta1, x)) T sw so := hW
  rw [if_pos hc.2.1, gLp_s, ← hc.2.2] at hW
  have z := e6.2 h0 hW.1
  have y := K_bst rfl hW
  rw [← e3, ← e1, ← e2] at y
  exact oK_t y z.1 z.2.1
theorem cLp_b {σ : Type} {sep : Int} {S : σ → Int → Option (Int × σ)} {α : Type} {G : Option α} {K : α → Option (Int × σ)} {R1 : α → Prop} {R2 : σ → Prop} (h : cQ G tf0 tf1 R1) (hd : tf2 = -2 → tf1 = -2) (h0 : 0 ≤ ta2) (g : ∀ a, tf1 = -2 → R1 a → ∃ x0, K a = gLp kd sep S 3002 ta x0 ∧ cQ (S x0 ta) tf1 tf2 (fun p => ta2 = p.1 ∧ R2 p.2)) : cLp kd sep S (G.bind K) tf0 tf2 ta2 0 R2 := by
  refine ⟨fun q => h.1 (hd q), fun q0 => ?_⟩
  cases hG : G with
  | none => exact ⟨fun q => absurd (hd q) ((h.2 q0).2 hG), fun _ => rfl⟩
  | some a =>
    have b := (h.2 q0).1 a hG
    obtain ⟨x0, e, c⟩ := g a b.1 b.2
    have d := cLp_0 (kd := kd) (sep := sep) (S := S) (x0 := x0) h0 c
    have f := d.2 b.1
    refine ⟨fun q => ?_, fun q => ?_⟩
    · show 0 ≤ ta2 ∧ ∃ (k : Nat) (x : σ), 3001 ≤ (k : Int) + 0 ∧ K a = gLpE kd sep S k ta2 x ∧ R2 x
      rw [e]
      exact f.1 q
    · show K a = none
      rw [e]
      exact f.2 q
theorem P_blk (h1 : dQ kd 1 tf tf1 ta ta1 td td1) (hz : ¬ td < 20 → lm = fun _ _ _ _ _ _ => none) {p sl2 : Int} (h2 : oQ so tf1 tf2 ss so2 sc2 sl2 T T2 w p) (hW : tf2 = -2 → cQ (gBW kd ky lm w ta1 so ks) tf2 tf3 (fun p => ta3 = p.1 ∧ rBk pl ky ss T T3 sw sw3 m m3 so w so5 ks5 sc5 p.2.1 p.2.2.1 p.2.2.2)) (d3 : tf3 = -2 → tf2 = -2) (h4 : cQ (tkn kd 2 ta3) tf3 tf4 (fun j => ta4 = j)) (hc : tf3 = -2 → sc6 = w) : cQ (gBlk kd ky 333 lm w ta so ks) tf tf4 (rB pl ky ss T T3 sw sw3 m m3 so so5 ks5 w sc6 ta4) := by
  have d2 : tf2 = -2 → tf1 = -2 := h2.1
  rw [gBlk_e]
  refine cQ_d h1 (fun h => d2 (d3 (h4.1 h))) (fun q q' a => ?_) (fun a0 a1 a2 a3 a4 => ?_)
  · rw [hz q']
    show (if so < 333 then _ else none) = none
    by_cases hL : so < 333
    · rw [if_pos hL]
      unfold gBW gSts
      cases hg : gDcs kd ((fun _ _ _ _ _ _ => none : gM) 1 w so) 3002 a (so + 1) ks (bOp (vOpB w) w) with
      | none => rfl
      | some p =>
        show ((gLp kd 39 (sSt kd ky so ((fun _ _ _ _ _ _ => none : gM) 0 0 so)) (3001 + 1) p.1 (p.2.1, p.2.2.1, p.2.2.2)).bind _) = none
        rw [gLp_s]
        have e : ∀ x i, sSt kd ky so ((fun _ _ _ _ _ _ => none : gM) 0 0 so) x i = none := fun x i => by
          unfold sSt gSt1
          cases gLbs kd ky so 3002 i b0 with
          | none => rfl
          | some u => rfl
        rw [e]
        rfl
    · rw [if_neg hL]
  have h3 := h2.2 a1
  by_cases hL : so < 333
  · obtain ⟨q2, _⟩ := h3.1 hL
    have hW := hW q2
    rw [if_pos hL, a1]
    rw [q2] at hW
    refine cQ_b hW h4.1 ?_
    rintro ⟨j5, o5, k5, b5⟩ - q3 ⟨hj, g1, g2, g3, g4, g5, g6⟩
    obtain rfl : ta3 = j5 := hj
    refine cQ_b h4 (fun h => h) ?_
    rintro j6 - q4 hj
    subst hj
    exact cQ_e (fun _ => ⟨rfl, g1, g2, g3, hc q3, g6⟩)
  · have n3 := h3.2 hL
    rw [if_neg hL]
    exact cQ_n (fun h => n3 (d3 (h4.1 h)))
end
section
variable {f13 g13 : Nat → Int64} {f14 f15 f16 f17 f18 f19 f20 f21 f22 f23 f24 f25 f26 g14 g15 g16 g17 g18 g19 g20 g21 g22 g23 g24 g25 g26 : Nat → Int32} {bn sn bn' sn' : Int32} {so w ss sw tf tf1 : Int} {pl ky : Int → Int} {m : Nat → Int32} {p so' sc' sl' : Int}
theorem opB_x {T T2 : gV} (h : oQ so tf tf1 ss so' sc' sl' T T2 w (sPr T w)) (q : tf1 = -2) (e : T2 10 0 = T 10 0) : bX pl ky ss T T2 sw sw m m (bOp (vOpB w) w) ∧ so' = so + 1 ∧ sc' = so ∧ so < 333 := by
  by_cases hL : so < 333
  · obtain ⟨_, e1, e2, e3, e4, e5⟩ := (h.2 (h.1 q)).1 hL
    refine ⟨?_, e1, e2, hL⟩
    by_cases hz : ss = 0
    · refine bX_v hz (by omega) (by show T2 10 0 ≤ T 10 0 + 0; omega) (fun _ => ?_)
      show (rOpn T w (sPr T w), sw) = (T2, sw)
      rw [e4 hz]
    · rw [e5 hz]
      exact bX_s hz
  · exact absurd q ((h.2 (h.1 q)).2 hL)
theorem p7_u (h0 : 0 ≤ so) (hu : (g23 so.toNat).toInt = w ∧ so < sn'.toInt) : eT g13 g14 g15 g16 g17 g18 g19 g20 g21 g22 g23 g24 g25 g26 bn' sn' 7 so.toNat = w ∧ so < eT g13 g14 g15 g16 g17 g18 g19 g20 g21 g22 g23 g24 g25 g26 bn' sn' 11 0 := hu
end
