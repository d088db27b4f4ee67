section
variable {pl ky kd : Int → Int} {L : Int} {lo : gL} {lm : gM} {X : Int → Int → gR} {P : Int → Int → Int → gS} {ss sw sw1 sw2 sw3 sw4 w wo ty so so1 so2 so3 s ks ks1 ks2 ks3 sc sc1 sc2 sc3 r r1 r2 i i2 tf tf1 tf2 tf3 tf4 tf5 tf6 tf7 ta ta1 ta2 ta3 ta4 ta5 ta6 ta7 td td1 tdb : Int} {T T1 T2 T3 T4 : gV} {m m1 m2 m3 m4 : Nat → Int32} {b : gB} {Y : Int → gR}
theorem P_sel {x : gB} (hx : bX pl ky ss T T1 sw sw1 m m1 x) (h : cQ (gEl1 kd Y ta) tf tf1 (rL pl ky ss T1 T2 sw1 sw2 m1 m2 ta1)) : cQ (sEl kd Y x ta) tf tf1 (fun p => ta1 = p.1 ∧ bX pl ky ss T T2 sw sw2 m m2 p.2) := by
  refine cQ_b h (fun h => h) ?_
  rintro ⟨j, p⟩ - q ⟨hj, s1⟩
  exact cQ_e (fun _ => ⟨hj, bX_q hx s1⟩)
theorem ct_x (h : cQ (tkn kd 27 ta) tf tf1 (rU T pl ky w ss sw sw1 m m1 ta ta1 r)) (g : bQ ss sw1 sw2 (xCt T r) 0) (q : tf1 = -2) : bX pl ky ss T T sw sw2 m m1 (bUs ta w (fun e => xCt e (gMe e w (ky ta)))) := by
  obtain ⟨a, _, rr⟩ := cQ_a h q
  exact bX_u (x := fun e => xCt e (gMe e w (ky ta))) (us_r (x := fun k => xCt T k) rr.2 g (fun k hk => xCt_neg hk))
theorem P_for (h1 : cQ (tkn kd 14 ta) tf tf1 (fun j => ta1 = j)) (h2 : cQ (tkn kd 27 ta1) tf1 tf2 (rU T pl ky w ss sw sw1 m m1 ta1 ta2 r)) (h3 : cQ (tkn kd 47 ta2) tf2 tf3 (fun j => ta3 = j)) (hE : cQ (gEls kd Y ta3 (bUs ta1 w (fun e => xCt e (gMe e w (ky ta1))))) tf3 tf4 (fun p => ta4 = p.1 ∧ bX pl ky ss T T sw sw2 m m2 p.2)) (h5 : dQ kd 15 tf4 tf5 ta4 ta5 tdb td1) (hb : tf4 = -2 → tdb = td) (hz : ¬ td < 20 → ∀ i o q, P i o q = none)
    (h6 : tf5 = -2 → cQ (P ta5 so ks) tf5 tf6 (rB pl ky ss T T1 sw2 sw3 m2 m3 so so1 ks1 sc sc1 ta6)) (d6 : tf6 = -2 → tf5 = -2) : cQ (gFor kd ky Y P w ta so ks) tf tf6 (rB pl ky ss T T1 sw sw3 m m3 so so1 ks1 sc sc1 ta6) := by
  have d5 : tf5 = -2 → tf4 = -2 := h5.1
  refine cQ_b h1 (fun h => h2.1 (h3.1 (hE.1 (d5 (d6 h))))) ?_
  rintro j - q1 hj
  subst hj
  refine cQ_b h2 (fun h => h3.1 (hE.1 (d5 (d6 h)))) ?_
  rintro j2 - q2 ⟨hj, _⟩
  subst hj
  refine cQ_b h3 (fun h => hE.1 (d5 (d6 h))) ?_
  rintro j3 - q3 hj
  subst hj
  refine cQ_B hE (fun h => d5 (d6 h)) ?_
  rintro ⟨j4, p4⟩ hF - q4 ⟨hj, s4⟩
  obtain rfl : ta4 = j4 := hj
  refine cQ_d h5 d6 (fun q q' a => ?_) (fun a0 a1 a2 a3 a4 => ?_)
  · rw [hb q] at q'
    rw [hz q']
    rfl
  refine cQ_b (h6 a1) (fun h => h) ?_
  rintro ⟨j6, o6, k6, b6⟩ - q6 ⟨hj, g1, g2, g3, g4, g5⟩
  refine cQ_e (fun _ => ⟨hj, g1, g2, ?_, g4, bX_q s4 g5⟩)
  show so1 = so + ((p4.2.2.1 ++ b6.2.2.1).length : Int)
  have e : p4.2.2.1 = [] := np_els rfl hF
  rw [e]
  exact g3
theorem K_for (h : oK (gFor kd ky Y P w ta so ks) T sw so) (h0 : ¬ ss = 0) (h1 : cQ (tkn kd 14 ta) tf tf1 (fun j => ta1 = j)) (h2 : cQ (tkn kd 27 ta1) tf1 tf2 (rU T pl ky w ss sw sw1 m m1 ta1 ta2 r)) (h3 : cQ (tkn kd 47 ta2) tf2 tf3 (fun j => ta3 = j)) (hE : cQ (gEls kd Y ta3 (bUs ta1 w (fun e => xCt e (gMe e w (ky ta1))))) tf3 tf4 (fun p => ta4 = p.1 ∧ bX pl ky ss T T sw sw2 m m2 p.2)) (h5 : dQ kd 15 tf4 tf5 ta4 ta5 tdb td1) (q : tf5 = -2) : oK (P ta5 so ks) T sw2 so := by
  have a5 := dQ_l h5 q
  obtain ⟨p, hp, rp⟩ := cQ_a hE a5.1
  have a3 := tk_l h3 (hE.1 a5.1)
  have a2 := us_l h2 a3.1
  have a1 := tk_l h1 (h2.1 a3.1)
  have ep : ta4 = p.1 := rp.1
  unfold gFor at h
  rw [a1.2.2.2] at h
  have h : oK ((tkn kd 27 ta1).bind _) T sw so := h
  rw [tkn_p a2.2, ← a2.1] at h
  have h : oK ((tkn kd 47 ta2).bind _) T sw so := h
  rw [a3.2.2.2] at h
  have h : oK ((gEls kd Y ta3 (bUs ta1 w (fun e => xCt e (gMe e w (ky ta1))))).bind _) T sw so := h
  rw [hp] at h
  have h : oK ((tkn kd 15 p.1).bind _) T sw so := h
  rw [← ep, tkn_p a5.2.2.2.1, ← a5.2.2.2.2] at h
  have h : oK ((P ta5 so ks).bind _) T sw so := h
  have z := rp.2.2 h0 h.1
  refine oK_t (oK_q h (fun r a hr => ?_)) rfl z.2.1
  cases hr
  have e : p.2.2.2.1 = [] := np_els rfl hp
  exact ⟨[], by show p.2.2.2.1 ++ gPs r = gPs r ++ []; rw [e, List.append_nil]; rfl⟩
def cLb (kd ky : Int → Int) (w : Int) (F : Option (Int × gB)) (tf0 tf ta i : Int) (R : gB → Prop) : Prop :=
  (tf = -2 → tf0 = -2) ∧ (tf0 = -2 → (tf = -2 → i ≤ ta ∧ ∃ (k : Nat) (x : gB), 3002 ≤ (k : Int) + i ∧ F = gLbs kd ky w k ta x ∧ R x) ∧ (¬ tf = -2 → F = none))
variable {F : Option (Int × gB)} {R R' : gB → Prop} {bn bn1 : Int}
theorem cLb_0 (h0 : 0 ≤ ta) (h : R b0) : cLb kd ky w (gLbs kd ky w 3002 ta b0) tf tf ta 0 R := ⟨fun q => q, fun q0 => ⟨fun _ => ⟨h0, 3002, b0, by omega, rfl, h⟩, fun q => absurd q0 q⟩⟩
theorem cLb_s (h : cLb kd ky w F tf tf1 ta1 i R) (hk : tf1 = -2 ∧ (kd ta1 = 27 ∧ kd (ta1 + 1) = 40)) (h1 : cQ (tkn kd 27 ta1) tf1 tf2 (rDc pl ky ss T T1 sw sw1 m m1 (vD ky ta1 5 0 w) bn bn1 ta2 r)) (h2 : cQ (tkn kd 40 ta2) tf2 tf3 (fun j => ta3 = j)) (hR : ∀ x y, R x → bX pl ky ss T T1 sw sw1 m m1 y → R' (bSq x y)) (hi : i ≤ 3000) (hi2 : i2 = i + 1) : cLb kd ky w F tf tf3 ta3 i2 R' := by
  refine ⟨fun q => h.1 hk.1, fun q0 => ?_⟩
  obtain ⟨hit, k, x, hkk, hF, hs⟩ := (h.2 q0).1 hk.1
  obtain ⟨k', rfl⟩ : ∃ k' : Nat, k = k' + 1 := ⟨k - 1, by omega⟩
  have t1 := tkn_p hk.2.1
  have a := (h1.2 hk.1).1 _ t1
  obtain ⟨e1, e2, _⟩ := a.2
  have t2 : tkn kd 40 ta2 = some (ta2 + 1) := by rw [e1]; exact tkn_p hk.2.2
  have c := (h2.2 a.1).1 _ t2
  have ec : ta3 = ta2 + 1 := c.2
  refine ⟨fun q => ⟨by omega, k', bSq x (bEv (vD ky ta1 5 0 w)), by omega, ?_, hR _ _ hs e2⟩, fun q => absurd c.1 q⟩
  rw [hF]
  show (if kd ta1 = 27 ∧ kd (ta1 + 1) = 40 then _ else _) = _
  rw [if_pos hk.2, t1]
  show (tkn kd 40 (ta1 + 1)).bind _ = _
  rw [← e1, t2, ec]
  rfl
theorem cLb_x (h : cLb kd ky w F tf tf1 ta1 i R) (hk : tf1 = -2 → ¬ (kd ta1 = 27 ∧ kd (ta1 + 1) = 40)) (hi : i ≤ 3001) : cQ F tf tf1 (fun p => ta1 = p.1 ∧ R p.2) := by
  refine cQ_p h.1 (fun q0 => ?_)
  by_cases q1 : tf1 = -2
  · obtain ⟨hit, k, x, hkk, hF, hs⟩ := (h.2 q0).1 q1
    obtain ⟨k', rfl⟩ : ∃ k' : Nat, k = k' + 1 := ⟨k - 1, by omega⟩
    have : F = some (ta1, x) := by
      rw [hF]
      show (if kd ta1 = 27 ∧ kd (ta1 + 1) = 40 then _ else _) = _
      rw [if_neg (hk q1)]
    rw [this, q0, q1]
    exact cQ_e (fun _ => ⟨rfl, hs⟩)
  · rw [(h.2 q0).2 q1]
    exact cQ_n q1
theorem cLb_y {G : Int × gB → Prop} (h : cLb kd ky w F tf tf1 ta1 i R) (hi : 3001 ≤ i) (ht : ta1 < 3001) : cQ F tf tf1 G := by
  refine cQ_p h.1 (fun q0 => ?_)
  have hd : ¬ tf1 = -2 := fun q1 => by
    have := ((h.2 q0).1 q1).1
    omega
  rw [(h.2 q0).2 hd]
  exact cQ_n hd
theorem P_st1 (hL : cQ (gLbs kd ky w 3002 ta b0) tf tf1 (fun p => ta1 = p.1 ∧ bX pl ky ss T T1 sw sw1 m m1 p.2)) (h2 : cQ (P ta1 so ks) tf1 tf2 (rB pl ky ss T1 T2 sw1 sw2 m1 m2 so so1 ks1 sc sc1 ta2)) : cQ (gSt1 kd ky w P ta so ks) tf tf2 (rB pl ky ss T T2 sw sw2 m m2 so so1 ks1 sc sc1 ta2) := by
  refine cQ_B hL h2.1 ?_
  rintro ⟨j, p⟩ hF - q1 ⟨hj, s1⟩
  obtain rfl : ta1 = j := hj
  refine cQ_b h2 (fun h => h) ?_
  rintro ⟨j6, o6, k6, b6⟩ - q6 ⟨hj, g1, g2, g3, g4, g5⟩
  refine cQ_e (fun _ => ⟨hj, g1, g2, ?_, g4, bX_q s1 g5⟩)
  show so1 = so + ((p.2.2.1 ++ b6.2.2.1).length : Int)
  have e : p.2.2.1 = [] := np_lbs _ _ _ _ hF
  rw [e]
  exact g3
theorem K_st1 (h : oK (gSt1 kd ky w P ta so ks) T sw so) (h0 : ¬ ss = 0) (hL : cQ (gLbs kd ky w 3002 ta b0) tf tf1 (fun p => ta1 = p.1 ∧ bX pl ky ss T T1 sw sw1 m m1 p.2)) (q : tf1 = -2) : oK (P ta1 so ks) T1 sw1 so := by
  obtain ⟨p, hp, rp⟩ := cQ_a hL q
  have ep : ta1 = p.1 := rp.1
  unfold gSt1 at h
  rw [hp] at h
  have h : oK ((P p.1 so ks).bind _) T sw so := h
  rw [← ep] at h
  have z := rp.2.2 h0 h.1
  refine oK_t (oK_q h (fun r a hr => ?_)) z.1 z.2.1
  cases hr
  have e : p.2.2.2.1 = [] := np_lbs _ _ _ _ hp
  exact ⟨[], by show p.2.2.2.1 ++ gPs r = gPs r ++ []; rw [e, List.append_nil]; rfl⟩
theorem P_dc1 (hk : tf = -2 → kd ta = 9) (h : cQ (gSwi kd ky w ta) tf tf1 (rL pl ky ss T T1 sw sw1 m m1 ta1)) : cQ (gDcl kd ky L X lm wo w ta so ks) tf tf1 (rB pl ky ss T T1 sw sw1 m m1 so so ks sc sc ta1) := cQ_it hk (cQ_L h (fun p hp => np_swi hp))
theorem P_dc2 (hk : tf = -2 → ¬ kd ta = 9) (ha : aQ kd 8 tf ta ta1 1) (h1 : cQ (gTyp kd ta1) tf tf1 (fun p => ta2 = p.1 ∧ r = p.2)) (h2 : cQ (gVas kd ky 1 r w ta2 ks b0) tf1 tf2 (rV pl ky ss T T1 sw sw1 m m1 ks1 ta3)) : cQ (gDcl kd ky L X lm wo w ta so ks) tf tf2 (rB pl ky ss T T1 sw sw1 m m1 so so ks1 sc sc ta3) := by
  have hc := aQ_t ha
  refine cQ_if hk (cQ_it (fun _ => hc.2.1) ?_)
  rw [tkn_p hc.2.1, ← hc.2.2]
  show cQ ((gTyp kd ta1).bind _) _ _ _
  refine cQ_b h1 h2.1 ?_
  rintro ⟨j, t⟩ - q1 ⟨hj, ht⟩
  obtain rfl : ta2 = j := hj
  obtain rfl : r = t := ht
  exact cQ_V h2 (fun p hp => np_vas hp)
theorem P_dc3 {R : Int × Int × Int × gB → Prop} (hk : tf = -2 → ¬ kd ta = 9) (ha : aQ kd 8 tf ta ta1 0) (c : tf = -2 → kd ta1 = 3 ∨ kd ta1 = 4) (h1 : cQ (gTyp kd ta1) tf tf1 (fun p => ta2 = p.1 ∧ r = p.2)) (h2 : cQ (gTyD kd ky L X lm wo r w ta2 so ks) tf1 tf2 R) : cQ (gDcl kd ky L X lm wo w ta so ks) tf tf2 R := by
  have hc := aQ_u ha
  rw [hc.2] at h1 c
  refine cQ_if hk (cQ_if hc.1 (cQ_it c ?_))
  refine cQ_b h1 h2.1 ?_
  rintro ⟨j, t⟩ - q1 ⟨hj, ht⟩
  obtain rfl : ta2 = j := hj
  obtain rfl : r = t := ht
  exact h2
theorem P_dc4 {R : Int × Int × Int × gB → Prop} (hk : tf = -2 → ¬ kd ta = 9) (ha : aQ kd 8 tf ta ta1 0) (c : tf = -2 → ¬ (kd ta1 = 3 ∨ kd ta1 = 4)) (h2 : cQ (gTyD kd ky L X lm wo 0 w ta1 so ks) tf tf2 R) : cQ (gDcl kd ky L X lm wo w ta so ks) tf tf2 R := by
  have hc := aQ_u ha
  rw [hc.2] at h2 c
  exact cQ_if hk (cQ_if hc.1 (cQ_if c h2))
theorem K_dc3 (h : oK (gDcl kd ky L X lm wo w ta so ks) T sw s) (hk : ¬ kd ta = 9) (ha : aQ kd 8 tf ta ta1 0) (c : kd ta1 = 3 ∨ kd ta1 = 4) (h1 : cQ (gTyp kd ta1) tf tf1 (fun p => ta2 = p.1 ∧ r = p.2)) (q : tf1 = -2) : oK (gTyD kd ky L X lm wo r w ta2 so ks) T sw s := by
  have hc := aQ_u ha
  obtain ⟨p, hp, rp⟩ := cQ_a h1 q
  have hn := hc.1 (h1.1 q)
  rw [hc.2] at hp c
  unfold gDcl at h
  rw [if_neg hk, if_neg hn, if_pos c, hp] at h
  have h : oK (gTyD kd ky L X lm wo p.2 w p.1 so ks) T sw s := h
  rw [rp.1, rp.2]
  exact h
theorem K_dc4 (h : oK (gDcl kd ky L X lm wo w ta so ks) T sw s) (q : tf = -2) (hk : ¬ kd ta = 9) (ha : aQ kd 8 tf ta ta1 0) (c : ¬ (kd ta1 = 3 ∨ kd ta1 = 4)) : oK (gTyD kd ky L X lm wo 0 w ta1 so ks) T sw s := by
  have hc := aQ_u ha
  have hn := hc.1 q
  rw [hc.2] at c ⊢
  unfold gDcl at h
  rw [if_neg hk, if_neg hn, if_neg c] at h
  exact h
theorem P_td1 {R : Int × Int × Int × gB → Prop} (hk : tf = -2 → kd ta = 6) (h : cQ (gPro kd ky L lm ty w ta so ks) tf tf1 R) : cQ (gTyD kd ky L X lm wo ty w ta so ks) tf tf1 R := cQ_it hk h
theorem K_td1 (h : oK (gTyD kd ky L X lm wo ty w ta so ks) T sw s) (hk : kd ta = 6) : oK (gPro kd ky L lm ty w ta so ks) T sw s := by
  unfold gTyD at h
  rw [if_pos hk] at h
  exact h
theorem P_td2 (hk : tf = -2 → ¬ kd ta = 6) (ha : aQ kd 5 tf ta ta1 1) (h : cQ (gSgs kd ky X ty wo w ta1 ks b0) tf tf1 (rV pl ky ss T T1 sw sw1 m m1 ks1 ta2)) : cQ (gTyD kd ky L X lm wo ty w ta so ks) tf tf1 (rB pl ky ss T T1 sw sw1 m m1 so so ks1 sc sc ta2) := by
  have hc := aQ_t ha
  refine cQ_if hk (cQ_it (fun _ => hc.2.1) ?_)
  rw [tkn_p hc.2.1, ← hc.2.2]
  exact cQ_V h (fun p hp => np_sgs hp)
theorem P_td3 (hk : tf = -2 → ¬ kd ta = 6) (ha : aQ kd 5 tf ta ta1 0) (h : cQ (gVas kd ky 0 ty w ta1 ks b0) tf tf1 (rV pl ky ss T T1 sw sw1 m m1 ks1 ta2)) : cQ (gTyD kd ky L X lm wo ty w ta so ks) tf tf1 (rB pl ky ss T T1 sw sw1 m m1 so so ks1 sc sc ta2) := by
  have hc := aQ_u ha
  rw [hc.2] at h
  exact cQ_if hk (cQ_if hc.1 (cQ_V h (fun p hp => np_vas hp)))
theorem P_sse {x : Int × gB} (hx : ks = x.1 ∧ bX pl ky ss T T1 sw sw1 m m1 x.2) (h : cQ (gSeg kd ky X ty wo w ta ks) tf tf1 (rV pl ky ss T1 T2 sw1 sw2 m1 m2 ks1 ta1)) : cQ (sSe kd ky X ty wo w x ta) tf tf1 (fun p => ta1 = p.1 ∧ ks1 = p.2.1 ∧ bX pl ky ss T T2 sw sw2 m m2 p.2.2) := by
  unfold sSe
  rw [← hx.1]
  refine cQ_b h (fun h => h) ?_
  rintro ⟨j, q, b⟩ - _ ⟨hj, h1, h2⟩
  exact cQ_e (fun _ => ⟨hj, h1, bX_q hx.2 h2⟩)
theorem opP_x {v : gE} (hd : bX pl ky ss T T1 sw sw1 m m1 (bEv v)) (hr : ss = 0 → bn1 ≤ 1500 → r = bn ∧ bn1 = bn + 1) (h0 : 0 ≤ bn) (h3 : ss = 0 → 0 ≤ r ∧ r < bn1 → T2 = rOpn (gst T1 6 r.toNat so) w r) (h4 : ¬ ss = 0 → T2 = T1) (hs : ss = 0 → T1 11 0 = so) (e1 : T1 10 0 = bn1) (e2 : T2 10 0 = bn1) : bX pl ky ss T T2 sw sw1 m m1 (bSq (bEv v) (bOp (vOpP w) w)) := by
  refine bX_q hd ?_
  by_cases hz : ss = 0
  · refine bX_v hz (by omega) (by show T2 10 0 ≤ T1 10 0 + 0; omega) (fun h5 => ?_)
    have a := hr hz (by omega)
    show (rOpn (gst T1 6 (T1 10 0 - 1).toNat (T1 11 0)) w (T1 10 0 - 1), sw1) = (T2, sw1)
    rw [h3 hz (by omega), hs hz, e1, show bn1 - 1 = r by omega]
  · rw [h4 hz]
    exact bX_s hz
theorem P_hd0 (hb : bX pl ky ss T T1 sw sw1 m m1 b) (c : tf = -2 → ¬ kd ta = 34) (h : cQ (tkn kd 39 ta) tf tf1 (fun j => ta1 = j)) : cQ (gHed kd ky w ta b) tf tf1 (fun p => ta1 = p.1 ∧ bX pl ky ss T T1 sw sw1 m m1 p.2) := by
  refine cQ_if c (cQ_b h (fun h => h) ?_)
  rintro j - _ hj
  exact cQ_e (fun _ => ⟨hj, hb⟩)
theorem gRun_n {pl : Int → Int} : ∀ (vs : List gE) (T : gV) (sw : Int), (gRun pl vs (T, sw)).1 10 0 = T 10 0 + nDe vs := by
  have h1 : ∀ (v : gE) (x : gW), (gRn1 pl x v).1 10 0 = x.1 10 0 + nDe [v] := by
    rintro ⟨c, a1, a2, a3, a4, a5⟩ ⟨T, sw⟩
    match c with
    | 0 =>
      show (gst (rChn (rRow T a1 (pl a2) a3 a4 a5) a5 (T 10 0)) 15 a5.toNat (T 10 0)) 10 0 = T 10 0 + 1
      unfold gst rChn
      rw [if_neg (by omega)]
      by_cases c1 : rRow T a1 (pl a2) a3 a4 a5 8 a5.toNat < 0
      · rw [if_pos c1]
        rfl
      · rw [if_neg c1]
        by_cases c2 : 0 ≤ rRow T a1 (pl a2) a3 a4 a5 15 a5.toNat ∧ rRow T a1 (pl a2) a3 a4 a5 15 a5.toNat < rRow T a1 (pl a2) a3 a4 a5 10 0
        · rw [if_pos c2]
          rfl
        · rw [if_neg c2]
          rfl
    | 1 => show T 10 0 = T 10 0 + 0; omega
    | 2 => show T 10 0 = T 10 0 + 0; omega
    | 3 => show T 10 0 = T 10 0 + 0; omega
    | 4 =>
      show rDim T a1 a2 10 0 = T 10 0 + 0
      unfold rDim
      rw [if_neg (by omega)]
      omega
    | 5 => show T 10 0 = T 10 0 + 0; omega
    | 6 =>
      show (if rPar T a1 a3 < 0 ∨ 0 ≤ gG (T 13) (T 10 0) (-1) (rPar T a1 a3) then (T, min sw (pl a2)) else (gst T 13 (rPar T a1 a3).toNat (pl a2), sw)).1 10 0 = T 10 0 + 0
      by_cases c1 : rPar T a1 a3 < 0 ∨ 0 ≤ gG (T 13) (T 10 0) (-1) (rPar T a1 a3)
      · rw [if_pos c1]; show T 10 0 = T 10 0 + 0; omega
      · rw [if_neg c1]; show T 10 0 = T 10 0 + 0; omega
    | 7 =>
      show (if rPar T a1 a5 < 0 ∨ ¬ nK T (rPar T a1 a5) = 0 then (T, min sw (pl a2)) else (gst (gst T 1 (rPar T a1 a5).toNat a3) 2 (rPar T a1 a5).toNat a4, _)).1 10 0 = T 10 0 + 0
      by_cases c1 : rPar T a1 a5 < 0 ∨ ¬ nK T (rPar T a1 a5) = 0
      · rw [if_pos c1]; show T 10 0 = T 10 0 + 0; omega
      · rw [if_neg c1]; show T 10 0 = T 10 0 + 0; omega
    | n + 8 => show T 10 0 = T 10 0 + 0; omega
  intro vs
  induction vs with
  | nil => intro T sw; show T 10 0 = T 10 0 + 0; omega
  | cons v vs ih =>
    intro T sw
    show (gRun pl vs (gRn1 pl (T, sw) v)).1 10 0 = _
    have e := ih (gRn1 pl (T, sw) v).1 (gRn1 pl (T, sw) v).2
    have e2 : gRun pl vs ((gRn1 pl (T, sw) v).1, (gRn1 pl (T, sw) v).2) = gRun pl vs (gRn1 pl (T, sw) v) := rfl
    rw [← e2, e, h1, show v :: vs = [v] ++ vs from rfl, nDe_a]
    show T 10 0 + nDe [v] + nDe vs = T 10 0 + (nDe [v] + nDe vs)
    omega
theorem P_hd1 {c : Int} (hb : bX pl ky ss T T1 sw sw1 m m1 b) (hk : tf = -2 → kd ta = 34) (hp : cQ (gPar kd ky w ta) tf tf1 (rV pl ky ss T1 T2 sw1 sw2 m1 m2 c ta1)) (e2 : T2 10 0 = bn) (e3 : T3 10 0 = bn) (s1 : ss = 0 → ∀ n, 0 ≤ n → bn = T1 10 0 + n → n = c → bn ≤ 1500 → T3 = gst T2 3 (bn - 1 - c).toNat c) (s2 : ¬ ss = 0 → T3 = T2) (h39 : cQ (tkn kd 39 ta1) tf1 tf2 (fun j => ta2 = j)) (hv : cQ (gVls kd ky w ta2) tf2 tf3 (rL pl ky ss T3 T4 sw2 sw3 m2 m3 ta3)) {T5 : gV} {sw5 : Int} (hs : cQ (gSps kd ky w 3002 ta3 b0) tf3 tf4 (rL pl ky ss T4 T5 sw3 sw4 m3 m4 ta4)) (ha : sw5 = rAll T5 1501 (vF T5 w) sw4) : cQ (gHed kd ky w ta b) tf tf4 (fun p => ta4 = p.1 ∧ bX pl ky ss T T5 sw sw5 m m4 p.2) := by
  refine cQ_it hk (cQ_B hp (fun h => h39.1 (hv.1 (hs.1 h))) ?_)
  rintro ⟨j, k, b1⟩ hF - q1 ⟨hj, ek, x1⟩
  obtain rfl : ta1 = j := hj
  obtain rfl : c = k := ek
  refine cQ_b h39 (fun h => hv.1 (hs.1 h)) ?_
  rintro j2 - q2 hj
  subst hj
  refine cQ_b hv hs.1 ?_
  rintro ⟨j3, b3⟩ - q3 ⟨hj, x3⟩
  obtain rfl : ta3 = j3 := hj
  refine cQ_b hs (fun h => h) ?_
  rintro ⟨j4, b4⟩ - q4 ⟨hj, x4⟩
  refine cQ_e (fun _ => ⟨hj, bX_q (bX_q (bX_q (bX_q (bX_q hb x1) ?_) x3) x4) (al_x ha)⟩)
  by_cases hz : ss = 0
  · refine bX_v hz (by omega) (by show T3 10 0 ≤ T2 10 0 + 0; omega) (fun h5 => ?_)
    have a := x1.1 hz
    have g := a.2.2.2 (by omega)
    have n1 := gRun_n (pl := pl) b1.2.1 T1 sw1
    rw [g] at n1
    have n2 : nDe b1.2.1 = c := (np_par hF).2
    have n1 : T2 10 0 = T1 10 0 + nDe b1.2.1 := n1
    show (gst T2 3 (T2 10 0 - 1 - c).toNat c, sw2) = (T3, sw2)
    rw [s1 hz (nDe b1.2.1) nDe_0 (by omega) n2 (by omega), e2]
  · rw [s2 hz]
    exact bX_s hz
end
