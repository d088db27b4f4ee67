theorem xLa_neg {e : gV} {k : Int} (h : k < 0) : xLa e k = none := if_neg (by intro q; rw [show isLa e k = (nK e k = 5 ∨ nK e k = 8) from rfl, nK_neg h] at q; omega)
theorem xSw_neg {e : gV} {k : Int} (h : k < 0) : xSw e k = none := if_neg (by rw [nK_neg h]; omega)
theorem xCt_neg {e : gV} {k : Int} (h : k < 0) : xCt e k = none := if_neg (by intro q; rw [show isSi e k = (nK e k = 1 ∨ nK e k = 6) from rfl, nK_neg h] at q; omega)
theorem xCl_neg {e : gV} {k c : Int} (h : k < 0) : xCl e k c = none := if_neg (by intro q; have := q.1; rw [nK_neg h] at this; omega)
theorem xTa_neg {e : gV} {w k : Int} (h : k < 0) : xTa e w k = none := ta_3 (by intro q; rw [show isSi e k = (nK e k = 1 ∨ nK e k = 6) from rfl, nK_neg h] at q; omega) (by intro q; have := q.1; rw [nK_neg h] at this; omega)
section
variable {pl ky kd : Int → Int} {ss sw sw1 sw2 sw3 r r1 r2 ra w i k tf tf1 tf2 tf3 tf4 ta ta1 ta2 ta3 ta4 ks ks1 ks2 bn bn1 bn2 kind ty own so : Int} {e T T1 T2 : gV} {m m1 m2 : Nat → Int32} {b : gB}
theorem us_r {x : Int → Option Int} (h : vX e pl ky ss sw sw1 m m1 [(ta, w)] (xU e w (ky ta)) r) (g : bQ ss sw1 sw2 (x r) r2) (hn : ∀ k, k < 0 → x k = none) : vX e pl ky ss sw sw2 m m1 [(ta, w)] (x (gMe e w (ky ta))) r2 := by
  have z := vX_b (Y := x) (vs := []) (m2 := m1) (r2 := r2) h g.1 (fun h0 => ⟨g.2.1 h0, rfl⟩) (fun t _ hr => by subst hr; exact vX_r g)
  exact vX_c z rfl (xU_b hn)
theorem P_typ1 (ha : aQ kd 4 tf ta ta1 1) : cQ (gTyp kd ta) tf tf (fun p => ta1 = p.1 ∧ 2 = p.2) := by
  obtain ⟨_, hal, htk, hta⟩ : (1 : Int) = 1 ∧ tf = -2 ∧ kd ta = 4 ∧ ta1 = ta + 1 := by
    rcases ha with ha | ha
    · exact ha
    · exact absurd ha.1 (by decide)
  unfold gTyp
  rw [if_pos htk]
  exact cQ_e (fun _ => ⟨hta, rfl⟩)
theorem P_typ2 (ha : aQ kd 4 tf ta ta1 0) (h : cQ (tkn kd 3 ta1) tf tf1 (fun j => ta2 = j)) : cQ (gTyp kd ta) tf tf1 (fun p => ta2 = p.1 ∧ 1 = p.2) := by
  have hb : (tf = -2 → ¬ kd ta = 4) ∧ ta1 = ta := by
    rcases ha with ha | ha
    · exact absurd ha.1 (by decide)
    · exact ha.2
  rw [hb.2] at h
  unfold gTyp
  refine cQ_if hb.1 (cQ_b h (fun h => h) ?_)
  rintro j - q hj
  subst hj
  exact cQ_e (fun _ => ⟨rfl, rfl⟩)
def rSt (pl ky : Int → Int) (ss : Int) (T T' : gV) (sw sw' : Int) (m m' : Nat → Int32) (bn bn' ks' ta' r : Int) : Int × Int × gB → Prop := fun a => ta' = a.1 ∧ ks' = a.2.1 ∧ bX pl ky ss T T' sw sw' m m' a.2.2 ∧ (ss = 0 → bn' ≤ 1500 → r = bn ∧ bn' = bn + 1) ∧ (¬ ss = 0 → r = -1)
def rV (pl ky : Int → Int) (ss : Int) (T T' : gV) (sw sw' : Int) (m m' : Nat → Int32) (ks' ta' : Int) : Int × Int × gB → Prop := fun a => ta' = a.1 ∧ ks' = a.2.1 ∧ bX pl ky ss T T' sw sw' m m' a.2.2
def rL (pl ky : Int → Int) (ss : Int) (T T' : gV) (sw sw' : Int) (m m' : Nat → Int32) (ta' : Int) : Int × gB → Prop := fun a => ta' = a.1 ∧ bX pl ky ss T T' sw sw' m m' a.2
theorem P_sto1 (hk : ks < 60) (h : cQ (tkn kd 27 ta) tf tf1 (rDc pl ky ss T T1 sw sw1 m m1 (vD ky ta kind ty w) bn bn1 ta1 r)) (hs : tf1 = -2 → ks1 = ks + 1) : cQ (gSto kd ky kind ty w ta ks) tf tf1 (rSt pl ky ss T T1 sw sw1 m m1 bn bn1 ks1 ta1 r) := by
  unfold gSto
  rw [if_pos hk]
  refine cQ_b h (fun h => h) ?_
  rintro j - q ⟨hj, h1, h2, h3⟩
  subst hj
  exact cQ_e (fun _ => ⟨rfl, hs q, h1, h2, h3⟩)
theorem P_sto2 {R : Int × Int × gB → Prop} (hk : ¬ ks < 60) (h1 : ¬ tf1 = -2) (h : tf2 = -2 → tf1 = -2) : cQ (gSto kd ky kind ty w ta ks) tf tf2 R := by
  unfold gSto
  rw [if_neg hk]
  exact cQ_n (fun q => h1 (h q))
theorem P_lab (h : cQ (tkn kd 27 ta) tf tf1 (rU e pl ky w ss sw sw1 m m1 ta ta1 r)) (g : bQ ss sw1 sw2 (xLa e r) 0) : cQ (gLaU kd ky w ta) tf tf1 (rL pl ky ss e e sw sw2 m m1 ta1) := by
  unfold gLaU
  refine cQ_b h (fun h => h) ?_
  rintro j - q ⟨hj, h1⟩
  subst hj
  exact cQ_e (fun _ => ⟨rfl, bX_u (x := dLa w (ky ta)) (us_r (x := fun k => xLa e k) h1 g (fun k hk => xLa_neg hk))⟩)
theorem sVa_l {x : Int × gB} {p : Int × Int × gB} (h : sVa kd ky own ty w x i = some p) : i < p.1 := by
  unfold sVa gSto at h
  by_cases hq : x.1 < 60
  · rw [if_pos hq] at h
    unfold tkn at h
    by_cases hk : kd i = 27
    · rw [if_pos hk] at h; cases h; show i < i + 1; omega
    · rw [if_neg hk] at h; cases h
  · rw [if_neg hq] at h; cases h
theorem sSw_l {x : Int × gB} {p : Int × Int × gB} (h : sSw kd ky w x i = some p) : i < p.1 := by
  unfold sSw gLaU at h
  by_cases hq : x.1 < 20
  · rw [if_pos hq] at h
    unfold tkn at h
    by_cases hk : kd i = 27
    · rw [if_pos hk] at h; cases h; show i < i + 1; omega
    · rw [if_neg hk] at h; cases h
  · rw [if_neg hq] at h; cases h
theorem sPn_l {x : Int × gB} {p : Int × Int × gB} (h : sPn kd ky w x i = some p) : i < p.1 := by
  unfold sPn at h
  by_cases hq : x.1 < 6
  · rw [if_pos hq] at h
    unfold tkn at h
    by_cases hk : kd i = 27
    · rw [if_pos hk] at h; cases h; show i < i + 1; omega
    · rw [if_neg hk] at h; cases h
  · rw [if_neg hq] at h; cases h
theorem P_va0 {x : Int × gB} (hx : ks = x.1 ∧ bX pl ky ss T T1 sw sw1 m m1 x.2) (h : cQ (gSto kd ky 1 ty w ta ks) tf tf1 (rSt pl ky ss T1 T2 sw1 sw2 m1 m2 bn bn1 ks1 ta1 r)) (ho : own = 0) : cQ (sVa kd ky own ty w x ta) tf tf1 (fun p => ta1 = p.1 ∧ ks1 = p.2.1 ∧ bX pl ky ss T T2 sw sw2 m m2 p.2.2) := by
  unfold sVa
  rw [← hx.1]
  refine cQ_b h (fun h => h) ?_
  rintro ⟨j, q, b⟩ - _ ⟨hj, h1, h2, _⟩
  refine cQ_e (fun _ => ⟨hj, h1, ?_⟩)
  show bX pl ky ss T T2 sw sw2 m m2 (bSq x.2 (gVa1 own b))
  unfold gVa1
  rw [if_pos ho]
  exact bX_q hx.2 h2
theorem P_va1 {x : Int × gB} {T3 : gV} (hx : ks = x.1 ∧ bX pl ky ss T T1 sw sw1 m m1 x.2) (h : cQ (gSto kd ky 1 ty w ta ks) tf tf1 (rSt pl ky ss T1 T2 sw1 sw2 m1 m2 bn bn1 ks1 ta1 r)) (ho : ¬ own = 0) (hb : T2 10 0 = bn1) (hb3 : T3 10 0 = bn1) (h0 : 0 ≤ bn)
    (g1 : r = -1 → T3 = T2) (g2 : 0 ≤ r → r < bn1 → T3 = gst T2 14 r.toNat 1) : cQ (sVa kd ky own ty w x ta) tf tf1 (fun p => ta1 = p.1 ∧ ks1 = p.2.1 ∧ bX pl ky ss T T3 sw sw2 m m2 p.2.2) := by
  unfold sVa
  rw [← hx.1]
  refine cQ_b h (fun h => h) ?_
  rintro ⟨j, q, b⟩ - _ ⟨hj, h1, h2, h3, h4⟩
  refine cQ_e (fun _ => ⟨hj, h1, ?_⟩)
  show bX pl ky ss T T3 sw sw2 m m2 (bSq x.2 (gVa1 own b))
  unfold gVa1
  rw [if_neg ho]
  refine bX_q hx.2 (bX_q h2 ?_)
  by_cases hs : ss = 0
  · refine bX_v hs (by omega) (by rw [hb, hb3]; show bn1 ≤ bn1 + 0; omega) (fun h5 => ?_)
    rw [hb3] at h5
    have a := h3 hs h5
    show (gst T2 14 (T2 10 0 - 1).toNat 1, sw2) = (T3, sw2)
    rw [g2 (by omega) (by omega), hb, show bn1 - 1 = r by omega]
  · rw [g1 (h4 hs)]
    exact bX_s hs
theorem P_sw1 {x : Int × gB} (hx : k = x.1 ∧ bX pl ky ss T e sw sw1 m m1 x.2) (hk : k < 20) (h : cQ (gLaU kd ky w ta) tf tf1 (rL pl ky ss e e sw1 sw2 m1 m2 ta1)) (hr : r = k + 1) : cQ (sSw kd ky w x ta) tf tf1 (fun p => ta1 = p.1 ∧ r = p.2.1 ∧ bX pl ky ss T e sw sw2 m m2 p.2.2) := by
  unfold sSw
  rw [← hx.1, if_pos hk]
  refine cQ_b h (fun h => h) ?_
  rintro ⟨j, b⟩ - _ ⟨hj, h1⟩
  exact cQ_e (fun _ => ⟨hj, hr, bX_q hx.2 h1⟩)
theorem P_sw2 {x : Int × gB} {R : Int × Int × gB → Prop} (hx : k = x.1) (hk : ¬ k < 20) (h1 : ¬ tf1 = -2) (h : tf2 = -2 → tf1 = -2) : cQ (sSw kd ky w x ta) tf tf2 R := by
  unfold sSw
  rw [← hx, if_neg hk]
  exact cQ_n (fun q => h1 (h q))
theorem P_swi (h1 : cQ (tkn kd 9 ta) tf tf1 (fun j => ta1 = j)) (h2 : cQ (tkn kd 27 ta1) tf1 tf2 (rDc pl ky ss T T1 sw sw1 m m1 (vD ky ta1 4 0 w) bn bn1 ta2 r)) (h3 : cQ (tkn kd 47 ta2) tf2 tf3 (fun j => ta3 = j))
    (h4 : cQ (gLp kd 38 (sSw kd ky w) 3002 ta3 (0, bEv (vD ky ta1 4 0 w))) tf3 tf4 (fun p => ta4 = p.1 ∧ k = p.2.1 ∧ bX pl ky ss T T2 sw sw2 m m2 p.2.2)) : cQ (gSwi kd ky w ta) tf tf4 (rL pl ky ss T T2 sw sw2 m m2 ta4) := by
  unfold gSwi
  refine cQ_b h1 (fun h => h2.1 (h3.1 (h4.1 h))) ?_
  rintro j - _ hj
  subst hj
  refine cQ_b h2 (fun h => h3.1 (h4.1 h)) ?_
  rintro j - _ ⟨hj, _⟩
  subst hj
  refine cQ_b h3 h4.1 ?_
  rintro j - _ hj
  subst hj
  refine cQ_b h4 (fun h => h) ?_
  rintro ⟨j, c, b⟩ - _ ⟨hj, _, h5⟩
  exact cQ_e (fun _ => ⟨hj, h5⟩)
theorem P_pn1 {x : Int × gB} (hx : k = x.1 ∧ bX pl ky ss T T1 sw sw1 m m1 x.2) (hk : k < 6) (h : cQ (tkn kd 27 ta) tf tf1 (rDc pl ky ss T1 T2 sw1 sw2 m1 m2 (vD ky ta 0 0 w) bn bn1 ta1 r)) (hr : r2 = k + 1) : cQ (sPn kd ky w x ta) tf tf1 (fun p => ta1 = p.1 ∧ r2 = p.2.1 ∧ bX pl ky ss T T2 sw sw2 m m2 p.2.2) := by
  unfold sPn
  rw [← hx.1, if_pos hk]
  refine cQ_b h (fun h => h) ?_
  rintro j - _ ⟨hj, h1, _⟩
  exact cQ_e (fun _ => ⟨hj, hr, bX_q hx.2 h1⟩)
theorem P_pn2 {x : Int × gB} {R : Int × Int × gB → Prop} (hx : k = x.1) (hk : ¬ k < 6) (h1 : ¬ tf1 = -2) (h : tf2 = -2 → tf1 = -2) : cQ (sPn kd ky w x ta) tf tf2 R := by
  unfold sPn
  rw [← hx, if_neg hk]
  exact cQ_n (fun q => h1 (h q))
theorem P_par (h1 : cQ (tkn kd 34 ta) tf tf1 (fun j => ta1 = j)) (h2 : cQ (gLp kd 38 (sPn kd ky w) 3002 ta1 (0, b0)) tf1 tf2 (fun p => ta2 = p.1 ∧ k = p.2.1 ∧ bX pl ky ss T T2 sw sw2 m m2 p.2.2)) (h3 : cQ (tkn kd 35 ta2) tf2 tf3 (fun j => ta3 = j)) :
    cQ (gPar kd ky w ta) tf tf3 (rV pl ky ss T T2 sw sw2 m m2 k ta3) := by
  unfold gPar
  refine cQ_b h1 (fun h => h2.1 (h3.1 h)) ?_
  rintro j - _ hj
  subst hj
  refine cQ_b h2 h3.1 ?_
  rintro ⟨j, c, b⟩ - _ ⟨hj, hk, h5⟩
  obtain rfl : ta2 = j := hj
  refine cQ_b h3 (fun h => h) ?_
  rintro j - _ hj
  subst hj
  exact cQ_e (fun _ => ⟨rfl, hk, h5⟩)
end
section
variable {f13 : Nat → Int64} {f14 f15 f16 f17 f18 f19 f20 f21 f22 f23 f24 f25 f26 g22 : Nat → Int32} {bn sn r : Int32}
theorem ow_1 (h : zCh bn f22 r (vp_nar .boolean 1) g22) (hr : r.toInt = -1) : eT f13 f14 f15 f16 f17 f18 f19 f20 f21 g22 f23 f24 f25 f26 bn sn = eT f13 f14 f15 f16 f17 f18 f19 f20 f21 f22 f23 f24 f25 f26 bn sn := by
  rcases h with ⟨_, h2⟩ | ⟨k, h1, _, _⟩
  · rw [h2]
  · omega
theorem ow_2 (h : zCh bn f22 r (vp_nar .boolean 1) g22) (h0 : 0 ≤ r.toInt) (h1 : r.toInt < bn.toInt) : eT f13 f14 f15 f16 f17 f18 f19 f20 f21 g22 f23 f24 f25 f26 bn sn = gst (eT f13 f14 f15 f16 f17 f18 f19 f20 f21 f22 f23 f24 f25 f26 bn sn) 14 r.toInt.toNat 1 := by
  rcases h with ⟨h2, _⟩ | ⟨k, h2, _, h3⟩
  · exact absurd ⟨h0, h1⟩ h2
  · rw [h3, eT_u14, show r.toInt.toNat = k by omega]
    rfl
end
