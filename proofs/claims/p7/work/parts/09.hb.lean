def rSg (pl ky : Int → Int) (ss : Int) (T T' : gV) (sw sw' : Int) (m m' : Nat → Int32) (ks' bn' fst : Int) (x : Int × gB × Int) : Prop := ks' = x.1 ∧ bX pl ky ss T T' sw sw' m m' x.2.1 ∧ (ss = 0 → bn' ≤ 1500 → fst = bn' - x.2.2 ∧ 1 ≤ x.2.2 ∧ 0 ≤ fst) ∧ (¬ ss = 0 → fst = -1)
section
variable {pl ky kd : Int → Int} {ss sw sw1 sw2 sw3 sw4 w wo ty ks ks1 ks2 bn bn1 bn2 r r1 r2 fst d tf tf1 tf2 tf3 tf4 tf5 tf6 ta ta1 ta2 ta3 ta4 ta5 ta6 ta7 : Int} {T T1 T2 : gV} {m m1 m2 m3 : Nat → Int32} {X : Int → Int → gR}
theorem P_sg0 (h : cQ (gSto kd ky 2 ty w ta ks) tf tf1 (rSt pl ky ss T T1 sw sw1 m m1 bn bn1 ks1 ta1 r)) (h0 : 0 ≤ bn) : cQ (sSg kd ky ty w (ks, b0, 0) ta) tf tf1 (fun p => ta1 = p.1 ∧ rSg pl ky ss T T1 sw sw1 m m1 ks1 bn1 r p.2) := by
  refine cQ_b h (fun h => h) ?_
  rintro ⟨j, q, b⟩ - _ ⟨hj, h1, h2, h3, h4⟩
  refine cQ_e (fun _ => ⟨hj, h1, bX_q bX_0 h2, fun a c => ?_, h4⟩)
  have := h3 a c
  show r = bn1 - (0 + 1) ∧ (1 : Int) ≤ 0 + 1 ∧ 0 ≤ r
  omega
theorem P_sg1 {x : Int × gB × Int} (hx : rSg pl ky ss T T1 sw sw1 m m1 ks bn fst x) (h : cQ (gSto kd ky 2 ty w ta ks) tf tf1 (rSt pl ky ss T1 T2 sw1 sw2 m1 m2 bn bn1 ks1 ta1 r)) : cQ (sSg kd ky ty w x ta) tf tf1 (fun p => ta1 = p.1 ∧ rSg pl ky ss T T2 sw sw2 m m2 ks1 bn1 fst p.2) := by
  obtain ⟨e1, e2, e3, e4⟩ := hx
  unfold sSg
  rw [← e1]
  refine cQ_b h (fun h => h) ?_
  rintro ⟨j, q, b⟩ - _ ⟨hj, h1, h2, h3, h4⟩
  refine cQ_e (fun _ => ⟨hj, h1, bX_q e2 h2, fun a c => ?_, e4⟩)
  have z1 := h3 a c
  have z2 := e3 a (by omega)
  show fst = bn1 - (x.2.2 + 1) ∧ 1 ≤ x.2.2 + 1 ∧ 0 ≤ fst
  omega
theorem P_bnd {X : Int → gR} (e1 : tf = -2 → cQ (X ta) tf tf1 (rN 1 T pl ky ss sw sw1 m m1 ta1 r1)) (d1 : tf1 = -2 → tf = -2) (c1 : cQ (tkn kd 40 ta1) tf1 tf2 (fun j => ta2 = j)) (e2 : tf2 = -2 → cQ (X ta2) tf2 tf3 (rN 1 T pl ky ss sw1 sw2 m1 m2 ta3 r2)) (d2 : tf3 = -2 → tf2 = -2) : cQ (gBnd kd X ta) tf tf3 (rL pl ky ss T T sw sw2 m m2 ta3) := by
  refine cQ_p (fun h => d1 (c1.1 (d2 h))) (fun q0 => ?_)
  refine cQ_b (e1 q0) (fun h => c1.1 (d2 h)) ?_
  rintro ⟨j, p⟩ - q1 ⟨hj, s1⟩
  obtain rfl : ta1 = j := hj
  refine cQ_b c1 d2 ?_
  rintro j2 - q2 hj
  subst hj
  refine cQ_b (e2 q2) (fun h => h) ?_
  rintro ⟨j3, p3⟩ - q3 ⟨hj, s3⟩
  obtain rfl : ta3 = j3 := hj
  exact cQ_e (fun _ => ⟨rfl, bX_q (bX_e s1) (bX_e s3)⟩)
theorem dim_x {n : Int} (h1 : T 10 0 = bn) (h2 : T1 10 0 = bn) (hs : ss = 0 → bn ≤ 1500 → fst = bn - n ∧ 1 ≤ n ∧ 0 ≤ fst) (ht : ¬ ss = 0 → fst = -1) (g1 : fst < 0 → T1 = T) (g2 : 0 ≤ fst → fst = bn - n → 0 ≤ n → T1 = rDim T n d) : bX pl ky ss T T1 sw sw m m (bEv (vDim n d)) := by
  by_cases h0 : ss = 0
  · refine bX_v h0 (by omega) (by show T1 10 0 ≤ T 10 0 + 0; omega) (fun h5 => ?_)
    have z := hs h0 (by omega)
    show (rDim T n d, sw) = (T1, sw)
    rw [g2 z.2.2 z.1 (by omega)]
  · rw [g1 (by have := ht h0; omega)]
    exact bX_s h0
theorem P_seg1 (hN : cQ (gSgN kd ky ty w ta ks b0) tf tf1 (fun p => ta1 = p.1 ∧ rSg pl ky ss T T1 sw sw1 m m1 ks1 bn1 fst p.2)) (h36 : cQ (tkn kd 36 ta1) tf1 tf2 (fun j => ta2 = j)) (hB : cQ (gBnd kd (X wo) ta2) tf2 tf3 (rL pl ky ss T1 T1 sw1 sw2 m1 m2 ta3)) (ha : aQ kd 38 tf3 ta3 ta4 0) (h37 : cQ (tkn kd 37 ta4) tf3 tf4 (fun j => ta5 = j))
    (h1 : T1 10 0 = bn1) (h2 : T2 10 0 = bn1) (g1 : fst < 0 → T2 = T1) (g2 : ∀ n, 0 ≤ fst → fst = bn1 - n → 0 ≤ n → T2 = rDim T1 n 1) : cQ (gSeg kd ky X ty wo w ta ks) tf tf4 (rV pl ky ss T T2 sw sw2 m m2 ks1 ta5) := by
  have hc := aQ_u ha
  refine cQ_b hN (fun h => h36.1 (hB.1 (h37.1 h))) ?_
  rintro ⟨j, q, b, n⟩ - q1 ⟨hj, e1, e2, e3, e4⟩
  obtain rfl : ta1 = j := hj
  refine cQ_b h36 (fun h => hB.1 (h37.1 h)) ?_
  rintro j2 - q2 hj
  subst hj
  refine cQ_b hB h37.1 ?_
  rintro ⟨j3, b3⟩ - q3 ⟨hj, s3⟩
  obtain rfl : ta3 = j3 := hj
  rw [hc.2] at h37
  refine cQ_if hc.1 (cQ_b h37 (fun h => h) ?_)
  rintro j4 - q4 hj
  subst hj
  exact cQ_e (fun _ => ⟨rfl, e1, bX_q (bX_q e2 s3) (dim_x h1 h2 e3 e4 g1 (g2 n))⟩)
theorem P_seg2 (hN : cQ (gSgN kd ky ty w ta ks b0) tf tf1 (fun p => ta1 = p.1 ∧ rSg pl ky ss T T1 sw sw1 m m1 ks1 bn1 fst p.2)) (h36 : cQ (tkn kd 36 ta1) tf1 tf2 (fun j => ta2 = j)) (hB : cQ (gBnd kd (X wo) ta2) tf2 tf3 (rL pl ky ss T1 T1 sw1 sw2 m1 m2 ta3)) (ha : aQ kd 38 tf3 ta3 ta4 1) (hB2 : cQ (gBnd kd (X wo) ta4) tf3 tf4 (rL pl ky ss T1 T1 sw2 sw3 m2 m3 ta5)) (h37 : cQ (tkn kd 37 ta5) tf4 tf5 (fun j => ta6 = j))
    (h1 : T1 10 0 = bn1) (h2 : T2 10 0 = bn1) (g1 : fst < 0 → T2 = T1) (g2 : ∀ n, 0 ≤ fst → fst = bn1 - n → 0 ≤ n → T2 = rDim T1 n 2) : cQ (gSeg kd ky X ty wo w ta ks) tf tf5 (rV pl ky ss T T2 sw sw3 m m3 ks1 ta6) := by
  have hc := aQ_t ha
  refine cQ_b hN (fun h => h36.1 (hB.1 (hB2.1 (h37.1 h)))) ?_
  rintro ⟨j, q, b, n⟩ - q1 ⟨hj, e1, e2, e3, e4⟩
  obtain rfl : ta1 = j := hj
  refine cQ_b h36 (fun h => hB.1 (hB2.1 (h37.1 h))) ?_
  rintro j2 - q2 hj
  subst hj
  refine cQ_b hB (fun h => hB2.1 (h37.1 h)) ?_
  rintro ⟨j3, b3⟩ - q3 ⟨hj, s3⟩
  obtain rfl : ta3 = j3 := hj
  refine cQ_it (fun _ => hc.2.1) ?_
  show cQ ((gBnd kd (X wo) (ta3 + 1)).bind _) _ _ _
  rw [← hc.2.2]
  refine cQ_b hB2 h37.1 ?_
  rintro ⟨j4, b4⟩ - q4 ⟨hj, s4⟩
  obtain rfl : ta5 = j4 := hj
  refine cQ_b h37 (fun h => h) ?_
  rintro j5 - q5 hj
  subst hj
  exact cQ_e (fun _ => ⟨rfl, e1, bX_q (bX_q (bX_q e2 s3) s4) (dim_x h1 h2 e3 e4 g1 (g2 n))⟩)
end
section
variable {f9 : Nat → Int32} {f11 : Nat → Int64} {tc td td2 : Int32} {w wo i o q : Int}
theorem gSo_e (h : td.toInt = td2.toInt) : gSo f9 f11 tc td = gSo f9 f11 tc td2 := by unfold gSo; rw [h]
theorem gSo_z (h : ¬ td.toInt < 20) : gSo f9 f11 tc td = fun _ _ _ _ _ _ => none := by
  unfold gSo
  rw [show (20 - td.toInt).toNat = 0 by omega]
  rfl
theorem gSo_0 (h : td.toInt < 20) (h2 : td2.toInt = td.toInt + 1) : gSo f9 f11 tc td 0 0 w = gPln (kC f9 tc) (kK f11) 333 (gLo f9 f11 tc td2) (gSo f9 f11 tc td2) w := by
  unfold gSo gLo
  rw [show (20 - td.toInt).toNat = (20 - td2.toInt).toNat + 1 by omega]
  funext i o q
  show gSB (kC f9 tc) (kK f11) 333 (gLev (kC f9 tc) (kK f11) (20 - td2.toInt).toNat) (gSL (kC f9 tc) (kK f11) 333 (20 - td2.toInt).toNat) 0 0 w i o q = _
  unfold gSB
  rw [if_pos rfl]
theorem gSo_1 (h : td.toInt < 20) (h2 : td2.toInt = td.toInt + 1) : gSo f9 f11 tc td 1 wo w = gDcl (kC f9 tc) (kK f11) 333 (gExp (kC f9 tc) (kK f11) (gLo f9 f11 tc td2)) (gSo f9 f11 tc td2) wo w := by
  unfold gSo gLo
  rw [show (20 - td.toInt).toNat = (20 - td2.toInt).toNat + 1 by omega]
  funext i o q
  show gSB (kC f9 tc) (kK f11) 333 (gLev (kC f9 tc) (kK f11) (20 - td2.toInt).toNat) (gSL (kC f9 tc) (kK f11) 333 (20 - td2.toInt).toNat) 1 wo w i o q = _
  unfold gSB
  rw [if_neg (show ¬ (1 : Nat) = 0 by decide)]
end
section
variable {pl ky kd : Int → Int} {L : Int} {lo : gL} {lm : gM} {X : Int → Int → gR} {P : Int → Int → Int → gS} {ss sw sw1 sw2 sw3 sw4 w wo ty so so1 so2 so3 s ks ks1 ks2 ks3 sc sc1 sc2 sc3 r r1 r2 tf tf1 tf2 tf3 tf4 tf5 tf6 tf7 ta ta1 ta2 ta3 ta4 ta5 ta6 ta7 : Int} {T T1 T2 T3 T4 : gV} {m m1 m2 m3 m4 : Nat → Int32} {b : gB}
theorem cQ_L {F : Option (Int × gB)} (h : cQ F tf tf1 (rL pl ky ss T T1 sw sw1 m m1 ta1)) (hp : ∀ p, F = some p → p.2.2.2.1 = []) : cQ (F.bind fun p => some (p.1, so, ks, p.2)) tf tf1 (rB pl ky ss T T1 sw sw1 m m1 so so ks sc sc ta1) := by
  refine ⟨h.1, fun h0 => ?_⟩
  cases hF : F with
  | none => exact ⟨fun a ha => absurd ha (by simp), fun _ => (h.2 h0).2 hF⟩
  | some p =>
    have a := (h.2 h0).1 p hF
    refine ⟨fun c hc => ⟨a.1, ?_⟩, fun hc => absurd hc (by simp)⟩
    have e : (p.1, so, ks, p.2) = c := Option.some.inj hc
    rw [← e]
    refine ⟨a.2.1, rfl, rfl, ?_, rfl, a.2.2⟩
    show so = so + (p.2.2.2.1.length : Int)
    rw [hp p hF]
    simp
theorem cQ_V {F : Option (Int × Int × gB)} (h : cQ F tf tf1 (rV pl ky ss T T1 sw sw1 m m1 ks1 ta1)) (hp : ∀ p, F = some p → p.2.2.2.2.1 = []) : cQ (F.bind fun p => some (p.1, so, p.2.1, p.2.2)) tf tf1 (rB pl ky ss T T1 sw sw1 m m1 so so ks1 sc sc ta1) := by
  refine ⟨h.1, fun h0 => ?_⟩
  cases hF : F with
  | none => exact ⟨fun a ha => absurd ha (by simp), fun _ => (h.2 h0).2 hF⟩
  | some p =>
    have a := (h.2 h0).1 p hF
    refine ⟨fun c hc => ⟨a.1, ?_⟩, fun hc => absurd hc (by simp)⟩
    have e : (p.1, so, p.2.1, p.2.2) = c := Option.some.inj hc
    rw [← e]
    refine ⟨a.2.1, rfl, a.2.2.1, ?_, rfl, a.2.2.2⟩
    show so = so + (p.2.2.2.2.1.length : Int)
    rw [hp p hF]
    simp
theorem P_pl1 {R : Int × Int × Int × gB → Prop} (hk : tf = -2 → kd ta = 1) (h : cQ (gBlk kd ky L lm w ta so ks) tf tf1 R) : cQ (gPln kd ky L lo lm w ta so ks) tf tf1 R := cQ_it hk h
theorem P_pl2 (hk : tf = -2 → kd ta = 27) (hn : tf = -2 → kd (ta + 1) = 47 ∨ kd (ta + 1) = 36) (h : cQ (gAsn kd ky lo w ta) tf tf1 (rL pl ky ss T T1 sw sw1 m m1 ta1)) : cQ (gPln kd ky L lo lm w ta so ks) tf tf1 (rB pl ky ss T T1 sw sw1 m m1 so so ks sc sc ta1) :=
  cQ_if (fun q => by have := hk q; omega) (cQ_it hk (cQ_it hn (cQ_L h (fun p hp => np_asn hp))))
theorem P_pl3 (hk : tf = -2 → kd ta = 27) (hn : tf = -2 → ¬ (kd (ta + 1) = 47 ∨ kd (ta + 1) = 36)) (h : cQ (gCll kd ky lo w ta) tf tf1 (rL pl ky ss T T1 sw sw1 m m1 ta1)) : cQ (gPln kd ky L lo lm w ta so ks) tf tf1 (rB pl ky ss T T1 sw sw1 m m1 so so ks sc sc ta1) :=
  cQ_if (fun q => by have := hk q; omega) (cQ_it hk (cQ_if hn (cQ_L h (fun p hp => np_cll hp))))
theorem P_pl4 (hk : tf = -2 → kd ta = 19) (h : cQ (gJmp kd ky lo w ta) tf tf1 (rL pl ky ss T T1 sw sw1 m m1 ta1)) : cQ (gPln kd ky L lo lm w ta so ks) tf tf1 (rB pl ky ss T T1 sw sw1 m m1 so so ks sc sc ta1) :=
  cQ_if (fun q => by have := hk q; omega) (cQ_if (fun q => by have := hk q; omega) (cQ_it hk (cQ_L h (fun p hp => np_jmp hp))))
theorem P_pl5 {R : Int × Int × Int × gB → Prop} (hk : tf = -2 → kd ta = 11) (h : cQ (gCho kd (gExp kd ky lo w) (lm 0 0 w) ta so ks) tf tf1 R) : cQ (gPln kd ky L lo lm w ta so ks) tf tf1 R :=
  cQ_if (fun q => by have := hk q; omega) (cQ_if (fun q => by have := hk q; omega) (cQ_if (fun q => by have := hk q; omega) (cQ_it hk h)))
theorem P_pl6 {R : Int × Int × Int × gB → Prop} (hk : tf = -2 → kd ta = 14) (h : cQ (gFor kd ky (gExp kd ky lo w) (lm 0 0 w) w ta so ks) tf tf1 R) : cQ (gPln kd ky L lo lm w ta so ks) tf tf1 R :=
  cQ_if (fun q => by have := hk q; omega) (cQ_if (fun q => by have := hk q; omega) (cQ_if (fun q => by have := hk q; omega) (cQ_if (fun q => by have := hk q; omega) (cQ_it hk h))))
theorem P_pl7 (hk : tf = -2 → kd ta = 26) (ha : tf = -2 → ta1 = ta + 1) (h : cQ (gBrk kd lo w ta1) tf tf1 (rN 1 T pl ky ss sw sw1 m m1 ta2 r)) : cQ (gPln kd ky L lo lm w ta so ks) tf tf1 (rB pl ky ss T T sw sw1 m m1 so so ks sc sc ta2) := by
  refine cQ_if (fun q => by have := hk q; omega) (cQ_if (fun q => by have := hk q; omega) (cQ_if (fun q => by have := hk q; omega) (cQ_if (fun q => by have := hk q; omega) (cQ_if (fun q => by have := hk q; omega) (cQ_it hk ?_)))))
  refine cQ_p h.1 (fun q0 => ?_)
  rw [tkn_p (hk q0), ← ha q0]
  show cQ ((gBrk kd lo w ta1).bind fun p => some (p.1, so, ks, bEx 1 p.2)) tf tf1 _
  refine cQ_b h (fun h => h) ?_
  rintro ⟨j, p⟩ - q1 ⟨hj, s1⟩
  refine cQ_e (fun _ => ⟨hj, rfl, rfl, ?_, rfl, bX_e s1⟩)
  show so = so + (([] : List Int).length : Int)
  simp
theorem P_pl8 (hk : tf = -2 → ¬ kd ta = 1 ∧ ¬ kd ta = 27 ∧ ¬ kd ta = 19 ∧ ¬ kd ta = 11 ∧ ¬ kd ta = 14 ∧ ¬ kd ta = 26) : cQ (gPln kd ky L lo lm w ta so ks) tf tf (rB pl ky ss T T sw sw m m so so ks sc sc ta) :=
  cQ_if (fun q => (hk q).1) (cQ_if (fun q => (hk q).2.1) (cQ_if (fun q => (hk q).2.2.1) (cQ_if (fun q => (hk q).2.2.2.1) (cQ_if (fun q => (hk q).2.2.2.2.1) (cQ_if (fun q => (hk q).2.2.2.2.2) (cQ_e (fun _ => ⟨rfl, rfl, rfl, by show so = so + (([] : List Int).length : Int); simp, rfl, bX_0⟩)))))))
theorem K_pl1 (h : oK (gPln kd ky L lo lm w ta so ks) T sw s) (hk : kd ta = 1) : oK (gBlk kd ky L lm w ta so ks) T sw s := by
  unfold gPln at h
  rw [if_pos hk] at h
  exact h
theorem K_pl5 (h : oK (gPln kd ky L lo lm w ta so ks) T sw s) (hk : kd ta = 11) : oK (gCho kd (gExp kd ky lo w) (lm 0 0 w) ta so ks) T sw s := by
  unfold gPln at h
  rw [if_neg (by omega), if_neg (by omega), if_neg (by omega), if_pos hk] at h
  exact h
theorem K_pl6 (h : oK (gPln kd ky L lo lm w ta so ks) T sw s) (hk : kd ta = 14) : oK (gFor kd ky (gExp kd ky lo w) (lm 0 0 w) w ta so ks) T sw s := by
  unfold gPln at h
  rw [if_neg (by omega), if_neg (by omega), if_neg (by omega), if_neg (by omega), if_pos hk] at h
  exact h
theorem rB_sc {F : gS} (h : cQ F tf tf1 (rB pl ky ss T T1 sw sw1 m m1 so so1 ks1 sc sc1 ta1)) (q : tf1 = -2) : sc1 = sc := by
  obtain ⟨a, _, r⟩ := cQ_a h q
  exact r.2.2.2.2.1
theorem rB_t {F : gS} (h : cQ F tf tf1 (rB pl ky ss T T1 sw sw1 m m1 so so1 ks1 sc sc1 ta1)) (q : tf1 = -2) (h0 : ¬ ss = 0) (hw : sw ≤ 3001) : T1 = T ∧ sw1 ≤ sw := by
  obtain ⟨a, _, r⟩ := cQ_a h q
  have z := r.2.2.2.2.2.2 h0 hw
  exact ⟨z.1, z.2.1⟩
theorem rN_w {F : gR} {e : gV} (h : cQ F tf tf1 (rN ty e pl ky ss sw sw1 m m1 ta1 r)) (q : tf1 = -2) : sw1 ≤ sw := by
  obtain ⟨a, _, r⟩ := cQ_a h q
  exact r.2.1
theorem rU_w {F : Option Int} {e : gV} (h : cQ F tf tf1 (rU e pl ky w ss sw sw1 m m1 ta ta1 r)) (q : tf1 = -2) : sw1 ≤ sw := by
  obtain ⟨a, _, r⟩ := cQ_a h q
  exact r.2.1
theorem us_l {e : gV} (h : cQ (tkn kd 27 ta) tf tf1 (rU e pl ky w ss sw sw1 m m1 ta ta1 r)) (q : tf1 = -2) : ta1 = ta + 1 ∧ kd ta = 27 := by
  obtain ⟨a, ha, r⟩ := cQ_a h q
  have e := tkn_j ha
  exact ⟨by rw [r.1, e.2], e.1⟩
theorem bEx_p {d : gD} : (bEx ty d).2.2.1 = [] := rfl
theorem cQ_B {α β : Type} {F : Option α} {K : α → Option β} {R1 : α → Prop} {R2 : β → Prop} (h : cQ F tf tf1 R1) (hd : tf2 = -2 → tf1 = -2) (g : ∀ a, F = some a → tf = -2 → tf1 = -2 → R1 a → cQ (K a) tf1 tf2 R2) : cQ (F.bind K) tf tf2 R2 := by
  refine ⟨fun h2 => h.1 (hd h2), fun h0 => ?_⟩
  cases hF : F with
  | none => exact ⟨fun a ha => absurd ha (by simp), fun _ h2 => (h.2 h0).2 hF (hd h2)⟩
  | some a =>
    have h1 := (h.2 h0).1 a hF
    exact (g a hF h0 h1.1 h1.2).2 h1.1
variable {td td1 tdb tdc : Int} {Y : Int → gR}
theorem P_ch (h1 : cQ (tkn kd 11 ta) tf tf1 (fun j => ta1 = j)) (h2 : cQ (Y ta1) tf1 tf2 (rN 2 T pl ky ss sw sw1 m m1 ta2 r)) (h3 : dQ kd 12 tf2 tf3 ta2 ta3 tdb td1) (hb : tf2 = -2 → tdb = td) (hz : ¬ td < 20 → ∀ i o q, P i o q = none) (c : tf3 = -2 → ¬ (kd ta3 = 11 ∨ kd ta3 = 14)) (h4 : tf3 = -2 → cQ (P ta3 so ks) tf3 tf4 (rB pl ky ss T T1 sw1 sw2 m1 m2 so so1 ks1 sc sc1 ta4)) (d4 : tf4 = -2 → tf3 = -2) (c2 : tf4 = -2 → ¬ kd ta4 = 13) : cQ (gCho kd Y P ta so ks) tf tf4 (rB pl ky ss T T1 sw sw2 m m2 so so1 ks1 sc sc1 ta4) := by
  have d3 : tf3 = -2 → tf2 = -2 := h3.1
  refine cQ_b h1 (fun h => h2.1 (d3 (d4 h))) ?_
  rintro j - q1 hj
  subst hj
  refine cQ_b h2 (fun h => d3 (d4 h)) ?_
  rintro ⟨j2, p⟩ - q2 ⟨hj, s2⟩
  obtain rfl : ta2 = j2 := hj
  refine cQ_d h3 d4 (fun q q' a => ?_) (fun a0 a1 a2 a3 a4 => ?_)
  · rw [hb q] at q'
    by_cases hc : kd a = 11 ∨ kd a = 14
    · exact if_pos hc
    · refine (if_neg hc).trans ?_
      rw [hz q']
      rfl
  refine cQ_if (fun _ => c a1) (cQ_b (h4 a1) (fun h => h) ?_)
  rintro ⟨j4, o4, k4, b4⟩ - q4 ⟨hj, e1, e2, e3, e4, e5⟩
  obtain rfl : ta4 = j4 := hj
  exact cQ_if c2 (cQ_e (fun _ => ⟨rfl, e1, e2, e3, e4, bX_q (bX_e s2) e5⟩))
theorem P_ch2 (h1 : cQ (tkn kd 11 ta) tf tf1 (fun j => ta1 = j)) (h2 : cQ (Y ta1) tf1 tf2 (rN 2 T pl ky ss sw sw1 m m1 ta2 r)) (h3 : dQ kd 12 tf2 tf3 ta2 ta3 tdb td1) (hb : tf2 = -2 → tdb = td) (hz : ¬ td < 20 → ∀ i o q, P i o q = none) (c : tf3 = -2 → ¬ (kd ta3 = 11 ∨ kd ta3 = 14)) (h4 : tf3 = -2 → cQ (P ta3 so ks) tf3 tf4 (rB pl ky ss T T1 sw1 sw2 m1 m2 so so1 ks1 sc sc1 ta4)) (d4 : tf4 = -2 → tf3 = -2) (c2 : tf4 = -2 → kd ta4 = 13) {td2 : Int} (h5 : dQ kd 13 tf4 tf5 ta4 ta5 tdc td2) (hb5 : tf4 = -2 → tdc = td) (h6 : tf5 = -2 → cQ (P ta5 so1 ks1) tf5 tf6 (rB pl ky ss T1 T2 sw2 sw3 m2 m3 so1 so2 ks2 sc sc2 ta6)) (d6 : tf6 = -2 → tf5 = -2) : cQ (gCho kd Y P ta so ks) tf tf6 (rB pl ky ss T T2 sw sw3 m m3 so so2 ks2 sc sc2 ta6) := by
  have d3 : tf3 = -2 → tf2 = -2 := h3.1
  have d5 : tf5 = -2 → tf4 = -2 := h5.1
  refine cQ_b h1 (fun h => h2.1 (d3 (d4 (d5 (d6 h))))) ?_
  rintro j - q1 hj
  subst hj
  refine cQ_b h2 (fun h => d3 (d4 (d5 (d6 h)))) ?_
  rintro ⟨j2, p⟩ - q2 ⟨hj, s2⟩
  obtain rfl : ta2 = j2 := hj
  refine cQ_d h3 (fun h => d4 (d5 (d6 h))) (fun q q' a => ?_) (fun a0 a1 a2 a3 a4 => ?_)
  · rw [hb q] at q'
    by_cases hc : kd a = 11 ∨ kd a = 14
    · exact if_pos hc
    · refine (if_neg hc).trans ?_
      rw [hz q']
      rfl
  refine cQ_if (fun _ => c a1) (cQ_b (h4 a1) (fun h => d5 (d6 h)) ?_)
  rintro ⟨j4, o4, k4, b4⟩ - q4 ⟨hj, e1, e2, e3, e4, e5⟩
  obtain rfl : ta4 = j4 := hj
  obtain rfl : so1 = o4 := e1
  obtain rfl : ks1 = k4 := e2
  refine cQ_it c2 (cQ_d h5 d6 (fun q q' a => ?_) (fun v0 v1 v2 v3 v4 => ?_))
  · rw [hb5 q] at q'
    rw [hz q']
    rfl
  refine cQ_b (h6 v1) (fun h => h) ?_
  rintro ⟨j6, o6, k6, b6⟩ - q6 ⟨hj, g1, g2, g3, g4, g5⟩
  refine cQ_e (fun _ => ⟨hj, g1, g2, ?_, g4, bX_q (bX_q (bX_e s2) e5) g5⟩)
  show so2 = so + ((([] ++ b4.2.2.1) ++ b6.2.2.1).length : Int)
  have g3 : so2 = so1 + (b6.2.2.1.length : Int) := g3
  have e3 : so1 = so + (b4.2.2.1.length : Int) := e3
  rw [List.nil_append, List.length_append]
  omega
theorem gCho_n (h1 : cQ (tkn kd 11 ta) tf tf1 (fun j => ta1 = j)) (h2 : cQ (Y ta1) tf1 tf2 (rN 2 T pl ky ss sw sw1 m m1 ta2 r)) (h3 : dQ kd 12 tf2 tf3 ta2 ta3 tdb td1) (hb : tf2 = -2 → tdb = td) (hz : ¬ td < 20 → ∀ i o q, P i o q = none) (c : tf3 = -2 → (kd ta3 = 11 ∨ kd ta3 = 14)) (q0 : tf = -2) : gCho kd Y P ta so ks = none := by
  unfold gCho
  cases t1 : tkn kd 11 ta with
  | none => rfl
  | some j =>
    have a := (h1.2 q0).1 j t1
    obtain rfl : ta1 = j := a.2
    show (Y ta1).bind _ = none
    cases t2 : Y ta1 with
    | none => rfl
    | some p =>
      have b := (h2.2 a.1).1 p t2
      show (tkn kd 12 p.1).bind _ = none
      rw [← b.2.1]
      cases t3 : tkn kd 12 ta2 with
      | none => rfl
      | some j3 =>
        show (if kd j3 = 11 ∨ kd j3 = 14 then none else _) = none
        by_cases hc : kd j3 = 11 ∨ kd j3 = 14
        · rw [if_pos hc]
        · rw [if_neg hc]
          by_cases ht : tdb < 20
          · unfold dQ at h3
            rw [if_pos ht] at h3
            have e := (h3.2 b.1).1 j3 t3
            have e2 : ta3 = j3 := e.2.1
            rw [← e2] at hc
            exact absurd (c e.1) hc
          · rw [hb b.1] at ht
            rw [hz ht]
            rfl
theorem P_chn {R : Int × Int × Int × gB → Prop} (h1 : cQ (tkn kd 11 ta) tf tf1 (fun j => ta1 = j)) (h2 : cQ (Y ta1) tf1 tf2 (rN 2 T pl ky ss sw sw1 m m1 ta2 r)) (h3 : dQ kd 12 tf2 tf3 ta2 ta3 tdb td1) (hb : tf2 = -2 → tdb = td) (hz : ¬ td < 20 → ∀ i o q, P i o q = none) (c : tf3 = -2 → (kd ta3 = 11 ∨ kd ta3 = 14)) (h4 : ¬ tf4 = -2) : cQ (gCho kd Y P ta so ks) tf tf4 R := by
  refine cQ_p (fun q => absurd q h4) (fun q0 => ?_)
  rw [gCho_n h1 h2 h3 hb hz c q0]
  exact cQ_n h4
theorem K_ch1 (h : oK (gCho kd Y P ta so ks) T sw so) (h1 : cQ (tkn kd 11 ta) tf tf1 (fun j => ta1 = j)) (h2 : cQ (Y ta1) tf1 tf2 (rN 2 T pl ky ss sw sw1 m m1 ta2 r)) (h3 : dQ kd 12 tf2 tf3 ta2 ta3 tdb td1) (c : ¬ (kd ta3 = 11 ∨ kd ta3 = 14)) (q : tf3 = -2) : oK (P ta3 so ks) T sw1 so := by
  have a3 := dQ_l h3 q
  obtain ⟨p, hp, rp⟩ := cQ_a h2 a3.1
  have a1 := tk_l h1 (h2.1 a3.1)
  have ep : ta2 = p.1 := rp.1
  unfold gCho at h
  rw [a1.2.2.2] at h
  have h : oK ((Y ta1).bind _) T sw so := h
  rw [hp] at h
  have h : oK ((tkn kd 12 p.1).bind _) T sw so := h
  rw [← ep, tkn_p a3.2.2.2.1, ← a3.2.2.2.2] at h
  have h : oK (if kd ta3 = 11 ∨ kd ta3 = 14 then none else _) T sw so := h
  rw [if_neg c] at h
  refine oK_t (oK_q h (fun r a hr => ?_)) rfl rp.2.1
  by_cases hk : kd r.1 = 13
  · rw [if_pos hk] at hr
    obtain ⟨k, _, hr⟩ := bind_s hr
    obtain ⟨s', _, hr⟩ := bind_s hr
    cases hr
    exact ⟨gPs s', rfl⟩
  · rw [if_neg hk] at hr
    cases hr
    exact ⟨[], (List.append_nil _).symm⟩
theorem K_ch2 (h : oK (gCho kd Y P ta so ks) T sw so) (h0 : ¬ ss = 0) (h1 : cQ (tkn kd 11 ta) tf tf1 (fun j => ta1 = j)) (h2 : cQ (Y ta1) tf1 tf2 (rN 2 T pl ky ss sw sw1 m m1 ta2 r)) (h3 : dQ kd 12 tf2 tf3 ta2 ta3 tdb td1) (c : ¬ (kd ta3 = 11 ∨ kd ta3 = 14)) (h4 : cQ (P ta3 so ks) tf3 tf4 (rB pl ky ss T T1 sw1 sw2 m1 m2 so so1 ks1 sc sc1 ta4)) (c2 : kd ta4 = 13) {td2 : Int} (h5 : dQ kd 13 tf4 tf5 ta4 ta5 tdc td2) (q : tf5 = -2) : oK (P ta5 so1 ks1) T1 sw2 so1 := by
  have a5 := dQ_l h5 q
  obtain ⟨r, hr, rr⟩ := cQ_a h4 a5.1
  have a3 := dQ_l h3 (h4.1 a5.1)
  obtain ⟨p, hp, rp⟩ := cQ_a h2 a3.1
  have a1 := tk_l h1 (h2.1 a3.1)
  have ep : ta2 = p.1 := rp.1
  unfold gCho at h
  rw [a1.2.2.2] at h
  have h : oK ((Y ta1).bind _) T sw so := h
  rw [hp] at h
  have h : oK ((tkn kd 12 p.1).bind _) T sw so := h
  rw [← ep, tkn_p a3.2.2.2.1, ← a3.2.2.2.2] at h
  have h : oK (if kd ta3 = 11 ∨ kd ta3 = 14 then none else _) T sw so := h
  rw [if_neg c, hr] at h
  obtain ⟨e1, e2, e3, e4, e5, e6⟩ := rr
  have h : oK (if kd r.1 = 13 then _ else _) T sw so := h
  rw [← e1, if_pos c2, tkn_p c2, ← a5.2.2.2.2] at h
  have h : oK ((P ta5 r.2.1 r.2.2.1).bind _) T sw so := h
  have w1 : sw1 ≤ sw := rp.2.1
  have z := e6.2 h0 (Int.le_trans w1 h.1)
  have y := oK_r (us := gPs r) h (fun s' a hs => by cases hs; exact ⟨[], by simp [gPs, bSq, bEx]⟩)
  rw [← e4, ← e2, ← e3] at y
  exact oK_t y z.1 (Int.le_trans z.2.1 w1)
end
