theorem aQ_t {kd : Int → Int} {k tf ta ta1 : Int} (h : aQ kd k tf ta ta1 1) : tf = -2 ∧ kd ta = k ∧ ta1 = ta + 1 := by
  rcases h with h | h
  · exact h.2
  · exact absurd h.1 (by decide)
theorem aQ_u {kd : Int → Int} {k tf ta ta1 : Int} (h : aQ kd k tf ta ta1 0) : (tf = -2 → ¬ kd ta = k) ∧ ta1 = ta := by
  rcases h with h | h
  · exact absurd h.1 (by decide)
  · exact h.2
theorem dQ_l {kd : Int → Int} {k tf tf1 ta ta1 td td1 : Int} (h : dQ kd k tf tf1 ta ta1 td td1) (q : tf1 = -2) : tf = -2 ∧ td < 20 ∧ td1 = td + 1 ∧ kd ta = k ∧ ta1 = ta + 1 := by
  unfold dQ at h
  obtain ⟨a, ha, hr⟩ := cQ_a h q
  by_cases ht : td < 20
  · rw [if_pos ht] at ha
    have e := tkn_j ha
    exact ⟨h.1 q, ht, hr.2, e.1, by rw [hr.1, e.2]⟩
  · rw [if_neg ht] at ha
    cases ha
theorem tk_l {kd : Int → Int} {k tf tf1 ta ta1 : Int} (h : cQ (tkn kd k ta) tf tf1 (fun j => ta1 = j)) (q : tf1 = -2) : tf = -2 ∧ kd ta = k ∧ ta1 = ta + 1 ∧ tkn kd k ta = some ta1 := by
  obtain ⟨a, ha, hr⟩ := cQ_a h q
  have e := tkn_j ha
  have hr : ta1 = a := hr
  exact ⟨h.1 q, e.1, by rw [hr, e.2], by rw [hr]; exact ha⟩
theorem tkn_p {kd : Int → Int} {k i : Int} (h : kd i = k) : tkn kd k i = some (i + 1) := if_pos h
section
variable {pl ky kd : Int → Int} {lo : gL} {lm : gM} {ss sw sw1 sw2 sw3 sw4 w so ks L r r1 r2 r3 c tf tf1 tf2 tf3 tf4 tf5 ta ta1 ta2 ta3 ta4 ta5 : Int} {e T T1 T2 T3 : gV} {m m1 m2 m3 : Nat → Int32} {X : Int → gR}
theorem P_el0 (h : cQ (X ta) tf tf1 (rN 1 T pl ky ss sw sw1 m m1 ta1 r)) (c1 : aQ kd 16 tf1 ta1 ta2 0) (c2 : aQ kd 18 tf1 ta2 ta3 0) : cQ (gEl1 kd X ta) tf tf1 (rL pl ky ss T T sw sw1 m m1 ta3) := by
  have h1 : (tf1 = -2 → ¬ kd ta1 = 16) ∧ ta2 = ta1 := by
    rcases c1 with c | c
    · exact absurd c.1 (by decide)
    · exact c.2
  have h2 : (tf1 = -2 → ¬ kd ta2 = 18) ∧ ta3 = ta2 := by
    rcases c2 with c | c
    · exact absurd c.1 (by decide)
    · exact c.2
  rw [h1.2] at h2
  unfold gEl1
  refine cQ_b h (fun h => h) ?_
  rintro ⟨j, p⟩ - q ⟨hj, s⟩
  obtain rfl : ta1 = j := hj
  exact cQ_if h1.1 (cQ_if h2.1 (cQ_e (fun _ => ⟨h2.2, bX_e s⟩)))
theorem P_el1 (h : cQ (X ta) tf tf1 (rN 1 T pl ky ss sw sw1 m m1 ta1 r)) (c1 : aQ kd 16 tf1 ta1 ta2 0) (c2 : aQ kd 18 tf1 ta2 ta3 1) (h2 : tf1 = -2 → cQ (X ta3) tf1 tf2 (rN 2 T pl ky ss sw1 sw2 m1 m2 ta4 r2)) (hd : tf2 = -2 → tf1 = -2) : cQ (gEl1 kd X ta) tf tf2 (rL pl ky ss T T sw sw2 m m2 ta4) := by
  have h1 : (tf1 = -2 → ¬ kd ta1 = 16) ∧ ta2 = ta1 := by
    rcases c1 with c | c
    · exact absurd c.1 (by decide)
    · exact c.2
  obtain ⟨_, hal, htk, hta⟩ : (1 : Int) = 1 ∧ tf1 = -2 ∧ kd ta2 = 18 ∧ ta3 = ta2 + 1 := by
    rcases c2 with c | c
    · exact c
    · exact absurd c.1 (by decide)
  rw [h1.2] at htk hta
  unfold gEl1
  refine cQ_b h hd ?_
  rintro ⟨j, p⟩ - q ⟨hj, s⟩
  obtain rfl : ta1 = j := hj
  refine cQ_if h1.1 (cQ_it (fun _ => htk) ?_)
  show cQ ((X (ta1 + 1)).bind _) _ _ _
  rw [← hta]
  refine cQ_b (h2 q) (fun h => h) ?_
  rintro ⟨j2, p2⟩ - q2 ⟨hj, s2⟩
  obtain rfl : ta4 = j2 := hj
  exact cQ_e (fun _ => ⟨rfl, bX_q (bX_e s) (bX_e s2)⟩)
theorem P_el2 (h : cQ (X ta) tf tf1 (rN 1 T pl ky ss sw sw1 m m1 ta1 r)) (c1 : aQ kd 16 tf1 ta1 ta2 1) (h2 : tf1 = -2 → cQ (X ta2) tf1 tf2 (rN 1 T pl ky ss sw1 sw2 m1 m2 ta3 r2)) (h3 : cQ (tkn kd 17 ta3) tf2 tf3 (fun j => ta4 = j)) (h4 : tf3 = -2 → cQ (X ta4) tf3 tf4 (rN 1 T pl ky ss sw2 sw3 m2 m3 ta5 r3)) (hd1 : tf2 = -2 → tf1 = -2) (hd2 : tf4 = -2 → tf3 = -2) : cQ (gEl1 kd X ta) tf tf4 (rL pl ky ss T T sw sw3 m m3 ta5) := by
  obtain ⟨_, hal, htk, hta⟩ : (1 : Int) = 1 ∧ tf1 = -2 ∧ kd ta1 = 16 ∧ ta2 = ta1 + 1 := by
    rcases c1 with c | c
    · exact c
    · exact absurd c.1 (by decide)
  unfold gEl1
  refine cQ_b h (fun h => hd1 (h3.1 (hd2 h))) ?_
  rintro ⟨j, p⟩ - q ⟨hj, s⟩
  obtain rfl : ta1 = j := hj
  refine cQ_it (fun _ => htk) ?_
  show cQ ((X (ta1 + 1)).bind _) _ _ _
  rw [← hta]
  refine cQ_b (h2 q) (fun h => h3.1 (hd2 h)) ?_
  rintro ⟨j2, p2⟩ - q2 ⟨hj, s2⟩
  obtain rfl : ta3 = j2 := hj
  refine cQ_b h3 hd2 ?_
  rintro j3 - q3 hj
  subst hj
  refine cQ_b (h4 q3) (fun h => h) ?_
  rintro ⟨j4, p4⟩ - q4 ⟨hj, s4⟩
  obtain rfl : ta5 = j4 := hj
  exact cQ_e (fun _ => ⟨rfl, bX_q (bX_q (bX_e s) (bX_e s2)) (bX_e s4)⟩)
theorem P_cl0 (h : cQ (tkn kd 27 ta) tf tf1 (rU e pl ky w ss sw sw1 m m1 ta ta1 r)) (c1 : tf1 = -2 → ¬ kd ta1 = 34) (g : bQ ss sw1 sw2 (xCl e r 0) 0) : cQ (gCll kd ky lo w ta) tf tf1 (rL pl ky ss e e sw sw2 m m1 ta1) := by
  unfold gCll
  refine cQ_b h (fun h => h) ?_
  rintro j - q ⟨hj, s⟩
  subst hj
  exact cQ_if c1 (cQ_e (fun _ => ⟨rfl, bX_u (x := fun e => xCl e (gMe e w (ky ta)) 0) (us_r (x := fun k => xCl e k 0) s g (fun k hk => xCl_neg hk))⟩))
theorem P_cl1 (h : cQ (tkn kd 27 ta) tf tf1 (rU e pl ky w ss sw sw1 m m1 ta ta1 r)) (c1 : tf1 = -2 → kd ta1 = 34) (h2 : cQ (gAcs kd ky lo w ta1) tf1 tf2 (rA r e pl ky w ss sw1 sw2 m1 m2 ta2 c)) (g : bQ ss sw2 sw3 (xCl e r c) 0) : cQ (gCll kd ky lo w ta) tf tf2 (rL pl ky ss e e sw sw3 m m2 ta2) := by
  unfold gCll
  refine cQ_b h h2.1 ?_
  rintro j1 - q1 ⟨hj, s1⟩
  subst hj
  refine cQ_it c1 (cQ_b h2 (fun h => h) ?_)
  rintro ⟨j2, us, as⟩ - q2 ⟨hj, s2⟩
  obtain rfl : ta2 = j2 := hj
  refine cQ_e (fun _ => ⟨rfl, ?_⟩)
  have y : ∀ k, k = r → vX e pl ky ss sw1 sw3 m1 m2 (us ++ []) ((aCnt e w as (vF e (nH e k))).bind fun c => xCl e k c) 0 := fun k hk => by
    subst hk
    exact vX_b s2 g.1 (fun h0 => ⟨g.2.1 h0, rfl⟩) (fun t _ hr => by subst hr; exact vX_r g)
  have z := vX_b (Y := fun k => (aCnt e w as (vF e (nH e k))).bind fun c => xCl e k c) s1 (y r rfl).1 (y r rfl).2.1 (fun t _ hr => y t hr.symm)
  have z2 : vX e pl ky ss sw sw3 m m2 ((ta, w) :: us) (dCl w (ky ta) as e) 0 := vX_c z (by rw [List.append_nil]; rfl) (xU_b (fun k hk => bind_none (fun t => xCl_neg hk)))
  refine ⟨fun h0 => ?_, fun h0 _ => ⟨rfl, z2⟩⟩
  have p := z2.2.1 h0
  refine ⟨p.2, Int.le_refl _, by show e 10 0 ≤ e 10 0 + 0; omega, fun _ => ?_⟩
  rw [p.1]
  rfl
theorem P_jm0 (h1 : cQ (tkn kd 19 ta) tf tf1 (fun j => ta1 = j)) (c : tf1 = -2 → ¬ kd (ta1 + 1) = 36) (h2 : cQ (gLaU kd ky w ta1) tf1 tf2 (rL pl ky ss e e sw sw1 m m1 ta2)) : cQ (gJmp kd ky lo w ta) tf tf2 (rL pl ky ss e e sw sw1 m m1 ta2) := by
  unfold gJmp
  refine cQ_b h1 h2.1 ?_
  rintro j - q hj
  subst hj
  exact cQ_if c h2
theorem P_jm1 {f9 : Nat → Int32} {f11 : Nat → Int64} {tc td td4 : Int32} {td1 ra : Int} (h1 : cQ (tkn (kC f9 tc) 19 ta) tf tf1 (fun j => ta1 = j)) (c : tf1 = -2 → kC f9 tc (ta1 + 1) = 36) (h2 : cQ (tkn (kC f9 tc) 27 ta1) tf1 tf2 (rU e pl ky w ss sw sw1 m m1 ta1 ta2 r)) (g : bQ ss sw1 sw2 (xSw e r) 0)
    (h3 : dQ (kC f9 tc) 36 tf2 tf3 ta2 ta3 td.toInt td1) (b4 : tf3 = -2 → tf = -2 ∧ td4.toInt = td.toInt + 1) (h4 : cQ (gExp (kC f9 tc) (kK f11) (gLo f9 f11 tc td4) w ta3) tf3 tf4 (rN 1 e pl ky ss sw2 sw3 m1 m2 ta4 ra)) (h5 : cQ (tkn (kC f9 tc) 37 ta4) tf4 tf5 (fun j => ta5 = j)) :
    cQ (gJmp (kC f9 tc) ky (gLo f9 f11 tc td) w ta) tf tf5 (rL pl ky ss e e sw sw3 m m2 ta5) := by
  unfold gJmp
  have hd3 : tf3 = -2 → tf2 = -2 := h3.1
  refine cQ_b h1 (fun h => h2.1 (hd3 (h4.1 (h5.1 h)))) ?_
  rintro j - q hj
  subst hj
  refine cQ_it c (cQ_b h2 (fun h => hd3 (h4.1 (h5.1 h))) ?_)
  rintro j2 - q2 ⟨hj, s1⟩
  subst hj
  refine cQ_d h3 (fun h => h4.1 (h5.1 h)) (fun _ q a => by rw [gLo_z q]; rfl) (fun a0 a1 a2 a3 a4 => ?_)
  rw [gLo_s a2 (b4 a1).2, gBun_0]
  refine cQ_b h4 h5.1 ?_
  rintro ⟨j4, p4⟩ - q4 ⟨hj, s4⟩
  obtain rfl : ta4 = j4 := hj
  refine cQ_b h5 (fun h => h) ?_
  rintro j5 - q5 hj
  subst hj
  exact cQ_e (fun _ => ⟨rfl, bX_q (bX_u (x := fun e => xSw e (gMe e w (ky ta1))) (us_r (x := fun k => xSw e k) s1 g (fun k hk => xSw_neg hk))) (bX_e s4)⟩)
theorem xTa_u {key : Int} : (xU e w key).bind (fun k => xTa e w k) = xTa e w (gMe e w key) := xU_b (fun k hk => xTa_neg hk)
theorem P_lfT (h : cQ (tkn kd 27 ta) tf tf1 (rU e pl ky w ss sw sw1 m m1 ta ta1 r)) (c : tf1 = -2 → ¬ kd ta1 = 36) (g : bQ ss sw1 sw2 (xTa e w r) r1) (h3 : cQ (tkn kd 47 ta1) tf1 tf2 (fun j => ta2 = j)) : cQ (gLf1 kd ky lo w ta) tf tf2 (rE e pl ky ss sw sw2 m m1 ta2 r1) := by
  unfold gLf1
  refine cQ_b h h3.1 ?_
  rintro j - q ⟨hj, s⟩
  subst hj
  refine cQ_if c (cQ_b h3 (fun h => h) ?_)
  rintro j - q hj
  subst hj
  exact cQ_e (fun _ => ⟨rfl, us_r (x := fun k => xTa e w k) s g (fun k hk => xTa_neg hk)⟩)
theorem xEl_u {key : Int} {s : Option Int} : (xU e w key).bind (fun k => s.bind fun c => xEl e k c) = s.bind fun c => xEl e (gMe e w key) c := xU_b (fun k hk => bind_none (fun t => xEl_neg hk))
theorem P_lfE (h : cQ (tkn kd 27 ta) tf tf1 (rU e pl ky w ss sw sw1 m m1 ta ta1 r)) (c1 : tf1 = -2 → kd ta1 = 36) (h2 : tf1 = -2 → cQ (gSub kd lo w ta1) tf1 tf2 (rE e pl ky ss sw1 sw2 m1 m2 ta2 c)) (hd : tf2 = -2 → tf1 = -2) (g : bQ ss sw2 sw3 (xEl e r c) r1) (h3 : cQ (tkn kd 47 ta2) tf2 tf3 (fun j => ta3 = j)) : cQ (gLf1 kd ky lo w ta) tf tf3 (rE e pl ky ss sw sw3 m m2 ta3 r1) := by
  unfold gLf1
  refine cQ_b h (fun h => hd (h3.1 h)) ?_
  rintro j - q ⟨hj, s⟩
  subst hj
  refine cQ_it c1 (cQ_b (h2 q) h3.1 ?_)
  rintro ⟨j2, d⟩ - q2 ⟨hj, s2⟩
  obtain rfl : ta2 = j2 := hj
  refine cQ_b h3 (fun h => h) ?_
  rintro j3 - q3 hj
  subst hj
  refine cQ_e (fun _ => ⟨rfl, ?_⟩)
  have y : ∀ k, k = r → vX e pl ky ss sw1 sw3 m1 m2 (d.1 ++ []) ((d.2.2 e).bind fun c => xEl e k c) r1 := fun k hk => by
    subst hk
    exact vX_b s2 g.1 (fun h0 => ⟨g.2.1 h0, rfl⟩) (fun t _ hr => by subst hr; exact vX_r g)
  have z := vX_b (Y := fun k => (d.2.2 e).bind fun c => xEl e k c) s (y r rfl).1 (y r rfl).2.1 (fun t _ hr => y t hr.symm)
  exact vX_c z (by rw [List.append_nil]; rfl) xEl_u
end
def cLf (kd ky : Int → Int) (lo : gL) (w : Int) (F : Option (Int × gB)) (e : gV) (pl : Int → Int) (ss sw0 : Int) (m0 : Nat → Int32) (tf0 tf ta sw : Int) (m : Nat → Int32) (nd i : Int) : Prop :=
  (tf = -2 → tf0 = -2) ∧ (tf0 = -2 → (tf = -2 → i ≤ ta ∧ ((i = 0 ∧ F = gAsn kd ky lo w ta ∧ sw = sw0 ∧ m = m0 ∧ nd = 0) ∨ (0 < i ∧ ∃ (k : Nat) (a : gD), 3002 ≤ (k : Int) + i ∧ F = gLfs kd ky lo w k ta a ∧ vE e pl ky ss sw0 sw m0 m nd a))) ∧ (¬ tf = -2 → F = none))
section
variable {pl ky kd : Int → Int} {lo : gL} {F : Option (Int × gB)} {ss sw0 sw sw1 sw2 sw3 w r ra nd nd2 i i2 tf0 tf tf1 tf2 ta ta1 ta2 ta3 : Int} {e : gV} {m0 m m1 m2 : Nat → Int32}
theorem xNe_0 {t : Int} : xNe t 0 = some 0 := if_pos (Or.inr (Or.inl rfl))
theorem bQ_k {X : Option Int} (h : bQ ss sw sw1 X r) (hx : X = some ra) : sw1 = sw := by
  by_cases h0 : ss = 0
  · exact h.2.1 h0
  · exact ((h.2.2 h0).2 ra hx).1
theorem gLf1_l {p : Int × gD} (h : gLf1 kd ky lo w ta = some p) (hs : ∀ q, gSub kd lo w (ta + 1) = some q → ta + 1 < q.1) : ta < p.1 := by
  obtain ⟨j, hj, h⟩ := bind_s h
  have e1 := tkn_j hj
  by_cases hc : kd j = 36
  · rw [if_pos hc] at h
    obtain ⟨q, hq, h⟩ := bind_s h
    obtain ⟨k, hk, h⟩ := bind_s h
    have e2 := tkn_j hk
    cases h
    rw [e1.2] at hq
    have := hs q hq
    show ta < k
    omega
  · rw [if_neg hc] at h
    obtain ⟨k, hk, h⟩ := bind_s h
    have e2 := tkn_j hk
    cases h
    show ta < k
    omega
theorem cLf_0 (h0 : 0 ≤ ta) : cLf kd ky lo w (gAsn kd ky lo w ta) e pl ss sw m tf tf ta sw m 0 0 := ⟨fun q => q, fun q0 => ⟨fun _ => ⟨h0, Or.inl ⟨rfl, rfl, rfl, rfl, rfl⟩⟩, fun q => absurd q0 q⟩⟩
theorem cLf_1 (h : cLf kd ky lo w F e pl ss sw0 m0 tf0 tf ta sw m nd i) (hi : i = 0) (h1 : tf = -2 → cQ (gLf1 kd ky lo w ta) tf tf1 (rE e pl ky ss sw sw1 m m1 ta1 r)) (hd : tf1 = -2 → tf = -2) (g : bQ ss sw1 sw2 (xNe r nd) ra) (hm : tf1 = -2 → ta + 1 ≤ ta1) (hi2 : i2 = i + 1) : cLf kd ky lo w F e pl ss sw0 m0 tf0 tf1 ta1 sw2 m1 r i2 := by
  refine ⟨fun q => h.1 (hd q), fun q0 => ?_⟩
  by_cases q : tf = -2
  · rcases ((h.2 q0).1 q).2 with ⟨_, hF, e1, e2, e3⟩ | ⟨hz, _⟩
    · subst e1 e2 e3
      have es := bQ_k g xNe_0
      have h2 := h1 q
      cases hf : gLf1 kd ky lo w ta with
      | none =>
        refine ⟨fun q2 => absurd q2 ((h2.2 q).2 hf), fun _ => ?_⟩
        rw [hF]
        unfold gAsn
        rw [hf]
        rfl
      | some p =>
        have a := (h2.2 q).1 p hf
        have hb := ((h.2 q0).1 q).1
        refine ⟨fun q2 => ⟨by have := hm q2; omega, Or.inr ⟨by omega, 3002, p.2, by omega, ?_, ?_⟩⟩, fun q2 => absurd a.1 q2⟩
        · rw [hF]
          unfold gAsn
          rw [hf]
          show gLfs kd ky lo w 3002 p.1 p.2 = _
          rw [a.2.1]
        · rw [es]
          exact a.2.2
    · omega
  · exact ⟨fun q2 => absurd (hd q2) q, fun _ => (h.2 q0).2 q⟩
theorem cLf_s (h : cLf kd ky lo w F e pl ss sw0 m0 tf0 tf ta sw m nd i) (hi : 0 < i) (hk : tf = -2 ∧ gLfT kd ta = true) (h1 : cQ (gLf1 kd ky lo w ta) tf tf1 (rE e pl ky ss sw sw1 m m1 ta1 r)) (g : bQ ss sw1 sw2 (xNe r nd) ra) (hm : tf1 = -2 → ta + 1 ≤ ta1) (hi3 : i ≤ 3000) (hi2 : i2 = i + 1) : cLf kd ky lo w F e pl ss sw0 m0 tf0 tf1 ta1 sw2 m1 nd i2 := by
  refine ⟨fun q => h.1 hk.1, fun q0 => ?_⟩
  rcases ((h.2 q0).1 hk.1).2 with ⟨hz, _⟩ | ⟨_, k, a, hkk, hF, hv⟩
  · omega
  obtain ⟨k', rfl⟩ : ∃ k' : Nat, k = k' + 1 := ⟨k - 1, by omega⟩
  have hF2 : F = (gLf1 kd ky lo w ta).bind fun p => gLfs kd ky lo w k' p.1 (gLfS a p.2) := by
    rw [hF]
    show (if gLfT kd ta = true then _ else _) = _
    rw [if_pos hk.2]
  cases hf : gLf1 kd ky lo w ta with
  | none =>
    rw [hf] at hF2
    exact ⟨fun q2 => absurd q2 ((h1.2 hk.1).2 hf), fun _ => hF2⟩
  | some p =>
    have b := (h1.2 hk.1).1 p hf
    rw [hf] at hF2
    have hb := ((h.2 q0).1 hk.1).1
    refine ⟨fun q2 => ⟨by have := hm q2; omega, Or.inr ⟨by omega, k', gLfS a p.2, by omega, ?_, ?_⟩⟩, fun q2 => absurd b.1 q2⟩
    · rw [hF2, b.2.1]
      rfl
    · have z := vX_t (q := nd) (vX_n b.2.2 g)
      exact vX_b (Y := fun t0 => (p.2.2.2 e).bind fun t => if okN t t0 then some t0 else none) hv z.1 z.2.1 (fun t _ ht => by subst ht; exact z)
theorem cLf_x (h : cLf kd ky lo w F e pl ss sw0 m0 tf0 tf ta sw m nd i) (hi : 0 < i) (hi3 : i ≤ 3001) (hk : tf = -2 → ¬ gLfT kd ta = true) (h1 : tf = -2 → cQ (gExp kd ky lo w ta) tf tf1 (rN nd e pl ky ss sw sw1 m m1 ta1 r)) (hd : tf1 = -2 → tf = -2) : cQ F tf0 tf1 (rL pl ky ss e e sw0 sw1 m0 m1 ta1) := by
  refine cQ_p (fun q => h.1 (hd q)) (fun q0 => ?_)
  by_cases q : tf = -2
  · rcases ((h.2 q0).1 q).2 with ⟨hz, _⟩ | ⟨_, k, a, hkk, hF, hv⟩
    · omega
    obtain ⟨k', rfl⟩ : ∃ k' : Nat, k = k' + 1 := ⟨k - 1, by omega⟩
    have hF2 : F = (gExp kd ky lo w ta).bind fun r => some (r.1, gAsE a r.2) := by
      rw [hF]
      show (if gLfT kd ta = true then _ else _) = _
      rw [if_neg (hk q)]
    rw [hF2, q0]
    have h2 := h1 q
    rw [q] at h2
    refine cQ_b h2 (fun h => h) ?_
    rintro ⟨j, d⟩ - _ ⟨hj, s⟩
    refine cQ_e (fun _ => ⟨hj, ?_⟩)
    have z : vX e pl ky ss sw sw1 m m1 d.1 ((dN nd d.2.2 e).bind fun _ => some 0) 0 := vX_v s
    have y := vX_b (Y := fun t0 => (dN t0 d.2.2 e).bind fun _ => some 0) hv z.1 z.2.1 (fun t _ ht => by subst ht; exact z)
    refine ⟨fun h0 => ?_, fun h0 _ => ⟨rfl, y⟩⟩
    have p := y.2.1 h0
    refine ⟨p.2, Int.le_refl _, by show e 10 0 ≤ e 10 0 + 0; omega, fun _ => ?_⟩
    rw [p.1]
    rfl
  · rw [(h.2 q0).2 q]
    exact cQ_n (fun q2 => q (hd q2))
theorem cLf_y {G : Int × gB → Prop} (h : cLf kd ky lo w F e pl ss sw0 m0 tf0 tf ta sw m nd i) (hi : 3001 ≤ i) (ht : ta < 3001) (hd : tf1 = -2 → tf = -2) : cQ F tf0 tf1 G := by
  refine cQ_p (fun q => h.1 (hd q)) (fun q0 => ?_)
  have hz : ¬ tf = -2 := fun q1 => by
    have := ((h.2 q0).1 q1).1
    omega
  rw [(h.2 q0).2 hz]
  exact cQ_n (fun q => hz (hd q))
end
