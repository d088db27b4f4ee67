theorem nK_neg {e : gV} {k : Int} (h : k < 0) : nK e k = 0 := if_neg (by omega)
theorem xRe_neg {e : gV} {k c : Int} (h : k < 0) : xRe e k c = none := if_neg (by intro q; have := q.1; rw [nK_neg h] at this; omega)
theorem xVa_neg {e : gV} {k : Int} (h : k < 0) : xVa e k = none := by
  unfold xVa
  rw [if_neg (by intro q; rw [show isSi e k = (nK e k = 1 ∨ nK e k = 6) from rfl, nK_neg h] at q; omega)]
  exact xRe_neg h
theorem xEl_neg {e : gV} {k c : Int} (h : k < 0) : xEl e k c = none := if_neg (by intro q; rw [show isAr e k = (nK e k = 2 ∨ nK e k = 7) from rfl, nK_neg h] at q; omega)
theorem xHo_neg {e : gV} {k p : Int} (h : k < 0) : xHo e k p = none := by
  have h0 := nK_neg (e := e) h
  unfold xHo
  by_cases h7 : nK e p = 7
  · rw [if_pos h7, if_neg (by intro q; have := q.1; rw [show isAr e k = (nK e k = 2 ∨ nK e k = 7) from rfl, h0] at this; omega)]
  · rw [if_neg h7]
    by_cases h8 : nK e p = 8
    · rw [if_pos h8, if_neg (by intro q; rw [show isLa e k = (nK e k = 5 ∨ nK e k = 8) from rfl, h0] at q; omega)]
    · rw [if_neg h8, if_neg (by intro q; rw [show isAr e k = (nK e k = 2 ∨ nK e k = 7) from rfl, show isLa e k = (nK e k = 5 ∨ nK e k = 8) from rfl, show isSi e k = (nK e k = 1 ∨ nK e k = 6) from rfl, h0] at q; omega), xRe_neg h]
      rfl
theorem xU_b {e : gV} {w key : Int} {Y : Int → Option Int} (h : ∀ k, k < 0 → Y k = none) : (xU e w key).bind Y = Y (gMe e w key) := by
  unfold xU
  by_cases hk : gMe e w key < 0
  · rw [if_pos hk, h _ hk]; rfl
  · rw [if_neg hk]; rfl
theorem bind_none {X : Option Int} {Y : Int → Option Int} (h : ∀ t, Y t = none) : X.bind Y = none := by
  cases X with
  | none => rfl
  | some t => exact h t
section
variable {f9 f10 : Nat → Int32} {f11 : Nat → Int64} {tc td td2 td3 td4 : Int32} {e : gV} {pl ky kd : Int → Int} {w ss sw sw1 sw2 sw3 sw4 r r1 r2 r3 ra rb c p p2 k td1 i i2 : Int} {m m1 m2 m3 : Nat → Int32} {tf tf1 tf2 tf3 ta ta1 ta2 ta3 ta4 : Int} {lo : gL} {us vs : List (Int × Int)}
def rU (e : gV) (pl ky : Int → Int) (w ss sw sw' : Int) (m m' : Nat → Int32) (ta ta' r : Int) : Int → Prop := fun j => ta' = j ∧ vX e pl ky ss sw sw' m m' [(ta, w)] (xU e w (ky ta)) r
def rA (p : Int) (e : gV) (pl ky : Int → Int) (w ss sw sw' : Int) (m m' : Nat → Int32) (ta' r : Int) : Int × List (Int × Int) × List gA → Prop := fun a => ta' = a.1 ∧ vX e pl ky ss sw sw' m m' a.2.1 (aCnt e w a.2.2 (vF e (nH e p))) r
def rP (kd : Int → Int) (p : Int) (e : gV) (pl ky : Int → Int) (w ss sw sw' : Int) (m m' : Nat → Int32) (ta ta' : Int) : Int × gD → Prop := fun a => ta' = a.1 ∧ vX e pl ky ss sw sw' m m' a.2.1 ((aX e w (gAc1 kd ky ta a.2) p).bind fun _ => some 0) 0
theorem P_atm1 (q : tf = -2 ∧ kd ta = 28) (ht : ta1 = ta + 1) : cQ (gAtm kd ky lo w ta) tf tf (rE e pl ky ss sw sw m m ta1 1) := by
  unfold gAtm
  rw [if_pos q.2]
  exact cQ_e (fun _ => ⟨ht, vX_e rfl⟩)
theorem P_atm2 (q : tf = -2 ∧ (kd ta = 20 ∨ kd ta = 21)) (ht : ta1 = ta + 1) : cQ (gAtm kd ky lo w ta) tf tf (rE e pl ky ss sw sw m m ta1 2) := by
  unfold gAtm
  rw [if_neg (by have := q.2; omega), if_pos q.2]
  exact cQ_e (fun _ => ⟨ht, vX_e rfl⟩)
theorem P_atm3 (q : tf = -2 ∧ kd ta = 34) (h : cQ (gBrk kd lo w ta) tf tf1 (rN 0 e pl ky ss sw sw1 m m1 ta1 r)) : cQ (gAtm kd ky lo w ta) tf tf1 (rE e pl ky ss sw sw1 m m1 ta1 r) := by
  unfold gAtm
  rw [if_neg (by have := q.2; omega), if_neg (by have := q.2; omega), if_pos q.2]
  refine cQ_b h (fun h => h) ?_
  rintro ⟨j1, p⟩ - q1 ⟨hj, s1⟩
  obtain rfl : ta1 = j1 := hj
  exact cQ_e (fun _ => ⟨rfl, vX_c s1 rfl dN_0⟩)
theorem P_atm4 (q : tf = -2 ∧ kd ta = 27) (h : cQ (gNam kd ky lo w ta) tf tf1 (rE e pl ky ss sw sw1 m m1 ta1 r)) : cQ (gAtm kd ky lo w ta) tf tf1 (rE e pl ky ss sw sw1 m m1 ta1 r) := by
  unfold gAtm
  rw [if_neg (by have := q.2; omega), if_neg (by have := q.2; omega), if_neg (by have := q.2; omega), if_pos q.2]
  exact h
theorem P_atm5 {R : Int × gD → Prop} (q : tf = -2 → ¬ kd ta = 28 ∧ ¬ kd ta = 20 ∧ ¬ kd ta = 21 ∧ ¬ kd ta = 34 ∧ ¬ kd ta = 27) (h : ¬ tf1 = -2) : cQ (gAtm kd ky lo w ta) tf tf1 R := by
  refine cQ_p (fun h2 => absurd h2 h) (fun h0 => ?_)
  have z := q h0
  unfold gAtm
  rw [if_neg z.1, if_neg (by omega), if_neg z.2.2.2.1, if_neg z.2.2.2.2]
  exact cQ_n h
theorem P_nam3 (h1 : cQ (tkn kd 27 ta) tf tf1 (rU e pl ky w ss sw sw1 m m1 ta ta1 r)) (c1 : tf1 = -2 → ¬ kd ta1 = 36) (c2 : tf1 = -2 → ¬ kd ta1 = 34) (g : bQ ss sw1 sw2 (xVa e r) r2) : cQ (gNam kd ky lo w ta) tf tf1 (rE e pl ky ss sw sw2 m m1 ta1 r2) := by
  unfold gNam
  refine cQ_b h1 (fun h => h) ?_
  rintro j1 - q1 ⟨hj, s1⟩
  subst hj
  refine cQ_if c1 (cQ_if c2 (cQ_e (fun _ => ⟨rfl, ?_⟩)))
  have z := vX_b (Y := fun k => xVa e k) (vs := []) (m2 := m1) (r2 := r2) s1 g.1 (fun h0 => ⟨g.2.1 h0, rfl⟩) (fun t _ hr => by subst hr; exact vX_r g)
  exact vX_c z rfl (xU_b (fun k hk => xVa_neg hk))
theorem P_nam1 (h1 : cQ (tkn kd 27 ta) tf tf1 (rU e pl ky w ss sw sw1 m m1 ta ta1 r)) (c1 : tf1 = -2 → kd ta1 = 36) (h2 : cQ (gSub kd lo w ta1) tf1 tf2 (rE e pl ky ss sw1 sw2 m1 m2 ta2 c)) (g : bQ ss sw2 sw3 (xEl e r c) r2) : cQ (gNam kd ky lo w ta) tf tf2 (rE e pl ky ss sw sw3 m m2 ta2 r2) := by
  unfold gNam
  refine cQ_b h1 h2.1 ?_
  rintro j1 - q1 ⟨hj, s1⟩
  subst hj
  refine cQ_it c1 (cQ_b h2 (fun h => h) ?_)
  rintro ⟨j2, d⟩ - q2 ⟨hj, s2⟩
  obtain rfl : ta2 = j2 := hj
  refine cQ_e (fun _ => ⟨rfl, ?_⟩)
  have y : ∀ k, k = r → vX e pl ky ss sw1 sw3 m1 m2 (d.1 ++ []) ((d.2.2 e).bind fun c => xEl e k c) r2 := fun k hk => by
    subst hk
    exact vX_b s2 g.1 (fun h0 => ⟨g.2.1 h0, rfl⟩) (fun t _ hr => by subst hr; exact vX_r g)
  have z := vX_b (Y := fun k => (d.2.2 e).bind fun c => xEl e k c) s1 (y r rfl).1 (y r rfl).2.1 (fun t _ hr => y t hr.symm)
  exact vX_c z (by rw [List.append_nil]; rfl) (xU_b (fun k hk => bind_none (fun t => xEl_neg hk)))
theorem P_nam2 (h1 : cQ (tkn kd 27 ta) tf tf1 (rU e pl ky w ss sw sw1 m m1 ta ta1 r)) (c1 : tf1 = -2 → kd ta1 = 34) (h2 : cQ (gAcs kd ky lo w ta1) tf1 tf2 (rA r e pl ky w ss sw1 sw2 m1 m2 ta2 c)) (g : bQ ss sw2 sw3 (xRe e r c) r2) : cQ (gNam kd ky lo w ta) tf tf2 (rE e pl ky ss sw sw3 m m2 ta2 r2) := by
  unfold gNam
  refine cQ_b h1 h2.1 ?_
  rintro j1 - q1 ⟨hj, s1⟩
  subst hj
  refine cQ_if (fun q => by have := c1 q; omega) (cQ_it c1 (cQ_b h2 (fun h => h) ?_))
  rintro ⟨j2, us, as⟩ - q2 ⟨hj, s2⟩
  obtain rfl : ta2 = j2 := hj
  refine cQ_e (fun _ => ⟨rfl, ?_⟩)
  have y : ∀ k, k = r → vX e pl ky ss sw1 sw3 m1 m2 (us ++ []) ((aCnt e w as (vF e (nH e k))).bind fun c => xRe e k c) r2 := fun k hk => by
    subst hk
    exact vX_b s2 g.1 (fun h0 => ⟨g.2.1 h0, rfl⟩) (fun t _ hr => by subst hr; exact vX_r g)
  have z := vX_b (Y := fun k => (aCnt e w as (vF e (nH e k))).bind fun c => xRe e k c) s1 (y r rfl).1 (y r rfl).2.1 (fun t _ hr => y t hr.symm)
  exact vX_c z (by rw [List.append_nil]; rfl) (xU_b (fun k hk => bind_none (fun t => xRe_neg hk)))
theorem gRow_1 {f : Int → gR} {t : Int → Bool} {ty j : Int} {d : gD} (h : f i = some (j, d)) (ht : t (kd j) = false) : gRow kd f t ty i = some (j, d) := by
  unfold gRow
  rw [h]
  show (if t (kd j) = true then _ else _) = _
  rw [if_neg (by rw [ht]; decide)]
theorem gExp_al (h : gAlo kd i = true) : gExp kd ky lo w i = some (i + 1, ([(i, w)], true, dVa w (ky i))) := by
  have h1 := of_decide_eq_true h
  have ha : gAtm kd ky lo w i = some (i + 1, ([(i, w)], true, dVa w (ky i))) := by
    unfold gAtm
    rw [if_neg (by have := h1.1; omega), if_neg (by have := h1.1; omega), if_neg (by have := h1.1; omega), if_pos h1.1]
    unfold gNam tkn
    rw [if_pos h1.1]
    show (if kd (i + 1) = 36 then _ else _) = _
    rw [if_neg (by have := h1.2; omega), if_neg (by have := h1.2; omega)]
  have hp : gPow kd ky lo w i = some (i + 1, ([(i, w)], true, dVa w (ky i))) := gRow_1 ha (decide_eq_false (by have := h1.2; omega))
  have ht : gTrm kd ky lo w i = some (i + 1, ([(i, w)], true, dVa w (ky i))) := gRow_1 hp (decide_eq_false (by have := h1.2; omega))
  have hs : gSum kd ky lo w i = some (i + 1, ([(i, w)], true, dVa w (ky i))) := by
    unfold gSum
    rw [if_neg (by rw [show tSum (kd i) = false from decide_eq_false (by have := h1.1; omega)]; decide)]
    exact gRow_1 ht (decide_eq_false (by have := h1.2; omega))
  have hr : gRel kd ky lo w i = some (i + 1, ([(i, w)], true, dVa w (ky i))) := by
    unfold gRel
    rw [hs]
    show (if 41 ≤ kd (i + 1) ∧ kd (i + 1) ≤ 46 then _ else _) = _
    rw [if_neg (by have := h1.2; omega)]
  have hd : gDen kd ky lo w i = some (i + 1, ([(i, w)], true, dVa w (ky i))) := by
    unfold gDen
    rw [if_neg (by have := h1.1; omega)]
    exact hr
  have hc : gCon kd ky lo w i = some (i + 1, ([(i, w)], true, dVa w (ky i))) := gRow_1 hd (decide_eq_false (by have := h1.2; omega))
  unfold gExp
  rw [if_neg (by have := h1.1; omega)]
  exact gRow_1 hc (decide_eq_false (by have := h1.2; omega))
theorem P_act1 (h6 : nK e p = 6) (h : cQ (gExp kd ky lo w ta) tf tf1 (rN (nT e p) e pl ky ss sw sw1 m m1 ta1 r)) : cQ (gExp kd ky lo w ta) tf tf1 (rP kd p e pl ky w ss sw sw1 m m1 ta ta1) := by
  refine cQ_w h (fun a _ _ q => ⟨q.1, ?_⟩)
  have z := vX_v (q := 0) q.2
  refine vX_c z rfl ?_
  unfold aX
  rw [if_pos h6]
  rfl
theorem P_act2 (h6 : ¬ nK e p = 6) (ha : tf = -2 → gAlo kd ta = true) (h : cQ (tkn kd 27 ta) tf tf1 (rU e pl ky w ss sw sw1 m m1 ta ta1 r)) (g : bQ ss sw1 sw2 (xHo e r p) ra) : cQ (gExp kd ky lo w ta) tf tf1 (rP kd p e pl ky w ss sw sw2 m m1 ta ta1) := by
  refine cQ_p h.1 (fun h0 => ?_)
  rw [gExp_al (ha h0)]
  have hk := (of_decide_eq_true (ha h0)).1
  have ht : tkn kd 27 ta = some (ta + 1) := if_pos hk
  have h2 := (h.2 h0).1 _ ht
  refine ⟨h.1, fun _ => ⟨fun a hF => ⟨h2.1, ?_⟩, fun hF => absurd hF (by simp)⟩⟩
  cases hF
  refine ⟨h2.2.1, ?_⟩
  have z := vX_b (Y := fun k => xHo e k p) (vs := []) (m2 := m1) (r2 := ra) h2.2.2 g.1 (fun h0 => ⟨g.2.1 h0, rfl⟩) (fun t _ hr => by subst hr; exact vX_r g)
  refine vX_c (vX_v (q := 0) z) rfl ?_
  rw [xU_b (fun k hk => xHo_neg hk)]
  unfold aX
  rw [if_neg h6, if_pos (show (gAc1 kd ky ta _).1 = true from ha h0)]
  rfl
theorem P_act3 (h6 : ¬ nK e p = 6) (ha : tf = -2 → ¬ gAlo kd ta = true) (h : cQ (gExp kd ky lo w ta) tf tf1 (rN 0 e pl ky ss sw sw1 m m1 ta1 r)) (g : tf = -2 → bQ ss sw1 sw2 (if (decide (kd ta = 11) = true ∧ r = 0) ∨ nK e p = 0 then some 0 else none) ra) (g1 : sw2 ≤ sw1) : cQ (gExp kd ky lo w ta) tf tf1 (rP kd p e pl ky w ss sw sw2 m m1 ta ta1) := by
  refine cQ_w h (fun a h0 _ q => ⟨q.1, ?_⟩)
  have s1 := q.2
  have z := vX_b (Y := fun t => if (decide (kd ta = 11) = true ∧ t = 0) ∨ nK e p = 0 then some 0 else none) (vs := []) (m2 := m1) (r2 := ra) s1 (g h0).1 (fun h3 => ⟨(g h0).2.1 h3, rfl⟩) (fun t _ hr => by subst hr; exact vX_r (g h0))
  refine vX_c (vX_v (q := 0) z) (List.append_nil _) ?_
  show (Option.bind (dN 0 a.2.2.2 e) _).bind _ = _
  rw [dN_0]
  unfold aX
  rw [if_neg h6, if_neg (show ¬ (gAc1 kd ky ta _).1 = true from ha h0)]
  rfl
def cAct (kd ky : Int → Int) (X : Int → gR) (F : Option (Int × List (Int × Int) × List gA)) (e : gV) (pl : Int → Int) (w p0 ss sw0 : Int) (m0 : Nat → Int32) (td tf0 tf ta sw : Int) (m : Nat → Int32) (par i : Int) : Prop :=
  (tf = -2 → tf0 = -2) ∧ (tf0 = -2 → (tf = -2 → td < 20 ∧ i ≤ ta ∧ ∃ (k : Nat) (us : List (Int × Int)) (as : List gA), 3001 ≤ (k : Int) + i ∧ (as.length : Int) = i + 1 ∧ F = gAcE kd (gAct kd ky X k) ta us as ∧ vX e pl ky ss sw0 sw m0 m us (aAll e w as p0) (nX e par)) ∧ (¬ tf = -2 → F = none))
theorem aAll_s {as : List gA} {a : gA} : aAll e w (as ++ [a]) p = aS e w (aAll e w as p) a := by
  unfold aAll
  rw [List.foldl_append]
  rfl
theorem cAct_0 (h0 : 0 ≤ ta2) (h1 : dQ (kC f9 tc) 34 tf tf1 ta ta1 td.toInt td1) (b2 : tf1 = -2 → tf = -2 ∧ td2.toInt = td.toInt + 1) (h2 : cQ (gExp (kC f9 tc) (kK f11) (gLo f9 f11 tc td2) w ta1) tf1 tf2 (rP (kC f9 tc) p e pl (kK f11) w ss sw sw1 m m1 ta1 ta2)) :
    cAct (kC f9 tc) (kK f11) (gLo f9 f11 tc td 0 w) (gAcs (kC f9 tc) (kK f11) (gLo f9 f11 tc td) w ta) e pl w p ss sw m td.toInt tf tf2 ta2 sw1 m1 p 0 := by
  refine ⟨fun h => h1.1 (h2.1 h), fun q0 => ?_⟩
  unfold dQ at h1
  by_cases ht : td.toInt < 20
  · rw [if_pos ht] at h1
    unfold gAcs
    cases hF : tkn (kC f9 tc) 34 ta with
    | none => exact ⟨fun q2 => absurd (h2.1 q2) ((h1.2 q0).2 hF), fun _ => rfl⟩
    | some j =>
      have a := (h1.2 q0).1 j hF
      have hX : gLo f9 f11 tc td 0 w ta1 = gExp (kC f9 tc) (kK f11) (gLo f9 f11 tc td2) w ta1 := by rw [gLo_s ht (b2 a.1).2]; rfl
      show (tf2 = -2 → _) ∧ (¬ tf2 = -2 → gAct _ _ _ 3002 j [] [] = none)
      rw [← a.2.1]
      cases hE : gExp (kC f9 tc) (kK f11) (gLo f9 f11 tc td2) w ta1 with
      | none =>
        refine ⟨fun q2 => absurd q2 ((h2.2 a.1).2 hE), fun _ => ?_⟩
        show (gLo f9 f11 tc td 0 w ta1).bind _ = none
        rw [hX, hE]
        rfl
      | some q =>
        have b := (h2.2 a.1).1 q hE
        refine ⟨fun q2 => ⟨ht, h0, 3001, q.2.1, [gAc1 (kC f9 tc) (kK f11) ta1 q.2], by omega, rfl, ?_, ?_⟩, fun q2 => absurd b.1 q2⟩
        · show (gLo f9 f11 tc td 0 w ta1).bind _ = _
          rw [hX, hE, b.2.1]
          rfl
        · have s := b.2.2
          refine ⟨s.1, s.2.1, fun g0 => ?_⟩
          have s' := s.2.2 g0
          show (aS e w (some p) _ = none → _) ∧ _
          refine ⟨fun hn => s'.1 ?_, fun t hs => ?_⟩
          · cases hx : aX e w (gAc1 (kC f9 tc) (kK f11) ta1 q.2) p with
            | none => rfl
            | some z => exact absurd hn (by show ¬ (Option.bind (aX e w _ p) _) = none; rw [hx]; simp)
          · cases hx : aX e w (gAc1 (kC f9 tc) (kK f11) ta1 q.2) p with
            | none => exact absurd hs (by show ¬ (Option.bind (aX e w _ p) _) = some t; rw [hx]; simp)
            | some z =>
              have s2 := s'.2 0 (by rw [hx]; rfl)
              refine ⟨s2.1, s2.2.1, ?_⟩
              have : aAll e w [gAc1 (kC f9 tc) (kK f11) ta1 q.2] p = some (nX e p) := by
                show (Option.bind (aX e w _ p) _) = _
                rw [hx]; rfl
              rw [this] at hs
              cases hs
              rfl
  · rw [if_neg ht] at h1
    have hz : gAcs (kC f9 tc) (kK f11) (gLo f9 f11 tc td) w ta = none := by
      unfold gAcs
      cases tkn (kC f9 tc) 34 ta with
      | none => rfl
      | some j =>
        show gAct _ _ _ 3002 j [] [] = none
        show (gLo f9 f11 tc td 0 w j).bind _ = none
        rw [gLo_z ht]
        rfl
    exact ⟨fun q2 => absurd (h2.1 q2) ((h1.2 q0).2 rfl), fun _ => hz⟩
variable {F : Option (Int × List (Int × Int) × List gA)}
theorem cAct_s (h : cAct (kC f9 tc) (kK f11) (gLo f9 f11 tc td 0 w) F e pl w p ss sw m td.toInt tf tf1 ta1 sw1 m1 p2 i) (ha : aQ (kC f9 tc) 38 tf1 ta1 ta2 1) (hp : r = nX e p2)
    (b2 : tf1 = -2 → tf = -2 ∧ td2.toInt = td.toInt + 1) (h2 : cQ (gExp (kC f9 tc) (kK f11) (gLo f9 f11 tc td2) w ta2) tf1 tf2 (rP (kC f9 tc) r e pl (kK f11) w ss sw1 sw2 m1 m2 ta2 ta3)) (hm : ta2 ≤ ta3) (hi : i ≤ 3000) (hi2 : i2 = i + 1) :
    cAct (kC f9 tc) (kK f11) (gLo f9 f11 tc td 0 w) F e pl w p ss sw m td.toInt tf tf2 ta3 sw2 m2 r i2 := by
  obtain ⟨_, hal, htk, hta⟩ : (1 : Int) = 1 ∧ tf1 = -2 ∧ kC f9 tc ta1 = 38 ∧ ta2 = ta1 + 1 := by
    rcases ha with ha | ha
    · exact ha
    · exact absurd ha.1 (by decide)
  refine ⟨fun q => h.1 (h2.1 q), fun q0 => ?_⟩
  obtain ⟨ht, hit, k, us, as, hk, hl, hF, hs⟩ := (h.2 q0).1 hal
  obtain ⟨k', rfl⟩ : ∃ k' : Nat, k = k' + 1 := ⟨k - 1, by omega⟩
  have hX : gLo f9 f11 tc td 0 w ta2 = gExp (kC f9 tc) (kK f11) (gLo f9 f11 tc td2) w ta2 := by rw [gLo_s ht (b2 hal).2]; rfl
  have hF2 : F = (gExp (kC f9 tc) (kK f11) (gLo f9 f11 tc td2) w ta2).bind fun p => gAcE (kC f9 tc) (gAct (kC f9 tc) (kK f11) (gLo f9 f11 tc td 0 w) k') p.1 (us ++ p.2.1) (as ++ [gAc1 (kC f9 tc) (kK f11) ta2 p.2]) := by
    rw [hF, ← hX]
    unfold gAcE
    rw [if_pos htk, ← hta]
    rfl
  cases hE : gExp (kC f9 tc) (kK f11) (gLo f9 f11 tc td2) w ta2 with
  | none =>
    rw [hE] at hF2
    exact ⟨fun q1 => absurd q1 ((h2.2 hal).2 hE), fun _ => hF2⟩
  | some q =>
    have b := (h2.2 hal).1 q hE
    rw [hE] at hF2
    refine ⟨fun q1 => ⟨ht, by omega, k', us ++ q.2.1, as ++ [gAc1 (kC f9 tc) (kK f11) ta2 q.2], by omega, by simp; omega, ?_, ?_⟩, fun q1 => absurd b.1 q1⟩
    · rw [hF2, b.2.1]; rfl
    · rw [aAll_s]
      have s := b.2.2
      have z : vX e pl (kK f11) ss sw1 sw2 m1 m2 q.2.1 ((aX e w (gAc1 (kC f9 tc) (kK f11) ta2 q.2) r).bind fun _ => some (nX e r)) (nX e r) := by
        refine ⟨s.1, s.2.1, fun g0 => ?_⟩
        have s' := s.2.2 g0
        cases hx : aX e w (gAc1 (kC f9 tc) (kK f11) ta2 q.2) r with
        | none => exact ⟨fun _ => s'.1 (by rw [hx]; rfl), fun t hs => absurd hs (by simp)⟩
        | some z =>
          have s2 := s'.2 0 (by rw [hx]; rfl)
          exact ⟨fun hn => absurd hn (by simp), fun t hs => ⟨s2.1, s2.2.1, by cases hs; rfl⟩⟩
      refine vX_b (Y := fun t => (aX e w (gAc1 (kC f9 tc) (kK f11) ta2 q.2) t).bind fun _ => some (nX e t)) hs z.1 z.2.1 (fun t _ hr => ?_)
      rw [← hr, ← hp]
      exact z
theorem cAct_x (h : cAct (kC f9 tc) (kK f11) (gLo f9 f11 tc td 0 w) F e pl w p ss sw m td.toInt tf tf1 ta1 sw1 m1 p2 i) (ha : aQ (kC f9 tc) 38 tf1 ta1 ta2 0) (h3 : cQ (tkn (kC f9 tc) 35 ta2) tf1 tf2 (fun j => ta3 = j)) (hc : tf1 = -2 → c = i + 1) (hp : p = vF e (nH e r)) :
    cQ F tf tf2 (rA r e pl (kK f11) w ss sw sw1 m m1 ta3 c) := by
  have hb : (tf1 = -2 → ¬ kC f9 tc ta1 = 38) ∧ ta2 = ta1 := by
    rcases ha with ha | ha
    · exact absurd ha.1 (by decide)
    · exact ha.2
  rw [hb.2] at h3
  refine cQ_p (fun q => h.1 (h3.1 q)) (fun q0 => ?_)
  by_cases q1 : tf1 = -2
  · obtain ⟨ht, hit, k, us, as, hk, hl, hF, hs⟩ := (h.2 q0).1 q1
    rw [hF]
    unfold gAcE
    rw [if_neg (hb.1 q1)]
    have z : cQ ((tkn (kC f9 tc) 35 ta1).bind fun j => some (j, us, as)) tf1 tf2 (rA r e pl (kK f11) w ss sw sw1 m m1 ta3 c) := by
      refine cQ_b h3 (fun h => h) ?_
      rintro j - q2 hj
      subst hj
      refine cQ_e (fun _ => ⟨rfl, ?_⟩)
      show vX e pl (kK f11) ss sw sw1 m m1 us (aCnt e w as (vF e (nH e r))) c
      rw [← hp, hc q1, ← hl]
      exact vX_v hs
    exact ⟨fun q => q0, fun _ => z.2 q1⟩
  · rw [(h.2 q0).2 q1]
    exact cQ_n (fun q => q1 (h3.1 q))
theorem cAct_y {X : Int → gR} {R : Int × List (Int × Int) × List gA → Prop} (h : cAct kd ky X F e pl w p ss sw m k tf tf1 ta1 sw1 m1 p2 i) (hi : 3001 ≤ i) (ht : ta1 < 3001) (h3 : cQ (tkn kd 35 ta1) tf1 tf2 (fun j => ta3 = j)) : cQ F tf tf2 R := by
  refine cQ_p (fun q => h.1 (h3.1 q)) (fun q0 => ?_)
  have hd : ¬ tf1 = -2 := fun q1 => by
    have := ((h.2 q0).1 q1).2.1
    omega
  rw [(h.2 q0).2 hd]
  exact cQ_n (fun q => hd (h3.1 q))
end
