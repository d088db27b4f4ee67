theorem gLo_e {f9 : Nat → Int32} {f11 : Nat → Int64} {tc td td' : Int32} (h : td.toInt = td'.toInt) : gLo f9 f11 tc td = gLo f9 f11 tc td' := by unfold gLo; rw [h]
theorem gLo_z {f9 : Nat → Int32} {f11 : Nat → Int64} {tc td : Int32} (h : ¬ td.toInt < 20) : gLo f9 f11 tc td = fun _ _ _ => none := by
  unfold gLo
  rw [show (20 - td.toInt).toNat = 0 by omega]
  rfl
theorem gLo_s {f9 : Nat → Int32} {f11 : Nat → Int64} {tc td td' : Int32} (h : td.toInt < 20) (h2 : td'.toInt = td.toInt + 1) : gLo f9 f11 tc td = gBun (kC f9 tc) (kK f11) (gLo f9 f11 tc td') := by
  unfold gLo
  rw [show (20 - td.toInt).toNat = (20 - td'.toInt).toNat + 1 by omega]
  rfl
theorem gBun_0 {kd ky : Int → Int} {lo : gL} : gBun kd ky lo 0 = gExp kd ky lo := rfl
theorem gBun_1 {kd ky : Int → Int} {lo : gL} : gBun kd ky lo 1 = gEit kd ky lo := rfl
theorem gBun_2 {kd ky : Int → Int} {lo : gL} : gBun kd ky lo 2 = gDen kd ky lo := rfl
section
variable {f9 f10 : Nat → Int32} {f11 : Nat → Int64} {tc td td2 td3 td4 td5 td6 : Int32} {e : gV} {pl ky kd : Int → Int} {w ss sw sw1 sw2 sw3 sw4 sw5 r r1 r2 r3 r4 r5 r6 ra rb ty k td1 : Int} {m m1 m2 m3 m4 : Nat → Int32} {tf tf1 tf2 tf3 tf4 tf5 tf6 ta ta1 ta2 ta3 ta4 ta5 ta6 : Int} {lo : gL}
theorem P_exp1 (c : tf = -2 → kd ta = 11) (h : cQ (gCnd kd lo w ta) tf tf1 (rE e pl ky ss sw sw1 m m1 ta1 r)) (g : bQ ss sw1 sw2 (xNe r ty) ra) : cQ (gExp kd ky lo w ta) tf tf1 (rN ty e pl ky ss sw sw2 m m1 ta1 r) :=
  cQ_it c (cQ_w h (fun _ _ _ q => ⟨q.1, vX_n q.2 g⟩))
theorem P_exp2 (c : tf = -2 → ¬ kd ta = 11) (h : cQ (gEit kd ky lo w ta) tf tf1 (rE e pl ky ss sw sw1 m m1 ta1 r)) (g : bQ ss sw1 sw2 (xNe r ty) ra) : cQ (gExp kd ky lo w ta) tf tf1 (rN ty e pl ky ss sw sw2 m m1 ta1 r) :=
  cQ_if c (cQ_w h (fun _ _ _ q => ⟨q.1, vX_n q.2 g⟩))
theorem P_cond (h1 : dQ (kC f9 tc) 11 tf tf1 ta ta1 td.toInt td1)
    (b2 : tf1 = -2 → tf = -2 ∧ td2.toInt = td.toInt + 1) (h2 : cQ (gExp (kC f9 tc) (kK f11) (gLo f9 f11 tc td2) w ta1) tf1 tf2 (rN 2 e pl ky ss sw sw1 m m1 ta2 r2))
    (h3 : cQ (tkn (kC f9 tc) 12 ta2) tf2 tf3 (fun j => ta3 = j))
    (b4 : tf3 = -2 → tf = -2 ∧ td4.toInt = td.toInt + 1) (h4 : cQ (gEit (kC f9 tc) (kK f11) (gLo f9 f11 tc td4) w ta3) tf3 tf4 (rE e pl ky ss sw1 sw2 m1 m2 ta4 r4))
    (h5 : cQ (tkn (kC f9 tc) 13 ta4) tf4 tf5 (fun j => ta5 = j))
    (b6 : tf5 = -2 → tf = -2 ∧ td6.toInt = td.toInt + 1) (h6 : cQ (gExp (kC f9 tc) (kK f11) (gLo f9 f11 tc td6) w ta5) tf5 tf6 (rN r4 e pl ky ss sw2 sw3 m2 m3 ta6 r6)) :
    cQ (gCnd (kC f9 tc) (gLo f9 f11 tc td) w ta) tf tf6 (rE e pl ky ss sw sw3 m m3 ta6 r4) := by
  unfold gCnd
  refine cQ_d h1 (fun h => h2.1 (h3.1 (h4.1 (h5.1 (h6.1 h))))) (fun _ q a => by rw [gLo_z q]; rfl) (fun a0 a1 a2 a3 a4 => ?_)
  rw [gLo_s a2 (b2 a1).2, gBun_0, gBun_1]
  refine cQ_b h2 (fun h => h3.1 (h4.1 (h5.1 (h6.1 h)))) ?_
  rintro ⟨j1, p⟩ - q1 ⟨hj, s1⟩
  obtain rfl : ta2 = j1 := hj
  refine cQ_b h3 (fun h => h4.1 (h5.1 (h6.1 h))) ?_
  rintro j2 - q2 hj
  subst hj
  rw [gLo_e (td := td2) (td' := td4) (by have := (b2 a1).2; have := (b4 q2).2; omega)]
  refine cQ_b h4 (fun h => h5.1 (h6.1 h)) ?_
  rintro ⟨j3, q⟩ - q3 ⟨hj, s2⟩
  obtain rfl : ta4 = j3 := hj
  refine cQ_b h5 (fun h => h6.1 h) ?_
  rintro j4 - q4 hj
  subst hj
  rw [gLo_e (td := td4) (td' := td6) (by have := (b4 q2).2; have := (b6 q4).2; omega)]
  refine cQ_b h6 (fun h => h) ?_
  rintro ⟨j5, s⟩ - q5 ⟨hj, s3⟩
  obtain rfl : ta6 = j5 := hj
  refine cQ_e (fun _ => ⟨rfl, ?_⟩)
  show vX e pl ky ss sw sw3 m m3 (p.1 ++ (q.1 ++ s.1)) (dIf p.2.2 q.2.2 s.2.2 e) r4
  have z : vX e pl ky ss sw1 sw3 m1 m3 (q.1 ++ s.1) ((q.2.2 e).bind fun t => (dN t s.2.2 e).bind fun _ => some t) r4 := by
    refine vX_b s2 s3.1 s3.2.1 (fun t ht hr => ?_)
    subst hr
    exact vX_v s3
  exact vX_b s1 z.1 z.2.1 (fun _ _ _ => z)
def cRow (kd : Int → Int) (f : Int → gR) (t : Int → Bool) (ty : Int) (F : gR) (e : gV) (pl ky : Int → Int) (ss sw0 : Int) (m0 : Nat → Int32) (tf0 tf ta sw : Int) (m : Nat → Int32) (typ i : Int) : Prop :=
  (tf = -2 → tf0 = -2) ∧ (tf0 = -2 → (tf = -2 → i ≤ ta ∧ ∃ (k : Nat) (d : gD), 3002 ≤ (k : Int) + i ∧ F = gChn kd f t ty k ta d ∧ vE e pl ky ss sw0 sw m0 m typ d) ∧ (¬ tf = -2 → F = none))
def aT (kd : Int → Int) (t : Int → Bool) (tf ta ta' r : Int) : Prop := (r = 1 ∧ tf = -2 ∧ t (kd ta) = true ∧ ta' = ta + 1) ∨ (r = 0 ∧ (tf = -2 → ¬ t (kd ta) = true) ∧ ta' = ta)
variable {f : Int → gR} {t : Int → Bool} {F : gR} {i : Int} {typ : Int}
theorem cRow_0 (h0 : 0 ≤ ta1) (h : cQ (f ta) tf tf1 (rE e pl ky ss sw sw1 m m1 ta1 typ)) : cRow kd f t ty (gRow kd f t ty ta) e pl ky ss sw m tf tf1 ta1 sw1 m1 typ 0 := by
  refine ⟨h.1, fun q0 => ⟨fun q1 => ⟨h0, ?_⟩, fun q1 => ?_⟩⟩
  · cases hF : f ta with
    | none => exact absurd q1 ((h.2 q0).2 hF)
    | some p =>
      have a := ((h.2 q0).1 p hF).2
      refine ⟨3002, p.2, by omega, ?_, a.2⟩
      unfold gRow
      rw [hF, a.1]
      rfl
  · cases hF : f ta with
    | none => unfold gRow; rw [hF]; rfl
    | some p => exact absurd ((h.2 q0).1 p hF).1 q1
theorem cRow_s (h : cRow kd f t ty F e pl ky ss sw m tf tf1 ta1 sw1 m1 typ i) (ha : aT kd t tf1 ta1 ta2 1) (g1 : bQ ss sw1 sw2 (xNe typ ty) ra) (h2' : tf1 = -2 → cQ (f ta2) tf1 tf2 (rE e pl ky ss sw2 sw3 m1 m2 ta3 r2)) (g2 : bQ ss sw3 sw4 (xNe r2 ty) rb) (hm : ta2 ≤ ta3) (hi : i ≤ 3000) (hi2 : r3 = i + 1) :
    cRow kd f t ty F e pl ky ss sw m tf tf2 ta3 sw4 m2 ty r3 := by
  obtain ⟨_, hal, htk, hta⟩ : (1 : Int) = 1 ∧ tf1 = -2 ∧ t (kd ta1) = true ∧ ta2 = ta1 + 1 := by
    rcases ha with ha | ha
    · exact ha
    · exact absurd ha.1 (by decide)
  have h2 := h2' hal
  refine ⟨fun q => h.1 (h2.1 q), fun q0 => ?_⟩
  obtain ⟨hit, k, d, hk, hF, hs⟩ := (h.2 q0).1 hal
  obtain ⟨k', rfl⟩ : ∃ k' : Nat, k = k' + 1 := ⟨k - 1, by omega⟩
  have hF2 : F = (f ta2).bind fun p => gChn kd f t ty k' p.1 (gBo ty ty d p.2) := by
    rw [hF]
    show (if t (kd ta1) = true then _ else _) = _
    rw [if_pos htk, hta]
  cases hf : f ta2 with
  | none =>
    rw [hf] at hF2
    exact ⟨fun q1 => absurd q1 ((h2.2 hal).2 hf), fun _ => hF2⟩
  | some p =>
    have a := (h2.2 hal).1 p hf
    rw [hf] at hF2
    refine ⟨fun q1 => ⟨by omega, k', gBo ty ty d p.2, by omega, ?_, ?_⟩, fun q1 => absurd a.1 q1⟩
    · rw [hF2, a.2.1]; rfl
    · exact vX_o hs g1 a.2.2 g2
theorem cRow_x (h : cRow kd f t ty F e pl ky ss sw m tf tf1 ta1 sw1 m1 typ i) (ha : aT kd t tf1 ta1 ta2 0) (hi : i ≤ 3001) : cQ F tf tf1 (rE e pl ky ss sw sw1 m m1 ta2 typ) := by
  have hb : (tf1 = -2 → ¬ t (kd ta1) = true) ∧ ta2 = ta1 := by
    rcases ha with ha | ha
    · exact absurd ha.1 (by decide)
    · exact ha.2
  refine ⟨h.1, fun q0 => ⟨fun a hF => ?_, fun hF q1 => ?_⟩⟩
  · by_cases q1 : tf1 = -2
    · obtain ⟨hit, k, d, hk, hG, hs⟩ := (h.2 q0).1 q1
      obtain ⟨k', rfl⟩ : ∃ k' : Nat, k = k' + 1 := ⟨k - 1, by omega⟩
      have : gChn kd f t ty (k' + 1) ta1 d = some (ta1, d) := by
        show (if t (kd ta1) = true then _ else _) = _
        rw [if_neg (hb.1 q1)]
      rw [hG, this] at hF
      cases hF
      exact ⟨q1, hb.2, hs⟩
    · have := (h.2 q0).2 q1
      rw [this] at hF
      cases hF
  · obtain ⟨hit, k, d, hk, hG, hs⟩ := (h.2 q0).1 q1
    obtain ⟨k', rfl⟩ : ∃ k' : Nat, k = k' + 1 := ⟨k - 1, by omega⟩
    have : gChn kd f t ty (k' + 1) ta1 d = some (ta1, d) := by
      show (if t (kd ta1) = true then _ else _) = _
      rw [if_neg (hb.1 q1)]
    rw [hG, this] at hF
    cases hF
theorem cRow_y (h : cRow kd f t ty F e pl ky ss sw m tf tf1 ta1 sw1 m1 typ i) (hi : 3001 ≤ i) (ht : ta1 < 3001) : cQ F tf tf1 (rE e pl ky ss sw sw1 m m1 ta1 typ) := by
  have hd : tf = -2 → ¬ tf1 = -2 := fun q0 q1 => by
    have := ((h.2 q0).1 q1).1
    omega
  refine ⟨h.1, fun q0 => ⟨fun a hF => ?_, fun _ => hd q0⟩⟩
  have := (h.2 q0).2 (hd q0)
  rw [this] at hF
  cases hF
theorem cRow_1 (h0 : 0 ≤ ta2) (hc : aT kd t tf ta ta1 1) (h : cQ (f ta1) tf tf1 (rE e pl ky ss sw sw1 m m1 ta2 r)) (g : bQ ss sw1 sw2 (xNe r ty) ra) :
    cRow kd f t ty (if t (kd ta) = true then (f (ta + 1)).bind fun p => gChn kd f t ty 3002 p.1 (gCs ty ty p.2) else gRow kd f t ty ta) e pl ky ss sw m tf tf1 ta2 sw2 m1 ty 0 := by
  obtain ⟨_, hal, htk, hta⟩ : (1 : Int) = 1 ∧ tf = -2 ∧ t (kd ta) = true ∧ ta1 = ta + 1 := by
    rcases hc with ha | ha
    · exact ha
    · exact absurd ha.1 (by decide)
  rw [if_pos htk, ← hta]
  refine ⟨h.1, fun q0 => ⟨fun q1 => ⟨h0, ?_⟩, fun q1 => ?_⟩⟩
  · cases hF : f ta1 with
    | none => exact absurd q1 ((h.2 q0).2 hF)
    | some p =>
      have a := ((h.2 q0).1 p hF).2
      refine ⟨3002, gCs ty ty p.2, by omega, ?_, vX_t (vX_n a.2 g)⟩
      rw [a.1]
      rfl
  · cases hF : f ta1 with
    | none => rfl
    | some p => exact absurd ((h.2 q0).1 p hF).1 q1
theorem cRow_2 (h0 : 0 ≤ ta2) (hc : aT kd t tf ta ta1 0) (h : cQ (f ta1) tf tf1 (rE e pl ky ss sw sw1 m m1 ta2 typ)) :
    cRow kd f t ty (if t (kd ta) = true then (f (ta + 1)).bind fun p => gChn kd f t ty 3002 p.1 (gCs ty ty p.2) else gRow kd f t ty ta) e pl ky ss sw m tf tf1 ta2 sw1 m1 typ 0 := by
  have hb : (tf = -2 → ¬ t (kd ta) = true) ∧ ta1 = ta := by
    rcases hc with ha | ha
    · exact absurd ha.1 (by decide)
    · exact ha.2
  rw [hb.2] at h
  by_cases q : tf = -2
  · rw [if_neg (hb.1 q)]
    exact cRow_0 h0 h
  · exact ⟨h.1, fun q0 => absurd q0 q⟩
theorem P_rel1 (h : cQ (gSum kd ky lo w ta) tf tf1 (rE e pl ky ss sw sw1 m m1 ta1 r)) (c : tf1 = -2 → ¬ (41 ≤ kd ta1 ∧ kd ta1 ≤ 46)) : cQ (gRel kd ky lo w ta) tf tf1 (rE e pl ky ss sw sw1 m m1 ta1 r) := by
  unfold gRel
  refine cQ_b h (fun h => h) ?_
  rintro ⟨j, p⟩ - q1 ⟨hj, s1⟩
  obtain rfl : ta1 = j := hj
  exact cQ_if c (cQ_e (fun _ => ⟨rfl, s1⟩))
theorem P_rel2 (h : cQ (gSum kd ky lo w ta) tf tf1 (rE e pl ky ss sw sw1 m m1 ta1 r)) (c : tf1 = -2 → 41 ≤ kd ta1 ∧ kd ta1 ≤ 46) (g : bQ ss sw1 sw2 (xNe r 1) ra) (ht : tf1 = -2 → ta2 = ta1 + 1) (hd : tf2 = -2 → tf1 = -2) (h2' : tf1 = -2 → cQ (gSum kd ky lo w ta2) tf1 tf2 (rE e pl ky ss sw2 sw3 m1 m2 ta3 r2)) (g2 : bQ ss sw3 sw4 (xNe r2 1) rb) :
    cQ (gRel kd ky lo w ta) tf tf2 (rE e pl ky ss sw sw4 m m2 ta3 2) := by
  unfold gRel
  refine cQ_b h hd ?_
  rintro ⟨j, p⟩ - q1 ⟨hj, s1⟩
  have h2 := h2' q1
  obtain rfl : ta1 = j := hj
  refine cQ_it c ?_
  show cQ ((gSum kd ky lo w (ta1 + 1)).bind _) _ _ _
  rw [← ht q1]
  refine cQ_b h2 (fun h => h) ?_
  rintro ⟨j2, p2⟩ - q2 ⟨hj, s2⟩
  obtain rfl : ta3 = j2 := hj
  exact cQ_e (fun _ => ⟨rfl, vX_o s1 g s2 g2⟩)
theorem P_den1 (c : tf = -2 → ¬ kd ta = 22) (h : cQ (gRel kd ky lo w ta) tf tf1 (rE e pl ky ss sw sw1 m m1 ta1 r)) : cQ (gDen kd ky lo w ta) tf tf1 (rE e pl ky ss sw sw1 m m1 ta1 r) := cQ_if c h
theorem P_den2 (c : tf = -2 → kC f9 tc ta = 22) (h1 : dQ (kC f9 tc) 22 tf tf1 ta ta1 td.toInt td1)
    (b2 : tf1 = -2 → tf = -2 ∧ td2.toInt = td.toInt + 1) (h2 : cQ (gDen (kC f9 tc) (kK f11) (gLo f9 f11 tc td2) w ta1) tf1 tf2 (rE e pl ky ss sw sw1 m m1 ta2 r2)) (g : bQ ss sw1 sw2 (xNe r2 2) ra) :
    cQ (gDen (kC f9 tc) (kK f11) (gLo f9 f11 tc td) w ta) tf tf2 (rE e pl ky ss sw sw2 m m1 ta2 2) := by
  unfold gDen
  refine cQ_it c ?_
  refine cQ_d h1 h2.1 (fun _ q a => by rw [gLo_z q]; rfl) (fun a0 a1 a2 a3 a4 => ?_)
  rw [gLo_s a2 (b2 a1).2, gBun_2]
  refine cQ_b h2 (fun h => h) ?_
  rintro ⟨j1, p⟩ - q1 ⟨hj, s1⟩
  obtain rfl : ta2 = j1 := hj
  exact cQ_e (fun _ => ⟨rfl, vX_t (vX_n s1 g)⟩)
theorem P_brk (h1 : dQ (kC f9 tc) 34 tf tf1 ta ta1 td.toInt td1)
    (b2 : tf1 = -2 → tf = -2 ∧ td2.toInt = td.toInt + 1) (h2 : cQ (gExp (kC f9 tc) (kK f11) (gLo f9 f11 tc td2) w ta1) tf1 tf2 (rN ty e pl ky ss sw sw1 m m1 ta2 r))
    (h3 : cQ (tkn (kC f9 tc) 35 ta2) tf2 tf3 (fun j => ta3 = j)) :
    cQ (gBrk (kC f9 tc) (gLo f9 f11 tc td) w ta) tf tf3 (rN ty e pl ky ss sw sw1 m m1 ta3 r) := by
  unfold gBrk
  refine cQ_d h1 (fun h => h2.1 (h3.1 h)) (fun _ q a => by rw [gLo_z q]; rfl) (fun a0 a1 a2 a3 a4 => ?_)
  rw [gLo_s a2 (b2 a1).2, gBun_0]
  refine cQ_b h2 h3.1 ?_
  rintro ⟨j1, p⟩ - q1 ⟨hj, s1⟩
  obtain rfl : ta2 = j1 := hj
  refine cQ_b h3 (fun h => h) ?_
  rintro j2 - q2 hj
  subst hj
  exact cQ_e (fun _ => ⟨rfl, s1⟩)
theorem dN_0 {d : gV → Option Int} : dN 0 d e = d e := by
  unfold dN
  cases d e with
  | none => rfl
  | some t => exact if_pos (Or.inr (Or.inl rfl))
theorem P_sub1 (h1 : dQ (kC f9 tc) 36 tf tf1 ta ta1 td.toInt td1)
    (b2 : tf1 = -2 → tf = -2 ∧ td2.toInt = td.toInt + 1) (h2 : cQ (gExp (kC f9 tc) (kK f11) (gLo f9 f11 tc td2) w ta1) tf1 tf2 (rN 1 e pl ky ss sw sw1 m m1 ta2 r))
    (ha : aQ (kC f9 tc) 38 tf2 ta2 ta3 0) (h3 : cQ (tkn (kC f9 tc) 37 ta3) tf2 tf3 (fun j => ta4 = j)) :
    cQ (gSub (kC f9 tc) (gLo f9 f11 tc td) w ta) tf tf3 (rE e pl ky ss sw sw1 m m1 ta4 1) := by
  have hb : (tf2 = -2 → ¬ kC f9 tc ta2 = 38) ∧ ta3 = ta2 := by
    rcases ha with ha | ha
    · exact absurd ha.1 (by decide)
    · exact ha.2
  rw [hb.2] at h3
  unfold gSub
  refine cQ_d h1 (fun h => h2.1 (h3.1 h)) (fun _ q a => by rw [gLo_z q]; rfl) (fun a0 a1 a2 a3 a4 => ?_)
  rw [gLo_s a2 (b2 a1).2, gBun_0]
  refine cQ_b h2 h3.1 ?_
  rintro ⟨j1, p⟩ - q1 ⟨hj, s1⟩
  obtain rfl : ta2 = j1 := hj
  refine cQ_if hb.1 ?_
  refine cQ_b h3 (fun h => h) ?_
  rintro j2 - q2 hj
  subst hj
  exact cQ_e (fun _ => ⟨rfl, vX_v s1⟩)
theorem P_sub2 (h1 : dQ (kC f9 tc) 36 tf tf1 ta ta1 td.toInt td1)
    (b2 : tf1 = -2 → tf = -2 ∧ td2.toInt = td.toInt + 1) (h2 : cQ (gExp (kC f9 tc) (kK f11) (gLo f9 f11 tc td2) w ta1) tf1 tf2 (rN 1 e pl ky ss sw sw1 m m1 ta2 r))
    (ha : aQ (kC f9 tc) 38 tf2 ta2 ta3 1)
    (b3 : tf2 = -2 → tf = -2 ∧ td3.toInt = td.toInt + 1) (h3 : cQ (gExp (kC f9 tc) (kK f11) (gLo f9 f11 tc td3) w ta3) tf2 tf3 (rN 1 e pl ky ss sw1 sw2 m1 m2 ta4 r2))
    (h4 : cQ (tkn (kC f9 tc) 37 ta4) tf3 tf4 (fun j => ta5 = j)) :
    cQ (gSub (kC f9 tc) (gLo f9 f11 tc td) w ta) tf tf4 (rE e pl ky ss sw sw2 m m2 ta5 2) := by
  have hb : tf2 = -2 ∧ kC f9 tc ta2 = 38 ∧ ta3 = ta2 + 1 := by
    rcases ha with ha | ha
    · exact ha.2
    · exact absurd ha.1 (by decide)
  unfold gSub
  refine cQ_d h1 (fun h => h2.1 (h3.1 (h4.1 h))) (fun _ q a => by rw [gLo_z q]; rfl) (fun a0 a1 a2 a3 a4 => ?_)
  rw [gLo_s a2 (b2 a1).2, gBun_0]
  refine cQ_b h2 (fun h => h3.1 (h4.1 h)) ?_
  rintro ⟨j1, p⟩ - q1 ⟨hj, s1⟩
  obtain rfl : ta2 = j1 := hj
  refine cQ_it (fun _ => hb.2.1) ?_
  show cQ ((gExp (kC f9 tc) (kK f11) (gLo f9 f11 tc td2) w (ta2 + 1)).bind _) _ _ _
  rw [← hb.2.2, gLo_e (td := td2) (td' := td3) (by have := (b2 a1).2; have := (b3 q1).2; omega)]
  refine cQ_b h3 h4.1 ?_
  rintro ⟨j2, q⟩ - q2 ⟨hj, s2⟩
  obtain rfl : ta4 = j2 := hj
  refine cQ_b h4 (fun h => h) ?_
  rintro j3 - q3 hj
  subst hj
  refine cQ_e (fun _ => ⟨rfl, ?_⟩)
  have z := vX_v (q := 2) s2
  exact vX_b s1 z.1 z.2.1 (fun _ _ _ => z)
end
