def cBd (kd : Int → Int) (X : Int → gR) (ta0 : Int) (T : gV) (pl ky : Int → Int) (ss sw0 : Int) (m0 : Nat → Int32) (tf0 tf ta i sw : Int) (m : Nat → Int32) : Prop :=
  (tf = -2 → tf0 = -2) ∧ (tf0 = -2 → (tf = -2 → (i = 0 ∧ ta = ta0 ∧ sw = sw0 ∧ m = m0) ∨ (i = 1 ∧ ∃ b, gBnd kd X ta0 = some (ta, b) ∧ bX pl ky ss T T sw0 sw m0 m b) ∨ (i = 2 ∧ ∃ r b swa ma, gBnd kd X ta0 = some r ∧ kd r.1 = 38 ∧ bX pl ky ss T T sw0 swa m0 ma r.2 ∧ gBnd kd X (r.1 + 1) = some (ta, b) ∧ bX pl ky ss T T swa sw ma m b)) ∧
    (¬ tf = -2 → gBnd kd X ta0 = none ∨ ∃ r, gBnd kd X ta0 = some r ∧ kd r.1 = 38 ∧ gBnd kd X (r.1 + 1) = none))
section
variable {pl ky kd : Int → Int} {ss sw0 sw sw1 sw2 sw3 w wo ty ks ks1 bn bn1 fst d i i2 tf0 tf tf1 tf2 tf3 tf4 ta0 ta ta1 ta2 ta3 ta4 ta5 : Int} {T T1 T2 : gV} {m0 m m1 m2 m3 : Nat → Int32} {Y : Int → gR} {X : Int → Int → gR}
theorem cBd_0 : cBd kd Y ta T pl ky ss sw m tf tf ta 0 sw m := ⟨fun q => q, fun q0 => ⟨fun _ => Or.inl ⟨rfl, rfl, rfl, rfl⟩, fun q => absurd q0 q⟩⟩
theorem cBd_1 (h : cBd kd Y ta0 T pl ky ss sw0 m0 tf0 tf ta i sw m) (hi : i = 0) (h1 : cQ (gBnd kd Y ta) tf tf1 (rL pl ky ss T T sw sw1 m m1 ta1)) (hi2 : i2 = i + 1) : cBd kd Y ta0 T pl ky ss sw0 m0 tf0 tf1 ta1 i2 sw1 m1 := by
  refine ⟨fun q => h.1 (h1.1 q), fun q0 => ?_⟩
  by_cases q : tf = -2
  · rcases (h.2 q0).1 q with ⟨_, e1, e2, e3⟩ | ⟨e, _⟩ | ⟨e, _⟩
    · subst e1 e2 e3
      cases hF : gBnd kd Y ta with
      | none => exact ⟨fun q1 => absurd q1 ((h1.2 q).2 hF), fun _ => Or.inl rfl⟩
      | some p =>
        have a := (h1.2 q).1 p hF
        refine ⟨fun _ => Or.inr (Or.inl ⟨by omega, p.2, ?_, a.2.2⟩), fun q1 => absurd a.1 q1⟩
        rw [a.2.1]
    · omega
    · omega
  · exact ⟨fun q1 => absurd (h1.1 q1) q, fun _ => (h.2 q0).2 q⟩
theorem cBd_2 (h : cBd kd Y ta0 T pl ky ss sw0 m0 tf0 tf ta i sw m) (hi : i = 1) (ha : aQ kd 38 tf ta ta2 1) (h1 : cQ (gBnd kd Y ta2) tf tf1 (rL pl ky ss T T sw sw1 m m1 ta1)) (hi2 : i2 = i + 1) : cBd kd Y ta0 T pl ky ss sw0 m0 tf0 tf1 ta1 i2 sw1 m1 := by
  have hc := aQ_t ha
  refine ⟨fun q => h.1 hc.1, fun q0 => ?_⟩
  rcases (h.2 q0).1 hc.1 with ⟨e, _⟩ | ⟨_, b, e1, e2⟩ | ⟨e, _⟩
  · omega
  · cases hF : gBnd kd Y ta2 with
    | none =>
      refine ⟨fun q1 => absurd q1 ((h1.2 hc.1).2 hF), fun _ => Or.inr ⟨(ta, b), e1, hc.2.1, ?_⟩⟩
      show gBnd kd Y (ta + 1) = none
      rw [← hc.2.2]
      exact hF
    | some p =>
      have a := (h1.2 hc.1).1 p hF
      refine ⟨fun _ => Or.inr (Or.inr ⟨by omega, (ta, b), p.2, sw, m, e1, hc.2.1, e2, ?_, a.2.2⟩), fun q1 => absurd a.1 q1⟩
      show gBnd kd Y (ta + 1) = some (ta1, p.2)
      rw [← hc.2.2, hF, a.2.1]
  · omega
theorem seg_n (h2 : (tkn kd 36 ta1) = some ta2) {p : Int × Int × gB × Int} (hN : gSgN kd ky ty w ta ks b0 = some p) (hp : ta1 = p.1) (h : gBnd kd (X wo) ta2 = none ∨ ∃ r, gBnd kd (X wo) ta2 = some r ∧ kd r.1 = 38 ∧ gBnd kd (X wo) (r.1 + 1) = none) : gSeg kd ky X ty wo w ta ks = none := by
  unfold gSeg
  rw [hN]
  show (tkn kd 36 p.1).bind _ = none
  rw [← hp, h2]
  show (gBnd kd (X wo) ta2).bind _ = none
  rcases h with h | ⟨r, h, hr, h3⟩
  · rw [h]; rfl
  · rw [h]
    show (if kd r.1 = 38 then _ else _) = none
    rw [if_pos hr, h3]
    rfl
theorem P_sgx (hN : cQ (gSgN kd ky ty w ta ks b0) tf tf1 (fun p => ta1 = p.1 ∧ rSg pl ky ss T T1 sw sw1 m m1 ks1 bn1 fst p.2)) (h36 : cQ (tkn kd 36 ta1) tf1 tf2 (fun j => ta2 = j)) (hB : cBd kd (X wo) ta2 T1 pl ky ss sw1 m1 tf2 tf3 ta3 i sw2 m2) (hi : (i = 1 ∧ d = 1 ∧ aQ kd 38 tf3 ta3 ta4 0) ∨ (i = 2 ∧ d = 2 ∧ ta4 = ta3)) (h37 : cQ (tkn kd 37 ta4) tf3 tf4 (fun j => ta5 = j))
    (h1 : T1 10 0 = bn1) (h2 : T2 10 0 = bn1) (g1 : fst < 0 → T2 = T1) (g2 : ∀ n, 0 ≤ fst → fst = bn1 - n → 0 ≤ n → T2 = rDim T1 n d) : cQ (gSeg kd ky X ty wo w ta ks) tf tf4 (rV pl ky ss T T2 sw sw2 m m2 ks1 ta5) := by
  have e4 : ta4 = ta3 := by
    rcases hi with h | h
    · exact (aQ_u h.2.2).2
    · exact h.2.2
  rw [e4] at h37
  refine cQ_p (fun q => hN.1 (h36.1 (hB.1 (h37.1 q)))) (fun q0 => ?_)
  cases tN : gSgN kd ky ty w ta ks b0 with
  | none =>
    have : gSeg kd ky X ty wo w ta ks = none := by unfold gSeg; rw [tN]; rfl
    rw [this]
    exact cQ_n (fun q => (hN.2 q0).2 tN (h36.1 (hB.1 (h37.1 q))))
  | some p =>
    obtain ⟨q1, hp, x1, x2, x3, x4⟩ := (hN.2 q0).1 p tN
    cases t36 : tkn kd 36 ta1 with
    | none =>
      have : gSeg kd ky X ty wo w ta ks = none := by unfold gSeg; rw [tN]; show (tkn kd 36 p.1).bind _ = none; rw [← hp, t36]; rfl
      rw [this]
      exact cQ_n (fun q => (h36.2 q1).2 t36 (hB.1 (h37.1 q)))
    | some j =>
      obtain ⟨q2, e2⟩ := (h36.2 q1).1 j t36
      have e2 : ta2 = j := e2
      subst e2
      by_cases q3 : tf3 = -2
      · have hS := (hB.2 q2).1 q3
        have eS : gSeg kd ky X ty wo w ta ks = (gBnd kd (X wo) ta2).bind fun r =>
            if kd r.1 = 38 then (gBnd kd (X wo) (r.1 + 1)).bind fun s => (tkn kd 37 s.1).bind fun j => some (j, p.2.1, bSq (bSq (bSq p.2.2.1 r.2) s.2) (bEv (vDim p.2.2.2 2)))
            else (tkn kd 37 r.1).bind fun j => some (j, p.2.1, bSq (bSq p.2.2.1 r.2) (bEv (vDim p.2.2.2 1))) := by
          unfold gSeg
          rw [tN]
          show (tkn kd 36 p.1).bind _ = _
          rw [← hp, t36]
          rfl
        rcases hi with ⟨hi, hd, ha⟩ | ⟨hi, hd, _⟩
        · rcases hS with ⟨e, _⟩ | ⟨_, b, e1, e2⟩ | ⟨e, _⟩
          · omega
          · rw [eS, e1]
            show cQ (if kd ta3 = 38 then _ else (tkn kd 37 ta3).bind fun j => some (j, p.2.1, bSq (bSq p.2.2.1 b) (bEv (vDim p.2.2.2 1)))) tf tf4 _
            rw [if_neg ((aQ_u ha).1 q3), q0]
            rw [q3] at h37
            refine cQ_b h37 (fun h => h) ?_
            rintro j5 - q5 hj
            subst hj
            subst hd
            exact cQ_e (fun _ => ⟨rfl, x1, bX_q (bX_q x2 e2) (dim_x h1 h2 x3 x4 g1 (g2 p.2.2.2))⟩)
          · omega
        · rcases hS with ⟨e, _⟩ | ⟨e, _⟩ | ⟨_, r, b, swa, ma, e1, e5, e6, e7, e8⟩
          · omega
          · omega
          · rw [eS, e1]
            show cQ (if kd r.1 = 38 then (gBnd kd (X wo) (r.1 + 1)).bind fun s => (tkn kd 37 s.1).bind fun j => some (j, p.2.1, bSq (bSq (bSq p.2.2.1 r.2) s.2) (bEv (vDim p.2.2.2 2))) else _) tf tf4 _
            rw [if_pos e5, e7, q0]
            rw [q3] at h37
            show cQ ((tkn kd 37 ta3).bind fun j => some (j, p.2.1, bSq (bSq (bSq p.2.2.1 r.2) b) (bEv (vDim p.2.2.2 2)))) (-2) tf4 _
            refine cQ_b h37 (fun h => h) ?_
            rintro j5 - q5 hj
            subst hj
            subst hd
            exact cQ_e (fun _ => ⟨rfl, x1, bX_q (bX_q (bX_q x2 e6) e8) (dim_x h1 h2 x3 x4 g1 (g2 p.2.2.2))⟩)
      · rw [seg_n t36 tN hp ((hB.2 q2).2 q3)]
        exact cQ_n (fun q => q3 (h37.1 q))
end
theorem tN_lt {a b : Int} (h : a < b) (h0 : 0 < b) : a.toNat < b.toNat := by omega
theorem se_1 {r : Int} {p : Prop} (h : (r = 1 ∧ p) ∨ (r = 0 ∧ ¬ p)) (hr : ¬ r = 0) : p := by
  rcases h with h | h
  · exact h.2
  · exact absurd h.1 hr
theorem se_0 {r : Int} {p : Prop} (h : (r = 1 ∧ p) ∨ (r = 0 ∧ ¬ p)) (hr : r = 0) : ¬ p := by
  rcases h with h | h
  · have := h.1
    omega
  · exact h.2
theorem sq_1 {r : Int} {p q : Prop} (h : (r = 1 ∧ p) ∨ (r = 0 ∧ q)) (hr : ¬ r = 0) : p := by
  rcases h with h | h
  · exact h.2
  · exact absurd h.1 hr
theorem sq_0 {r : Int} {p q : Prop} (h : (r = 1 ∧ p) ∨ (r = 0 ∧ q)) (hr : r = 0) : q := by
  rcases h with h | h
  · have := h.1
    omega
  · exact h.2
theorem nx_1 {f9 : Nat → Int32} {tc ta tf : Int32} {r k : Int} (h : r = kBn f9 tc ta tf) (e : r = k) (q : tf.toInt = -2) : kC f9 tc (ta.toInt + 1) = k := by
  unfold kBn at h
  rw [if_pos q] at h
  rw [← h, e]
theorem nx_0 {f9 : Nat → Int32} {tc ta tf : Int32} {r k : Int} (h : r = kBn f9 tc ta tf) (e : ¬ r = k) (q : tf.toInt = -2) : ¬ kC f9 tc (ta.toInt + 1) = k := by
  unfold kBn at h
  rw [if_pos q] at h
  rw [← h]
  exact e
theorem i_one {i : Int} (h0 : 0 ≤ i) (h1 : ¬ i = 0) (h2 : i < 2) : i = 1 := by omega
theorem i_two {i : Int} (h0 : i ≤ 2) (h1 : ¬ i < 2) : i = 2 := by omega
