section
variable {pl ky kd : Int → Int} {ss sw sw1 sw2 sw3 w i i2 v k r tf tf1 tf2 tf3 tf4 ta ta1 ta2 ta3 ta4 ty kind : Int} {T T1 T2 : gV} {m m1 m2 : Nat → Int32} {b : gB}
theorem P_vl0 (ha : aQ kd 7 tf ta ta1 0) : cQ (gVls kd ky w ta) tf tf (rL pl ky ss T T sw sw m m ta1) := by
  have hb : (tf = -2 → ¬ kd ta = 7) ∧ ta1 = ta := by
    rcases ha with ha | ha
    · exact absurd ha.1 (by decide)
    · exact ha.2
  unfold gVls
  exact cQ_if hb.1 (cQ_e (fun _ => ⟨hb.2, bX_0⟩))
theorem P_vls (ha : aQ kd 7 tf ta ta1 1) (h : cQ (gLst kd (fun i => vVal ky i w) ta1 b0) tf tf1 (fun p => ta2 = p.1 ∧ bX pl ky ss T T1 sw sw1 m m1 p.2)) (h2 : cQ (tkn kd 39 ta2) tf1 tf2 (fun j => ta3 = j)) : cQ (gVls kd ky w ta) tf tf2 (rL pl ky ss T T1 sw sw1 m m1 ta3) := by
  obtain ⟨_, hal, htk, hta⟩ : (1 : Int) = 1 ∧ tf = -2 ∧ kd ta = 7 ∧ ta1 = ta + 1 := by
    rcases ha with ha | ha
    · exact ha
    · exact absurd ha.1 (by decide)
  unfold gVls tkn
  rw [if_pos htk, if_pos htk, ← hta]
  show cQ ((gLst kd (fun i => vVal ky i w) ta1 b0).bind fun p => (tkn kd 39 p.1).bind fun j => some (j, p.2)) tf tf2 _
  refine cQ_b h h2.1 ?_
  rintro ⟨j, b⟩ - _ ⟨hj, h3⟩
  obtain rfl : ta2 = j := hj
  refine cQ_b h2 (fun h => h) ?_
  rintro j - _ hj
  subst hj
  exact cQ_e (fun _ => ⟨rfl, h3⟩)
theorem P_sp1 (ha : aQ kd 10 tf ta ta1 1) (h : cQ (gLst kd (fun i => vSpc ky i 8 0 w) ta1 b0) tf tf1 (rL pl ky ss T T1 sw sw1 m m1 ta2)) : cQ (gSp1 kd ky w ta) tf tf1 (rL pl ky ss T T1 sw sw1 m m1 ta2) := by
  obtain ⟨_, hal, htk, hta⟩ : (1 : Int) = 1 ∧ tf = -2 ∧ kd ta = 10 ∧ ta1 = ta + 1 := by
    rcases ha with ha | ha
    · exact ha
    · exact absurd ha.1 (by decide)
  unfold gSp1 tkn
  rw [if_pos htk, if_pos htk, ← hta]
  exact h
theorem P_sp2 (ha : aQ kd 10 tf ta ta1 0) (h1 : cQ (gTyp kd ta1) tf tf1 (fun p => ta2 = p.1 ∧ r = p.2)) (hb : aQ kd 5 tf1 ta2 ta3 1) (h : cQ (gLst kd (fun i => vSpc ky i 7 r w) ta3 b0) tf1 tf2 (rL pl ky ss T T1 sw sw1 m m1 ta4)) : cQ (gSp1 kd ky w ta) tf tf2 (rL pl ky ss T T1 sw sw1 m m1 ta4) := by
  have hc : (tf = -2 → ¬ kd ta = 10) ∧ ta1 = ta := by
    rcases ha with ha | ha
    · exact absurd ha.1 (by decide)
    · exact ha.2
  obtain ⟨_, hal, htk, hta⟩ : (1 : Int) = 1 ∧ tf1 = -2 ∧ kd ta2 = 5 ∧ ta3 = ta2 + 1 := by
    rcases hb with hb | hb
    · exact hb
    · exact absurd hb.1 (by decide)
  rw [hc.2] at h1
  unfold gSp1
  refine cQ_if hc.1 (cQ_b h1 h.1 ?_)
  rintro ⟨j, t⟩ - _ ⟨hj, hr⟩
  obtain rfl : ta2 = j := hj
  obtain rfl : r = t := hr
  refine cQ_it (fun _ => htk) ?_
  show cQ (gLst kd (fun i => vSpc ky i 7 r w) (ta2 + 1) b0) tf1 tf2 _
  rw [← hta]
  exact h
theorem P_sp3 (ha : aQ kd 10 tf ta ta1 0) (h1 : cQ (gTyp kd ta1) tf tf1 (fun p => ta2 = p.1 ∧ r = p.2)) (hb : aQ kd 5 tf1 ta2 ta3 0) (h : cQ (gLst kd (fun i => vSpc ky i 6 r w) ta3 b0) tf1 tf2 (rL pl ky ss T T1 sw sw1 m m1 ta4)) : cQ (gSp1 kd ky w ta) tf tf2 (rL pl ky ss T T1 sw sw1 m m1 ta4) := by
  have hc : (tf = -2 → ¬ kd ta = 10) ∧ ta1 = ta := by
    rcases ha with ha | ha
    · exact absurd ha.1 (by decide)
    · exact ha.2
  have hd : (tf1 = -2 → ¬ kd ta2 = 5) ∧ ta3 = ta2 := by
    rcases hb with hb | hb
    · exact absurd hb.1 (by decide)
    · exact hb.2
  rw [hc.2] at h1
  rw [hd.2] at h
  unfold gSp1
  refine cQ_if hc.1 (cQ_b h1 h.1 ?_)
  rintro ⟨j, t⟩ - _ ⟨hj, hr⟩
  obtain rfl : ta2 = j := hj
  obtain rfl : r = t := hr
  exact cQ_if hd.1 h
def cSps (kd ky : Int → Int) (w : Int) (F : Option (Int × gB)) (tf0 tf ta i : Int) (R : gB → Prop) : Prop :=
  (tf = -2 → tf0 = -2) ∧ (tf0 = -2 → (tf = -2 → i ≤ ta ∧ ∃ (k : Nat) (x : gB), 3002 ≤ (k : Int) + i ∧ F = gSps kd ky w k ta x ∧ R x) ∧ (¬ tf = -2 → F = none))
variable {F : Option (Int × gB)} {R R' : gB → Prop}
theorem cSps_0 (h0 : 0 ≤ ta) (h : R b0) : cSps kd ky w (gSps kd ky w 3002 ta b0) tf tf ta 0 R := ⟨fun q => q, fun q0 => ⟨fun _ => ⟨h0, 3002, b0, by omega, rfl, h⟩, fun q => absurd q0 q⟩⟩
theorem cSps_s (h : cSps kd ky w F tf tf1 ta1 i R) (hk : tf1 = -2 ∧ (kd ta1 = 3 ∨ kd ta1 = 4 ∨ kd ta1 = 10)) (h1 : cQ (gSp1 kd ky w ta1) tf1 tf2 (rL pl ky ss T T1 sw sw1 m m1 ta2)) (h2 : cQ (tkn kd 39 ta2) tf2 tf3 (fun j => ta3 = j)) (hR : ∀ x y, R x → bX pl ky ss T T1 sw sw1 m m1 y → R' (bSq x y)) (hm : ta1 ≤ ta2) (hi : i ≤ 3000) (hi2 : i2 = i + 1) : cSps kd ky w F tf tf3 ta3 i2 R' := by
  refine ⟨fun q => h.1 hk.1, fun q0 => ?_⟩
  obtain ⟨hit, k, x, hkk, hF, hs⟩ := (h.2 q0).1 hk.1
  obtain ⟨k', rfl⟩ : ∃ k' : Nat, k = k' + 1 := ⟨k - 1, by omega⟩
  have hF2 : F = (gSp1 kd ky w ta1).bind fun p => (tkn kd 39 p.1).bind fun j => gSps kd ky w k' j (bSq x p.2) := by
    rw [hF]
    show (if kd ta1 = 3 ∨ kd ta1 = 4 ∨ kd ta1 = 10 then _ else _) = _
    rw [if_pos hk.2]
  cases hf : gSp1 kd ky w ta1 with
  | none =>
    rw [hf] at hF2
    exact ⟨fun q => absurd (h2.1 q) ((h1.2 hk.1).2 hf), fun _ => hF2⟩
  | some p =>
    have a := (h1.2 hk.1).1 p hf
    rw [hf] at hF2
    have hF3 : F = (tkn kd 39 ta2).bind fun j => gSps kd ky w k' j (bSq x p.2) := by rw [hF2, a.2.1]; rfl
    cases ht : tkn kd 39 ta2 with
    | none =>
      rw [ht] at hF3
      exact ⟨fun q => absurd q ((h2.2 a.1).2 ht), fun _ => hF3⟩
    | some j =>
      have c := (h2.2 a.1).1 j ht
      have d := tkn_j ht
      rw [ht] at hF3
      refine ⟨fun q => ⟨by have := c.2; omega, k', bSq x p.2, by omega, ?_, hR x p.2 hs a.2.2⟩, fun q => absurd c.1 q⟩
      rw [hF3, c.2]
      rfl
theorem cSps_x (h : cSps kd ky w F tf tf1 ta1 i R) (hk : tf1 = -2 → ¬ (kd ta1 = 3 ∨ kd ta1 = 4 ∨ kd ta1 = 10)) (hi : i ≤ 3001) : cQ F tf tf1 (fun p => ta1 = p.1 ∧ R p.2) := by
  refine cQ_p h.1 (fun q0 => ?_)
  by_cases q1 : tf1 = -2
  · obtain ⟨hit, k, x, hkk, hF, hs⟩ := (h.2 q0).1 q1
    obtain ⟨k', rfl⟩ : ∃ k' : Nat, k = k' + 1 := ⟨k - 1, by omega⟩
    have : F = some (ta1, x) := by
      rw [hF]
      show (if kd ta1 = 3 ∨ kd ta1 = 4 ∨ kd ta1 = 10 then _ else _) = _
      rw [if_neg (hk q1)]
    rw [this, q0, q1]
    exact cQ_e (fun _ => ⟨rfl, hs⟩)
  · rw [(h.2 q0).2 q1]
    exact cQ_n q1
theorem cSps_y {G : Int × gB → Prop} (h : cSps kd ky w F tf tf1 ta1 i R) (hi : 3001 ≤ i) (ht : ta1 < 3001) : cQ F tf tf1 G := by
  refine cQ_p h.1 (fun q0 => ?_)
  have hd : ¬ tf1 = -2 := fun q1 => by
    have := ((h.2 q0).1 q1).1
    omega
  rw [(h.2 q0).2 hd]
  exact cQ_n hd
theorem rA_s (h0 : 0 ≤ v) (h3 : 0 ≤ i) (h4 : i < 1501) (h5 : i2 = i + 1) (hs : sw2 = if nK T v = 0 then min sw1 (gG (T 12) (T 10 0) 0 v) else sw1) : rAll T (1501 - i).toNat v sw1 = rAll T (1501 - i2).toNat (nX T v) sw2 := by
  rw [show (1501 - i).toNat = (1501 - i2).toNat + 1 by omega, hs]
  show (if 0 ≤ v then _ else _) = _
  rw [if_pos h0]
theorem rA_n (h : 1501 ≤ i ∨ ¬ 0 ≤ v) : rAll T (1501 - i).toNat v sw1 = sw1 := by
  by_cases hi : 1501 ≤ i
  · rw [show (1501 - i).toNat = 0 by omega]
    rfl
  · obtain ⟨f, hf⟩ : ∃ f : Nat, (1501 - i).toNat = f + 1 := ⟨(1501 - i).toNat - 1, by omega⟩
    rw [hf]
    show (if 0 ≤ v then _ else _) = _
    rw [if_neg (by omega)]
theorem rA_m : ∀ (f : Nat) (k sw : Int), sw ≤ 3001 → rAll T f k sw = min sw (rAll T f k 3001) := by
  intro f
  induction f with
  | zero => intro k sw h; show sw = min sw 3001; omega
  | succ f ih =>
    intro k sw h
    show (if 0 ≤ k then rAll T f (nX T k) (if nK T k = 0 then min sw (gG (T 12) (T 10 0) 0 k) else sw) else sw) = min sw (if 0 ≤ k then rAll T f (nX T k) (if nK T k = 0 then min 3001 (gG (T 12) (T 10 0) 0 k) else 3001) else 3001)
    by_cases hk : 0 ≤ k
    · rw [if_pos hk, if_pos hk]
      by_cases hn : nK T k = 0
      · rw [if_pos hn, if_pos hn, ih _ _ (by omega), ih _ (min 3001 _) (by omega)]
        omega
      · rw [if_neg hn, if_neg hn, ih _ _ h]
    · rw [if_neg hk, if_neg hk]
      omega
theorem al_x (h : sw1 = rAll T 1501 (vF T w) sw) : bX pl ky ss T T sw sw1 m m (bAl w) := by
  refine ⟨fun h0 => ⟨rfl, Int.le_refl _, by show T 10 0 ≤ T 10 0 + 0; omega, fun _ => by rw [h]; rfl⟩, fun h0 hw => ⟨rfl, ?_⟩⟩
  have e := rA_m (T := T) 1501 (vF T w) sw hw
  rw [← h] at e
  refine ⟨by omega, fun q => absurd q h0, fun _ => ⟨fun hx => ?_, fun t ht => ⟨?_, rfl, ?_⟩⟩⟩
  · have hx : (if rAll T 1501 (vF T w) 3001 = 3001 then some 0 else none : Option Int) = none := hx
    by_cases hr : rAll T 1501 (vF T w) 3001 = 3001
    · rw [if_pos hr] at hx; cases hx
    · have e2 := rA_m (T := T) 1501 (vF T w) 3001 (by omega)
      omega
  · have ht : (if rAll T 1501 (vF T w) 3001 = 3001 then some 0 else none : Option Int) = some t := ht
    by_cases hr : rAll T 1501 (vF T w) 3001 = 3001
    · omega
    · rw [if_neg hr] at ht; cases ht
  · have ht : (if rAll T 1501 (vF T w) 3001 = 3001 then some 0 else none : Option Int) = some t := ht
    by_cases hr : rAll T 1501 (vF T w) 3001 = 3001
    · rw [if_pos hr] at ht; cases ht; rfl
    · rw [if_neg hr] at ht; cases ht
end
section
variable {f13 : Nat → Int64} {f14 f15 f16 f17 f18 f19 f20 f21 f22 f23 f24 f25 f26 g16 g f : Nat → Int32} {bn sn d : Int32} {a v v2 n : Int}
def dmI (f g : Nat → Int32) (a v : Int) (d : Int32) : Prop := ∀ k : Nat, g k = if a ≤ (k : Int) ∧ (k : Int) < v then d else f k
theorem dm_0 : dmI f f a a d := fun k => by rw [if_neg (by omega)]
theorem dm_s {x : Int32} (h : dmI f g a x.toInt d) (hz : zCh bn g x d g16) (h0 : 0 ≤ x.toInt) (h1 : x.toInt < bn.toInt) (h2 : a ≤ x.toInt) (h3 : v2 = x.toInt + 1) : dmI f g16 a v2 d := by
  rcases hz with ⟨q, _⟩ | ⟨k, h4, h5, h6⟩
  · exact absurd ⟨h0, h1⟩ q
  · intro j
    rw [h6]
    unfold upd
    by_cases hj : j = k
    · rw [if_pos hj, if_pos (by omega)]
    · rw [if_neg hj, h j]
      by_cases hc : a ≤ (j : Int) ∧ (j : Int) < x.toInt
      · rw [if_pos hc, if_pos (by omega)]
      · rw [if_neg hc, if_neg (by omega)]
def dmR (f g : Nat → Int32) (a v : Int) (d : Int32) : Prop := (a < 0 → g = f) ∧ (0 ≤ a → a ≤ v → dmI f g a v d)
theorem dim_e (h : dmR f16 g16 a bn.toInt d) (h0 : 0 ≤ a) (ha : a = bn.toInt - n) (hn : 0 ≤ n) : eT f13 f14 f15 g16 f17 f18 f19 f20 f21 f22 f23 f24 f25 f26 bn sn = rDim (eT f13 f14 f15 f16 f17 f18 f19 f20 f21 f22 f23 f24 f25 f26 bn sn) n d.toInt := by
  have hi := h.2 h0 (by omega)
  funext c k
  unfold rDim
  by_cases hc : c = 3
  · subst hc
    show (g16 k).toInt = if 3 = 3 ∧ bn.toInt - n ≤ (k : Int) ∧ (k : Int) < bn.toInt then d.toInt else (f16 k).toInt
    rw [hi k]
    by_cases hk : a ≤ (k : Int) ∧ (k : Int) < bn.toInt
    · rw [if_pos hk]
      exact (if_pos ⟨rfl, by omega⟩).symm
    · rw [if_neg hk]
      exact (if_neg (by omega)).symm
  · rw [if_neg (fun q => hc q.1)]
    unfold eT
    split <;> first | rfl | exact absurd rfl hc
end
section
variable {f9 : Nat → Int32} {tc ta tf : Int32}
theorem lb_1 (h : kA f9 tc ta tf = 27) (g : kBn f9 tc ta tf = 40) : tf.toInt = -2 ∧ (kC f9 tc ta.toInt = 27 ∧ kC f9 tc (ta.toInt + 1) = 40) := by
  have a := kA_a h (by decide)
  unfold kBn at g
  rw [if_pos a.1] at g
  exact ⟨a.1, a.2, g⟩
theorem lb_0 (h : ¬ kA f9 tc ta tf = 27 ∨ ¬ kBn f9 tc ta tf = 40) (q : tf.toInt = -2) : ¬ (kC f9 tc ta.toInt = 27 ∧ kC f9 tc (ta.toInt + 1) = 40) := by
  intro z
  unfold kA kBn at h
  rw [if_pos q, if_pos q] at h
  omega
end
section
variable {f9 : Nat → Int32} {tc ta tf : Int32} {r r2 : Int}
theorem st_t (h : (r = 1 ∧ (kA f9 tc ta tf = 3 ∨ kA f9 tc ta tf = 4)) ∨ (r = 0 ∧ ¬ (kA f9 tc ta tf = 3 ∨ kA f9 tc ta tf = 4))) (hr : ¬ r = 0) : tf.toInt = -2 ∧ (kC f9 tc ta.toInt = 3 ∨ kC f9 tc ta.toInt = 4 ∨ kC f9 tc ta.toInt = 10) := by
  rcases h with h | h
  · rcases h.2 with q | q
    · have a := kA_a q (by decide); exact ⟨a.1, Or.inl a.2⟩
    · have a := kA_a q (by decide); exact ⟨a.1, Or.inr (Or.inl a.2)⟩
  · exact absurd h.1 hr
theorem st_l (h : (r = 1 ∧ (kA f9 tc ta tf = 10)) ∨ (r = 0 ∧ ¬ (kA f9 tc ta tf = 10))) (hr : ¬ r = 0) : tf.toInt = -2 ∧ (kC f9 tc ta.toInt = 3 ∨ kC f9 tc ta.toInt = 4 ∨ kC f9 tc ta.toInt = 10) := by
  rcases h with h | h
  · have a := kA_a h.2 (by decide); exact ⟨a.1, Or.inr (Or.inr a.2)⟩
  · exact absurd h.1 hr
theorem st_n (h : (r = 1 ∧ (kA f9 tc ta tf = 3 ∨ kA f9 tc ta tf = 4)) ∨ (r = 0 ∧ ¬ (kA f9 tc ta tf = 3 ∨ kA f9 tc ta tf = 4))) (hr : r = 0) (h2 : (r2 = 1 ∧ (kA f9 tc ta tf = 10)) ∨ (r2 = 0 ∧ ¬ (kA f9 tc ta tf = 10))) (hr2 : r2 = 0) (q : tf.toInt = -2) : ¬ (kC f9 tc ta.toInt = 3 ∨ kC f9 tc ta.toInt = 4 ∨ kC f9 tc ta.toInt = 10) := by
  rw [← kA_e q]
  omega
end
