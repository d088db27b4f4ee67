def tL (f9 : Nat → Int32) (tc : Int32) : Prop := (f9 (tc.toInt - 1).toNat).toInt = 0
section
variable {f9 f10 f13 : Nat → Int32} {f11 : Nat → Int64} {tc ta ta1 ta2 tf tf1 tf2 td td1 x y : Int32} {k k2 r r1 r2 : Int} {kd : Int → Int} {t : Int → Bool}
theorem kA_in (h : tf.toInt = -2) (h0 : 0 ≤ ta.toInt) (h1 : ta.toInt < tc.toInt) : (f9 (Int32.toNatClampNeg ta)).toInt = kA f9 tc ta tf := by
  unfold kA kC
  rw [if_pos h, if_pos ⟨h0, h1⟩]
  rfl
theorem kA_out (h : ¬ tf.toInt = -2) : (-2 : Int) = kA f9 tc ta tf := (if_neg h).symm
theorem kB_in (h : tf.toInt = -2) (h0 : 0 ≤ x.toInt) (h1 : x.toInt < tc.toInt) (h2 : x.toInt = ta.toInt + 1) : (f9 (Int32.toNatClampNeg x)).toInt = kBn f9 tc ta tf := by
  unfold kBn kC
  rw [if_pos h, ← h2, if_pos ⟨h0, h1⟩]
  rfl
theorem kB_out (h : ¬ tf.toInt = -2 ∨ ¬ ta.toInt + 1 < tc.toInt) : (-2 : Int) = kBn f9 tc ta tf := by
  unfold kBn
  by_cases q : tf.toInt = -2
  · rw [if_pos q]
    unfold kC
    rw [if_neg (by omega)]
  · rw [if_neg q]
theorem kA_k (h : kA f9 tc ta tf = k) (h9 : tf.toInt = -2) : kC f9 tc ta.toInt = k := by
  unfold kA at h
  rw [if_pos h9] at h
  exact h
theorem kA_n (h : ¬ kA f9 tc ta tf = k) (h9 : tf.toInt = -2) : ¬ kC f9 tc ta.toInt = k := fun q => h (by unfold kA; rw [if_pos h9]; exact q)
theorem kA_a (h : kA f9 tc ta tf = k) (h0 : 0 < k) : tf.toInt = -2 ∧ kC f9 tc ta.toInt = k := by
  by_cases q : tf.toInt = -2
  · exact ⟨q, kA_k h q⟩
  · exfalso
    have := kA_out (f9 := f9) (tc := tc) (ta := ta) q
    omega
theorem kA_e (h9 : tf.toInt = -2) : kA f9 tc ta tf = kC f9 tc ta.toInt := if_pos h9
theorem kC_l (h8 : tL f9 tc) (h : kC f9 tc ta.toInt = k) (h0 : 0 < k) : ta.toInt < tc.toInt - 1 := by
  unfold kC at h
  by_cases q : 0 ≤ ta.toInt ∧ ta.toInt < tc.toInt
  · rw [if_pos q] at h
    by_cases z : ta.toInt = tc.toInt - 1
    · exfalso
      unfold tL at h8
      rw [z] at h
      omega
    · omega
  · rw [if_neg q] at h
    omega
theorem aQ_1 {a b c : Int} (h : aQ kd k a b c r) (hr : ¬ r = 0) : aQ kd k a b c 1 := by
  rcases h with h | h
  · exact Or.inl ⟨rfl, h.2⟩
  · exact absurd h.1 hr
theorem aQ_0 {a b c : Int} (h : aQ kd k a b c r) (hr : r = 0) : aQ kd k a b c 0 := by
  rcases h with h | h
  · exact absurd (h.1.symm.trans hr) (by decide)
  · exact Or.inr ⟨rfl, h.2⟩
theorem aQ_i (h8 : tL f9 tc) (hk : kA f9 tc ta tf = k) (h0 : 0 < k) (ha : ta.toInt < tc.toInt - 1 → ta1.toInt = ta.toInt + 1) : aQ (kC f9 tc) k tf.toInt ta.toInt ta1.toInt 1 := by
  have a := kA_a hk h0
  exact Or.inl ⟨rfl, a.1, a.2, ha (kC_l h8 a.2 h0)⟩
theorem aQ_o (hk : ¬ kA f9 tc ta tf = k) : aQ (kC f9 tc) k tf.toInt ta.toInt ta.toInt 0 := Or.inr ⟨rfl, kA_n hk, rfl⟩
theorem tk_i (h8 : tL f9 tc) (hk : kA f9 tc ta tf = k) (h0 : 0 < k) (ha : ta.toInt < tc.toInt - 1 → ta1.toInt = ta.toInt + 1) : cQ (tkn (kC f9 tc) k ta.toInt) tf.toInt tf.toInt (fun j => ta1.toInt = j) := by
  have a := kA_a hk h0
  unfold tkn
  rw [if_pos a.2]
  exact cQ_e (fun _ => ha (kC_l h8 a.2 h0))
theorem tk_o {R : Int → Prop} (hk : ¬ kA f9 tc ta tf = k) (h : ¬ tf1.toInt = -2) : cQ (tkn (kC f9 tc) k ta.toInt) tf.toInt tf1.toInt R := by
  refine cQ_p (fun q => absurd q h) (fun h0 => ?_)
  unfold tkn
  rw [if_neg (kA_n hk h0)]
  exact cQ_n h
theorem dp_o {d a b c : Int} (h1 : ¬ d < 20) (h2 : ¬ tf1.toInt = -2) (h : cQ (tkn kd k a) tf1.toInt tf2.toInt (fun j => b = j)) : dQ kd k tf.toInt tf2.toInt a b d c := by
  unfold dQ
  rw [if_neg h1]
  exact cQ_n (fun q => h2 (h.1 q))
theorem dp_i {d a b c : Int} (h1 : d < 20) (h : cQ (tkn kd k a) tf.toInt tf2.toInt (fun j => b = j)) (hc : tf2.toInt = -2 → c = d + 1) : dQ kd k tf.toInt tf2.toInt a b d c := by
  unfold dQ
  rw [if_pos h1]
  exact cQ_w h (fun j _ q1 hj => ⟨hj, hc q1⟩)
theorem aT_1 {a b c : Int} (ht : ∀ x, t x = true ↔ x = k) (h : aQ kd k a b c r) (hr : ¬ r = 0) : aT kd t a b c 1 := by
  rcases h with h | h
  · exact Or.inl ⟨rfl, h.2.1, (ht _).mpr h.2.2.1, h.2.2.2⟩
  · exact absurd h.1 hr
theorem aT_0 {a b c : Int} (ht : ∀ x, t x = true ↔ x = k) (h : aQ kd k a b c r) (hr : r = 0) : aT kd t a b c 0 := by
  rcases h with h | h
  · exact absurd (h.1.symm.trans hr) (by decide)
  · exact Or.inr ⟨rfl, fun q z => h.2.1 q ((ht _).mp z), h.2.2⟩
theorem aT_v1 {a b c : Int} (h : aT kd t a b c r) (hr : ¬ r = 0) : aT kd t a b c 1 := by
  rcases h with h | h
  · exact Or.inl ⟨rfl, h.2⟩
  · exact absurd h.1 hr
theorem aT_v0 {a b c : Int} (h : aT kd t a b c r) (hr : r = 0) : aT kd t a b c 0 := by
  rcases h with h | h
  · exact absurd (h.1.symm.trans hr) (by decide)
  · exact Or.inr ⟨rfl, h.2⟩
theorem aT_p1 {a b c : Int} (ht : ∀ x, t x = true ↔ (x = k ∨ x = k2)) (h : aQ kd k a b c r) (hr : ¬ r = 0) : aT kd t a b c 1 := by
  rcases h with h | h
  · exact Or.inl ⟨rfl, h.2.1, (ht _).mpr (Or.inl h.2.2.1), h.2.2.2⟩
  · exact absurd h.1 hr
theorem aT_p2 {a b c d : Int} (ht : ∀ x, t x = true ↔ (x = k ∨ x = k2)) (h : aQ kd k a b c r) (hr : r = 0) (g : aQ kd k2 a c d r2) (hg : ¬ r2 = 0) : aT kd t a b d 1 := by
  rcases h with h | h
  · exact absurd (h.1.symm.trans hr) (by decide)
  · rw [h.2.2] at g
    rcases g with g | g
    · exact Or.inl ⟨rfl, g.2.1, (ht _).mpr (Or.inr g.2.2.1), g.2.2.2⟩
    · exact absurd g.1 hg
theorem aT_p0 {a b c d : Int} (ht : ∀ x, t x = true ↔ (x = k ∨ x = k2)) (h : aQ kd k a b c r) (hr : r = 0) (g : aQ kd k2 a c d r2) (hg : r2 = 0) : aT kd t a b d 0 := by
  rcases h with h | h
  · exact absurd (h.1.symm.trans hr) (by decide)
  · rw [h.2.2] at g
    rcases g with g | g
    · exact absurd (g.1.symm.trans hg) (by decide)
    · refine Or.inr ⟨rfl, fun q z => ?_, g.2.2⟩
      rcases (ht _).mp z with z | z
      · exact h.2.1 q z
      · exact g.2.1 q z
theorem tPow_e : ∀ x, tPow x = true ↔ x = 33 := fun x => decide_eq_true_iff
theorem tAnd_e : ∀ x, tAnd x = true ↔ x = 23 := fun x => decide_eq_true_iff
theorem tOr_e : ∀ x, tOr x = true ↔ x = 24 := fun x => decide_eq_true_iff
theorem tTrm_e : ∀ x, tTrm x = true ↔ (x = 32 ∨ x = 25) := fun x => decide_eq_true_iff
theorem tSum_e : ∀ x, tSum x = true ↔ (x = 30 ∨ x = 31) := fun x => decide_eq_true_iff
theorem alo_1 (h : kA f9 tc ta tf = 27) (g : kBn f9 tc ta tf = 38 ∨ kBn f9 tc ta tf = 35) : tf.toInt = -2 ∧ gAlo (kC f9 tc) ta.toInt = true := by
  have a := kA_a h (by decide)
  unfold kBn at g
  rw [if_pos a.1] at g
  exact ⟨a.1, decide_eq_true ⟨a.2, g⟩⟩
theorem alo_0 (h : ¬ kA f9 tc ta tf = 27 ∨ (¬ kBn f9 tc ta tf = 38 ∧ ¬ kBn f9 tc ta tf = 35)) (q : tf.toInt = -2) : ¬ gAlo (kC f9 tc) ta.toInt = true := by
  intro z
  have z := of_decide_eq_true z
  unfold kA kBn at h
  rw [if_pos q, if_pos q] at h
  omega
theorem gG_in {f : Nat → Int32} {n : Int} {d : Int} (h0 : 0 ≤ x.toInt) (h1 : x.toInt < n) : (f (Int32.toNatClampNeg x)).toInt = gG (rI f) n d x.toInt := by
  unfold gG
  rw [if_pos ⟨h0, h1⟩]
  rfl
theorem gG_out {f : Nat → Int} {n d i : Int} (h : ¬ (0 ≤ i ∧ i < n)) : d = gG f n d i := (if_neg h).symm
theorem tF_s {ks nx : Nat → Int} {n key i i2 v : Int} (h0 : 0 ≤ v) (h1 : v < n) (h2 : ¬ ks v.toNat = key) (h3 : 0 ≤ i) (h4 : i < 1501) (h5 : i2 = i + 1) : tFind ks nx n key (1501 - i).toNat v = tFind ks nx n key (1501 - i2).toNat (nx v.toNat) := by
  rw [show (1501 - i).toNat = (1501 - i2).toNat + 1 by omega]
  show (if 0 ≤ v ∧ v < n then _ else _) = _
  rw [if_pos ⟨h0, h1⟩, if_neg h2]
theorem tF_f {ks nx : Nat → Int} {n key i v : Int} (h0 : 0 ≤ v) (h1 : v < n) (h2 : ks v.toNat = key) (h3 : 0 ≤ i) (h4 : i < 1501) : tFind ks nx n key (1501 - i).toNat v = v := by
  obtain ⟨f, hf⟩ : ∃ f : Nat, (1501 - i).toNat = f + 1 := ⟨(1501 - i).toNat - 1, by omega⟩
  rw [hf]
  show (if 0 ≤ v ∧ v < n then _ else _) = _
  rw [if_pos ⟨h0, h1⟩, if_pos h2]
theorem tF_n {ks nx : Nat → Int} {n key i v : Int} (h : 1501 ≤ i ∨ ¬ (0 ≤ v ∧ v < n)) : tFind ks nx n key (1501 - i).toNat v = -1 := by
  by_cases hi : 1501 ≤ i
  · rw [show (1501 - i).toNat = 0 by omega]
    rfl
  · obtain ⟨f, hf⟩ : ∃ f : Nat, (1501 - i).toNat = f + 1 := ⟨(1501 - i).toNat - 1, by omega⟩
    rw [hf]
    show (if 0 ≤ v ∧ v < n then _ else _) = _
    rw [if_neg (by omega)]
section
variable {ks nx fs ps : Nat → Int} {n sn key i i2 v q : Int}
theorem vF_s (h0 : 0 ≤ v) (h1 : v < sn) (h2 : q = tFind ks nx n key 1501 (fs v.toNat)) (hq : q < 0) (h3 : 0 ≤ i) (h4 : i < 333) (h5 : i2 = i + 1) : sFind ks nx n fs ps sn key (333 - i).toNat v = sFind ks nx n fs ps sn key (333 - i2).toNat (ps v.toNat) := by
  rw [show (333 - i).toNat = (333 - i2).toNat + 1 by omega]
  show (if 0 ≤ v ∧ v < sn then _ else _) = _
  rw [if_pos ⟨h0, h1⟩, ← h2, if_neg (by omega)]
theorem vF_f (h0 : 0 ≤ v) (h1 : v < sn) (h2 : q = tFind ks nx n key 1501 (fs v.toNat)) (hq : 0 ≤ q) (h3 : 0 ≤ i) (h4 : i < 333) : sFind ks nx n fs ps sn key (333 - i).toNat v = q := by
  obtain ⟨f, hf⟩ : ∃ f : Nat, (333 - i).toNat = f + 1 := ⟨(333 - i).toNat - 1, by omega⟩
  rw [hf]
  show (if 0 ≤ v ∧ v < sn then _ else _) = _
  rw [if_pos ⟨h0, h1⟩, ← h2, if_pos hq]
theorem vF_n (h : 333 ≤ i ∨ ¬ (0 ≤ v ∧ v < sn)) : sFind ks nx n fs ps sn key (333 - i).toNat v = -1 := by
  by_cases hi : 333 ≤ i
  · rw [show (333 - i).toNat = 0 by omega]
    rfl
  · obtain ⟨f, hf⟩ : ∃ f : Nat, (333 - i).toNat = f + 1 := ⟨(333 - i).toNat - 1, by omega⟩
    rw [hf]
    show (if 0 ≤ v ∧ v < sn then _ else _) = _
    rw [if_neg (by omega)]
end
theorem lc_e {x y : Int64} (h : lg_cmp x y = 0) : x.toInt = y.toInt := congrArg Int64.toInt ((lg_cmp_eq x y).mp h)
theorem lc_n {x y : Int64} (h : ¬ lg_cmp x y = 0) : ¬ x.toInt = y.toInt := fun q => h ((lg_cmp_eq x y).mpr (Int64.toInt_inj.mp q))
end
section
variable {f13 : Nat → Int64} {f14 f15 f16 f17 f18 f19 f20 f21 f22 f23 f24 f25 f26 : Nat → Int32} {bn sn : Int32}
theorem eT_0 : eT f13 f14 f15 f16 f17 f18 f19 f20 f21 f22 f23 f24 f25 f26 bn sn 0 = rJ f13 := rfl
theorem eT_1 : eT f13 f14 f15 f16 f17 f18 f19 f20 f21 f22 f23 f24 f25 f26 bn sn 1 = rI f14 := rfl
theorem eT_2 : eT f13 f14 f15 f16 f17 f18 f19 f20 f21 f22 f23 f24 f25 f26 bn sn 2 = rI f15 := rfl
theorem eT_3 : eT f13 f14 f15 f16 f17 f18 f19 f20 f21 f22 f23 f24 f25 f26 bn sn 3 = rI f16 := rfl
theorem eT_5 : eT f13 f14 f15 f16 f17 f18 f19 f20 f21 f22 f23 f24 f25 f26 bn sn 5 = rI f19 := rfl
theorem eT_6 : eT f13 f14 f15 f16 f17 f18 f19 f20 f21 f22 f23 f24 f25 f26 bn sn 6 = rI f20 := rfl
theorem eT_8 : eT f13 f14 f15 f16 f17 f18 f19 f20 f21 f22 f23 f24 f25 f26 bn sn 8 = rI f24 := rfl
theorem eT_10 {k : Nat} : eT f13 f14 f15 f16 f17 f18 f19 f20 f21 f22 f23 f24 f25 f26 bn sn 10 k = bn.toInt := rfl
theorem eT_11 {k : Nat} : eT f13 f14 f15 f16 f17 f18 f19 f20 f21 f22 f23 f24 f25 f26 bn sn 11 k = sn.toInt := rfl
end
section
variable {e : gV} {pl ky : Int → Int} {w ss sw sw1 r p ta : Int} {m : Nat → Int32} {X : Option Int}
theorem bQ_N (hX : X = none) (h1 : sw1 ≤ sw) (h2 : ¬ ss = 0 → sw1 ≤ p) (h3 : p ≤ 3000) (h4 : ss = 0 → sw1 = sw) : bQ ss sw sw1 X r := by
  rw [hX]
  exact ⟨h1, h4, fun h => ⟨fun _ => by have := h2 h; omega, fun t ht => absurd ht (by simp)⟩⟩
theorem bQ_S (hX : X = some r) (h : sw1 = sw) : bQ ss sw sw1 X r := by
  rw [hX, h]
  exact bQ_s
theorem us_0 (h0 : ss = 0) : vX e pl ky ss sw sw m m [(ta, w)] X r := ⟨Int.le_refl _, fun _ => ⟨rfl, rfl⟩, fun h => absurd h0 h⟩
theorem us_1 (h : r = gMe e w (ky ta)) (hr : r < 0) (h1 : sw1 ≤ sw) (h2 : sw1 ≤ 3000) (h3 : ¬ ss = 0) : vX e pl ky ss sw sw1 m m [(ta, w)] (xU e w (ky ta)) r := by
  refine ⟨h1, fun h => absurd h h3, fun _ => ⟨fun _ => h2, fun t ht => ?_⟩⟩
  unfold xU at ht
  rw [if_pos (by omega)] at ht
  cases ht
theorem us_2 {x z : Int32} (h : x.toInt = gMe e w (ky ta)) (hr : 0 ≤ x.toInt) (h3 : ¬ ss = 0) (hz : z.toInt = pl ta) (hp : pl ta < 3000) : vX e pl ky ss sw sw m (upd m (Int32.toNatClampNeg z) x) [(ta, w)] (xU e w (ky ta)) x.toInt := by
  refine ⟨Int.le_refl _, fun h => absurd h h3, fun _ => ⟨fun hx => ?_, fun t ht => ⟨rfl, ?_, ?_⟩⟩⟩
  · unfold xU at hx
    rw [if_neg (by omega)] at hx
    cases hx
  · show upd m (Int32.toNatClampNeg z) x = (if pl ta < 3000 then upd m (pl ta).toNat (Int32.ofInt (gMe e w (ky ta))) else m)
    rw [if_pos hp, ← h, ← hz, Int32.ofInt_toInt]
    rfl
  · unfold xU at ht
    rw [if_neg (by omega)] at ht
    cases ht
    exact h
theorem us_3 {x : Int32} (h : x.toInt = gMe e w (ky ta)) (hr : 0 ≤ x.toInt) (h3 : ¬ ss = 0) (hp : ¬ pl ta < 3000) : vX e pl ky ss sw sw m m [(ta, w)] (xU e w (ky ta)) x.toInt := by
  refine ⟨Int.le_refl _, fun h => absurd h h3, fun _ => ⟨fun hx => ?_, fun t ht => ⟨rfl, ?_, ?_⟩⟩⟩
  · unfold xU at hx
    rw [if_neg (by omega)] at hx
    cases hx
  · show m = (if pl ta < 3000 then upd m (pl ta).toNat (Int32.ofInt (gMe e w (ky ta))) else m)
    rw [if_neg hp]
  · unfold xU at ht
    rw [if_neg (by omega)] at ht
    cases ht
    exact h
end
section
variable {ss sw sw1 r q : Int} {X Y : Option Int}
theorem bQ_c (h : bQ ss sw sw1 X r) (e : X = Y) : bQ ss sw sw1 Y r := by rw [← e]; exact h
theorem bQ_v (h : bQ ss sw sw1 X r) (e : Y = X.bind fun _ => some q) : bQ ss sw sw1 Y q := by
  rw [e]
  refine ⟨h.1, h.2.1, fun h0 => ?_⟩
  have a := h.2.2 h0
  cases hX : X with
  | none => exact ⟨fun _ => a.1 hX, fun t ht => absurd ht (by simp)⟩
  | some t => exact ⟨fun hx => absurd hx (by simp), fun t2 ht2 => ⟨(a.2 t hX).1, by cases ht2; rfl⟩⟩
theorem zplb {f : Nat → Int32} {k : Nat} {x : Int32} (h : ∀ j : Nat, 0 ≤ (f j).toInt ∧ (f j).toInt ≤ 3000) (hx : 0 ≤ x.toInt ∧ x.toInt ≤ 3000) : ∀ j : Nat, 0 ≤ (upd f k x j).toInt ∧ (upd f k x j).toInt ≤ 3000 := by
  intro j
  unfold upd
  split
  · exact hx
  · exact h j
end
theorem zminb {x y v : Int32} (e : v = (if y < x then y else x)) : v.toInt ≤ x.toInt ∧ v.toInt ≤ y.toInt ∧ (v.toInt = x.toInt ∨ v.toInt = y.toInt) := by
  by_cases h : y < x
  · rw [if_pos h] at e
    have h1 := Int32.lt_iff_toInt_lt.mp h
    subst e
    omega
  · rw [if_neg h] at e
    have h1 : ¬ y.toInt < x.toInt := fun q => h (Int32.lt_iff_toInt_lt.mpr q)
    subst e
    omega
