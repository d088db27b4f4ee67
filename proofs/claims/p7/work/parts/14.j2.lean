def tWd (bt : Int → Int) (n p : Int) (tc : Int32) (f9 f10 : Nat → Int32) (f11 : Nat → Int64) (tc' : Int32) (f9' f10' : Nat → Int32) (f11' : Nat → Int64) (r : Int) : Prop := tAd tc f9 f10 f11 tc' f9' f10' f11' (kWd (wKy bt (min 9 (wEn bt n (n - p).toNat p - p)).toNat p 0) (wEn bt n (n - p).toNat p - p)) p (wKy bt (min 9 (wEn bt n (n - p).toNat p - p)).toNat p 0) ∧ r = wEn bt n (n - p).toNat p
def tNu (bt : Int → Int) (n p : Int) (tc : Int32) (f9 f10 : Nat → Int32) (f11 : Nat → Int64) (tc' : Int32) (f9' f10' : Nat → Int32) (f11' : Nat → Int64) (r : Int) : Prop := tAd tc f9 f10 f11 tc' f9' f10' f11' (if vNu bt (dEn bt n (n - p).toNat p - p).toNat p 0 ≤ 34359738367 then 28 else -1) p 0 ∧ r = dEn bt n (n - p).toNat p
def tSg (bt : Int → Int) (n p : Int) (tc : Int32) (f9 f10 : Nat → Int32) (f11 : Nat → Int64) (tc' : Int32) (f9' f10' : Nat → Int32) (f11' : Nat → Int64) (r : Int) : Prop := (p + 1 < n ∧ bt (p + 1) = 61 ∧ ¬ kPr (kSg (bt p)) = -1 → tAd tc f9 f10 f11 tc' f9' f10' f11' (kPr (kSg (bt p))) p 0 ∧ r = p + 2) ∧ (¬ (p + 1 < n ∧ bt (p + 1) = 61 ∧ ¬ kPr (kSg (bt p)) = -1) → tAd tc f9 f10 f11 tc' f9' f10' f11' (kSg (bt p)) p 0 ∧ r = p + 1)
def tSt (bt : Int → Int) (n p : Int) (tc : Int32) (f9 f10 : Nat → Int32) (f11 : Nat → Int64) (tc' : Int32) (f9' f10' : Nat → Int32) (f11' : Nat → Int64) (r : Int) : Prop := (cBl (bt p) → tc' = tc ∧ f9' = f9 ∧ f10' = f10 ∧ f11' = f11 ∧ r = p + 1) ∧ (¬ cBl (bt p) → tAd tc f9 f10 f11 tc' f9' f10' f11' (tNx bt n p).1 p (tNx bt n p).2.1 ∧ r = (tNx bt n p).2.2)
def tV (bt : Int → Int) (n : Int) (f9 f10 : Nat → Int32) (f11 : Nat → Int64) (tc : Int32) (p : Int) : Prop := 0 ≤ tc.toInt ∧ tc.toInt ≤ p ∧ p ≤ n ∧ (∀ k : Nat, (k : Int) < tc.toInt → (gTk bt n n.toNat 0)[k]? = some ((f9 k).toInt, (f10 k).toInt, (f11 k).toInt)) ∧ (gTk bt n n.toNat 0).drop tc.toInt.toNat = gTk bt n (n - p).toNat p
def tW (W : List (Int × Int × Int)) (n : Int) (f9 f10 : Nat → Int32) (f11 : Nat → Int64) (tc : Int32) : Prop := tc.toInt = (W.length : Int) + 1 ∧ (∀ k : Nat, k < W.length → W[k]? = some ((f9 k).toInt, (f10 k).toInt, (f11 k).toInt)) ∧ (f9 W.length).toInt = 0 ∧ (f10 W.length).toInt = n
section
variable {bt : Int → Int} {n p b k v r y : Int} {tc tc' kr pp : Int32} {f9 f10 f9' f10' : Nat → Int32} {f11 f11' : Nat → Int64} {key : Int64}
theorem P_wrd (hi : wIv bt n p b k) (hx : ¬ (b < n ∧ (cLe (bt b) ∨ cDi (bt b)))) (hk : kWd k y = kr.toInt) (hy : y = b - p) (ha : zAk tc f9 f10 f11 kr pp key tc' f9' f10' f11') (ht : tc.toInt < 3001) (ep : pp.toInt = p) (ek : key.toInt = k) : tWd bt n p tc f9 f10 f11 tc' f9' f10' f11' b := by
  have e := wV_x hi hx
  have hk2 := hi.2.1
  unfold tWd
  rw [e, ← hk2]
  refine ⟨zA_t ha ht ?_ ep ek, rfl⟩
  rw [← hk, hy]
theorem P_num {z : Int64} (hi : nIv bt n p b v) (hx : ¬ (b < n ∧ cDi (bt b))) (ha : zAk tc f9 f10 f11 kr pp z tc' f9' f10' f11') (ht : tc.toInt < 3001) (hk : kr.toInt = if v ≤ 34359738367 then 28 else -1) (ep : pp.toInt = p) (ez : z.toInt = 0) : tNu bt n p tc f9 f10 f11 tc' f9' f10' f11' b := by
  have e := nV_x hi hx
  have hk2 := hi.2.1
  unfold tNu
  rw [e, ← hk2]
  exact ⟨zA_t ha ht hk ep ez, rfl⟩
theorem P_si1 {z : Int64} (hk : kSg (bt p) = kr.toInt) (hn : ¬ (p + 1 < n ∧ bt (p + 1) = 61 ∧ ¬ kPr (kSg (bt p)) = -1)) (ha : zAk tc f9 f10 f11 kr pp z tc' f9' f10' f11') (ht : tc.toInt < 3001) (ep : pp.toInt = p) (ez : z.toInt = 0) (hr : r = p + 1) : tSg bt n p tc f9 f10 f11 tc' f9' f10' f11' r :=
  ⟨fun q => absurd q hn, fun _ => ⟨zA_t ha ht hk.symm ep ez, hr⟩⟩
theorem P_si2 {z : Int64} (h : p + 1 < n ∧ bt (p + 1) = 61 ∧ ¬ kPr (kSg (bt p)) = -1) (hk : kPr (kSg (bt p)) = kr.toInt) (ha : zAk tc f9 f10 f11 kr pp z tc' f9' f10' f11') (ht : tc.toInt < 3001) (ep : pp.toInt = p) (ez : z.toInt = 0) (hr : r = p + 2) : tSg bt n p tc f9 f10 f11 tc' f9' f10' f11' r :=
  ⟨fun _ => ⟨zA_t ha ht hk.symm ep ez, hr⟩, fun q => absurd h q⟩
theorem P_fr0 (h : cBl (bt p)) (hr : r = p + 1) : tSt bt n p tc f9 f10 f11 tc f9 f10 f11 r := ⟨fun _ => ⟨rfl, rfl, rfl, rfl, hr⟩, fun q => absurd h q⟩
theorem P_fr1 (hb : ¬ cBl (bt p)) (hl : cLe (bt p)) (h : tWd bt n p tc f9 f10 f11 tc' f9' f10' f11' r) : tSt bt n p tc f9 f10 f11 tc' f9' f10' f11' r := by
  refine ⟨fun q => absurd q hb, fun _ => ?_⟩
  unfold tNx
  rw [if_pos hl]
  exact h
theorem P_fr2 (hb : ¬ cBl (bt p)) (hl : ¬ cLe (bt p)) (hd : cDi (bt p)) (h : tNu bt n p tc f9 f10 f11 tc' f9' f10' f11' r) : tSt bt n p tc f9 f10 f11 tc' f9' f10' f11' r := by
  refine ⟨fun q => absurd q hb, fun _ => ?_⟩
  unfold tNx
  rw [if_neg hl, if_pos hd]
  exact h
theorem P_fr3 (hb : ¬ cBl (bt p)) (hl : ¬ cLe (bt p)) (hd : ¬ cDi (bt p)) (h : tSg bt n p tc f9 f10 f11 tc' f9' f10' f11' r) : tSt bt n p tc f9 f10 f11 tc' f9' f10' f11' r := by
  refine ⟨fun q => absurd q hb, fun _ => ?_⟩
  unfold tNx
  rw [if_neg hl, if_neg hd]
  by_cases c3 : p + 1 < n ∧ bt (p + 1) = 61 ∧ ¬ kPr (kSg (bt p)) = -1
  · rw [if_pos c3]
    exact h.1 c3
  · rw [if_neg c3]
    exact h.2 c3
theorem tS_b (h : tSt bt n p tc f9 f10 f11 tc' f9' f10' f11' r) (hp : p < n) : p < r ∧ r ≤ n := by
  by_cases hb : cBl (bt p)
  · have q := (h.1 hb).2.2.2.2
    omega
  · have q := (h.2 hb).2
    have q2 := tNx_b (bt := bt) hp
    omega
theorem gTk_f1 : ∀ (f : Nat) (q : Int), (n - q).toNat ≤ f → gTk bt n (f + 1) q = gTk bt n f q := by
  intro f
  induction f with
  | zero =>
    intro q hq
    show (if q < n then _ else []) = []
    rw [if_neg (by omega)]
  | succ f ih =>
    intro q hq
    have e1 : gTk bt n (f + 1 + 1) q = if q < n then (if cBl (bt q) then gTk bt n (f + 1) (q + 1) else ((tNx bt n q).1, q, (tNx bt n q).2.1) :: gTk bt n (f + 1) (tNx bt n q).2.2) else [] := rfl
    have e2 : gTk bt n (f + 1) q = if q < n then (if cBl (bt q) then gTk bt n f (q + 1) else ((tNx bt n q).1, q, (tNx bt n q).2.1) :: gTk bt n f (tNx bt n q).2.2) else [] := rfl
    rw [e1, e2]
    by_cases hn : q < n
    · rw [if_pos hn, if_pos hn]
      by_cases hb : cBl (bt q)
      · rw [if_pos hb, if_pos hb, ih _ (by omega)]
      · rw [if_neg hb, if_neg hb]
        have z := tNx_b (bt := bt) hn
        rw [ih _ (by omega)]
    · rw [if_neg hn, if_neg hn]
theorem gTk_f (q : Int) : ∀ (d : Nat), gTk bt n ((n - q).toNat + d) q = gTk bt n (n - q).toNat q := by
  intro d
  induction d with
  | zero => rfl
  | succ d ih => exact (gTk_f1 ((n - q).toNat + d) q (by omega)).trans ih
theorem gTk_b (hp : p < n) (hb : cBl (bt p)) : gTk bt n (n - p).toNat p = gTk bt n (n - (p + 1)).toNat (p + 1) := by
  obtain ⟨m, hm⟩ : ∃ m : Nat, (n - p).toNat = m + 1 := ⟨(n - p).toNat - 1, by omega⟩
  rw [hm, show (n - (p + 1)).toNat = m from by omega]
  exact (if_pos hp).trans (if_pos hb)
theorem gTk_t (hp : p < n) (hb : ¬ cBl (bt p)) : gTk bt n (n - p).toNat p = ((tNx bt n p).1, p, (tNx bt n p).2.1) :: gTk bt n (n - (tNx bt n p).2.2).toNat (tNx bt n p).2.2 := by
  obtain ⟨m, hm⟩ : ∃ m : Nat, (n - p).toNat = m + 1 := ⟨(n - p).toNat - 1, by omega⟩
  have z := tNx_b (bt := bt) hp
  have e := gTk_f (bt := bt) (n := n) (tNx bt n p).2.2 (m - (n - (tNx bt n p).2.2).toNat)
  rw [show (n - (tNx bt n p).2.2).toNat + (m - (n - (tNx bt n p).2.2).toNat) = m from by omega] at e
  rw [hm, ← e]
  exact (if_pos hp).trans (if_neg hb)
theorem tV_0 (hn : 0 ≤ n) (h : tc.toInt = 0) : tV bt n f9 f10 f11 tc 0 := by
  refine ⟨by omega, by omega, hn, fun k hk => by omega, ?_⟩
  rw [h, show (n - 0).toNat = n.toNat from by omega]
  rfl
theorem tV_s (h : tV bt n f9 f10 f11 tc p) (hp : p < n) (hs : tSt bt n p tc f9 f10 f11 tc' f9' f10' f11' r) : tV bt n f9' f10' f11' tc' r := by
  have hb0 := tS_b hs hp
  obtain ⟨h1, h2, h3, h4, h5⟩ := h
  by_cases hb : cBl (bt p)
  · obtain ⟨e1, e2, e3, e4, e5⟩ := hs.1 hb
    subst e1 e2 e3 e4
    refine ⟨h1, by omega, by omega, h4, ?_⟩
    rw [h5, gTk_b hp hb, e5]
  · obtain ⟨⟨a1, a2, a3, a4, a5⟩, e5⟩ := hs.2 hb
    have e0 := h5.trans (gTk_t hp hb)
    have e1 : (gTk bt n n.toNat 0)[tc.toInt.toNat]? = some ((tNx bt n p).1, p, (tNx bt n p).2.1) := by
      have q : ((gTk bt n n.toNat 0).drop tc.toInt.toNat)[0]? = some ((tNx bt n p).1, p, (tNx bt n p).2.1) := by
        rw [e0]
        rfl
      rw [List.getElem?_drop] at q
      exact q
    refine ⟨by omega, by omega, by omega, fun k hk => ?_, ?_⟩
    · by_cases hk2 : (k : Int) < tc.toInt
      · obtain ⟨b1, b2, b3⟩ := a2 k hk2
        rw [b1, b2, b3]
        exact h4 k hk2
      · have hk3 : k = tc.toInt.toNat := by omega
        rw [hk3, e1, a3, a4, a5]
    · rw [show tc'.toInt.toNat = tc.toInt.toNat + 1 from by omega, ← List.drop_drop, e0, e5]
      rfl
theorem tV_x {z : Int64} (h : tV bt n f9 f10 f11 tc p) (hp : n ≤ p) (ha : zAk tc f9 f10 f11 kr pp z tc' f9' f10' f11') (ht : tc.toInt < 3001) (hk : kr.toInt = 0) (ep : pp.toInt = n) (ez : z.toInt = 0) : tW (gTk bt n n.toNat 0) n f9' f10' f11' tc' := by
  obtain ⟨h1, h2, h3, h4, h5⟩ := h
  obtain ⟨a1, a2, a3, a4, a5⟩ := zA_t ha ht hk ep ez
  rw [show (n - p).toNat = 0 from by omega] at h5
  have h6 : (gTk bt n n.toNat 0).length ≤ tc.toInt.toNat := List.drop_eq_nil_iff.mp h5
  have h7 : tc.toInt.toNat ≤ (gTk bt n n.toNat 0).length := by
    apply Nat.le_of_not_lt
    intro q
    have q1 := h4 (gTk bt n n.toNat 0).length (by omega)
    rw [List.getElem?_eq_none (Nat.le_refl _)] at q1
    cases q1
  have h8 : (gTk bt n n.toNat 0).length = tc.toInt.toNat := Nat.le_antisymm h6 h7
  refine ⟨by rw [h8]; omega, fun k hk => ?_, ?_, ?_⟩
  · have hk2 : (k : Int) < tc.toInt := by omega
    obtain ⟨b1, b2, b3⟩ := a2 k hk2
    rw [b1, b2, b3]
    exact h4 k hk2
  · rw [h8]
    exact a3
  · rw [h8]
    exact a4
theorem tW_L {W : List (Int × Int × Int)} (h : tW W n f9 f10 f11 tc) : tL f9 tc := by
  show (f9 (tc.toInt - 1).toNat).toInt = 0
  rw [show (tc.toInt - 1).toNat = W.length from by have q := h.1; omega]
  exact h.2.2.1
end
