section
variable {bt : Int → Int} {n p b k q : Int}
theorem wV_end : ∀ (m : Nat) (b k : Int), (n - b).toNat = m → p ≤ b → wIv bt n p b k → ∃ k', wIv bt n p (wEn bt n m b) k' ∧ ¬ (wEn bt n m b < n ∧ (cLe (bt (wEn bt n m b)) ∨ cDi (bt (wEn bt n m b)))) := by
  intro m
  induction m with
  | zero => intro b k hm hp h; exact ⟨k, h, fun z => by have z1 : b < n := z.1; omega⟩
  | succ m ih =>
    intro b k hm hp h
    have e : wEn bt n (m + 1) b = if b < n ∧ (cLe (bt b) ∨ cDi (bt b)) then wEn bt n m (b + 1) else b := rfl
    rw [e]
    by_cases c : b < n ∧ (cLe (bt b) ∨ cDi (bt b))
    · rw [if_pos c]
      by_cases h9 : b - p < 9
      · exact ih (b + 1) (k * 37 + cCd (bt b)) (by omega) (by omega) (wV_s h c.1 hp c.2 h9 rfl rfl)
      · exact ih (b + 1) k (by omega) (by omega) (wV_t h c.1 hp c.2 h9 rfl)
    · rw [if_neg c]
      exact ⟨k, h, c⟩
theorem kSg_b (c : Int) : kSg c = -1 ∨ 30 ≤ kSg c := by
  have h : ∀ (L : List Int) (k : Int), 30 ≤ k → sIx c L k = -1 ∨ 30 ≤ sIx c L k := by
    intro L
    induction L with
    | nil => intro k _; exact Or.inl rfl
    | cons t ts ih =>
      intro k hk
      have e : sIx c (t :: ts) k = if t = c then k else sIx c ts (k + 1) := rfl
      rw [e]
      by_cases h : t = c
      · rw [if_pos h]
        exact Or.inr hk
      · rw [if_neg h]
        exact ih (k + 1) (by omega)
  exact h sTb 30 (by decide)
theorem kPr_b (c : Int) : kPr c = -1 ∨ 30 ≤ kPr c := by
  unfold kPr
  by_cases h1 : c = 40
  · rw [if_pos h1]; exact Or.inr (by decide)
  · rw [if_neg h1]
    by_cases h2 : c = 41
    · rw [if_pos h2]; exact Or.inr (by decide)
    · rw [if_neg h2]
      by_cases h3 : c = 43
      · rw [if_pos h3]; exact Or.inr (by decide)
      · rw [if_neg h3]; exact Or.inl rfl
theorem tNx_w (h : 1 ≤ (tNx bt n q).1 ∧ (tNx bt n q).1 ≤ 28) : cLe (bt q) ∨ cDi (bt q) := by
  by_cases c1 : cLe (bt q)
  · exact Or.inl c1
  · by_cases c2 : cDi (bt q)
    · exact Or.inr c2
    · exfalso
      unfold tNx at h
      rw [if_neg c1, if_neg c2] at h
      by_cases c3 : q + 1 < n ∧ bt (q + 1) = 61 ∧ ¬ kPr (kSg (bt q)) = -1
      · rw [if_pos c3] at h
        have z := kPr_b (kSg (bt q))
        have h1 : 1 ≤ kPr (kSg (bt q)) := h.1
        have h2 : kPr (kSg (bt q)) ≤ 28 := h.2
        omega
      · rw [if_neg c3] at h
        have z := kSg_b (bt q)
        have h1 : 1 ≤ kSg (bt q) := h.1
        have h2 : kSg (bt q) ≤ 28 := h.2
        omega
theorem wFd_k {key : Int} : ∀ (L : List Int) (w r : Int), wFd key L w = r → 1 ≤ w → 1 ≤ r → w ≤ r ∧ L.getD (r - w).toNat 0 = key := by
  intro L
  induction L with
  | nil =>
    intro w r h hw hr
    have h1 : (0 : Int) = r := h
    omega
  | cons t ts ih =>
    intro w r h hw hr
    have e : wFd key (t :: ts) w = if t = key then w else wFd key ts (w + 1) := rfl
    rw [e] at h
    by_cases c : t = key
    · rw [if_pos c] at h
      rw [show (r - w).toNat = 0 from by omega]
      exact ⟨by omega, c⟩
    · rw [if_neg c] at h
      have z := ih (w + 1) r h (by omega) hr
      refine ⟨by omega, ?_⟩
      rw [show (r - w).toNat = (r - (w + 1)).toNat + 1 from by omega]
      exact z.2
theorem tNx_k {r : Int} (h : (tNx bt n q).1 = r) (h1 : 1 ≤ r) (h2 : r ≤ 26) (hq : q < n) : wTb.getD (r - 1).toNat 0 = (tNx bt n q).2.1 ∧ wIv bt n q (tNx bt n q).2.2 (tNx bt n q).2.1 ∧ ¬ ((tNx bt n q).2.2 < n ∧ (cLe (bt (tNx bt n q).2.2) ∨ cDi (bt (tNx bt n q).2.2))) ∧ (tNx bt n q).2.2 - q ≤ 9 := by
  by_cases c1 : cLe (bt q)
  · have e : tNx bt n q = (kWd (wKy bt (min 9 (wEn bt n (n - q).toNat q - q)).toNat q 0) (wEn bt n (n - q).toNat q - q), wKy bt (min 9 (wEn bt n (n - q).toNat q - q)).toNat q 0, wEn bt n (n - q).toNat q) := if_pos c1
    rw [e] at h
    rw [e]
    have h : kWd (wKy bt (min 9 (wEn bt n (n - q).toNat q - q)).toNat q 0) (wEn bt n (n - q).toNat q - q) = r := h
    obtain ⟨k', g1, g2⟩ := wV_end (bt := bt) (n := n) (p := q) (n - q).toNat q 0 rfl (Int.le_refl _) wV_0
    have g3 := g1.2.1
    rw [g3] at g1
    unfold kWd at h
    by_cases c9 : 9 < wEn bt n (n - q).toNat q - q
    · rw [if_pos c9] at h
      omega
    · rw [if_neg c9] at h
      by_cases c0 : wFd (wKy bt (min 9 (wEn bt n (n - q).toNat q - q)).toNat q 0) wTb 1 = 0
      · rw [if_neg (fun z => z c0)] at h
        by_cases c8 : 8 < wEn bt n (n - q).toNat q - q
        · rw [if_pos c8] at h
          omega
        · rw [if_neg c8] at h
          omega
      · rw [if_pos c0] at h
        exact ⟨(wFd_k wTb 1 r h (by decide) h1).2, g1, g2, by show wEn bt n (n - q).toNat q - q ≤ 9; omega⟩
  · exfalso
    unfold tNx at h
    rw [if_neg c1] at h
    by_cases c2 : cDi (bt q)
    · rw [if_pos c2] at h
      have h : (if vNu bt (dEn bt n (n - q).toNat q - q).toNat q 0 ≤ 34359738367 then (28 : Int) else -1) = r := h
      by_cases c4 : vNu bt (dEn bt n (n - q).toNat q - q).toNat q 0 ≤ 34359738367
      · rw [if_pos c4] at h
        omega
      · rw [if_neg c4] at h
        omega
    · have z : (tNx bt n q).1 = r := by
        unfold tNx
        rw [if_neg c1]
        exact h
      exact (tNx_w (bt := bt) (n := n) (q := q) ⟨by omega, by omega⟩).elim c1 c2
theorem gTk_n : ∀ (f : Nat) (p : Int), (n - p).toNat ≤ f → ∀ (k : Nat) (w : Int × Int × Int), (gTk bt n f p)[k]? = some w → ∃ q, w = ((tNx bt n q).1, q, (tNx bt n q).2.1) ∧ p ≤ q ∧ q < n ∧ ¬ cBl (bt q) ∧ ∀ w', (gTk bt n f p)[k + 1]? = some w' → (tNx bt n q).2.2 ≤ w'.2.1 := by
  intro f
  induction f with
  | zero => intro p hp k w h; cases h
  | succ f ih =>
    intro p hp k w
    have e : gTk bt n (f + 1) p = if p < n then (if cBl (bt p) then gTk bt n f (p + 1) else ((tNx bt n p).1, p, (tNx bt n p).2.1) :: gTk bt n f (tNx bt n p).2.2) else [] := rfl
    rw [e]
    by_cases c1 : p < n
    · rw [if_pos c1]
      by_cases c2 : cBl (bt p)
      · rw [if_pos c2]
        intro h
        obtain ⟨q, z1, z2, z3, z4, z5⟩ := ih (p + 1) (by omega) k w h
        exact ⟨q, z1, by omega, z3, z4, z5⟩
      · rw [if_neg c2]
        have zb := tNx_b (bt := bt) c1
        intro h
        cases k with
        | zero =>
          have h1 : some ((tNx bt n p).1, p, (tNx bt n p).2.1) = some w := h
          cases h1
          refine ⟨p, rfl, Int.le_refl _, c1, c2, fun w' hw => ?_⟩
          have hw : (gTk bt n f (tNx bt n p).2.2)[0]? = some w' := hw
          obtain ⟨q, z1, z2, -⟩ := ih _ (by omega) 0 w' hw
          rw [z1]
          exact z2
        | succ k =>
          have h1 : (gTk bt n f (tNx bt n p).2.2)[k]? = some w := h
          obtain ⟨q, z1, z2, z3, z4, z5⟩ := ih _ (by omega) k w h1
          exact ⟨q, z1, by omega, z3, z4, fun w' hw => z5 w' hw⟩
    · rw [if_neg c1]
      intro h
      cases h
end
section
variable {bt : Int → Int} {n : Int} {f9 f10 : Nat → Int32} {f11 : Nat → Int64} {tc : Int32}
theorem tW_k (h : tW (gTk bt n n.toNat 0) n f9 f10 f11 tc) {t : Int} (ht : ¬ kC f9 tc t = -2) : 0 ≤ t ∧ t ≤ (gTk bt n n.toNat 0).length ∧ kC f9 tc t = (f9 t.toNat).toInt := by
  unfold kC at ht
  unfold kC
  have h1 := h.1
  by_cases c : 0 ≤ t ∧ t < tc.toInt
  · rw [if_pos c]
    exact ⟨c.1, by omega, rfl⟩
  · rw [if_neg c] at ht
    exact absurd rfl ht
theorem tW_t (h : tW (gTk bt n n.toNat 0) n f9 f10 f11 tc) {t : Int} (ht : 0 < kC f9 tc t) : ∃ q, kC f9 tc t = (tNx bt n q).1 ∧ pC f10 t = q ∧ kK f11 t = (tNx bt n q).2.1 ∧ 0 ≤ q ∧ q < n ∧ (tNx bt n q).2.2 ≤ pC f10 (t + 1) ∧ (0 < kC f9 tc (t + 1) → kC f9 tc (t + 1) = (tNx bt n (pC f10 (t + 1))).1 ∧ pC f10 (t + 1) < n) := by
  obtain ⟨z1, z2, z3⟩ := tW_k h (t := t) (by omega)
  obtain ⟨h1, h2, h3, h4⟩ := h
  have hl : t.toNat < (gTk bt n n.toNat 0).length := by
    apply Nat.lt_of_le_of_ne (by omega)
    intro e
    rw [z3, e, h3] at ht
    omega
  have e1 := h2 t.toNat hl
  obtain ⟨q, g1, g2, g3, g4, g5⟩ := gTk_n n.toNat 0 (by omega) _ _ e1
  have a1 : (f9 t.toNat).toInt = (tNx bt n q).1 := congrArg (fun x : Int × Int × Int => x.1) g1
  have a2 : (f10 t.toNat).toInt = q := congrArg (fun x : Int × Int × Int => x.2.1) g1
  have a3 : (f11 t.toNat).toInt = (tNx bt n q).2.1 := congrArg (fun x : Int × Int × Int => x.2.2) g1
  have et : (t + 1).toNat = t.toNat + 1 := by omega
  refine ⟨q, z3.trans a1, a2, a3, g2, g3, ?_, fun hk => ?_⟩
  · show (tNx bt n q).2.2 ≤ (f10 (t + 1).toNat).toInt
    rw [et]
    by_cases c : t.toNat + 1 < (gTk bt n n.toNat 0).length
    · exact g5 _ (h2 _ c)
    · rw [show t.toNat + 1 = (gTk bt n n.toNat 0).length from by omega, h4]
      exact (tNx_b g3).2
  · have hs : tW (gTk bt n n.toNat 0) n f9 f10 f11 tc := ⟨h1, h2, h3, h4⟩
    obtain ⟨y1, y2, y3⟩ := tW_k hs (t := t + 1) (by omega)
    have hl2 : (t + 1).toNat < (gTk bt n n.toNat 0).length := by
      apply Nat.lt_of_le_of_ne (by omega)
      intro e
      rw [y3, e, h3] at hk
      omega
    have e2 := h2 (t + 1).toNat hl2
    obtain ⟨q2, b1, b2, b3, -⟩ := gTk_n n.toNat 0 (by omega) _ _ e2
    have c1 : (f9 (t + 1).toNat).toInt = (tNx bt n q2).1 := congrArg (fun x : Int × Int × Int => x.1) b1
    have c2 : (f10 (t + 1).toNat).toInt = q2 := congrArg (fun x : Int × Int × Int => x.2.1) b1
    show kC f9 tc (t + 1) = (tNx bt n (f10 (t + 1).toNat).toInt).1 ∧ (f10 (t + 1).toNat).toInt < n
    rw [c2]
    exact ⟨y3.trans c1, b3⟩
theorem tW_pl1 (h : tW (gTk bt n n.toNat 0) n f9 f10 f11 tc) {t r : Int} {m : Nat} (ht : kC f9 tc t = r) (h1 : 1 ≤ r) (h2 : r ≤ 26) (hm : m ≤ 8) (hp : (37 : Int) ^ m ≤ wTb.getD (r - 1).toNat 0) : pC f10 t + (m + 1) ≤ pC f10 (t + 1) ∧ (isW (kC f9 tc (t + 1)) → pC f10 t + (m + 2) ≤ pC f10 (t + 1)) := by
  obtain ⟨q, g1, g2, g3, g4, g5, g6, g7⟩ := tW_t h (t := t) (by omega)
  obtain ⟨a1, a2, a3, a4⟩ := tNx_k (bt := bt) (n := n) (q := q) (g1.symm.trans ht) h1 h2 g5
  have b := a2.2.2.2
  have hl : (m : Int) + 1 ≤ (tNx bt n q).2.2 - q := by
    apply Int.not_lt.mp
    intro z
    have z1 : (37 : Int) ^ (min 9 ((tNx bt n q).2.2 - q)).toNat ≤ 37 ^ m := pw_m (by omega)
    omega
  rw [g2]
  refine ⟨by omega, fun hw => ?_⟩
  obtain ⟨c1, c2⟩ := g7 (by have := hw.1; omega)
  rw [c1] at hw
  have c3 := tNx_w hw
  apply Int.not_lt.mp
  intro z
  have e : (tNx bt n q).2.2 = pC f10 (t + 1) := by omega
  rw [e] at a3
  exact a3 ⟨c2, c3⟩
theorem tW_pl (h : tW (gTk bt n n.toNat 0) n f9 f10 f11 tc) : plK (kC f9 tc) (pC f10) := by
  refine ⟨fun t ht => ?_, fun t ht => ?_, fun t ht => ?_, fun t ht => ?_⟩
  · obtain ⟨q, g1, g2, g3, g4, g5, g6, g7⟩ := tW_t h ht
    have := (tNx_b (bt := bt) g5).1
    omega
  · have z := tW_pl1 (m := 4) h ht (by decide) (by decide) (by decide) (by decide)
    exact ⟨by have := z.1; omega, fun w => by have := z.2 w; omega⟩
  · have z := tW_pl1 (m := 2) h ht (by decide) (by decide) (by decide) (by decide)
    exact ⟨by have := z.1; omega, fun w => by have := z.2 w; omega⟩
  · have z := tW_pl1 (m := 8) h ht (by decide) (by decide) (by decide) (by decide)
    exact ⟨by have := z.1; omega, fun w => by have := z.2 w; omega⟩
end
