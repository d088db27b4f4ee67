def rwI (so st on tw th nx wh : nA) (kd ky : Int → Int) (p q k : Int) (d : gV → Option Int) (T : gV) (ty xw xc : Int) : Prop := ∃ dk : gV → Option Int, TX so st on tw th nx wh kd ky p q k dk ∧ (ty = 1 ∨ ty = 2) ∧ (0 ≤ xw → 0 ≤ xc) ∧ (xw < 0 → (0 ≤ xc → d T = none) ∧ (xc < 0 → (d T = none ↔ dN ty dk T = none)))
section
variable {so st on tw th nx wh : nA} {kd ky : Int → Int} {p q k k2 e ty xw xc x2 : Int} {T : gV} {d dk d1 d2 : gV → Option Int}
theorem rw_e (h : TX so st on tw th nx wh kd ky p q k dk) (hs : (ty = 2 ∧ (rd so k = 7 ∨ rd so k = 8)) ∨ (ty = 1 ∧ (rd so k = 11 ∨ rd so k = 12 ∨ rd so k = 15 ∨ rd so k = 16 ∨ rd so k = 17))) : ∃ da db, TX so st on tw th nx wh kd ky p q (rd on k) da ∧ TX so st on tw th nx wh kd ky p q (rd tw k) db ∧ dk = dO ty ty da db := by
  rcases hs with ⟨e, hs⟩ | ⟨e, hs⟩
  · subst e
    exact TE_B h hs
  · subst e
    exact TE_N h hs
theorem rwI_0 (h : TX so st on tw th nx wh kd ky p q e d) (hs : (ty = 2 ∧ (rd so e = 7 ∨ rd so e = 8)) ∨ (ty = 1 ∧ (rd so e = 11 ∨ rd so e = 12 ∨ rd so e = 15 ∨ rd so e = 16 ∨ rd so e = 17))) : rwI so st on tw th nx wh kd ky p q e d T ty xw xw := by
  have hy : ty = 1 ∨ ty = 2 := by omega
  obtain ⟨da, db, -, -, e9⟩ := rw_e h hs
  refine ⟨d, h, hy, fun z => z, fun z => ⟨fun z2 => absurd z2 (by omega), fun _ => ?_⟩⟩
  rw [e9]
  exact (dO_N hy).symm
theorem rwI_s (h : (ty = 1 ∨ ty = 2) ∧ (0 ≤ xw → 0 ≤ xc) ∧ (xw < 0 → (0 ≤ xc → d T = none) ∧ (xc < 0 → (d T = none ↔ dN ty dk T = none)))) (e9 : dk = dO ty ty d1 d2) (h1 : TX so st on tw th nx wh kd ky p q k2 d1) (n : nQ xc x2 ty d2 T) : rwI so st on tw th nx wh kd ky p q k2 d T ty xw x2 := by
  obtain ⟨hy, h2, h3⟩ := h
  have w := n.2 hy
  refine ⟨d1, h1, hy, fun z => w.1 (h2 z), fun z => ?_⟩
  obtain ⟨a1, a2⟩ := h3 z
  by_cases c : 0 ≤ xc
  · exact ⟨fun _ => a1 c, fun z2 => absurd (w.1 c) (by omega)⟩
  · have a3 := a2 (by omega)
    rw [e9, dO_N hy, dO_n] at a3
    obtain ⟨b1, b2⟩ := w.2 (by omega)
    by_cases c2 : dN ty d2 T = none
    · have := b1 c2
      exact ⟨fun _ => a3.mpr (Or.inr c2), fun z2 => absurd this (by omega)⟩
    · have := b2 c2
      refine ⟨fun z2 => absurd this (by omega), fun _ => ?_⟩
      rw [a3]
      exact ⟨fun z3 => z3.resolve_right c2, fun z3 => Or.inl z3⟩
theorem rwI_x (h : (ty = 1 ∨ ty = 2) ∧ (0 ≤ xw → 0 ≤ xc) ∧ (xw < 0 → (0 ≤ xc → d T = none) ∧ (xc < 0 → (d T = none ↔ dN ty dk T = none)))) (n : nQ xc x2 ty dk T) : wQ xw x2 (d T) := by
  obtain ⟨hy, h2, h3⟩ := h
  have w := n.2 hy
  refine ⟨fun z => w.1 (h2 z), fun z => ?_⟩
  obtain ⟨a1, a2⟩ := h3 z
  by_cases c : 0 ≤ xc
  · exact ⟨fun _ => w.1 c, fun z2 => absurd (a1 c) z2⟩
  · have a3 := a2 (by omega)
    obtain ⟨b1, b2⟩ := w.2 (by omega)
    exact ⟨fun z2 => b1 (a3.mp z2), fun z2 => b2 (fun z3 => z2 (a3.mpr z3))⟩
end
def aLi (so st on tw th nx wh : nA) (kd ky : Int → Int) (w q : Int) (as : List gA) (n a : Int) : Prop := 0 ≤ n ∧ n ≤ (as.length : Int) ∧ ∃ lo : Int, 0 ≤ lo ∧ aL (TX so st on tw th nx wh kd ky) so st on nx wh kd ky w q (as.drop n.toNat) lo a
def accI (so st on tw th nx wh : nA) (kd ky : Int → Int) (w q : Int) (as : List gA) (T : gV) (p0 i a xw xc : Int) : Prop := aLi so st on tw th nx wh kd ky w q as i a ∧ wQ xw xc (aAll T w (as.take i.toNat) p0) ∧ ∀ v, aAll T w (as.take i.toNat) p0 = some v → v = pAt T i.toNat p0
section
variable {so st on tw th nx wh : nA} {kd ky : Int → Int} {w p q n n2 a a2 i i2 xw xc x2 p0 k : Int} {T : gV} {as : List gA}
theorem aLi_0 (h : TA so st on tw th nx wh kd ky w p q as a) : aLi so st on tw th nx wh kd ky w q as 0 a := ⟨by decide, by omega, p, h.1, h.2⟩
theorem aLi_c (h : aLi so st on tw th nx wh kd ky w q as n a) (ha : 0 ≤ a) : n < (as.length : Int) ∧ ∃ (x : gA) (lo : Int), as.drop n.toNat = x :: as.drop (n.toNat + 1) ∧ 0 ≤ lo ∧ lo ≤ a ∧ a < q ∧ TX so st on tw th nx wh kd ky lo a (rd on a) x.2.2.2 ∧ (rd so (rd on a) = 3 ↔ x.1 = true) ∧ (x.1 = true → ky (rd st (rd on a)) = x.2.1 ∧ rd wh (rd on a) = w + 1) ∧ aL (TX so st on tw th nx wh kd ky) so st on nx wh kd ky w q (as.drop (n.toNat + 1)) (a + 1) (rd nx a) := by
  obtain ⟨h0, h1, lo, h2, h3⟩ := h
  by_cases c : n.toNat < as.length
  · have e := List.drop_eq_getElem_cons c
    rw [e] at h3
    obtain ⟨b1, b2, b3, b4, b5, b6⟩ := h3
    exact ⟨by omega, as[n.toNat], lo, e, h2, b1, b2, b3, b4, b5, b6⟩
  · rw [List.drop_eq_nil_iff.mpr (by omega)] at h3
    have h3 : a < 0 := h3
    omega
theorem aLi_s (h : aLi so st on tw th nx wh kd ky w q as n a) (ha : 0 ≤ a) (hn : n2 = n + 1) (e : a2 = rd nx a) : aLi so st on tw th nx wh kd ky w q as n2 a2 := by
  have h0 := h.1
  obtain ⟨c, x, lo, e1, b0, b1, b2, -, -, -, b6⟩ := aLi_c h ha
  refine ⟨by omega, by omega, a + 1, by omega, ?_⟩
  rw [show n2.toNat = n.toNat + 1 from by omega, e]
  exact b6
theorem aLi_n (h : aLi so st on tw th nx wh kd ky w q as n a) (ha : a < 0) : n = (as.length : Int) := by
  obtain ⟨h0, h1, lo, h2, h3⟩ := h
  by_cases c : n.toNat < as.length
  · rw [List.drop_eq_getElem_cons c] at h3
    have := h3.1
    omega
  · omega
theorem acc_0 (h : TA so st on tw th nx wh kd ky w p q as a) (hi : i = 0) : accI so st on tw th nx wh kd ky w q as T p0 i a xw xw := by
  rw [hi]
  exact ⟨aLi_0 h, wQ_0 (by show ¬ (some p0 = none); simp), fun v hv => by cases hv; rfl⟩
theorem pAt_s : ∀ (m : Nat) (z : Int), pAt T (m + 1) z = nX T (pAt T m z) := by
  intro m
  induction m with
  | zero => intro z; rfl
  | succ m ih => intro z; exact ih (nX T z)
theorem acc_s {x : gA} (h : accI so st on tw th nx wh kd ky w q as T p0 i a xw xc) (ha : 0 ≤ a) (hi : i2 = i + 1) (e : a2 = rd nx a) (ed : as.drop i.toNat = x :: as.drop (i.toNat + 1)) (hx : wQ xc x2 (aX T w x k)) (hk : pAt T i.toNat p0 = k) : accI so st on tw th nx wh kd ky w q as T p0 i2 a2 xw x2 := by
  obtain ⟨h1, h2, h3⟩ := h
  have h0 := h1.1
  obtain ⟨c, -⟩ := aLi_c h1 ha
  have hl : i.toNat < as.length := by omega
  have ex : as[i.toNat] = x := by
    have q := List.drop_eq_getElem_cons hl
    rw [ed] at q
    exact (List.cons.inj q).1.symm
  have et : as.take i2.toNat = as.take i.toNat ++ [x] := by
    rw [show i2.toNat = i.toNat + 1 from by omega, List.take_succ_eq_append_getElem hl, ex]
  have ea : aAll T w (as.take i2.toNat) p0 = (aAll T w (as.take i.toNat) p0).bind fun v => (aX T w x v).bind fun _ => some (nX T v) := by
    unfold aAll
    rw [et, List.foldl_append]
    rfl
  refine ⟨aLi_s h1 ha hi e, ?_, ?_⟩
  · refine wQ_s h2 hx ?_
    rw [ea]
    cases c2 : aAll T w (as.take i.toNat) p0 with
    | none => exact ⟨fun _ => Or.inl rfl, fun _ => rfl⟩
    | some v =>
      have ev := (h3 v c2).trans hk
      subst ev
      show ((aX T w x v).bind fun _ => some (nX T v)) = none ↔ (some v = none ∨ aX T w x v = none)
      cases aX T w x v with
      | none => simp
      | some u => simp
  · intro v hv
    rw [ea] at hv
    obtain ⟨u, hu, hv⟩ := bind_s hv
    obtain ⟨u2, -, hv⟩ := bind_s hv
    cases hv
    rw [show i2.toNat = i.toNat + 1 from by omega, pAt_s, h3 u hu]
theorem acc_x (h : accI so st on tw th nx wh kd ky w q as T (vF T (nH T k)) i a xw xc) (ha : a < 0) (hn : (as.length : Int) = nC T k) : wQ xw xc (cAll T w as k) := by
  obtain ⟨h1, h2, -⟩ := h
  have e := aLi_n h1 ha
  unfold cAll
  rw [if_pos hn]
  rw [show i.toNat = as.length from by omega, List.take_length] at h2
  exact h2
end
section
variable {T : gV} {wt ty li mo : nA} {w gk k xw x1 : Int} {x : gA}
theorem aX_6 {d : gV → Option Int} (h : nK T gk = 6) (hd : x.2.2.2 = d) : aX T w x gk = dN (nT T gk) d T := by
  unfold aX
  rw [if_pos h, hd]
theorem aX_a (h : ¬ nK T gk = 6) (ha : x.1 = true) : aX T w x gk = xHo T (gMe T w x.2.1) gk := by
  unfold aX
  rw [if_neg h, if_pos ha]
theorem aX_o (h : ¬ nK T gk = 6) (h0 : ¬ nK T gk = 0) (ha : ¬ x.1 = true) (ht : ∀ t, x.2.2.2 T = some t → ¬ t = 0) : aX T w x gk = none := by
  unfold aX
  rw [if_neg h, if_neg ha]
  cases e : x.2.2.2 T with
  | none => rfl
  | some t =>
    show (if (x.2.2.1 = true ∧ t = 0) ∨ nK T gk = 0 then some 0 else none) = none
    exact if_neg (fun q => q.elim (fun z => ht t e z.2) h0)
theorem ho_8 (h : nK T gk = 8) : xHo T k gk = none ↔ ¬ isLa T k := by
  unfold xHo
  rw [if_neg (by omega), if_pos h]
  by_cases c : isLa T k
  · rw [if_pos c]
    exact ⟨fun z => (by cases z), fun z => absurd c z⟩
  · rw [if_neg c]
    exact ⟨fun _ => c, fun _ => rfl⟩
theorem ho_7 (h : nK T gk = 7) : xHo T k gk = none ↔ ¬ (isAr T k ∧ nT T k = nT T gk) := by
  unfold xHo
  rw [if_pos h]
  by_cases c : isAr T k ∧ nT T k = nT T gk
  · rw [if_pos c]
    exact ⟨fun z => (by cases z), fun z => absurd c z⟩
  · rw [if_neg c]
    exact ⟨fun _ => c, fun _ => rfl⟩
theorem ac_y {o : Option Int} (h : ¬ o = none) : wQ xw xw o := wQ_0 h
end
def tyK (T : gV) : Prop := (∀ k : Int, nK T k = 1 ∨ nK T k = 2 ∨ nK T k = 6 ∨ nK T k = 7 → nT T k = 1 ∨ nT T k = 2) ∧ ∀ k : Int, nK T k = 3 → nT T k = 0 ∨ nT T k = 1 ∨ nT T k = 2
section
variable {T : gV} {so st on tw th nx wh : nA} {kd ky : Int → Int}
theorem xRe_t {k c t : Int} (h : tyK T) (e : xRe T k c = some t) : t = 1 ∨ t = 2 := by
  unfold xRe at e
  by_cases c1 : isFn T k
  · rw [if_pos c1] at e
    by_cases c2 : nC T k = c
    · rw [if_pos c2] at e
      cases e
      have q := h.2 k c1.1
      have q2 := c1.2
      omega
    · rw [if_neg c2] at e
      cases e
  · rw [if_neg c1] at e
    cases e
theorem tX_t (h : tyK T) : ∀ (f : Nat) (p q e : Int) (d : gV → Option Int) (t : Int), tX so st on tw th nx wh kd ky f p q e d → d T = some t → t = 1 ∨ t = 2 := by
  intro f
  induction f with
  | zero => intro p q e d t hx; exact hx.elim
  | succ f ih =>
    intro p q e d t hx ht
    obtain ⟨-, -, -, hx⟩ := hx
    rcases hx with hx | hx | hx | hx | hx | hx | hx | hx | hx | hx | hx | hx
    · rw [hx.2] at ht; cases ht; exact Or.inl rfl
    · rw [hx.2] at ht; cases ht; exact Or.inr rfl
    · rw [hx.2.2] at ht
      have ht : xVa T (gMe T (rd wh e - 1) (ky (rd st e))) = some t := ht
      unfold xVa at ht
      by_cases c : isSi T (gMe T (rd wh e - 1) (ky (rd st e)))
      · rw [if_pos c] at ht
        cases ht
        exact h.1 _ (by unfold isSi at c; omega)
      · rw [if_neg c] at ht
        exact xRe_t h ht
    · exact ih _ _ _ _ _ hx.2 ht
    · obtain ⟨-, d1, d2, d3, -, x2, -, x4⟩ := hx
      rw [x4] at ht
      have ht : ((dN 2 d1 T).bind fun _ => (d2 T).bind fun t => (dN t d3 T).bind fun _ => some t) = some t := ht
      obtain ⟨u, -, ht⟩ := bind_s ht
      obtain ⟨u2, e2, ht⟩ := bind_s ht
      obtain ⟨u3, -, ht⟩ := bind_s ht
      cases ht
      exact ih _ _ _ _ _ x2 e2
    · obtain ⟨-, d1, d2, -, -, x3⟩ := hx
      rw [x3] at ht
      exact Or.inr (dO_v ht)
    · obtain ⟨-, d1, d2, -, -, x3⟩ := hx
      rw [x3] at ht
      exact Or.inl (dO_v ht)
    · obtain ⟨-, d1, d2, -, -, x3⟩ := hx
      rw [x3] at ht
      exact Or.inr (dO_v ht)
    · obtain ⟨-, d1, -, x2⟩ := hx
      rw [x2] at ht
      exact Or.inr (dC_v ht)
    · obtain ⟨-, d1, -, x2⟩ := hx
      rw [x2] at ht
      exact Or.inl (dC_v ht)
    · obtain ⟨-, -, d1, -, x2⟩ := hx
      have el : ∀ (s : gV → Option Int), dEl (rd wh e - 1) (ky (rd st e)) s T = some t → t = 1 ∨ t = 2 := fun s hs => by
        obtain ⟨c, -, hs⟩ := bind_s (F := s T) hs
        unfold xEl at hs
        by_cases c1 : isAr T (gMe T (rd wh e - 1) (ky (rd st e)))
        · rw [if_pos c1] at hs
          by_cases c2 : nK T (gMe T (rd wh e - 1) (ky (rd st e))) = 2 ∧ ¬ nC T (gMe T (rd wh e - 1) (ky (rd st e))) = c
          · rw [if_pos c2] at hs
            cases hs
          · rw [if_neg c2] at hs
            cases hs
            exact h.1 _ (by unfold isAr at c1; omega)
        · rw [if_neg c1] at hs
          cases hs
      rcases x2 with ⟨-, x2⟩ | ⟨-, d2, -, x2⟩
      · rw [x2] at ht; exact el _ ht
      · rw [x2] at ht; exact el _ ht
    · obtain ⟨-, -, as, -, x2⟩ := hx
      rw [x2] at ht
      obtain ⟨c, -, ht⟩ := bind_s (F := aCnt T (rd wh e - 1) as (vF T (nH T (gMe T (rd wh e - 1) (ky (rd st e)))))) ht
      exact xRe_t h ht
theorem TX_t {p q e t : Int} {d : gV → Option Int} (h : tyK T) (hx : TX so st on tw th nx wh kd ky p q e d) (ht : d T = some t) : t = 1 ∨ t = 2 := by
  obtain ⟨-, f, hx⟩ := hx
  exact tX_t h f _ _ _ _ _ hx ht
variable {ar ho wd wt ty li mo fi : nA} {xk xs : Int}
theorem fR_t (h : fRl T ky ar ho wd wt ty li mo fi xk xs) : tyK T := by
  refine ⟨fun k hk => ?_, fun k hk => ?_⟩
  · by_cases c : 0 ≤ k ∧ k < xk
    · have q := h.2.1 k c.1 c.2
      unfold kRel at q
      omega
    · have q := h.2.2.1 k (by omega)
      omega
  · by_cases c : 0 ≤ k ∧ k < xk
    · have q := h.2.1 k c.1 c.2
      unfold kRel at q
      omega
    · have q := h.2.2.1 k (by omega)
      omega
end
