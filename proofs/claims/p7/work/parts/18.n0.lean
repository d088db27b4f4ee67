abbrev nA := Nat → Int32
def aL (P : Int → Int → Int → (gV → Option Int) → Prop) (so st on nx wh : nA) (kd ky : Int → Int) (w q : Int) : List gA → Int → Int → Prop
  | [], _, a => a < 0
  | x :: as, lo, a => lo ≤ a ∧ a < q ∧ P lo a (rd on a) x.2.2.2 ∧ (rd so (rd on a) = 3 ↔ x.1 = true) ∧ (x.1 = true → ky (rd st (rd on a)) = x.2.1 ∧ rd wh (rd on a) = w + 1) ∧ aL P so st on nx wh kd ky w q as (a + 1) (rd nx a)
def isNP (s : Int) : Prop := s = 11 ∨ s = 12 ∨ s = 15 ∨ s = 16 ∨ s = 17
def tX (so st on tw th nx wh : nA) (kd ky : Int → Int) : Nat → Int → Int → Int → (gV → Option Int) → Prop
  | 0, _, _, _, _ => False
  | f + 1, p, q, e, d => p ≤ e ∧ e < q ∧ 0 ≤ e ∧ (
      (rd so e = 1 ∧ d = fun _ => some 1) ∨ (rd so e = 2 ∧ d = fun _ => some 2) ∨ (rd so e = 3 ∧ kd (rd st e) = 27 ∧ d = dVa (rd wh e - 1) (ky (rd st e))) ∨
      (rd so e = 18 ∧ tX so st on tw th nx wh kd ky f p q (rd on e) d) ∨
      (rd so e = 6 ∧ ∃ d1 d2 d3, tX so st on tw th nx wh kd ky f p q (rd on e) d1 ∧ tX so st on tw th nx wh kd ky f p q (rd tw e) d2 ∧ tX so st on tw th nx wh kd ky f p q (rd th e) d3 ∧ d = dIf d1 d2 d3) ∨
      ((rd so e = 7 ∨ rd so e = 8) ∧ ∃ d1 d2, tX so st on tw th nx wh kd ky f p q (rd on e) d1 ∧ tX so st on tw th nx wh kd ky f p q (rd tw e) d2 ∧ d = dO 2 2 d1 d2) ∨
      (isNP (rd so e) ∧ ∃ d1 d2, tX so st on tw th nx wh kd ky f p q (rd on e) d1 ∧ tX so st on tw th nx wh kd ky f p q (rd tw e) d2 ∧ d = dO 1 1 d1 d2) ∨
      (rd so e = 10 ∧ ∃ d1 d2, tX so st on tw th nx wh kd ky f p q (rd on e) d1 ∧ tX so st on tw th nx wh kd ky f p q (rd tw e) d2 ∧ d = dO 1 2 d1 d2) ∨
      (rd so e = 9 ∧ ∃ d1, tX so st on tw th nx wh kd ky f p q (rd on e) d1 ∧ d = dC 2 2 d1) ∨
      ((rd so e = 13 ∨ rd so e = 14) ∧ ∃ d1, tX so st on tw th nx wh kd ky f p q (rd on e) d1 ∧ d = dC 1 1 d1) ∨
      (rd so e = 4 ∧ kd (rd st e) = 27 ∧ ∃ d1, tX so st on tw th nx wh kd ky f p q (rd on e) d1 ∧ ((rd tw e < 0 ∧ d = dEl (rd wh e - 1) (ky (rd st e)) (dS1 d1)) ∨ (0 ≤ rd tw e ∧ ∃ d2, tX so st on tw th nx wh kd ky f p q (rd tw e) d2 ∧ d = dEl (rd wh e - 1) (ky (rd st e)) (dS2 d1 d2)))) ∨
      (rd so e = 5 ∧ kd (rd st e) = 27 ∧ ∃ as, aL (tX so st on tw th nx wh kd ky f) so st on nx wh kd ky (rd wh e - 1) q as p (rd on e) ∧ d = dCa (rd wh e - 1) (ky (rd st e)) as))
def aq (p q : Int) (so st on tw th nx wh so' st' on' tw' th' nx' wh' : nA) : Prop := ∀ c : Int, p ≤ c → c < q → 0 ≤ c → rd so' c = rd so c ∧ rd st' c = rd st c ∧ rd on' c = rd on c ∧ rd tw' c = rd tw c ∧ rd th' c = rd th c ∧ rd nx' c = rd nx c ∧ rd wh' c = rd wh c
section
variable {so st on tw th nx wh so' st' on' tw' th' nx' wh' : nA} {kd ky : Int → Int}
theorem aq_le {p q p2 q2 : Int} (g : aq p q so st on tw th nx wh so' st' on' tw' th' nx' wh') (h1 : p ≤ p2) (h2 : q2 ≤ q) : aq p2 q2 so st on tw th nx wh so' st' on' tw' th' nx' wh' := fun c a1 a2 a3 => g c (by omega) (by omega) a3
theorem tX_r {f : Nat} {p q e : Int} {d : gV → Option Int} (h : tX so st on tw th nx wh kd ky f p q e d) : p ≤ e ∧ e < q ∧ 0 ≤ e := by
  cases f with
  | zero => exact h.elim
  | succ f => exact ⟨h.1, h.2.1, h.2.2.1⟩
theorem aL_m {P P' : Int → Int → Int → (gV → Option Int) → Prop} {w q q' : Int} : ∀ (as : List gA) (p p' a : Int), (∀ lo lo' a e d, p ≤ lo → lo' ≤ lo → p' ≤ lo' → a < q → P lo a e d → P' lo' a e d ∧ lo ≤ e ∧ e < a) → aq p q so st on tw th nx wh so' st' on' tw' th' nx' wh' → p' ≤ p → q ≤ q' → 0 ≤ p → aL P so st on nx wh kd ky w q as p a → aL P' so' st' on' nx' wh' kd ky w q' as p' a := by
  intro as
  induction as with
  | nil => intro p p' a _ _ _ _ _ h; exact h
  | cons x as ih =>
    intro p p' a hP g hp hq h0 h
    obtain ⟨h1, h2, h3, h4, h5, h6⟩ := h
    obtain ⟨-, -, e3, -, -, e6, -⟩ := g a h1 h2 (by omega)
    obtain ⟨z1, z2, z3⟩ := hP p p' a _ _ (Int.le_refl _) hp (Int.le_refl _) h2 h3
    obtain ⟨y1, y2, -, -, -, -, y7⟩ := g (rd on a) z2 (by omega) (by omega)
    refine ⟨by omega, by omega, ?_, ?_, ?_, ?_⟩
    · rw [e3]; exact z1
    · rw [e3, y1]; exact h4
    · rw [e3, y2, y7]; exact h5
    · rw [e6]; exact ih (a + 1) (a + 1) _ (fun lo lo' a2 e d b1 b2 b3 b4 b5 => hP lo lo' a2 e d (by omega) b2 (by omega) b4 b5) (aq_le g (by omega) (Int.le_refl _)) (Int.le_refl _) hq (by omega) h6
theorem tX_m : ∀ (f f' : Nat) (p q p' q' e : Int) (d : gV → Option Int), aq p q so st on tw th nx wh so' st' on' tw' th' nx' wh' → p' ≤ p → q ≤ q' → 0 ≤ p → f ≤ f' → tX so st on tw th nx wh kd ky f p q e d → tX so' st' on' tw' th' nx' wh' kd ky f' p' q' e d := by
  intro f
  induction f with
  | zero => intro f' p q p' q' e d _ _ _ _ _ h; exact h.elim
  | succ f ih =>
    intro f' p q p' q' e d g hp hq h0 hf h
    obtain ⟨k, rfl⟩ : ∃ k : Nat, f' = k + 1 := ⟨f' - 1, by omega⟩
    have hk : f ≤ k := by omega
    obtain ⟨h1, h2, h3, h⟩ := h
    obtain ⟨e1, e2, e3, e4, e5, e6, e7⟩ := g e h1 h2 h3
    have I : ∀ {x : Int} {d : gV → Option Int}, tX so st on tw th nx wh kd ky f p q x d → tX so' st' on' tw' th' nx' wh' kd ky k p' q' x d := fun {x d} z => ih k p q p' q' x d g hp hq h0 hk z
    refine ⟨by omega, by omega, h3, ?_⟩
    rw [e1, e2, e3, e4, e5, e7]
    rcases h with h | h | h | h | h | h | h | h | h | h | h | h
    · exact Or.inl h
    · exact Or.inr (Or.inl h)
    · exact Or.inr (Or.inr (Or.inl h))
    · exact Or.inr (Or.inr (Or.inr (Or.inl ⟨h.1, I h.2⟩)))
    · obtain ⟨s, d1, d2, d3, x1, x2, x3, x4⟩ := h
      exact Or.inr (Or.inr (Or.inr (Or.inr (Or.inl ⟨s, d1, d2, d3, I x1, I x2, I x3, x4⟩))))
    · obtain ⟨s, d1, d2, x1, x2, x3⟩ := h
      exact Or.inr (Or.inr (Or.inr (Or.inr (Or.inr (Or.inl ⟨s, d1, d2, I x1, I x2, x3⟩)))))
    · obtain ⟨s, d1, d2, x1, x2, x3⟩ := h
      exact Or.inr (Or.inr (Or.inr (Or.inr (Or.inr (Or.inr (Or.inl ⟨s, d1, d2, I x1, I x2, x3⟩))))))
    · obtain ⟨s, d1, d2, x1, x2, x3⟩ := h
      exact Or.inr (Or.inr (Or.inr (Or.inr (Or.inr (Or.inr (Or.inr (Or.inl ⟨s, d1, d2, I x1, I x2, x3⟩)))))))
    · obtain ⟨s, d1, x1, x2⟩ := h
      exact Or.inr (Or.inr (Or.inr (Or.inr (Or.inr (Or.inr (Or.inr (Or.inr (Or.inl ⟨s, d1, I x1, x2⟩))))))))
    · obtain ⟨s, d1, x1, x2⟩ := h
      exact Or.inr (Or.inr (Or.inr (Or.inr (Or.inr (Or.inr (Or.inr (Or.inr (Or.inr (Or.inl ⟨s, d1, I x1, x2⟩)))))))))
    · obtain ⟨s, sk, d1, x1, x2⟩ := h
      refine Or.inr (Or.inr (Or.inr (Or.inr (Or.inr (Or.inr (Or.inr (Or.inr (Or.inr (Or.inr (Or.inl ⟨s, sk, d1, I x1, ?_⟩))))))))))
      rcases x2 with x2 | ⟨x2, d2, x3, x4⟩
      · exact Or.inl x2
      · exact Or.inr ⟨x2, d2, I x3, x4⟩
    · obtain ⟨s, sk, as, x1, x2⟩ := h
      refine Or.inr (Or.inr (Or.inr (Or.inr (Or.inr (Or.inr (Or.inr (Or.inr (Or.inr (Or.inr (Or.inr ⟨s, sk, as, ?_, x2⟩))))))))))
      exact aL_m as p p' _ (fun lo lo' a e d b1 b2 b3 b4 b5 => ⟨ih k lo a lo' a e d (aq_le g b1 (by omega)) b2 (Int.le_refl _) (by omega) hk b5, (tX_r b5).1, (tX_r b5).2.1⟩) g hp hq h0 x1
end
def TX (so st on tw th nx wh : nA) (kd ky : Int → Int) (p q e : Int) (d : gV → Option Int) : Prop := 0 ≤ p ∧ ∃ f : Nat, tX so st on tw th nx wh kd ky f p q e d
def TA (so st on tw th nx wh : nA) (kd ky : Int → Int) (w p q : Int) (as : List gA) (a : Int) : Prop := 0 ≤ p ∧ aL (TX so st on tw th nx wh kd ky) so st on nx wh kd ky w q as p a
def TS (so st on tw th nx wh : nA) (kd ky : Int → Int) (p q e : Int) (c : gV → Option Int) : Prop := ∃ d1, TX so st on tw th nx wh kd ky p q (rd on e) d1 ∧ ((rd tw e < 0 ∧ c = dS1 d1) ∨ (0 ≤ rd tw e ∧ ∃ d2, TX so st on tw th nx wh kd ky p q (rd tw e) d2 ∧ c = dS2 d1 d2))
section
variable {so st on tw th nx wh so' st' on' tw' th' nx' wh' : nA} {kd ky : Int → Int} {p q p' q' e : Int} {d d1 d2 d3 c : gV → Option Int}
theorem TX_r (h : TX so st on tw th nx wh kd ky p q e d) : p ≤ e ∧ e < q ∧ 0 ≤ e := by
  obtain ⟨h0, f, h⟩ := h
  exact tX_r h
theorem TX_m (h : TX so st on tw th nx wh kd ky p q e d) (g : aq p q so st on tw th nx wh so' st' on' tw' th' nx' wh') (h0 : 0 ≤ p') (hp : p' ≤ p) (hq : q ≤ q') : TX so' st' on' tw' th' nx' wh' kd ky p' q' e d := by
  obtain ⟨z, f, h⟩ := h
  exact ⟨h0, f, tX_m f f p q p' q' e d g hp hq z (Nat.le_refl _) h⟩
theorem TA_m {w : Int} {as : List gA} (h : TA so st on tw th nx wh kd ky w p q as e) (g : aq p q so st on tw th nx wh so' st' on' tw' th' nx' wh') (h0 : 0 ≤ p') (hp : p' ≤ p) (hq : q ≤ q') : TA so' st' on' tw' th' nx' wh' kd ky w p' q' as e := by
  obtain ⟨z, h⟩ := h
  exact ⟨h0, aL_m as p p' e (fun lo lo' a e d b1 b2 b3 b4 b5 => ⟨TX_m b5 (aq_le g b1 (by omega)) (by omega) b2 (Int.le_refl _), (TX_r b5).1, (TX_r b5).2.1⟩) g hp hq z h⟩
theorem aq_0 : aq p q so st on tw th nx wh so st on tw th nx wh := fun _ _ _ _ => ⟨rfl, rfl, rfl, rfl, rfl, rfl, rfl⟩
theorem tX_f {f f' : Nat} (h0 : 0 ≤ p) (hf : f ≤ f') (h : tX so st on tw th nx wh kd ky f p q e d) : tX so st on tw th nx wh kd ky f' p q e d := tX_m f f' p q p q e d aq_0 (Int.le_refl _) (Int.le_refl _) h0 hf h
theorem aL_f {w : Int} : ∀ (as : List gA) (lo a : Int), 0 ≤ lo → aL (TX so st on tw th nx wh kd ky) so st on nx wh kd ky w q as lo a → ∃ f : Nat, aL (tX so st on tw th nx wh kd ky f) so st on nx wh kd ky w q as lo a := by
  intro as
  induction as with
  | nil => intro lo a _ h; exact ⟨0, h⟩
  | cons x as ih =>
    intro lo a h0 h
    obtain ⟨h1, h2, ⟨-, f, h3⟩, h4, h5, h6⟩ := h
    obtain ⟨g, hg⟩ := ih (a + 1) (rd nx a) (by omega) h6
    refine ⟨f + g, h1, h2, tX_f h0 (by omega) h3, h4, h5, ?_⟩
    exact aL_m (tw := tw) (th := th) (tw' := tw) (th' := th) as (a + 1) (a + 1) _ (fun lo lo' a2 e d b1 b2 b3 b4 b5 => ⟨tX_m g (f + g) lo a2 lo' a2 e d aq_0 b2 (Int.le_refl _) (by omega) (by omega) b5, (tX_r b5).1, (tX_r b5).2.1⟩) aq_0 (Int.le_refl _) (Int.le_refl _) (by omega) hg
theorem TX_1 (h0 : 0 ≤ p) (h1 : p ≤ e) (h2 : e < q) (hs : rd so e = 1) : TX so st on tw th nx wh kd ky p q e (fun _ => some 1) := ⟨h0, 1, h1, h2, by omega, Or.inl ⟨hs, rfl⟩⟩
theorem TX_2 (h0 : 0 ≤ p) (h1 : p ≤ e) (h2 : e < q) (hs : rd so e = 2) : TX so st on tw th nx wh kd ky p q e (fun _ => some 2) := ⟨h0, 1, h1, h2, by omega, Or.inr (Or.inl ⟨hs, rfl⟩)⟩
theorem TX_3 {w t : Int} (h0 : 0 ≤ p) (h1 : p ≤ e) (h2 : e < q) (hs : rd so e = 3) (hw : rd wh e = w + 1) (ht : rd st e = t) (hk : kd t = 27) : TX so st on tw th nx wh kd ky p q e (dVa w (ky t)) := by
  refine ⟨h0, 1, h1, h2, by omega, Or.inr (Or.inr (Or.inl ⟨hs, by rw [ht]; exact hk, ?_⟩))⟩
  rw [hw, ht, show w + 1 - 1 = w from by omega]
theorem TX_18 (h1 : p ≤ e) (h2 : e < q) (hs : rd so e = 18) (h : TX so st on tw th nx wh kd ky p q (rd on e) d) : TX so st on tw th nx wh kd ky p q e d := by
  obtain ⟨h0, f, h⟩ := h
  exact ⟨h0, f + 1, h1, h2, by omega, Or.inr (Or.inr (Or.inr (Or.inl ⟨hs, h⟩)))⟩
theorem TX_6 (h1 : p ≤ e) (h2 : e < q) (hs : rd so e = 6) (x : TX so st on tw th nx wh kd ky p q (rd on e) d1) (y : TX so st on tw th nx wh kd ky p q (rd tw e) d2) (z : TX so st on tw th nx wh kd ky p q (rd th e) d3) : TX so st on tw th nx wh kd ky p q e (dIf d1 d2 d3) := by
  obtain ⟨h0, f, x⟩ := x
  obtain ⟨-, g, y⟩ := y
  obtain ⟨-, k, z⟩ := z
  exact ⟨h0, f + g + k + 1, h1, h2, by omega, Or.inr (Or.inr (Or.inr (Or.inr (Or.inl ⟨hs, d1, d2, d3, tX_f h0 (by omega) x, tX_f h0 (by omega) y, tX_f h0 (by omega) z, rfl⟩))))⟩
theorem TX_B (h1 : p ≤ e) (h2 : e < q) (hs : rd so e = 7 ∨ rd so e = 8) (x : TX so st on tw th nx wh kd ky p q (rd on e) d1) (y : TX so st on tw th nx wh kd ky p q (rd tw e) d2) : TX so st on tw th nx wh kd ky p q e (dO 2 2 d1 d2) := by
  obtain ⟨h0, f, x⟩ := x
  obtain ⟨-, g, y⟩ := y
  exact ⟨h0, f + g + 1, h1, h2, by omega, Or.inr (Or.inr (Or.inr (Or.inr (Or.inr (Or.inl ⟨hs, d1, d2, tX_f h0 (by omega) x, tX_f h0 (by omega) y, rfl⟩)))))⟩
theorem TX_N (h1 : p ≤ e) (h2 : e < q) (hs : isNP (rd so e)) (x : TX so st on tw th nx wh kd ky p q (rd on e) d1) (y : TX so st on tw th nx wh kd ky p q (rd tw e) d2) : TX so st on tw th nx wh kd ky p q e (dO 1 1 d1 d2) := by
  obtain ⟨h0, f, x⟩ := x
  obtain ⟨-, g, y⟩ := y
  exact ⟨h0, f + g + 1, h1, h2, by omega, Or.inr (Or.inr (Or.inr (Or.inr (Or.inr (Or.inr (Or.inl ⟨hs, d1, d2, tX_f h0 (by omega) x, tX_f h0 (by omega) y, rfl⟩))))))⟩
theorem TX_10 (h1 : p ≤ e) (h2 : e < q) (hs : rd so e = 10) (x : TX so st on tw th nx wh kd ky p q (rd on e) d1) (y : TX so st on tw th nx wh kd ky p q (rd tw e) d2) : TX so st on tw th nx wh kd ky p q e (dO 1 2 d1 d2) := by
  obtain ⟨h0, f, x⟩ := x
  obtain ⟨-, g, y⟩ := y
  exact ⟨h0, f + g + 1, h1, h2, by omega, Or.inr (Or.inr (Or.inr (Or.inr (Or.inr (Or.inr (Or.inr (Or.inl ⟨hs, d1, d2, tX_f h0 (by omega) x, tX_f h0 (by omega) y, rfl⟩)))))))⟩
theorem TX_9 (h1 : p ≤ e) (h2 : e < q) (hs : rd so e = 9) (x : TX so st on tw th nx wh kd ky p q (rd on e) d1) : TX so st on tw th nx wh kd ky p q e (dC 2 2 d1) := by
  obtain ⟨h0, f, x⟩ := x
  exact ⟨h0, f + 1, h1, h2, by omega, Or.inr (Or.inr (Or.inr (Or.inr (Or.inr (Or.inr (Or.inr (Or.inr (Or.inl ⟨hs, d1, x, rfl⟩))))))))⟩
theorem TX_13 (h1 : p ≤ e) (h2 : e < q) (hs : rd so e = 13 ∨ rd so e = 14) (x : TX so st on tw th nx wh kd ky p q (rd on e) d1) : TX so st on tw th nx wh kd ky p q e (dC 1 1 d1) := by
  obtain ⟨h0, f, x⟩ := x
  exact ⟨h0, f + 1, h1, h2, by omega, Or.inr (Or.inr (Or.inr (Or.inr (Or.inr (Or.inr (Or.inr (Or.inr (Or.inr (Or.inl ⟨hs, d1, x, rfl⟩)))))))))⟩
theorem TX_4 {w t : Int} (h1 : p ≤ e) (h2 : e < q) (hs : rd so e = 4) (hw : rd wh e = w + 1) (ht : rd st e = t) (hk : kd t = 27) (x : TS so st on tw th nx wh kd ky p q e c) : TX so st on tw th nx wh kd ky p q e (dEl w (ky t) c) := by
  obtain ⟨d1, ⟨h0, f, x⟩, y⟩ := x
  rcases y with ⟨y1, y2⟩ | ⟨y1, d2, ⟨-, g, y2⟩, y3⟩
  · refine ⟨h0, f + 1, h1, h2, by omega, Or.inr (Or.inr (Or.inr (Or.inr (Or.inr (Or.inr (Or.inr (Or.inr (Or.inr (Or.inr (Or.inl ⟨hs, by rw [ht]; exact hk, d1, x, Or.inl ⟨y1, ?_⟩⟩))))))))))⟩
    rw [hw, ht, y2, show w + 1 - 1 = w from by omega]
  · refine ⟨h0, f + g + 1, h1, h2, by omega, Or.inr (Or.inr (Or.inr (Or.inr (Or.inr (Or.inr (Or.inr (Or.inr (Or.inr (Or.inr (Or.inl ⟨hs, by rw [ht]; exact hk, d1, tX_f h0 (by omega) x, Or.inr ⟨y1, d2, tX_f h0 (by omega) y2, ?_⟩⟩))))))))))⟩
    rw [hw, ht, y3, show w + 1 - 1 = w from by omega]
theorem TX_5 {w t : Int} {as : List gA} (h1 : p ≤ e) (h2 : e < q) (hs : rd so e = 5) (hw : rd wh e = w + 1) (ht : rd st e = t) (hk : kd t = 27) (x : TA so st on tw th nx wh kd ky w p q as (rd on e)) : TX so st on tw th nx wh kd ky p q e (dCa w (ky t) as) := by
  obtain ⟨h0, x⟩ := x
  obtain ⟨f, x⟩ := aL_f as p _ h0 x
  have ew : rd wh e - 1 = w := by omega
  refine ⟨h0, f + 1, h1, h2, by omega, Or.inr (Or.inr (Or.inr (Or.inr (Or.inr (Or.inr (Or.inr (Or.inr (Or.inr (Or.inr (Or.inr ⟨hs, by rw [ht]; exact hk, as, ?_, ?_⟩))))))))))⟩
  · rw [ew]
    exact x
  · rw [ew, ht]
end
