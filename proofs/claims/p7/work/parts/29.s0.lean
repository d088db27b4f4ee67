def stN (s : Int) : Prop := s = 22 ∨ s = 23 ∨ s = 24 ∨ s = 25 ∨ s = 26 ∨ s = 27 ∨ s = 29 ∨ s = 30
def lfA (a d : gV → Option Int) : gV → Option Int := fun e => (a e).bind fun t0 => (d e).bind fun t => if okN t t0 then some t0 else none
def aSg (d0 : gV → Option Int) (ds : List (gV → Option Int)) (d : gV → Option Int) : gV → Option Int := fun e => ((ds.foldl lfA d0) e).bind fun t0 => (dN t0 d e).bind fun _ => some 0
def lf1 (so st on tw th nx wh : nA) (kd ky : Int → Int) (w h l : Int) (d : gV → Option Int) : Prop := kd (rd st l) = 27 ∧ rd wh l = w + 1 ∧ ((rd so l = 3 ∧ d = dTa w (ky (rd st l))) ∨ (rd so l = 4 ∧ ∃ c, TS so st on tw th nx wh kd ky (l + 1) h l c ∧ d = dEl w (ky (rd st l)) c))
def lfS (so st on tw th nx wh : nA) (kd ky : Int → Int) (w q : Int) : List (gV → Option Int) → Int → Int → Int → Prop
  | [], _, _, _ => False
  | [d], lo, a, z => a = z ∧ lo ≤ a ∧ a < q ∧ lf1 so st on tw th nx wh kd ky w q a d
  | d :: d2 :: ds, lo, a, z => lo ≤ a ∧ a < z ∧ (∃ h, a < h ∧ h ≤ q ∧ lf1 so st on tw th nx wh kd ky w h a d ∧ lfS so st on tw th nx wh kd ky w q (d2 :: ds) h (rd nx a) z)
def nD (so st on tw th fo nx wh : nA) (kd ky : Int → Int) (r q : Int) (m : gV → Prop) : Prop := 0 ≤ r ∧ r < q ∧ noB so (r + 1) q ∧ (
  (rd so r = 22 ∧ ∃ d ds d2 z, lfS so st on tw th nx wh kd ky (rd wh r - 1) q (d :: ds) (r + 1) (rd on r) z ∧ rd nx z = -1 ∧ TX so st on tw th nx wh kd ky (r + 1) q (rd tw r) d2 ∧ m = fun e => ¬ aSg d ds d2 e = none) ∨
  (rd so r = 23 ∧ kd (rd st r) = 27 ∧ ((rd on r < 0 ∧ m = fun e => ¬ xCl e (gMe e (rd wh r - 1) (ky (rd st r))) 0 = none) ∨ (0 ≤ rd on r ∧ ∃ as, TA so st on tw th nx wh kd ky (rd wh r - 1) (r + 1) q as (rd on r) ∧ m = fun e => ¬ dCl (rd wh r - 1) (ky (rd st r)) as e = none))) ∨
  (rd so r = 24 ∧ kd (rd st r) = 27 ∧ ((rd tw r < 0 ∧ m = fun e => ¬ dLa (rd wh r - 1) (ky (rd st r)) e = none) ∨ (0 ≤ rd tw r ∧ ∃ d, TX so st on tw th nx wh kd ky (r + 1) q (rd tw r) d ∧ m = fun e => ¬ xSw e (gMe e (rd wh r - 1) (ky (rd st r))) = none ∧ ¬ dN 1 d e = none))) ∨
  (rd so r = 25 ∧ ∃ d, TX so st on tw th nx wh kd ky (r + 1) q (rd on r) d ∧ m = fun e => ¬ dN 2 d e = none) ∨
  (rd so r = 26 ∧ kd (rd st r) = 27 ∧ m = fun e => ¬ xCt e (gMe e (rd wh r - 1) (ky (rd st r))) = none) ∨
  (rd so r = 27 ∧ ∃ d, TX so st on tw th nx wh kd ky (r + 1) q (rd on r) d ∧ m = fun e => ¬ dN 1 d e = none) ∨
  (rd so r = 29 ∧ ∃ d1, TX so st on tw th nx wh kd ky (r + 1) q (rd on r) d1 ∧ ((rd fo r = 0 ∧ rd tw r < 0 ∧ rd th r < 0 ∧ m = fun e => ¬ dN 1 d1 e = none) ∨ (rd fo r = 1 ∧ 0 ≤ rd tw r ∧ 0 ≤ rd th r ∧ ∃ d2 d3, TX so st on tw th nx wh kd ky (r + 1) q (rd tw r) d2 ∧ TX so st on tw th nx wh kd ky (r + 1) q (rd th r) d3 ∧ m = fun e => ¬ dN 1 d1 e = none ∧ ¬ dN 1 d2 e = none ∧ ¬ dN 1 d3 e = none) ∨ (rd fo r = 2 ∧ 0 ≤ rd tw r ∧ rd th r < 0 ∧ ∃ d2, TX so st on tw th nx wh kd ky (r + 1) q (rd tw r) d2 ∧ m = fun e => ¬ dN 1 d1 e = none ∧ ¬ dN 2 d2 e = none))) ∨
  (rd so r = 30 ∧ ∃ d1 d2, TX so st on tw th nx wh kd ky (r + 1) q (rd on r) d1 ∧ TX so st on tw th nx wh kd ky (r + 1) q (rd tw r) d2 ∧ ((rd th r < 0 ∧ m = fun e => ¬ dN 1 d1 e = none ∧ ¬ dN 1 d2 e = none) ∨ (0 ≤ rd th r ∧ ∃ d3 d4, TX so st on tw th nx wh kd ky (r + 1) q (rd th r) d3 ∧ TX so st on tw th nx wh kd ky (r + 1) q (rd fo r) d4 ∧ m = fun e => ¬ dN 1 d1 e = none ∧ ¬ dN 1 d2 e = none ∧ ¬ dN 1 d3 e = none ∧ ¬ dN 1 d4 e = none))))
section
variable {so st on tw th fo nx wh so' st' on' tw' th' fo' nx' wh' : nA} {kd ky : Int → Int}
theorem TS_u {p q e : Int} {c : gV → Option Int} (h : TS so st on tw th nx wh kd ky p q e c) (g : aq p q so st on tw th nx wh so' st' on' tw' th' nx' wh') (h1 : rd on' e = rd on e) (h2 : rd tw' e = rd tw e) : TS so' st' on' tw' th' nx' wh' kd ky p q e c := by
  obtain ⟨d1, x, y⟩ := h
  refine ⟨d1, by rw [h1]; exact TX_u x g, ?_⟩
  rw [h2]
  rcases y with y | ⟨y1, d2, y2, y3⟩
  · exact Or.inl y
  · exact Or.inr ⟨y1, d2, TX_u y2 g, y3⟩
theorem lf1_u {w h l : Int} {d : gV → Option Int} (x : lf1 so st on tw th nx wh kd ky w h l d) (g : aq (l + 1) h so st on tw th nx wh so' st' on' tw' th' nx' wh') (g0 : rd so' l = rd so l ∧ rd st' l = rd st l ∧ rd on' l = rd on l ∧ rd tw' l = rd tw l ∧ rd wh' l = rd wh l) : lf1 so' st' on' tw' th' nx' wh' kd ky w h l d := by
  obtain ⟨e1, e2, e3, e4, e7⟩ := g0
  obtain ⟨x1, x2, x3⟩ := x
  unfold lf1
  rw [e1, e2, e7]
  refine ⟨x1, x2, x3.imp id (fun y => ?_)⟩
  obtain ⟨y1, c, y2, y3⟩ := y
  exact ⟨y1, c, TS_u y2 g e3 e4, y3⟩
theorem TS_v {p q q' e : Int} {c : gV → Option Int} (h : TS so st on tw th nx wh kd ky p q e c) (hq : q ≤ q') : TS so st on tw th nx wh kd ky p q' e c := by
  obtain ⟨d1, x, y⟩ := h
  refine ⟨d1, TX_w x x.1 (Int.le_refl _) hq, ?_⟩
  rcases y with y | ⟨y1, d2, y2, y3⟩
  · exact Or.inl y
  · exact Or.inr ⟨y1, d2, TX_w y2 y2.1 (Int.le_refl _) hq, y3⟩
theorem lf1_w {w h h2 l : Int} {d : gV → Option Int} (x : lf1 so st on tw th nx wh kd ky w h l d) (hh : h ≤ h2) : lf1 so st on tw th nx wh kd ky w h2 l d := by
  obtain ⟨x1, x2, x3⟩ := x
  refine ⟨x1, x2, x3.imp id (fun y => ?_)⟩
  obtain ⟨y1, c, y2, y3⟩ := y
  exact ⟨y1, c, TS_v y2 hh, y3⟩
theorem lfS_u {w q : Int} : ∀ (ds : List (gV → Option Int)) (lo a z : Int), 0 ≤ lo → aq lo q so st on tw th nx wh so' st' on' tw' th' nx' wh' → lfS so st on tw th nx wh kd ky w q ds lo a z → lfS so' st' on' tw' th' nx' wh' kd ky w q ds lo a z := by
  intro ds
  induction ds with
  | nil => intro lo a z _ _ h; exact h
  | cons d ds ih =>
    intro lo a z h0 g h
    cases ds with
    | nil =>
      obtain ⟨h1, h2, h3, h4⟩ := h
      obtain ⟨e1, e2, e3, e4, e5, e6, e7⟩ := g a h2 h3 (by omega)
      exact ⟨h1, h2, h3, lf1_u h4 (aq_le g (by omega) (Int.le_refl _)) ⟨e1, e2, e3, e4, e7⟩⟩
    | cons d2 ds =>
      obtain ⟨h1, h2, k, k1, k2, k3, k4⟩ := h
      obtain ⟨e1, e2, e3, e4, e5, e6, e7⟩ := g a h1 (by omega) (by omega)
      refine ⟨h1, h2, k, k1, k2, lf1_u k3 (aq_le g (by omega) k2) ⟨e1, e2, e3, e4, e7⟩, ?_⟩
      rw [e6]
      exact ih k _ z (by omega) (aq_le g (by omega) (Int.le_refl _)) k4
theorem lfS_r {w q : Int} : ∀ (ds : List (gV → Option Int)) (lo a z : Int), lfS so st on tw th nx wh kd ky w q ds lo a z → lo ≤ a ∧ a ≤ z ∧ z < q := by
  intro ds
  induction ds with
  | nil => intro lo a z h; exact h.elim
  | cons d ds ih =>
    intro lo a z h
    cases ds with
    | nil => obtain ⟨h1, h2, h3, h4⟩ := h; omega
    | cons d2 ds =>
      obtain ⟨h1, h2, k, k1, k2, k3, k4⟩ := h
      have := ih _ _ _ k4
      omega
theorem lfS_s {w q q2 : Int} {d : gV → Option Int} {i l : Int32} : ∀ (ds : List (gV → Option Int)) (lo a : Int), 0 ≤ lo → 0 ≤ i.toInt → q ≤ l.toInt → l.toInt < q2 → lfS so st on tw th nx wh kd ky w q ds lo a i.toInt → lf1 so st on tw th (upd nx i.toNatClampNeg l) wh kd ky w q2 l.toInt d → lfS so st on tw th (upd nx i.toNatClampNeg l) wh kd ky w q2 (ds ++ [d]) lo a l.toInt := by
  intro ds
  induction ds with
  | nil => intro lo a _ _ _ _ h; exact h.elim
  | cons x ds ih =>
    intro lo a h0 hi hq hl h hd
    cases ds with
    | nil =>
      obtain ⟨h1, h2, h3, h4⟩ := h
      refine ⟨h2, by omega, q, by omega, by omega, ?_, by rw [h1, rd_s hi], by rw [h1, rd_s hi]; omega, by rw [h1, rd_s hi]; exact hl, by rw [h1, rd_s hi]; exact hd⟩
      refine lf1_u h4 (fun c a1 a2 a3 => ⟨rfl, rfl, rfl, rfl, rfl, rd_n hi a3 (by omega), rfl⟩) ⟨rfl, rfl, rfl, rfl, rfl⟩
    | cons d2 ds =>
      obtain ⟨h1, h2, k, k1, k2, k3, k4⟩ := h
      have r := lfS_r _ _ _ _ k4
      refine ⟨h1, by omega, k, k1, by omega, lf1_u k3 (fun c a1 a2 a3 => ⟨rfl, rfl, rfl, rfl, rfl, rd_n hi a3 (by omega), rfl⟩) ⟨rfl, rfl, rfl, rfl, rfl⟩, ?_⟩
      rw [rd_n hi (by omega) (by omega)]
      exact ih k _ (by omega) hi hq hl k4 hd
def aq8 (p q : Int) (so st on tw th fo nx wh so' st' on' tw' th' fo' nx' wh' : nA) : Prop := aq p q so st on tw th nx wh so' st' on' tw' th' nx' wh' ∧ ∀ c : Int, p ≤ c → c < q → 0 ≤ c → rd fo' c = rd fo c
theorem noB_u {p q : Int} (h : noB so p q) (g : aq p q so st on tw th nx wh so' st' on' tw' th' nx' wh') : noB so' p q := fun e e0 e1 e2 => by
  rw [(g e e1 e2 e0).1]
  exact h e e0 e1 e2
theorem nD_u {r q : Int} {m : gV → Prop} (h : nD so st on tw th fo nx wh kd ky r q m) (g : aq (r + 1) q so st on tw th nx wh so' st' on' tw' th' nx' wh') (g0 : rd so' r = rd so r ∧ rd st' r = rd st r ∧ rd wh' r = rd wh r ∧ rd on' r = rd on r) (g1 : ¬ rd so r = 25 → ¬ rd so r = 26 → rd tw' r = rd tw r ∧ rd th' r = rd th r ∧ rd fo' r = rd fo r) : nD so' st' on' tw' th' fo' nx' wh' kd ky r q m := by
  obtain ⟨h0, h1, hb, h⟩ := h
  obtain ⟨e1, e2, e7, e3⟩ := g0
  have U : ∀ {x : Int} {d : gV → Option Int}, TX so st on tw th nx wh kd ky (r + 1) q x d → TX so' st' on' tw' th' nx' wh' kd ky (r + 1) q x d := fun z => TX_u z g
  refine ⟨h0, h1, noB_u hb g, ?_⟩
  rw [e1, e2, e7, e3]
  rcases h with h | h | h | h | h | h | h | h
  · obtain ⟨e4, e5, e6⟩ := g1 (by omega) (by omega)
    obtain ⟨s, d, ds, d2, z, y1, y2, y3, y4⟩ := h
    rw [e4]
    have r1 := lfS_r _ _ _ _ y1
    exact Or.inl ⟨s, d, ds, d2, z, lfS_u _ _ _ _ (by omega) g y1, (g z (by omega) (by omega) (by omega)).2.2.2.2.2.1.trans y2, U y3, y4⟩
  · obtain ⟨s, k, h⟩ := h
    refine Or.inr (Or.inl ⟨s, k, h.imp id (fun y => ?_)⟩)
    obtain ⟨y0, as, y1, y2⟩ := y
    exact ⟨y0, as, TA_u y1 g, y2⟩
  · obtain ⟨e4, e5, e6⟩ := g1 (by omega) (by omega)
    rw [e4]
    obtain ⟨s, k, h⟩ := h
    refine Or.inr (Or.inr (Or.inl ⟨s, k, h.imp id (fun y => ?_)⟩))
    obtain ⟨y0, d, y1, y2⟩ := y
    exact ⟨y0, d, U y1, y2⟩
  · obtain ⟨s, d, y1, y2⟩ := h
    exact Or.inr (Or.inr (Or.inr (Or.inl ⟨s, d, U y1, y2⟩)))
  · exact Or.inr (Or.inr (Or.inr (Or.inr (Or.inl h))))
  · obtain ⟨s, d, y1, y2⟩ := h
    exact Or.inr (Or.inr (Or.inr (Or.inr (Or.inr (Or.inl ⟨s, d, U y1, y2⟩)))))
  · obtain ⟨e4, e5, e6⟩ := g1 (by omega) (by omega)
    rw [e4, e5, e6]
    obtain ⟨s, d, y1, y2⟩ := h
    refine Or.inr (Or.inr (Or.inr (Or.inr (Or.inr (Or.inr (Or.inl ⟨s, d, U y1, ?_⟩))))))
    rcases y2 with y2 | ⟨z0, z1, z2, d2, d3, z3, z4, z5⟩ | ⟨z0, z1, z2, d2, z3, z4⟩
    · exact Or.inl y2
    · exact Or.inr (Or.inl ⟨z0, z1, z2, d2, d3, U z3, U z4, z5⟩)
    · exact Or.inr (Or.inr ⟨z0, z1, z2, d2, U z3, z4⟩)
  · obtain ⟨e4, e5, e6⟩ := g1 (by omega) (by omega)
    rw [e4, e5, e6]
    obtain ⟨s, d, d2, y1, y2, y3⟩ := h
    refine Or.inr (Or.inr (Or.inr (Or.inr (Or.inr (Or.inr (Or.inr ⟨s, d, d2, U y1, U y2, ?_⟩))))))
    rcases y3 with y3 | ⟨z0, d3, d4, z3, z4, z5⟩
    · exact Or.inl y3
    · exact Or.inr ⟨z0, d3, d4, U z3, U z4, z5⟩
end
def uR (F : Option (Int × gB)) (xa : Int) (so st on tw th fo nx wh : nA) (kd ky : Int → Int) (r q : Int) : Prop := ∃ a, F = some a ∧ xa = a.1 ∧ a.2.2.1 = [] ∧ nD so st on tw th fo nx wh kd ky r q (fun e => ¬ a.2.2.2.2 e = none)
def gBds (kd : Int → Int) (X : Int → gR) (i : Int) : Option (Int × gB × Int) := (tkn kd 36 i).bind fun i => (gBnd kd X i).bind fun r =>
  if kd r.1 = 38 then (gBnd kd X (r.1 + 1)).bind fun s => (tkn kd 37 s.1).bind fun j => some (j, bSq r.2 s.2, 2) else (tkn kd 37 r.1).bind fun j => some (j, r.2, 1)
def bR3 (F : Option (Int × gB × Int)) (xa : Int) (so st on tw th fo nx wh : nA) (kd ky : Int → Int) (r q : Int) : Prop := ∃ a, F = some a ∧ xa = a.1 ∧ a.2.1.2.1 = [] ∧ ((a.2.2 = 1 ∧ rd th r < 0) ∨ (a.2.2 = 2 ∧ 0 ≤ rd th r)) ∧ nD so st on tw th fo nx wh kd ky r q (fun e => ¬ a.2.1.2.2.2 e = none)
def gNmS (kd ky : Int → Int) (lo : gL) (w i : Int) : Option (Int × gB) := if kd (i + 1) = 47 ∨ kd (i + 1) = 36 then gAsn kd ky lo w i else gCll kd ky lo w i
section
variable {e : gV} {a b : gB} {d : gD} {ty : Int} {α β : Type} {o : Option α} {K : α → Option β}
theorem bd_n : ¬ (o.bind K = none) ↔ ∃ x, o = some x ∧ ¬ K x = none := by
  cases o with
  | none => exact ⟨fun h => absurd rfl h, fun ⟨x, h, _⟩ => by cases h⟩
  | some x => exact ⟨fun h => ⟨x, rfl, h⟩, fun ⟨y, h, k⟩ => by cases h; exact k⟩
theorem on_s : ¬ o = none ↔ ∃ x, o = some x := by
  cases o with
  | none => exact ⟨fun h => absurd rfl h, fun ⟨x, h⟩ => by cases h⟩
  | some x => exact ⟨fun _ => ⟨x, rfl⟩, fun _ h => by cases h⟩
theorem bSq_n : ¬ (bSq a b).2.2.2 e = none ↔ ¬ a.2.2.2 e = none ∧ ¬ b.2.2.2 e = none := by
  show ¬ ((a.2.2.2 e).bind fun _ => b.2.2.2 e) = none ↔ _
  rw [bd_n, on_s (o := a.2.2.2 e)]
  exact ⟨fun ⟨x, h, k⟩ => ⟨⟨x, h⟩, k⟩, fun ⟨⟨x, h⟩, k⟩ => ⟨x, h, k⟩⟩
theorem bEx_n : ¬ (bEx ty d).2.2.2 e = none ↔ ¬ dN ty d.2.2 e = none := by
  show ¬ ((dN ty d.2.2 e).bind fun _ => some 0) = none ↔ _
  rw [bd_n, on_s (o := dN ty d.2.2 e)]
  exact ⟨fun ⟨x, h, k⟩ => ⟨x, h⟩, fun ⟨x, h⟩ => ⟨x, h, fun q => by cases q⟩⟩
end
