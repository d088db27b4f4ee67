def chW (T : gV) : Nat → Int → List Int
  | 0, _ => []
  | f + 1, k => if 0 ≤ k then k :: chW T f (nX T k) else []
def bkS (T : gV) : Nat → Int → Int
  | 0, _ => 0
  | f + 1, k => if 0 ≤ k then ((chW T 1501 (vF T (nH T k))).length : Int) + bkS T f (nX T k) else 0
def bkL (T : gV) (s : Int) : Int := ((chW T 1501 (vF T s)).length : Int) + bkS T 1501 (vF T s)
abbrev isHd (T : gV) (s : Int) : Prop := 0 ≤ s ∧ nH T (sPr T s) = s
def bkN (T : gV) : Nat → Int
  | 0 => 0
  | n + 1 => bkN T n + (if isHd T (n : Int) then 0 else bkL T (n : Int))
section
variable {T : gV} {v v2 i i2 A w w2 c : Int}
theorem ch_s (h0 : 0 ≤ v) (h3 : 0 ≤ i) (h4 : i < 1501) (h5 : i2 = i + 1) (hx : v2 = nX T v) : chW T (1501 - i).toNat v = v :: chW T (1501 - i2).toNat v2 := by
  rw [show (1501 - i).toNat = (1501 - i2).toNat + 1 by omega, hx]
  show (if 0 ≤ v then _ else _) = _
  rw [if_pos h0]
theorem ch_n (h : 1501 ≤ i ∨ ¬ 0 ≤ v) : chW T (1501 - i).toNat v = [] := by
  by_cases hi : 1501 ≤ i
  · rw [show (1501 - i).toNat = 0 by omega]
    rfl
  · obtain ⟨f, hf⟩ : ∃ f : Nat, (1501 - i).toNat = f + 1 := ⟨(1501 - i).toNat - 1, by omega⟩
    rw [hf]
    show (if 0 ≤ v then _ else _) = _
    rw [if_neg (by omega)]
theorem nc_s (h : A = w + ((chW T (1501 - i).toNat v).length : Int)) (h0 : 0 ≤ v) (h3 : 0 ≤ i) (h4 : i < 1501) (h5 : i2 = i + 1) (hx : v2 = nX T v) (hw : w2 = w + 1) : A = w2 + ((chW T (1501 - i2).toNat v2).length : Int) := by
  rw [h, ch_s h0 h3 h4 h5 hx, List.length_cons]
  omega
theorem nc_x (h : A = w + ((chW T (1501 - i).toNat v).length : Int)) (hx : 1501 ≤ i ∨ ¬ 0 ≤ v) : w = A := by
  rw [h, ch_n hx]
  show w = w + ((0 : Nat) : Int)
  omega
theorem bs_s (h : A = w + bkS T (1501 - i).toNat v) (h0 : 0 ≤ v) (h3 : 0 ≤ i) (h4 : i < 1501) (h5 : i2 = i + 1) (hx : v2 = nX T v) (hw : w2 = w + ((chW T 1501 c).length : Int)) (hc : c = vF T (nH T v)) : A = w2 + bkS T (1501 - i2).toNat v2 := by
  rw [h, show (1501 - i).toNat = (1501 - i2).toNat + 1 by omega, hx, hw, hc]
  show w + (if 0 ≤ v then _ else _) = _
  rw [if_pos h0]
  omega
theorem bs_x (h : A = w + bkS T (1501 - i).toNat v) (hx : 1501 ≤ i ∨ ¬ 0 ≤ v) : w = A := by
  by_cases hi : 1501 ≤ i
  · rw [h, show (1501 - i).toNat = 0 by omega]
    show w = w + 0
    omega
  · obtain ⟨f, hf⟩ : ∃ f : Nat, (1501 - i).toNat = f + 1 := ⟨(1501 - i).toNat - 1, by omega⟩
    rw [h, hf]
    show w = w + (if 0 ≤ v then _ else _)
    rw [if_neg (by omega)]
    omega
theorem bn_h (h : w = bkN T v.toNat) (h0 : 0 ≤ v) (h2 : v2 = v + 1) (hh : isHd T v) : w = bkN T v2.toNat := by
  rw [h, show v2.toNat = v.toNat + 1 by omega]
  show _ = bkN T v.toNat + (if isHd T (v.toNat : Int) then 0 else bkL T (v.toNat : Int))
  rw [show ((v.toNat : Nat) : Int) = v by omega, if_pos hh]
  omega
theorem bn_b (h : w = bkN T v.toNat) (h0 : 0 ≤ v) (h2 : v2 = v + 1) (hh : ¬ isHd T v) (hw : w2 = w + bkL T v) : w2 = bkN T v2.toNat := by
  rw [hw, h, show v2.toNat = v.toNat + 1 by omega]
  show _ = bkN T v.toNat + (if isHd T (v.toNat : Int) then 0 else bkL T (v.toNat : Int))
  rw [show ((v.toNat : Nat) : Int) = v by omega, if_neg hh]
end
def gJ (T0 : gV) (kd ky pl : Int → Int) : Option (gV × List (Int × Int)) := (gPrg kd ky 333).bind fun a => if (gRun pl a.2.2.2.2.1 (T0, 3001)).2 = 3001 ∧ (a.2.2.2.2.2.2 (gRun pl a.2.2.2.2.1 (T0, 3001)).1).isSome = true then some ((gRun pl a.2.2.2.2.1 (T0, 3001)).1, a.2.2.2.1) else none
def jR (o : Option (gV × List (Int × Int))) (on on' ow ow' : Int) : Prop := (o = none → on' = on ∧ ow' = ow) ∧ (∀ x, o = some x → ¬ ow' = 0 ∧ on' = bkN x.1 (x.1 11 0).toNat)
section
variable {kd ky pl : Int → Int}
theorem rAll_w {T : gV} : ∀ (f : Nat) (k sw : Int), rAll T f k sw ≤ sw := by
  intro f
  induction f with
  | zero => intro k sw; exact Int.le_refl _
  | succ f ih =>
    intro k sw
    show (if 0 ≤ k then rAll T f (nX T k) (if nK T k = 0 then min sw (gG (T 12) (T 10 0) 0 k) else sw) else sw) ≤ sw
    by_cases h : 0 ≤ k
    · rw [if_pos h]
      refine Int.le_trans (ih _ _) ?_
      by_cases h2 : nK T k = 0
      · rw [if_pos h2]
        exact Int.min_le_left _ _
      · rw [if_neg h2]
        exact Int.le_refl _
    · rw [if_neg h]
      exact Int.le_refl _
theorem gRn1_w (x : gW) (v : gE) : (gRn1 pl x v).2 ≤ x.2 := by
  obtain ⟨c, a1, a2, a3, a4, a5⟩ := v
  match c with
  | 0 =>
    show (if _ then min x.2 (pl a2) else x.2) ≤ x.2
    split
    · exact Int.min_le_left _ _
    · exact Int.le_refl _
  | 1 => exact Int.le_refl _
  | 2 => exact Int.le_refl _
  | 3 => exact Int.le_refl _
  | 4 => exact Int.le_refl _
  | 5 => exact Int.le_refl _
  | 6 =>
    show (if _ then _ else _ : gW).2 ≤ x.2
    split
    · exact Int.min_le_left _ _
    · exact Int.le_refl _
  | 7 =>
    show (if _ then _ else _ : gW).2 ≤ x.2
    split
    · exact Int.min_le_left _ _
    · show (if _ then _ else _) ≤ x.2
      split
      · exact Int.min_le_left _ _
      · exact Int.le_refl _
  | n + 8 => exact rAll_w _ _ _
theorem gRun_w : ∀ (vs : List gE) (x : gW), (gRun pl vs x).2 ≤ x.2 := by
  intro vs
  induction vs with
  | nil => intro x; exact Int.le_refl _
  | cons v vs ih => intro x; exact Int.le_trans (ih (gRn1 pl x v)) (gRn1_w x v)
variable {T0 T1 T2 : gV} {tf1 tf2 sw1 sw2 so1 so2 ks1 ks2 sc1 sc2 ta1 ta2 on ow r : Int} {m m1 m2 : Nat → Int32}
theorem J_n {R : Int × Int × Int × gB → Prop} (h : cQ (gPrg kd ky 333) (-2) tf1 R) (hn : ¬ tf1 = -2) : gJ T0 kd ky pl = none := by
  unfold gJ
  cases e : gPrg kd ky 333 with
  | none => rfl
  | some a => exact absurd ((h.2 rfl).1 a e).1 hn
theorem J_r (h : gJ T0 kd ky pl = none) : jR (gJ T0 kd ky pl) on on ow ow := ⟨fun _ => ⟨rfl, rfl⟩, fun x hx => by rw [h] at hx; cases hx⟩
theorem J_a (h : cQ (gPrg kd ky 333) (-2) tf1 (rB pl ky 0 T0 T1 3001 sw1 m m1 0 so1 ks1 (-1) sc1 ta1)) (hf : tf1 = -2) (hk : plK kd pl) (h3 : ta1 ≤ 3000) (z0 : T0 10 0 = 0) (z1 : T0 11 0 = 0) : ∃ a, gPrg kd ky 333 = some a ∧ gRun pl a.2.2.2.2.1 (T0, 3001) = (T1, sw1) ∧ sw1 ≤ 3001 ∧ okPar T1 (gPs a) 0 := by
  cases e : gPrg kd ky 333 with
  | none => exact absurd hf ((h.2 rfl).2 e)
  | some a =>
    obtain ⟨-, q⟩ := (h.2 rfl).1 a e
    obtain ⟨q1, q2, q3, q4, q5, q6⟩ := q
    have g := prg_1 hk e (by omega) q6 z0 z1
    refine ⟨a, rfl, g.1, ?_, g.2.2.2.2.1⟩
    have w := gRun_w (pl := pl) a.2.2.2.2.1 (T0, 3001)
    rw [g.1] at w
    exact w
theorem J_k (h : cQ (gPrg kd ky 333) (-2) tf1 (rB pl ky 0 T0 T1 3001 sw1 m m1 0 so1 ks1 (-1) sc1 ta1)) (hf : tf1 = -2) (hk : plK kd pl) (h3 : ta1 ≤ 3000) (z0 : T0 10 0 = 0) (z1 : T0 11 0 = 0) : oK (gPrg kd ky 333) T1 sw1 0 := by
  obtain ⟨a, g1, g2, g3, g4⟩ := J_a h hf hk h3 z0 z1
  exact ⟨g3, a, g1, g4⟩
theorem J_b (h : cQ (gPrg kd ky 333) (-2) tf1 (rB pl ky 0 T0 T1 3001 sw1 m m1 0 so1 ks1 (-1) sc1 ta1)) (hf : tf1 = -2) (hk : plK kd pl) (h3 : ta1 ≤ 3000) (z0 : T0 10 0 = 0) (z1 : T0 11 0 = 0) (g : cQ (gPrg kd ky 333) tf1 tf2 (rB pl ky 1 T1 T2 sw1 sw2 m1 m2 0 so2 ks2 (-1) sc2 ta2)) : T2 = T1 ∧ ((sw2 ≤ 3000 ∧ gJ T0 kd ky pl = none) ∨ (sw2 = 3001 ∧ ∃ us, gJ T0 kd ky pl = some (T1, us) ∧ m2 = gUse T1 pl ky us m)) := by
  obtain ⟨a, g1, g2, g3, g4⟩ := J_a h hf hk h3 z0 z1
  have em : m1 = m := by
    obtain ⟨-, q⟩ := (h.2 rfl).1 a g1
    obtain ⟨q1, q2, q3, q4, q5, q6⟩ := q
    exact (q6.1 rfl).1
  subst em
  obtain ⟨-, q⟩ := (g.2 hf).1 a g1
  obtain ⟨q1, q2, q3, q4, q5, q6⟩ := q
  obtain ⟨e2, x⟩ := q6.2 (by decide) g3
  refine ⟨e2, ?_⟩
  have ej : gJ T0 kd ky pl = if sw1 = 3001 ∧ (a.2.2.2.2.2.2 T1).isSome = true then some (T1, a.2.2.2.1) else none := by
    unfold gJ
    rw [g1]
    show (if (gRun pl a.2.2.2.2.1 (T0, 3001)).2 = 3001 ∧ (a.2.2.2.2.2.2 (gRun pl a.2.2.2.2.1 (T0, 3001)).1).isSome = true then some ((gRun pl a.2.2.2.2.1 (T0, 3001)).1, a.2.2.2.1) else none) = _
    rw [g2]
  obtain ⟨x1, x2⟩ := x.2.2 (by decide)
  cases e : a.2.2.2.2.2.2 T1 with
  | none =>
    refine Or.inl ⟨x1 e, ?_⟩
    rw [ej, e]
    exact if_neg (fun z => by cases z.2)
  | some t =>
    obtain ⟨y1, y2, -⟩ := x2 t e
    by_cases c : sw1 = 3001
    · refine Or.inr ⟨by omega, a.2.2.2.1, ?_, y2⟩
      rw [ej, e]
      exact if_pos ⟨c, rfl⟩
    · refine Or.inl ⟨by omega, ?_⟩
      rw [ej]
      exact if_neg (fun z => c z.1)
theorem J_y {on' : Int} {us : List (Int × Int)} (h : gJ T0 kd ky pl = some (T1, us)) (hw : ¬ r = 0) (ho : on' = bkN T1 (T1 11 0).toNat) : jR (gJ T0 kd ky pl) on on' ow r := ⟨fun e => (by rw [h] at e; cases e), fun x hx => (by rw [h] at hx; cases hx; exact ⟨hw, ho⟩)⟩
end
