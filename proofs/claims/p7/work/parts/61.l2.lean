def rw5 (f : nA) (w : Nat) : nA := fun n => f (5 * n + w)
def jT (f34 f28 f29 f30 f31 f32 nu td : nA) : Prop := f34 = nu ∧ (∀ j : Nat, 0 ≤ (f34 j).toInt ∧ (f34 j).toInt ≤ 1500) ∧ f28 = rw5 td 0 ∧ f29 = rw5 td 1 ∧ f30 = rw5 td 2 ∧ f31 = rw5 td 3 ∧ f32 = rw5 td 4
def bdS (x : sGv) : Prop := 0 ≤ x.1 ∧ ∀ j : Nat, 0 ≤ (x.2 j).toInt ∧ (x.2 j).toInt ≤ 1500
def gdF (F : sGv → sGv) : Prop := ∀ x : sGv, x.1 ≤ (F x).1 ∧ (bdS x → (F x).1 ≤ 1501 → bdS (F x))
section
variable {T : gV} {F G : sGv → sGv}
theorem gd_i : gdF (fun x => x) := fun x => ⟨Int.le_refl _, fun h _ => h⟩
theorem gd_c (hF : gdF F) (hG : gdF G) : gdF (fun x => G (F x)) := fun x => by
  have a := (hF x).1
  have b := (hG (F x)).1
  refine ⟨show x.1 ≤ (G (F x)).1 by omega, fun h h2 => ?_⟩
  have h2 : (G (F x)).1 ≤ 1501 := h2
  exact (hG (F x)).2 ((hF x).2 h (by omega)) h2
theorem gd_g {k : Int} : gdF (giv k) := fun x => by
  refine ⟨by show x.1 ≤ x.1 + 1; omega, fun h h2 => ?_⟩
  have h2 : x.1 + 1 ≤ 1501 := h2
  have h0 := h.1
  refine ⟨by show 0 ≤ x.1 + 1; omega, fun j => ?_⟩
  show 0 ≤ (upd x.2 k.toNat (Int32.ofInt x.1) j).toInt ∧ (upd x.2 k.toNat (Int32.ofInt x.1) j).toInt ≤ 1500
  unfold upd
  by_cases c : j = k.toNat
  · rw [if_pos c, Int32.toInt_ofInt_of_le (by omega) (by omega)]
    omega
  · rw [if_neg c]
    exact h.2 j
theorem gd_f {st : Int → sGv → sGv} (h : ∀ k, gdF (st k)) : ∀ (f : Nat) (k : Int), gdF (cfo T st f k)
  | 0, _ => gd_i
  | f + 1, k => fun x => by
    show x.1 ≤ (if 0 ≤ k then cfo T st f (nX T k) (st k x) else x).1 ∧ (bdS x → (if 0 ≤ k then cfo T st f (nX T k) (st k x) else x).1 ≤ 1501 → bdS (if 0 ≤ k then cfo T st f (nX T k) (st k x) else x))
    by_cases c : 0 ≤ k
    · rw [if_pos c]
      exact gd_c (h k) (gd_f h f (nX T k)) x
    · rw [if_neg c]
      exact gd_i x
theorem gd_h {k : Int} : gdF (nhF T k) := gd_f (st := giv) (fun _ => gd_g) _ _
theorem gd_b {s : Int} : gdF (nbF T s) := gd_c (F := cfo T giv 1501 (vF T s)) (G := cfo T (nhF T) 1501 (vF T s)) (gd_f (fun _ => gd_g) _ _) (gd_f (fun _ => gd_h) _ _)
theorem gd_w : ∀ n : Nat, gdF (nwF T n)
  | 0 => gd_i
  | n + 1 => fun x => by
    show x.1 ≤ (if isHd T (n : Int) then nwF T n x else nbF T (n : Int) (nwF T n x)).1 ∧ (bdS x → (if isHd T (n : Int) then nwF T n x else nbF T (n : Int) (nwF T n x)).1 ≤ 1501 → bdS (if isHd T (n : Int) then nwF T n x else nbF T (n : Int) (nwF T n x)))
    by_cases c : isHd T (n : Int)
    · rw [if_pos c]
      exact gd_w n x
    · rw [if_neg c]
      exact gd_c (gd_w n) gd_b x
theorem cpL_c {nu nu' v v' : Int → Int} {f : nA} : ∀ n : Nat, (∀ k : Int, 0 ≤ k → k < (n : Int) → nu k = nu' k ∧ v k = v' k) → cpL nu v n f = cpL nu' v' n f
  | 0, _ => rfl
  | n + 1, h => by
    obtain ⟨a, b⟩ := h (n : Int) (by omega) (by omega)
    show cpU _ _ (cpL nu v n f) = cpU _ _ (cpL nu' v' n f)
    rw [cpL_c n (fun k x y => h k x (by omega)), a, b]
theorem rw_u {a v : Int} {w i : Nat} {f : nA} (h0 : 0 ≤ a) (hw : w < 5) (hi : i < 5) : rw5 (upd f (5 * a + (i : Int)).toNat (Int32.ofInt v)) w = if i = w then upd (rw5 f w) a.toNat (Int32.ofInt v) else rw5 f w := by
  funext n
  show (if 5 * n + w = (5 * a + (i : Int)).toNat then _ else _) = _
  by_cases c : i = w
  · rw [if_pos c]
    show _ = (if n = a.toNat then _ else _)
    by_cases d : n = a.toNat
    · rw [if_pos (by omega), if_pos d]
    · rw [if_neg (by omega), if_neg d]
      rfl
  · rw [if_neg c, if_neg (by omega)]
    rfl
theorem rw_U {a v0 v1 v2 v3 v4 : Int} {w : Nat} {f : nA} (h0 : 0 ≤ a) (h1 : a < 1501) (hw : w < 5) : rw5 (tdU a v0 v1 v2 v3 v4 f) w = cpU a (if w = 0 then v0 else if w = 1 then v1 else if w = 2 then v2 else if w = 3 then v3 else v4) (rw5 f w) := by
  have e0 : (5 * a).toNat = (5 * a + ((0 : Nat) : Int)).toNat := by congr 1; omega
  unfold tdU cpU
  rw [if_pos ⟨h0, h1⟩, e0]
  show rw5 (upd (upd (upd (upd (upd f (5 * a + ((0 : Nat) : Int)).toNat (Int32.ofInt v0)) (5 * a + ((1 : Nat) : Int)).toNat (Int32.ofInt v1)) (5 * a + ((2 : Nat) : Int)).toNat (Int32.ofInt v2)) (5 * a + ((3 : Nat) : Int)).toNat (Int32.ofInt v3)) (5 * a + ((4 : Nat) : Int)).toNat (Int32.ofInt v4)) w = _
  rw [rw_u h0 hw (by decide), rw_u h0 hw (by decide), rw_u h0 hw (by decide), rw_u h0 hw (by decide), rw_u h0 hw (by decide)]
  match w, hw with
  | 0, _ => rfl
  | 1, _ => rfl
  | 2, _ => rfl
  | 3, _ => rfl
  | 4, _ => rfl
  | n + 5, h => exact absurd h (by omega)
theorem rw_L {nu v0 v1 v2 v3 v4 : Int → Int} {w : Nat} {f : nA} (hw : w < 5) : ∀ n : Nat, (∀ k : Int, 0 ≤ k → k < (n : Int) → 0 ≤ nu k ∧ nu k < 1501) → rw5 (tdL nu v0 v1 v2 v3 v4 n f) w = cpL nu (fun k => if w = 0 then v0 k else if w = 1 then v1 k else if w = 2 then v2 k else if w = 3 then v3 k else v4 k) n (rw5 f w)
  | 0, _ => rfl
  | n + 1, h => by
    have z := h (n : Int) (by omega) (by omega)
    show rw5 (tdU _ _ _ _ _ _ (tdL nu v0 v1 v2 v3 v4 n f)) w = cpU _ _ (cpL nu _ n (rw5 f w))
    rw [rw_U z.1 z.2 hw, rw_L hw n (fun k a b => h k a (by omega))]
end
section
variable {o : Option (gV × List (Int × Int))} {on' xy' : Int} {f34 f34' f28 f28' f29 f29' f30 f30' f31 f31' f32 f32' f33 f33' nu nu' td td' : nA}
theorem jT_0 : jT (fun _ : Nat => (0 : Int32)) (fun _ : Nat => (0 : Int32)) (fun _ : Nat => (0 : Int32)) (fun _ : Nat => (0 : Int32)) (fun _ : Nat => (0 : Int32)) (fun _ : Nat => (0 : Int32)) (fun _ : Nat => (0 : Int32)) (fun _ : Nat => (0 : Int32)) := ⟨rfl, fun _ => ⟨(show 0 ≤ (0 : Int32).toInt by decide), (show (0 : Int32).toInt ≤ 1500 by decide)⟩, rfl, rfl, rfl, rfl, rfl⟩
theorem jT_s (h : jT f34 f28 f29 f30 f31 f32 nu td) (h1 : jR6 o on' f34 f34' f28 f28' f29 f29' f30 f30' f31 f31' f32 f32' f33 f33') (h2 : jM6 o xy' nu nu' td td') (hn : on' ≤ 1501) : jT f34' f28' f29' f30' f31' f32' nu' td' := by
  cases e : o with
  | none =>
    obtain ⟨a1, a2, a3, a4, a5, a6, a7⟩ := h1.1 e
    obtain ⟨b1, b2⟩ := h2.1 e
    rw [a1, a2, a3, a4, a5, a6, b1, b2]
    exact h
  | some x =>
    obtain ⟨g, a1, a2, a3, a4, a5, a6, a7⟩ := h1.2 x e
    obtain ⟨b0, b1, b2⟩ := h2.2 x e
    obtain ⟨c1, c2, c3, c4, c5, c6, c7⟩ := h
    have e34 : f34' = nu' := by
      rw [← c1, ← a1] at b1
      exact (congrArg Prod.snd b1)
    have bd : bdS ((on', f34') : sGv) := by
      have z := (gd_w (T := x.1) (x.1 11 0).toNat ((0, f34) : sGv)).2 ⟨Int.le_refl _, c2⟩
      rw [← a1] at z
      exact z hn
    have nk : ∀ k : Int, 0 ≤ k → k < (((x.1 10 0).toNat : Nat) : Int) → nuO f34' k = rd nu' k := fun k k0 k1 => by
      rw [e34]
      exact if_pos ⟨k0, by omega⟩
    have nb : ∀ k : Int, 0 ≤ k → k < (((x.1 10 0).toNat : Nat) : Int) → 0 ≤ rd nu' k ∧ rd nu' k < 1501 := fun k k0 k1 => by
      rw [← e34]
      have t : 0 ≤ (f34' k.toNat).toInt ∧ (f34' k.toNat).toInt ≤ 1500 := bd.2 k.toNat
      exact ⟨t.1, show (f34' k.toNat).toInt < 1501 by omega⟩
    refine ⟨e34, bd.2, ?_, ?_, ?_, ?_, ?_⟩
    · rw [a2, ← b2, rw_L (by decide) _ nb, ← c3]
      exact cpL_c _ (fun k k0 k1 => ⟨nk k k0 k1, rfl⟩)
    · rw [a3, ← b2, rw_L (by decide) _ nb, ← c4]
      exact cpL_c _ (fun k k0 k1 => ⟨nk k k0 k1, rfl⟩)
    · rw [a4, ← b2, rw_L (by decide) _ nb, ← c5]
      exact cpL_c _ (fun k k0 k1 => ⟨nk k k0 k1, rfl⟩)
    · rw [a5, ← b2, rw_L (by decide) _ nb, ← c6]
      exact cpL_c _ (fun k k0 k1 => ⟨nk k k0 k1, rfl⟩)
    · rw [a6, ← b2, rw_L (by decide) _ nb, ← c7]
      exact cpL_c _ (fun k k0 k1 => ⟨nk k k0 k1, by rw [e34]; rfl⟩)
theorem jT_q {ow on xy p q p' q' r r' : Int} (h : jT f34 f28 f29 f30 f31 f32 nu td) (hE : jE ow on xy) (hp : p' = p) (hq : q' = q) (h1 : tlC ow on f28 f29 f30 f31 f32 p q r) (h2 : tlM xy td p' q' r') : r = r' := by
  subst hp hq
  obtain ⟨c1, c2, c3, c4, c5, c6, c7⟩ := h
  by_cases w : p' = p' ∧ (q' < 0 ∨ 4 < q')
  · rw [h1.1 w.2, h2.1 w.2]
  · have w2 : 0 ≤ q' ∧ q' ≤ 4 := by
      have : ¬ (q' < 0 ∨ 4 < q') := fun z => w ⟨rfl, z⟩
      omega
    have g1 := h1.2 w2
    have g2 := h2.2 w2
    by_cases d : ow = 0 ∨ p' < 0 ∨ on ≤ p'
    · rw [g1.1 d]
      refine (g2.2 (fun z => ?_)).symm
      rcases hE with ⟨a, b⟩ | ⟨a, b, c⟩ <;> omega
    · have d2 : ¬ ow = 0 ∧ 0 ≤ p' ∧ p' < on := by omega
      rw [g1.2 d2]
      have d3 : 0 ≤ p' ∧ p' < xy := by rcases hE with ⟨a, b⟩ | ⟨a, b, c⟩ <;> omega
      rw [g2.1 d3]
      unfold abV
      rw [c3, c4, c5, c6, c7]
      have hr : ∀ w : Nat, w < 5 → rI (rw5 td w) p'.toNat = rd td (5 * p' + (w : Int)) := fun w _ => by
        show (td (5 * p'.toNat + w)).toInt = (td (5 * p' + (w : Int)).toNat).toInt
        rw [show (5 * p' + (w : Int)).toNat = 5 * p'.toNat + w from by omega]
      rw [hr 0 (by decide), hr 1 (by decide), hr 2 (by decide), hr 3 (by decide), hr 4 (by decide)]
      by_cases e0 : q' = 0
      · rw [if_pos e0, e0]; rfl
      · rw [if_neg e0]
        by_cases e1 : q' = 1
        · rw [if_pos e1, e1]; rfl
        · rw [if_neg e1]
          by_cases e2 : q' = 2
          · rw [if_pos e2, e2]; rfl
          · rw [if_neg e2]
            by_cases e3 : q' = 3
            · rw [if_pos e3, e3]; rfl
            · rw [if_neg e3, show q' = 4 from by omega]; rfl
end
