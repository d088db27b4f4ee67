def zsN (T : gV) (s : Int) (g : Nat → Int) : Nat → Int
  | 0 => 0
  | n + 1 => zsN T s g n + (if T 4 n = s then g n else 0)
def cs9 (T : gV) (g : Nat → Int) : Nat → Int → Int
  | 0, _ => 0
  | f + 1, k => if 0 ≤ k then g k.toNat + cs9 T g f (nX T k) else 0
section
variable {T : gV} {s k : Int} {g : Nat → Int}
theorem zsN_no {a : Nat} : ∀ {d : Nat}, (∀ i : Nat, a ≤ i → i < a + d → ¬ T 4 i = s) → zsN T s g (a + d) = zsN T s g a
  | 0, _ => rfl
  | d + 1, h => by
    show zsN T s g (a + d) + (if T 4 (a + d) = s then g (a + d) else 0) = _
    rw [if_neg (h (a + d) (by omega) (by omega)), zsN_no (fun i x y => h i x (by omega))]
    omega
theorem zsN_nb {a b : Nat} (hab : a ≤ b) (h : ∀ i : Nat, a ≤ i → i < b → ¬ T 4 i = s) : zsN T s g b = zsN T s g a := by
  have := zsN_no (T := T) (s := s) (g := g) (a := a) (d := b - a) (fun i x y => h i x (by omega))
  rw [show a + (b - a) = b from by omega] at this
  exact this
theorem zsN_s {a : Nat} (h : T 4 a = s) : zsN T s g (a + 1) = zsN T s g a + g a := by
  show zsN T s g a + (if T 4 a = s then g a else 0) = _
  rw [if_pos h]
theorem zcs_N (hc : cI T) : ∀ (f : Nat) (k : Int), 0 ≤ k → k < T 10 0 → T 4 k.toNat = s → T 10 0 - k ≤ (f : Int) → cs9 T g f k = zsN T s g (T 10 0).toNat - zsN T s g k.toNat := by
  intro f
  induction f with
  | zero => intro k h0 h1 _ h3; omega
  | succ f ih =>
    intro k h0 h1 h2 h3
    show (if 0 ≤ k then g k.toNat + cs9 T g f (nX T k) else 0) = _
    rw [if_pos h0]
    unfold nX
    rw [gG_i h0 h1]
    have e1 := zsN_s (g := g) h2
    have q := hc.2.2.2.2.2 k.toNat (by omega)
    rcases q with ⟨q1, q2⟩ | ⟨j, q1, q2, q3, q4, q5⟩
    · rw [q1]
      have z : cs9 T g f (-1) = 0 := by
        cases f with
        | zero => rfl
        | succ f => rfl
      have e2 := zsN_nb (g := g) (T := T) (s := s) (a := k.toNat + 1) (b := (T 10 0).toNat) (by omega) (fun i x y => by rw [← h2]; exact q2 i (by omega) (by omega))
      rw [z, e2, e1]
      omega
    · have e2 := zsN_nb (g := g) (T := T) (s := s) (a := k.toNat + 1) (b := j) (by omega) (fun i x y => by rw [← h2]; exact q5 i (by omega) y)
      rw [q1, ih (j : Int) (by omega) q3 (by rw [show ((j : Nat) : Int).toNat = j from by omega, q4]; exact h2) (by omega), show ((j : Nat) : Int).toNat = j from by omega, e2, e1]
      omega
theorem zcs_V (hc : cI T) (hb : T 10 0 ≤ 1501) (h0 : 0 ≤ s) (h1 : s < T 11 0) : cs9 T g 1501 (vF T s) = zsN T s g (T 10 0).toNat := by
  unfold vF
  rw [gG_i h0 h1]
  have q := hc.2.2.2.1 s.toNat (by omega)
  have e : ((s.toNat : Nat) : Int) = s := by omega
  rcases q with ⟨q1, q2⟩ | ⟨j, q1, q2, q3, q4⟩
  · rw [q1]
    have z := zsN_nb (g := g) (T := T) (s := s) (a := 0) (b := (T 10 0).toNat) (by omega) (fun i x y => by rw [← e]; exact q2 i (by omega))
    rw [z]
    rfl
  · have z := zsN_nb (g := g) (T := T) (s := s) (a := 0) (b := j) (by omega) (fun i x y => by rw [← e]; exact q4 i y)
    rw [q1, zcs_N (s := s) hc 1501 (j : Int) (by omega) q2 (by rw [show ((j : Nat) : Int).toNat = j from by omega, q3]; exact e) (by omega), show ((j : Nat) : Int).toNat = j from by omega, z]
    show _ - 0 = _
    omega
theorem zch_cs : ∀ (f : Nat) (k : Int), ((chW T f k).length : Int) = cs9 T (fun _ => 1) f k := by
  intro f
  induction f with
  | zero => intro k; rfl
  | succ f ih =>
    intro k
    show ((if 0 ≤ k then k :: chW T f (nX T k) else [] : List Int).length : Int) = (if 0 ≤ k then 1 + cs9 T (fun _ => 1) f (nX T k) else 0)
    by_cases c : 0 ≤ k
    · rw [if_pos c, if_pos c, ← ih (nX T k), List.length_cons]
      omega
    · rw [if_neg c, if_neg c]
      rfl
def ln9 (T : gV) (j : Nat) : Int := ((chW T 1501 (vF T (nH T (j : Int)))).length : Int)
theorem zbs_cs : ∀ (f : Nat) (k : Int), bkS T f k = cs9 T (ln9 T) f k := by
  intro f
  induction f with
  | zero => intro k; rfl
  | succ f ih =>
    intro k
    show (if 0 ≤ k then ((chW T 1501 (vF T (nH T k))).length : Int) + bkS T f (nX T k) else 0) = (if 0 ≤ k then ln9 T k.toNat + cs9 T (ln9 T) f (nX T k) else 0)
    by_cases c : 0 ≤ k
    · rw [if_pos c, if_pos c, ih]
      unfold ln9
      rw [show ((k.toNat : Nat) : Int) = k from by omega]
    · rw [if_neg c, if_neg c]
theorem zbl_N (hc : cI T) (hb : T 10 0 ≤ 1501) (h0 : 0 ≤ s) (h1 : s < T 11 0) : bkL T s = zsN T s (fun _ => 1) (T 10 0).toNat + zsN T s (ln9 T) (T 10 0).toNat := by
  unfold bkL
  rw [zch_cs, zbs_cs, zcs_V hc hb h0 h1, zcs_V hc hb h0 h1]
theorem zsN_i {a b : Int} (k0 : 0 ≤ a) : ∀ n : Nat, (∀ j : Nat, j < n → (T 4 j = s ↔ a < (j : Int) ∧ (j : Int) ≤ b)) → a ≤ b → zsN T s (fun _ => 1) n = if (n : Int) ≤ a then 0 else if (n : Int) ≤ b then (n : Int) - 1 - a else b - a := by
  intro n
  induction n with
  | zero => intro _ _; rw [if_pos (by omega)]; rfl
  | succ n ih =>
    intro h hab
    show zsN T s (fun _ => 1) n + (if T 4 n = s then 1 else 0) = _
    rw [ih (fun j hj => h j (by omega)) hab]
    have q := h n (by omega)
    by_cases c : T 4 n = s
    · have z := q.mp c
      rw [if_pos c, if_neg (show ¬ ((n + 1 : Nat) : Int) ≤ a by omega), if_neg (show ¬ (n : Int) ≤ a by omega), if_pos (show (n : Int) ≤ b by omega)]
      by_cases d : ((n + 1 : Nat) : Int) ≤ b
      · rw [if_pos d]; omega
      · rw [if_neg d]; omega
    · have z : ¬ (a < (n : Int) ∧ (n : Int) ≤ b) := fun y => c (q.mpr y)
      rw [if_neg c]
      by_cases d : (n : Int) ≤ a
      · rw [if_pos d]
        by_cases e : ((n + 1 : Nat) : Int) ≤ a
        · rw [if_pos e]
          omega
        · rw [if_neg e]
          by_cases d2 : ((n + 1 : Nat) : Int) ≤ b
          · rw [if_pos d2]; omega
          · rw [if_neg d2]; omega
      · rw [if_neg d, if_neg (show ¬ (n : Int) ≤ b by omega), if_neg (show ¬ ((n + 1 : Nat) : Int) ≤ a by omega), if_neg (show ¬ ((n + 1 : Nat) : Int) ≤ b by omega)]
        omega
end
section
variable {T : gV} {ky : Int → Int} {wd ho ar ins wt ty li mo fi sl io bv : nA} {xk xs s : Int}
theorem zln_of (h : rBs T ky wd ho ar ins wt ty li mo fi sl io bv xk xs xk) (hb : T 10 0 ≤ 1501) {j : Nat} (hj : (j : Int) < xk) : ln9 T j = if rd wt (j : Int) = 2 then rd mo (j : Int) else 0 := by
  have e10 := h.1.1
  have eh : nH T (j : Int) = T 6 j := by
    unfold nH
    rw [gG_i (by omega) (by omega), show ((j : Nat) : Int).toNat = j from by omega]
  unfold ln9
  rw [eh]
  by_cases c : T 1 j = 3
  · obtain ⟨p1, p2, g1, g2, g3, g4, g5, g6, g9, g7, g8⟩ := pF_of (k := (j : Int)) h (by omega) hj (by rw [show ((j : Nat) : Int).toNat = j from by omega]; exact c)
    rw [show ((j : Nat) : Int).toNat = j from by omega] at *
    rw [if_pos p1, p2, zch_cs, zcs_V h.2.2.1 hb g4 g5, zsN_i (a := (j : Int)) (b := (j : Int) + T 3 j) (by omega) (T 10 0).toNat (fun i hi => by have q := g7 (i : Int) (by omega) (by omega); rw [show ((i : Nat) : Int).toNat = i from by omega] at q; exact q) (by omega), if_neg (by omega), if_neg (by omega)]
    omega
  · have w2 : ¬ rd wt (j : Int) = 2 := fun w => by
      have := kr_3 (kR_of h (show 0 ≤ (j : Int) by omega) hj) w
      unfold nK at this
      rw [gG_i (by omega) (by omega), show ((j : Nat) : Int).toNat = j from by omega] at this
      exact c this
    have n6 : T 6 j < 0 := by
      have q := (h.2.2.2.2.2.1 (j : Int) (by omega) hj).2.1
      rw [show ((j : Nat) : Int).toNat = j from by omega] at q
      by_cases d : 0 ≤ T 6 j
      · exact absurd (q d) c
      · omega
    rw [if_neg w2]
    have v : vF T (T 6 j) = -1 := if_neg (fun z => by omega)
    rw [v]
    rfl
theorem zkk_of (h : rBs T ky wd ho ar ins wt ty li mo fi sl io bv xk xs xk) (hb : T 10 0 ≤ 1501) : ∀ n : Nat, (n : Int) ≤ xk → kn1 ho wt (s + 1) n + kn2 ho wt (s + 1) n = zsN T s (fun _ => 1) n ∧ kn3 ho wt mo (s + 1) n = zsN T s (ln9 T) n := by
  intro n
  induction n with
  | zero => intro _; exact ⟨rfl, rfl⟩
  | succ n ih =>
    intro hn
    obtain ⟨i1, i2⟩ := ih (by omega)
    have e10 := h.1.1
    have eo := (h.1.2 n (by omega)).2
    have eh : (ho n).toInt = T 4 n + 1 := eo
    have ew : rd wt (n : Int) = (wt n).toInt := rfl
    have em : rd mo (n : Int) = (mo n).toInt := rfl
    have el := zln_of h hb (j := n) (by omega)
    rw [ew, em] at el
    simp only [kn1, kn2, kn3, zsN]
    rw [eh, ← i1, ← i2]
    by_cases c : T 4 n = s
    · by_cases d : (wt n).toInt = 4
      · rw [if_neg (show ¬ (T 4 n + 1 = s + 1 ∧ (wt n).toInt ≠ 4) from fun z => z.2 d), if_pos ⟨by omega, d⟩, if_pos c, if_neg (show ¬ (T 4 n + 1 = s + 1 ∧ (wt n).toInt = 2) from fun z => by omega), if_pos c, el, if_neg (by omega)]
        exact ⟨by omega, rfl⟩
      · rw [if_pos ⟨by omega, d⟩, if_neg (show ¬ (T 4 n + 1 = s + 1 ∧ (wt n).toInt = 4) from fun z => d z.2), if_pos c, if_pos c, el]
        refine ⟨by omega, ?_⟩
        by_cases e : (wt n).toInt = 2
        · rw [if_pos ⟨by omega, e⟩, if_pos e]
        · rw [if_neg (fun z => e z.2), if_neg e]
    · rw [if_neg (show ¬ (T 4 n + 1 = s + 1 ∧ (wt n).toInt ≠ 4) from fun z => by omega), if_neg (show ¬ (T 4 n + 1 = s + 1 ∧ (wt n).toInt = 4) from fun z => by omega), if_neg c, if_neg (show ¬ (T 4 n + 1 = s + 1 ∧ (wt n).toInt = 2) from fun z => by omega), if_neg c]
      exact ⟨by omega, rfl⟩
theorem zF_of (h : rBs T ky wd ho ar ins wt ty li mo fi sl io bv xk xs xk) (hb : T 10 0 ≤ 1501) (h0 : 0 ≤ s) (h1 : s < T 11 0) : kk1 ho wt (s + 1) xk + kk2 ho wt (s + 1) xk + kk3 ho wt mo (s + 1) xk = bkL T s := by
  have e10 := h.1.1
  have b0 := h.2.2.1.1
  obtain ⟨a, b⟩ := zkk_of (s := s) h hb xk.toNat (by omega)
  unfold kk1 kk2 kk3
  rw [zbl_N h.2.2.1 hb h0 h1, a, b, e10]
end
