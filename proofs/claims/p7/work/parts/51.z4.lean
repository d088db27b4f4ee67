def nfo {σ : Type} (T : gV) (s : Int) (st : Int → σ → σ) : Nat → σ → σ
  | 0, x => x
  | n + 1, x => if T 4 n = s then st (n : Int) (nfo T s st n x) else nfo T s st n x
section
variable {σ : Type} {T : gV} {s : Int} {st : Int → σ → σ} {x : σ}
theorem nfo_no {a : Nat} : ∀ {d : Nat}, (∀ i : Nat, a ≤ i → i < a + d → ¬ T 4 i = s) → nfo T s st (a + d) x = nfo T s st a x
  | 0, _ => rfl
  | d + 1, h => by
    show (if T 4 (a + d) = s then _ else nfo T s st (a + d) x) = _
    rw [if_neg (h (a + d) (by omega) (by omega)), nfo_no (fun i x y => h i x (by omega))]
theorem nfo_nb {a b : Nat} (hab : a ≤ b) (h : ∀ i : Nat, a ≤ i → i < b → ¬ T 4 i = s) : nfo T s st b x = nfo T s st a x := by
  have := nfo_no (T := T) (s := s) (st := st) (x := x) (a := a) (d := b - a) (fun i x y => h i x (by omega))
  rw [show a + (b - a) = b from by omega] at this
  exact this
theorem nfo_s {a : Nat} (h : T 4 a = s) : nfo T s st (a + 1) x = st (a : Int) (nfo T s st a x) := by
  show (if T 4 a = s then _ else _) = _
  rw [if_pos h]
theorem cfo_z : ∀ f : Nat, cfo T st f (-1) x = x
  | 0 => rfl
  | _ + 1 => rfl
theorem cfo_n (hc : cI T) : ∀ (f : Nat) (k : Int), 0 ≤ k → k < T 10 0 → T 4 k.toNat = s → T 10 0 - k ≤ (f : Int) → cfo T st f k (nfo T s st k.toNat x) = nfo T s st (T 10 0).toNat x := by
  intro f
  induction f with
  | zero => intro k h0 h1 _ h3; omega
  | succ f ih =>
    intro k h0 h1 h2 h3
    show (if 0 ≤ k then cfo T st f (nX T k) (st k (nfo T s st k.toNat x)) else _) = _
    rw [if_pos h0]
    have e0 : nX T k = T 5 k.toNat := if_pos ⟨h0, h1⟩
    rw [e0]
    have e1 : nfo T s st (k.toNat + 1) x = st k (nfo T s st k.toNat x) := by
      rw [nfo_s h2, show ((k.toNat : Nat) : Int) = k from by omega]
    rw [← e1]
    have q := hc.2.2.2.2.2 k.toNat (by omega)
    rcases q with ⟨q1, q2⟩ | ⟨j, q1, q2, q3, q4, q5⟩
    · rw [q1, cfo_z]
      exact (nfo_nb (a := k.toNat + 1) (b := (T 10 0).toNat) (by omega) (fun i x y => by rw [← h2]; exact q2 i (by omega) (by omega))).symm
    · have e2 := nfo_nb (st := st) (x := x) (T := T) (s := s) (a := k.toNat + 1) (b := j) (by omega) (fun i x y => by rw [← h2]; exact q5 i (by omega) y)
      have z := ih (j : Int) (by omega) q3 (by rw [show ((j : Nat) : Int).toNat = j from by omega, q4]; exact h2) (by omega)
      rw [show ((j : Nat) : Int).toNat = j from by omega, e2] at z
      rw [q1]
      exact z
theorem cfo_V (hc : cI T) (hb : T 10 0 ≤ 1501) (h0 : 0 ≤ s) (h1 : s < T 11 0) : cfo T st 1501 (vF T s) x = nfo T s st (T 10 0).toNat x := by
  have e0 : vF T s = T 8 s.toNat := if_pos ⟨h0, h1⟩
  rw [e0]
  have q := hc.2.2.2.1 s.toNat (by omega)
  have e : ((s.toNat : Nat) : Int) = s := by omega
  rcases q with ⟨q1, q2⟩ | ⟨j, q1, q2, q3, q4⟩
  · rw [q1, cfo_z]
    exact (nfo_nb (T := T) (s := s) (a := 0) (b := (T 10 0).toNat) (by omega) (fun i x y => by rw [← e]; exact q2 i (by omega))).symm
  · have z := nfo_nb (st := st) (x := x) (T := T) (s := s) (a := 0) (b := j) (by omega) (fun i x y => by rw [← e]; exact q4 i y)
    have y := cfo_n (st := st) (x := x) (s := s) hc 1501 (j : Int) (by omega) q2 (by rw [show ((j : Nat) : Int).toNat = j from by omega, q3]; exact e) (by omega)
    rw [show ((j : Nat) : Int).toNat = j from by omega, z] at y
    rw [q1]
    exact y
end
section
variable {T : gV} {s h a b : Int} {x y : sGv}
theorem nfo_r (k0 : 0 ≤ a) (hh : ∀ j : Nat, (j : Int) < T 10 0 → (T 4 j = h ↔ a < (j : Int) ∧ (j : Int) ≤ b)) (hab : a ≤ b) (hb : b < T 10 0) : nfo T h giv (T 10 0).toNat y = rfo (a + 1) (b - a).toNat y := by
  have key : ∀ m : Nat, a + (m : Int) ≤ b → nfo T h giv (a.toNat + 1 + m) y = rfo (a + 1) m y := by
    intro m
    induction m with
    | zero =>
      intro _
      exact nfo_nb (a := 0) (b := a.toNat + 1) (by omega) (fun i x z q => by have := (hh i (by omega)).mp q; omega)
    | succ m ih =>
      intro hm
      have z := ih (by omega)
      have q : T 4 (a.toNat + 1 + m) = h := (hh _ (by omega)).mpr ⟨by omega, by omega⟩
      show nfo T h giv (a.toNat + 1 + m + 1) y = giv (a + 1 + (m : Int)) (rfo (a + 1) m y)
      rw [nfo_s q, z, show ((a.toNat + 1 + m : Nat) : Int) = a + 1 + (m : Int) from by omega]
  have z := key (b - a).toNat (by omega)
  rw [← z]
  exact nfo_nb (by omega) (fun i p q r => by have := (hh i (by omega)).mp r; omega)
variable {ky : Int → Int} {wd ho ar ins wt ty li mo fi sl io bv : nA} {xk xs : Int}
theorem z2_id {c : Int} : ∀ n : Nat, (∀ j : Nat, j < n → ¬ (rd ho (j : Int) = c ∧ rd wt (j : Int) = 4)) → z2F ho wt c n y = y
  | 0, _ => rfl
  | n + 1, h => by
    show (if rd ho (n : Int) = c ∧ rd wt (n : Int) = 4 then _ else z2F ho wt c n y) = _
    rw [if_neg (h n (by omega)), z2_id n (fun j hj => h j (by omega))]
theorem wt_5 (hR : rBs T ky wd ho ar ins wt ty li mo fi sl io bv xk xs xk) {j : Nat} (hj : (j : Int) < xk) : (rd wt (j : Int) = 4 ↔ T 1 j = 5) := by
  have q := hR.2.2.2.2.2.2 (j : Int) (by omega) hj
  have e : ((j : Nat) : Int).toNat = j := by omega
  unfold kFl kM6 at q
  rw [e] at q
  constructor
  · intro z
    rcases q with q | q | q | q | q | q <;> omega
  · intro z
    rcases q with q | q | q | q | q | q <;> omega
theorem z12_n (hR : rBs T ky wd ho ar ins wt ty li mo fi sl io bv xk xs xk) (hl : labO T) : ∀ n : Nat, (n : Int) ≤ xk → z2F ho wt (s + 1) n (z1F ho wt (s + 1) n x) = nfo T s giv n x := by
  intro n
  induction n with
  | zero => intro _; rfl
  | succ n ih =>
    intro hn
    have i1 := ih (by omega)
    have e10 := hR.1.1
    have eo := (hR.1.2 n (by omega)).2
    have ew := wt_5 hR (j := n) (by omega)
    show (if rd ho (n : Int) = s + 1 ∧ rd wt (n : Int) = 4 then giv (n : Int) (z2F ho wt (s + 1) n (if rd ho (n : Int) = s + 1 ∧ ¬ rd wt (n : Int) = 4 then giv (n : Int) (z1F ho wt (s + 1) n x) else z1F ho wt (s + 1) n x)) else z2F ho wt (s + 1) n (if rd ho (n : Int) = s + 1 ∧ ¬ rd wt (n : Int) = 4 then giv (n : Int) (z1F ho wt (s + 1) n x) else z1F ho wt (s + 1) n x)) = (if T 4 n = s then giv (n : Int) (nfo T s giv n x) else nfo T s giv n x)
    by_cases c : T 4 n = s
    · rw [if_pos c]
      by_cases d : rd wt (n : Int) = 4
      · rw [if_pos ⟨by omega, d⟩, if_neg (fun z => z.2 d), i1]
      · rw [if_neg (fun z => d z.2), if_pos ⟨by omega, d⟩]
        have N : ∀ j : Nat, j < n → ¬ (rd ho (j : Int) = s + 1 ∧ rd wt (j : Int) = 4) := fun j hj z => by
          have f5 := (wt_5 hR (j := j) (by omega)).mp z.2
          have f4 := (hR.1.2 j (by omega)).2
          exact d (ew.mpr (hl j n hj (by omega) (by omega) f5))
        rw [z2_id n N]
        rw [z2_id n N] at i1
        rw [i1]
    · rw [if_neg c, if_neg (fun z => c (by omega)), if_neg (fun z => c (by omega))]
      exact i1
theorem z3_n (hR : rBs T ky wd ho ar ins wt ty li mo fi sl io bv xk xs xk) (hb : T 10 0 ≤ 1501) : ∀ n : Nat, (n : Int) ≤ xk → z3F ho wt mo fi (s + 1) n x = nfo T s (nhF T) n x := by
  intro n
  induction n with
  | zero => intro _; rfl
  | succ n ih =>
    intro hn
    have i1 := ih (by omega)
    have e10 := hR.1.1
    have eo := (hR.1.2 n (by omega)).2
    have en : ((n : Nat) : Int).toNat = n := by omega
    show (if rd ho (n : Int) = s + 1 ∧ rd wt (n : Int) = 2 then rfo (rd fi (n : Int)) (rd mo (n : Int)).toNat (z3F ho wt mo fi (s + 1) n x) else z3F ho wt mo fi (s + 1) n x) = (if T 4 n = s then nhF T (n : Int) (nfo T s (nhF T) n x) else nfo T s (nhF T) n x)
    rw [i1]
    have eh : nH T (n : Int) = T 6 n := by
      unfold nH
      rw [gG_i (by omega) (by omega), en]
    by_cases c : T 4 n = s
    · rw [if_pos c]
      unfold nhF
      rw [eh]
      by_cases d : T 1 n = 3
      · obtain ⟨p1, p2, g1, g2, g3, g4, g5, g6, g9, g7, g8⟩ := pF_of (k := (n : Int)) hR (by omega) (by omega) (by rw [en]; exact d)
        rw [en] at p2 g1 g2 g3 g4 g5 g6 g9 g7 g8
        rw [if_pos ⟨by omega, p1⟩, cfo_V hR.2.2.1 hb g4 g5, nfo_r (a := (n : Int)) (b := (n : Int) + T 3 n) (by omega) (fun j hj => by have q := g7 (j : Int) (by omega) (by omega); rw [show ((j : Nat) : Int).toNat = j from by omega] at q; exact q) (by omega) (by omega), p2, show ((n : Int) + T 3 n - (n : Int)).toNat = (T 3 n).toNat from by omega]
        rcases g6 with z | z
        · rw [z]
          rfl
        · rw [z]
      · have w2 : ¬ rd wt (n : Int) = 2 := fun w => by
          have := kr_3 (kR_of hR (show 0 ≤ (n : Int) by omega) (by omega)) w
          unfold nK at this
          rw [gG_i (by omega) (by omega), en] at this
          exact d this
        have n6 : T 6 n < 0 := by
          have q := (hR.2.2.2.2.2.1 (n : Int) (by omega) (by omega)).2.1
          rw [en] at q
          by_cases e : 0 ≤ T 6 n
          · exact absurd (q e) d
          · omega
        have v : vF T (T 6 n) = -1 := if_neg (fun z => by omega)
        rw [if_neg (fun z => w2 z.2), v, cfo_z]
    · rw [if_neg c, if_neg (fun z => c (by omega))]
theorem zk_b (hR : rBs T ky wd ho ar ins wt ty li mo fi sl io bv xk xs xk) (hb : T 10 0 ≤ 1501) (hl : labO T) (h0 : 0 ≤ s) (h1 : s < T 11 0) : zkF ho wt mo fi xk (s + 1) x = nbF T s x := by
  have e10 := hR.1.1
  have b0 := hR.2.2.1.1
  unfold zkF nbF
  rw [z12_n hR hl xk.toNat (by omega), z3_n hR hb xk.toNat (by omega), cfo_V hR.2.2.1 hb h0 h1, cfo_V hR.2.2.1 hb h0 h1, e10]
end
section
variable {so on : nA} {F : Int → sGv → sGv} {x : sGv}
theorem zbG_no {a : Nat} : ∀ {d : Nat}, (∀ i : Nat, a ≤ i → i < a + d → ¬ rd so (i : Int) = 21) → zbG so on F (a + d) x = zbG so on F a x
  | 0, _ => rfl
  | d + 1, h => by
    show (if rd so ((a + d : Nat) : Int) = 21 then _ else zbG so on F (a + d) x) = _
    rw [if_neg (h (a + d) (by omega) (by omega)), zbG_no (fun i x y => h i x (by omega))]
theorem zbG_nb {a b : Nat} (hab : a ≤ b) (h : ∀ i : Nat, a ≤ i → i < b → ¬ rd so (i : Int) = 21) : zbG so on F b x = zbG so on F a x := by
  have := zbG_no (so := so) (on := on) (F := F) (x := x) (a := a) (d := b - a) (fun i x y => h i x (by omega))
  rw [show a + (b - a) = b from by omega] at this
  exact this
variable {T : gV} {ky : Int → Int} {wd ho ar ins wt ty li mo fi sl io bv : nA} {xk xs xn : Int}
theorem zbG_i (h : rBs T ky wd ho ar ins wt ty li mo fi sl io bv xk xs xk) (hB : blI so on xn xs) (hv : scV so on wt sl 0 xn 0 xk 1 xs) (h0 : 0 ≤ xn) (hF : ∀ (s : Int) (x : sGv), 0 ≤ s → s < T 11 0 → F (s + 1) x = nbF T s x) : ∀ n : Nat, (n : Int) ≤ T 11 0 → ∃ m : Nat, (m : Int) ≤ xn ∧ zbG so on F m x = nwF T n x ∧ (∀ e : Int, 0 ≤ e → e < (m : Int) → rd so e = 21 → rd on e ≤ (n : Int)) ∧ ∀ e : Int, (m : Int) ≤ e → e < xn → rd so e = 21 → (n : Int) < rd on e := by
  have exs := h.2.1.1
  intro n
  induction n with
  | zero => intro _; exact ⟨0, by omega, rfl, fun e a b => by omega, fun e a b c => by have := (hv.2.1 e (by omega) b c).1; omega⟩
  | succ n ih =>
    intro hn
    obtain ⟨m, m1, m2, m3, m4⟩ := ih (by omega)
    have eb : nwF T (n + 1) x = if isHd T (n : Int) then nwF T n x else nbF T (n : Int) (nwF T n x) := rfl
    by_cases hd : isHd T (n : Int)
    · obtain ⟨p, p0, p1, p2, p3⟩ := hd_p h (by omega) hd
      refine ⟨m, m1, by rw [eb, if_pos hd, m2], fun e a b c => by have := m3 e a b c; omega, fun e a b c => ?_⟩
      have q1 := m4 e a b c
      have q2 := hv.2.2.2 e p (by omega) b c p0 p1 p2
      omega
    · rcases hv.1 ((n : Int) + 1) (by omega) (by omega) with ⟨e, e0, e1, e2, e3⟩ | ⟨k, k0, k1, k2, k3⟩
      · have em : (m : Int) ≤ e := by
          by_cases c : (m : Int) ≤ e
          · exact c
          · have := m3 e e0 (by omega) e2
            omega
        have N : ∀ x : Int, (m : Int) ≤ x → x < e → ¬ rd so x = 21 := fun x a b c => by
          have q1 := m4 x a (by omega) c
          have q2 := (hB e e0 e1 e2).2.2 x (by omega) b c
          omega
        have ee : ((e.toNat : Nat) : Int) = e := by omega
        refine ⟨e.toNat + 1, by omega, ?_, fun x a b c => ?_, fun x a b c => ?_⟩
        · show (if rd so (e.toNat : Int) = 21 then F (rd on (e.toNat : Int)) (zbG so on F e.toNat x) else _) = _
          rw [ee, if_pos e2, e3, hF (n : Int) _ (by omega) (by omega), zbG_nb (a := m) (b := e.toNat) (by omega) (fun i x y => N (i : Int) (by omega) (by omega)), m2, eb, if_neg hd]
        · by_cases q : x < (m : Int)
          · have := m3 x a q c
            omega
          · by_cases q2 : x = e
            · rw [q2]; omega
            · exact absurd c (N x (by omega) (by omega))
        · have := (hB x (by omega) b c).2.2 e e0 (by omega) e2
          omega
      · exact absurd (hd_k h k0 k1 k2 k3) hd
theorem zbF_of (h : rBs T ky wd ho ar ins wt ty li mo fi sl io bv xk xs xk) (hb : T 10 0 ≤ 1501) (hl : labO T) (hB : blI so on xn xs) (hv : scV so on wt sl 0 xn 0 xk 1 xs) (h0 : 0 ≤ xn) : zbF so on ho wt mo fi xk xn.toNat x = nwF T (T 11 0).toNat x := by
  have exs := h.2.1.1
  have b0 := h.2.2.1.2.1
  obtain ⟨m, m1, m2, m3, m4⟩ := zbG_i (x := x) (F := zkF ho wt mo fi xk) h hB hv h0 (fun s x a b => zk_b h hb hl a b) (T 11 0).toNat (by omega)
  unfold zbF
  rw [← m2]
  refine zbG_nb (by omega) (fun i x y c => ?_)
  have q1 := m4 (i : Int) (by omega) (by omega) c
  have q2 := (hB (i : Int) (by omega) (by omega) c).2.1
  omega
end
