def zsB (so on : nA) (F : Int → Int) : Nat → Int
  | 0 => 0
  | n + 1 => zsB so on F n + (if rd so (n : Int) = 21 then F (rd on (n : Int)) else 0)
section
variable {so on : nA} {F : Int → Int}
theorem zsB_no {a : Nat} : ∀ {d : Nat}, (∀ i : Nat, a ≤ i → i < a + d → ¬ rd so (i : Int) = 21) → zsB so on F (a + d) = zsB so on F a
  | 0, _ => rfl
  | d + 1, h => by
    show zsB so on F (a + d) + (if rd so ((a + d : Nat) : Int) = 21 then F (rd on ((a + d : Nat) : Int)) else 0) = _
    rw [if_neg (h (a + d) (by omega) (by omega)), zsB_no (fun i x y => h i x (by omega))]
    omega
theorem zsB_nb {a b : Nat} (hab : a ≤ b) (h : ∀ i : Nat, a ≤ i → i < b → ¬ rd so (i : Int) = 21) : zsB so on F b = zsB so on F a := by
  have := zsB_no (so := so) (on := on) (F := F) (a := a) (d := b - a) (fun i x y => h i x (by omega))
  rw [show a + (b - a) = b from by omega] at this
  exact this
variable {T : gV} {ky : Int → Int} {wd ho ar ins wt ty li mo fi sl io bv : nA} {xk xs xn : Int}
theorem hd_p (h : rBs T ky wd ho ar ins wt ty li mo fi sl io bv xk xs xk) {n : Nat} (hn : (n : Int) < T 11 0) (hd : isHd T (n : Int)) : ∃ p : Int, 0 ≤ p ∧ p < xk ∧ rd wt p = 2 ∧ rd sl p = (n : Int) + 1 := by
  have e10 := h.1.1
  obtain ⟨-, h2⟩ := hd
  by_cases c : 0 ≤ sPr T (n : Int) ∧ sPr T (n : Int) < T 10 0
  · have e6 : T 6 (sPr T (n : Int)).toNat = (n : Int) := by
      unfold nH at h2
      rw [gG_i c.1 c.2] at h2
      exact h2
    have k3 := (h.2.2.2.2.2.1 _ c.1 (by omega)).2.1 (by omega)
    obtain ⟨p1, p2, g1, g2, g3, g4⟩ := pF_of h c.1 (by omega) k3
    exact ⟨_, c.1, by omega, p1, by omega⟩
  · exfalso
    have : nH T (sPr T (n : Int)) = -1 := if_neg c
    omega
theorem hd_k (h : rBs T ky wd ho ar ins wt ty li mo fi sl io bv xk xs xk) {n : Nat} {k : Int} (k0 : 0 ≤ k) (k1 : k < xk) (kw : rd wt k = 2) (ks : rd sl k = (n : Int) + 1) : isHd T (n : Int) := by
  have e10 := h.1.1
  have k3 : T 1 k.toNat = 3 := by
    have := kr_3 (kR_of h k0 k1) kw
    unfold nK at this
    rw [gG_i k0 (by omega)] at this
    exact this
  obtain ⟨p1, p2, g1, g2, g3, g4, g5, g6, g9, g7, g8⟩ := pF_of h k0 k1 k3
  have e6 : T 6 k.toNat = (n : Int) := by omega
  refine ⟨by omega, ?_⟩
  have e9 : sPr T (n : Int) = k := by
    rw [sPr_v (by omega) (by omega)]
    rw [e6] at g9
    exact g9
  rw [e9]
  unfold nH
  rw [gG_i k0 (by omega)]
  exact e6
theorem zbN_i (h : rBs T ky wd ho ar ins wt ty li mo fi sl io bv xk xs xk) (hb : T 10 0 ≤ 1501) (hB : blI so on xn xs) (hv : scV so on wt sl 0 xn 0 xk 1 xs) (h0 : 0 ≤ xn) (hF : ∀ s : Int, 0 ≤ s → s < T 11 0 → F (s + 1) = bkL T s) : ∀ n : Nat, (n : Int) ≤ T 11 0 → ∃ m : Nat, (m : Int) ≤ xn ∧ zsB so on F m = bkN T n ∧ (∀ e : Int, 0 ≤ e → e < (m : Int) → rd so e = 21 → rd on e ≤ (n : Int)) ∧ ∀ e : Int, (m : Int) ≤ e → e < xn → rd so e = 21 → (n : Int) + 1 ≤ rd on e := by
  have exs := h.2.1.1
  intro n
  induction n with
  | zero => intro _; exact ⟨0, by omega, rfl, fun e a b => by omega, fun e a b c => by have := (hv.2.1 e (by omega) b c).1; omega⟩
  | succ n ih =>
    intro hn
    obtain ⟨m, m1, m2, m3, m4⟩ := ih (by omega)
    have eb : bkN T (n + 1) = bkN T n + (if isHd T (n : Int) then 0 else bkL T (n : Int)) := rfl
    by_cases hd : isHd T (n : Int)
    · obtain ⟨p, p0, p1, p2, p3⟩ := hd_p h (by omega) hd
      refine ⟨m, m1, by rw [eb, if_pos hd, m2]; omega, fun e a b c => by have := m3 e a b c; omega, fun e a b c => ?_⟩
      have q1 := m4 e a b c
      have q2 := hv.2.2.2 e p (by omega) b c p0 p1 p2
      omega
    · rcases hv.1 ((n : Int) + 1) (by omega) (by omega) with ⟨e, e0, e1, e2, e3⟩ | ⟨k, k0, k1, k2, k3⟩
      · have em : (m : Int) ≤ e := by
          by_cases c : (m : Int) ≤ e
          · exact c
          · have := m3 e e0 (by omega) e2
            omega
        have N : ∀ x : Int, (m : Int) ≤ x → x < e → ¬ rd so x = 21 := fun x a b c => by
          have q1 := m4 x a (by omega) c
          have q2 := (hB e e0 e1 e2).2.2 x (by omega) b c
          omega
        have ee : ((e.toNat : Nat) : Int) = e := by omega
        refine ⟨e.toNat + 1, by omega, ?_, fun x a b c => ?_, fun x a b c => ?_⟩
        · show zsB so on F e.toNat + (if rd so (e.toNat : Int) = 21 then F (rd on (e.toNat : Int)) else 0) = _
          rw [ee, if_pos e2, e3, hF (n : Int) (by omega) (by omega), zsB_nb (a := m) (b := e.toNat) (by omega) (fun i x y => N (i : Int) (by omega) (by omega)), m2, eb, if_neg hd]
        · by_cases q : x < (m : Int)
          · have := m3 x a q c
            omega
          · by_cases q2 : x = e
            · rw [q2]; omega
            · exact absurd c (N x (by omega) (by omega))
        · have := (hB x (by omega) b c).2.2 e e0 (by omega) e2
          omega
      · exact absurd (hd_k h k0 k1 k2 k3) hd
theorem zbN_of (h : rBs T ky wd ho ar ins wt ty li mo fi sl io bv xk xs xk) (hb : T 10 0 ≤ 1501) (hB : blI so on xn xs) (hv : scV so on wt sl 0 xn 0 xk 1 xs) (h0 : 0 ≤ xn) : zsB so on (fun c => kk1 ho wt c xk + kk2 ho wt c xk + kk3 ho wt mo c xk) xn.toNat = bkN T (T 11 0).toNat := by
  have exs := h.2.1.1
  have b0 := h.2.2.1.2.1
  obtain ⟨m, m1, m2, m3, m4⟩ := zbN_i (F := fun c => kk1 ho wt c xk + kk2 ho wt c xk + kk3 ho wt mo c xk) h hb hB hv h0 (fun s a b => zF_of h hb a b) (T 11 0).toNat (by omega)
  rw [← m2]
  refine zsB_nb (by omega) (fun i x y c => ?_)
  have q1 := m4 (i : Int) (by omega) (by omega) c
  have q2 := (hB (i : Int) (by omega) (by omega) c).2.1
  omega
end
section
variable {ho wh mo so on : nA} {c k m b b2 : Int} {F : Int → Int}
theorem zk1_f (h0 : 0 ≤ k) (h : m = k + 1) (a : ¬ (rd ho k = c ∧ ¬ rd wh k = 4)) : kk1 ho wh c m = kk1 ho wh c k := by
  unfold kk1
  rw [show m.toNat = k.toNat + 1 from by omega]
  show _ + (if rd ho k = c ∧ ¬ rd wh k = 4 then _ else _) = _
  rw [if_neg a]
  omega
theorem zk2_f (h0 : 0 ≤ k) (h : m = k + 1) (a : ¬ (rd ho k = c ∧ rd wh k = 4)) : kk2 ho wh c m = kk2 ho wh c k := by
  unfold kk2
  rw [show m.toNat = k.toNat + 1 from by omega]
  show _ + (if rd ho k = c ∧ rd wh k = 4 then _ else _) = _
  rw [if_neg a]
  omega
theorem zk3_f (h0 : 0 ≤ k) (h : m = k + 1) (a : ¬ (rd ho k = c ∧ rd wh k = 2)) : kk3 ho wh mo c m = kk3 ho wh mo c k := by
  unfold kk3
  rw [show m.toNat = k.toNat + 1 from by omega]
  show _ + (if rd ho k = c ∧ rd wh k = 2 then _ else _) = _
  rw [if_neg a]
  omega
theorem zsB_t (h0 : 0 ≤ b) (h : b2 = b + 1) (a : rd so b = 21) : zsB so on F b2.toNat = zsB so on F b.toNat + F (rd on b) := by
  rw [show b2.toNat = b.toNat + 1 from by omega]
  show _ + (if rd so ((b.toNat : Nat) : Int) = 21 then F (rd on ((b.toNat : Nat) : Int)) else 0) = _
  rw [show ((b.toNat : Nat) : Int) = b from by omega, if_pos a]
theorem zsB_f (h0 : 0 ≤ b) (h : b2 = b + 1) (a : ¬ rd so b = 21) : zsB so on F b2.toNat = zsB so on F b.toNat := by
  rw [show b2.toNat = b.toNat + 1 from by omega]
  show _ + (if rd so ((b.toNat : Nat) : Int) = 21 then F (rd on ((b.toNat : Nat) : Int)) else 0) = _
  rw [show ((b.toNat : Nat) : Int) = b from by omega, if_neg a]
  omega
end
