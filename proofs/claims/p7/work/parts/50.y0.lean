section
variable {T : gV} {ky : Int → Int} {wd ho ar ins wt ty li mo fi sl io bv : nA} {xk xs k w : Int}
theorem gG_i {f : Nat → Int} {n d : Int} (h0 : 0 ≤ k) (h1 : k < n) : gG f n d k = f k.toNat := if_pos ⟨h0, h1⟩
theorem kR_of (h : rBs T ky wd ho ar ins wt ty li mo fi sl io bv xk xs xk) (k0 : 0 ≤ k) (k1 : k < xk) : kRel T wt ty li mo k := by
  have e10 := h.1.1
  have q := h.2.2.2.2.2.2 k k0 k1
  unfold kRel nK nT nC
  rw [gG_i k0 (by omega), gG_i k0 (by omega), gG_i k0 (by omega)]
  unfold kFl kM6 at q
  rcases q with q | q | q | q | q | q
  · exact Or.inl q
  · exact Or.inr (Or.inl q)
  · exact Or.inr (Or.inr (Or.inl ⟨q.1, q.2.1, q.2.2.1, q.2.2.2.1, q.2.2.2.2.1, q.2.2.2.2.2.1⟩))
  · exact Or.inr (Or.inr (Or.inr (Or.inl q)))
  · exact Or.inr (Or.inr (Or.inr (Or.inr (Or.inl q))))
  · exact Or.inr (Or.inr (Or.inr (Or.inr (Or.inr q))))
theorem pF_of (h : rBs T ky wd ho ar ins wt ty li mo fi sl io bv xk xs xk) (k0 : 0 ≤ k) (k1 : k < xk) (hk : T 1 k.toNat = 3) : rd wt k = 2 ∧ rd mo k = T 3 k.toNat ∧ pF T wt fi sl xk k := by
  have q := h.2.2.2.2.2.2 k k0 k1
  unfold kFl kM6 at q
  rcases q with q | q | q | q | q | q
  · omega
  · omega
  · exact ⟨q.1, q.2.2.2.2.1, q.2.2.2.2.2⟩
  · omega
  · omega
  · exfalso
    rcases q.2 with z | z | z <;> (have := z.1; omega)
theorem aR_of (h : rBs T ky wd ho ar ins wt ty li mo fi sl io bv xk xs xk) (h3 : T 11 0 ≤ 333) (hi : rd ins 0 = -1) : aRw T sl ar ins xk xs :=
  ⟨h.2.1.1, h3, hi, h.2.1.2.2, h.2.2.2.1, h.2.2.2.2.1, h.1.1.symm, fun k k0 k1 kw => (pF_of h k0 k1 kw).2.2.2.2.1⟩
theorem nx_h (hc : cI T) {s p b : Int} (h0 : 0 ≤ p) (h1 : p < b) (hb : b < T 10 0) (hm : ∀ j : Int, 0 ≤ j → j < T 10 0 → (T 4 j.toNat = s ↔ k < j ∧ j ≤ b)) (hp : k < p) : nX T p = p + 1 := by
  unfold nX
  rw [gG_i h0 (by omega)]
  have q := hc.2.2.2.2.2 p.toNat (by omega)
  have e0 : T 4 p.toNat = s := (hm p h0 (by omega)).mpr ⟨hp, by omega⟩
  have e1 : T 4 (p.toNat + 1) = s := by
    have := (hm (p + 1) (by omega) (by omega)).mpr ⟨by omega, by omega⟩
    rw [show (p + 1).toNat = p.toNat + 1 from by omega] at this
    exact this
  rcases q with ⟨q1, q2⟩ | ⟨j, q1, q2, q3, q4, q5⟩
  · exact absurd (e1.trans e0.symm) (q2 (p.toNat + 1) (by omega) (by omega))
  · by_cases c : p.toNat + 1 < j
    · exact absurd (e1.trans e0.symm) (q5 (p.toNat + 1) (by omega) c)
    · omega
theorem pAt_h (hc : cI T) {s b : Int} (hb : b < T 10 0) (hm : ∀ j : Int, 0 ≤ j → j < T 10 0 → (T 4 j.toNat = s ↔ k < j ∧ j ≤ b)) (k0 : 0 ≤ k) : ∀ (i : Nat) (p : Int), k < p → p + (i : Int) ≤ b → pAt T i p = p + (i : Int) := by
  intro i
  induction i with
  | zero => intro p _ _; show p = p + ((0 : Nat) : Int); omega
  | succ i ih =>
    intro p h1 h2
    show pAt T i (nX T p) = _
    rw [nx_h hc (by omega) (by omega) hb hm h1, ih (p + 1) (by omega) (by omega)]
    omega
theorem vF_h (hc : cI T) {s b : Int} (s0 : 0 ≤ s) (s1 : s < T 11 0) (k0 : 0 ≤ k) (hk : k < b) (hb : b < T 10 0) (hm : ∀ j : Int, 0 ≤ j → j < T 10 0 → (T 4 j.toNat = s ↔ k < j ∧ j ≤ b)) : vF T s = k + 1 := by
  unfold vF
  rw [gG_i s0 s1]
  have q := hc.2.2.2.1 s.toNat (by omega)
  have e1 : T 4 (k.toNat + 1) = s := by
    have := (hm (k + 1) (by omega) (by omega)).mpr ⟨by omega, by omega⟩
    rw [show (k + 1).toNat = k.toNat + 1 from by omega] at this
    exact this
  rcases q with ⟨q1, q2⟩ | ⟨j, q1, q2, q3, q4⟩
  · exact absurd (by omega) (q2 (k.toNat + 1) (by omega))
  · have z := (hm (j : Int) (by omega) q2).mp (by rw [show ((j : Nat) : Int).toNat = j from by omega]; omega)
    by_cases c : k.toNat + 1 < j
    · exact absurd (by omega) (q4 (k.toNat + 1) c)
    · omega
theorem fR_of (h : rBs T ky wd ho ar ins wt ty li mo fi sl io bv xk xs xk) (hb : T 10 0 ≤ 1501) (h3 : T 11 0 ≤ 333) : fRl T ky ar ho wd wt ty li mo fi xk xs := by
  have e10 := h.1.1
  refine ⟨fun w key h0 h1 => rM_me h.1 h.2.1 h.2.2.1 hb h3 h0 h1, fun k k0 k1 => kR_of h k0 k1, fun k hk => if_neg (fun z => by omega), fun k k0 k1 kw i hi => ?_⟩
  have kr := kR_of h k0 k1
  have k3 : T 1 k.toNat = 3 := by
    have := kr_3 kr kw
    unfold nK at this
    rw [gG_i k0 (by omega)] at this
    exact this
  obtain ⟨p1, p2, g1, g2, g3, g4, g5, g6, g9, g7, g8⟩ := pF_of h k0 k1 k3
  have hm : ∀ j : Int, 0 ≤ j → j < T 10 0 → (T 4 j.toNat = T 6 k.toNat ↔ k < j ∧ j ≤ k + T 3 k.toNat) := fun j a b => g7 j a (by omega)
  have ef : rd fi k = k + 1 := by omega
  have eh : nH T k = T 6 k.toNat := gG_i k0 (by omega)
  rw [eh, vF_h h.2.2.1 g4 g5 k0 (by omega) (by omega) hm, pAt_h h.2.2.1 (by omega) hm k0 i (k + 1) (by omega) (by omega), ef]
  exact ⟨rfl, by omega, by omega, g8 _ (by omega) (by omega)⟩
theorem rAll_c (hc : cI T) (hk : ∀ j : Int, 0 ≤ j → j < T 10 0 → ¬ nK T j = 0) : ∀ (f : Nat) (k sw : Int), k < T 10 0 → rAll T f k sw = sw := by
  intro f
  induction f with
  | zero => intro k sw _; rfl
  | succ f ih =>
    intro k sw h
    show (if 0 ≤ k then rAll T f (nX T k) (if nK T k = 0 then min sw (gG (T 12) (T 10 0) 0 k) else sw) else sw) = sw
    by_cases c : 0 ≤ k
    · rw [if_pos c, if_neg (hk k c h)]
      refine ih _ _ ?_
      unfold nX
      rw [gG_i c h]
      have q := hc.2.2.2.2.2 k.toNat (by omega)
      rcases q with ⟨q1, q2⟩ | ⟨j, q1, q2, q3, q4, q5⟩
      · have := hc.1
        omega
      · omega
    · rw [if_neg c]
theorem cC_of (h : rBs T ky wd ho ar ins wt ty li mo fi sl io bv xk xs xk) : clC T := fun w => by
  have e10 := h.1.1
  have hc := h.2.2.1
  unfold dAl
  rw [rAll_c hc (fun j j0 j1 => by have q := kR_of h j0 (by omega); unfold kRel at q; omega) 1501 (vF T w) 3001 ?_, if_pos rfl]
  · exact fun z => by cases z
  · unfold vF gG
    by_cases c : 0 ≤ w ∧ w < T 11 0
    · rw [if_pos c]
      have q := hc.2.2.2.1 w.toNat (by omega)
      have := hc.1
      rcases q with ⟨q1, q2⟩ | ⟨j, q1, q2, q3⟩ <;> omega
    · rw [if_neg c]
      have := hc.1
      omega
end
