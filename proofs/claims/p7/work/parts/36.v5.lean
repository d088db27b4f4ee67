def nb21 (so : nA) (lo hi : Int) : Prop := ∀ e : Int, lo ≤ e → e < hi → ¬ rd so e = 21
def scV (so on wt sl : nA) (n0 n1 k0 k1 s0 s1 : Int) : Prop :=
  (∀ s : Int, s0 ≤ s → s < s1 → (∃ e, n0 ≤ e ∧ e < n1 ∧ rd so e = 21 ∧ rd on e = s) ∨ ∃ k, k0 ≤ k ∧ k < k1 ∧ rd wt k = 2 ∧ rd sl k = s) ∧
  (∀ e : Int, n0 ≤ e → e < n1 → rd so e = 21 → s0 ≤ rd on e ∧ rd on e < s1) ∧
  (∀ k : Int, k0 ≤ k → k < k1 → rd wt k = 2 → s0 ≤ rd sl k ∧ rd sl k < s1) ∧
  (∀ e k : Int, n0 ≤ e → e < n1 → rd so e = 21 → k0 ≤ k → k < k1 → rd wt k = 2 → ¬ rd on e = rd sl k)
section
variable {so st on tw th fo nx wh so' st' on' tw' th' fo' nx' wh' wt sl wt' sl' : nA} {n0 n1 n2 k0 k1 k2 s0 s1 s2 : Int} {kd ky : Int → Int}
theorem nb_0 (h : n1 ≤ n0) : nb21 so n0 n1 := fun e a b => by omega
theorem nb_u (h : nb21 so n0 n1) (g : ∀ e : Int, n0 ≤ e → e < n1 → rd so' e = rd so e) : nb21 so' n0 n1 := fun e a b => by rw [g e a b]; exact h e a b
theorem nb_c {c : Int} (h : nb21 so' n0 n1) (hs : rd so' n1 = c) (hc : ¬ c = 21) (hb : noB so' (n1 + 1) n2) (h0 : 0 ≤ n1) : nb21 so' n0 n2 := fun e a b => by
  by_cases q : e < n1
  · exact h e a q
  · by_cases q2 : e = n1
    · rw [q2, hs]; exact hc
    · have := hb e (by omega) (by omega) b
      omega
theorem nb_B (h : noB so n0 n1) (h0 : 0 ≤ n0) : nb21 so n0 n1 := fun e a b => by have := h e (by omega) a b; omega
theorem nb_D {m : gV → Prop} (h : nD so st on tw th fo nx wh kd ky n0 n1 m) : nb21 so n0 n1 := fun e a b => by
  obtain ⟨h0, h1, h2, h3⟩ := h
  by_cases q : e = n0
  · rw [q]
    rcases h3 with z | z | z | z | z | z | z | z <;> (have := z.1; omega)
  · have := h2 e (by omega) (by omega) b
    omega
theorem nb_1 {c : Int} (hs : rd so n0 = c) (hc : ¬ c = 21) (h : n1 = n0 + 1) : nb21 so n0 n1 := fun e a b => by rw [show e = n0 from by omega, hs]; exact hc
theorem nb_o {c : Int} (hs : rd so n0 = c) (hc : ¬ c = 21) (h : nb21 so (n0 + 1) n1) : nb21 so n0 n1 := fun e a b => by
  by_cases q : e = n0
  · rw [q, hs]; exact hc
  · exact h e (by omega) b
theorem scV_0 (hn : nb21 so n0 n1) (hk : ∀ k : Int, k0 ≤ k → k < k1 → ¬ rd wt k = 2) (hs : s1 = s0) : scV so on wt sl n0 n1 k0 k1 s0 s1 :=
  ⟨fun s a b => by omega, fun e a b c => absurd c (hn e a b), fun k a b c => absurd c (hk k a b), fun e k a b c _ _ _ => absurd c (hn e a b)⟩
theorem scV_u (h : scV so on wt sl n0 n1 k0 k1 s0 s1) (g : ∀ e : Int, n0 ≤ e → e < n1 → rd so' e = rd so e ∧ rd on' e = rd on e) (gn : ∀ k : Int, k0 ≤ k → k < k1 → rd wt' k = rd wt k ∧ rd sl' k = rd sl k) : scV so' on' wt' sl' n0 n1 k0 k1 s0 s1 := by
  obtain ⟨h1, h2, h3, h4⟩ := h
  refine ⟨fun s a b => ?_, fun e a b c => ?_, fun k a b c => ?_, fun e k a b c x y z => ?_⟩
  · rcases h1 s a b with ⟨e, e0, e1, e2, e3⟩ | ⟨k, e0, e1, e2, e3⟩
    · exact Or.inl ⟨e, e0, e1, by rw [(g e e0 e1).1]; exact e2, by rw [(g e e0 e1).2]; exact e3⟩
    · exact Or.inr ⟨k, e0, e1, by rw [(gn k e0 e1).1]; exact e2, by rw [(gn k e0 e1).2]; exact e3⟩
  · rw [(g e a b).1] at c
    rw [(g e a b).2]
    exact h2 e a b c
  · rw [(gn k a b).1] at c
    rw [(gn k a b).2]
    exact h3 k a b c
  · rw [(g e a b).1] at c
    rw [(gn k x y).1] at z
    rw [(g e a b).2, (gn k x y).2]
    exact h4 e k a b c x y z
theorem scV_x (h : scV so on wt sl n0 n1 k0 k1 s0 s1) (h0 : 0 ≤ n0) (g : ax9 n0 n1 so st on tw th fo nx wh so' st' on' tw' th' fo' nx' wh') (gn : ∀ k : Int, k0 ≤ k → k < k1 → rd wt' k = rd wt k ∧ rd sl' k = rd sl k) : scV so' on' wt' sl' n0 n1 k0 k1 s0 s1 :=
  scV_u h (fun e a b => ⟨(g e a b (by omega)).1, (g e a b (by omega)).2.2.1⟩) gn
theorem scV_2 (h : scV so on wt sl n0 n1 k0 k1 s0 s1) (g : scV so on wt sl n1 n2 k1 k2 s1 s2) (hn : n0 ≤ n1) (hn2 : n1 ≤ n2) (hk : k0 ≤ k1) (hk2 : k1 ≤ k2) (hs : s0 ≤ s1) (hs2 : s1 ≤ s2) : scV so on wt sl n0 n2 k0 k2 s0 s2 := by
  obtain ⟨a1, a2, a3, a4⟩ := h
  obtain ⟨b1, b2, b3, b4⟩ := g
  refine ⟨fun s x y => ?_, fun e x y z => ?_, fun k x y z => ?_, fun e k x y z u v w => ?_⟩
  · by_cases c : s < s1
    · rcases a1 s x c with ⟨e, e0, e1, e2⟩ | ⟨k, e0, e1, e2⟩
      · exact Or.inl ⟨e, e0, by omega, e2⟩
      · exact Or.inr ⟨k, e0, by omega, e2⟩
    · rcases b1 s (by omega) y with ⟨e, e0, e1, e2⟩ | ⟨k, e0, e1, e2⟩
      · exact Or.inl ⟨e, by omega, e1, e2⟩
      · exact Or.inr ⟨k, by omega, e1, e2⟩
  · by_cases c : e < n1
    · have := a2 e x c z
      omega
    · have := b2 e (by omega) y z
      omega
  · by_cases c : k < k1
    · have := a3 k x c z
      omega
    · have := b3 k (by omega) y z
      omega
  · by_cases c : e < n1
    · by_cases d : k < k1
      · exact a4 e k x c z u d w
      · have := a2 e x c z
        have := b3 k (by omega) v w
        omega
    · by_cases d : k < k1
      · have := b2 e (by omega) y z
        have := a3 k u d w
        omega
      · exact b4 e k (by omega) y z (by omega) v w
theorem scV_f (hn : nb21 so n0 n1) (g : scV so on wt sl n1 n2 k0 k2 s0 s2) (h1 : n0 ≤ n1) (h2 : n1 ≤ n2) (hk2 : k0 ≤ k2) (hs2 : s0 ≤ s2) : scV so on wt sl n0 n2 k0 k2 s0 s2 := scV_2 (scV_0 (k1 := k0) (s1 := s0) hn (fun k a b => by omega) rfl) g h1 h2 (Int.le_refl _) hk2 (Int.le_refl _) hs2
theorem scV_g (g : scV so on wt sl n0 n1 k0 k1 s0 s1) (hn : nb21 so n1 n2) (hk : ∀ k : Int, k1 ≤ k → k < k2 → ¬ rd wt k = 2) (h1 : n0 ≤ n1) (h2 : n1 ≤ n2) (hk1 : k0 ≤ k1) (hk2 : k1 ≤ k2) (hs2 : s0 ≤ s1) : scV so on wt sl n0 n2 k0 k2 s0 s1 := scV_2 g (scV_0 (s1 := s1) (s0 := s1) hn hk rfl) h1 h2 hk1 hk2 hs2 (Int.le_refl _)
theorem scV_b (hs : rd so n0 = 21) (ho : rd on n0 = s0) (g : scV so on wt sl (n0 + 1) n1 k0 k1 (s0 + 1) s1) (hn : n0 + 1 ≤ n1) (hs1 : s0 + 1 ≤ s1) : scV so on wt sl n0 n1 k0 k1 s0 s1 := by
  obtain ⟨b1, b2, b3, b4⟩ := g
  refine ⟨fun s x y => ?_, fun e x y z => ?_, fun k x y z => ?_, fun e k x y z u v w => ?_⟩
  · by_cases c : s = s0
    · exact Or.inl ⟨n0, Int.le_refl _, by omega, hs, by omega⟩
    · rcases b1 s (by omega) y with ⟨e, e0, e1, e2⟩ | ⟨k, e0, e1, e2⟩
      · exact Or.inl ⟨e, by omega, e1, e2⟩
      · exact Or.inr ⟨k, e0, e1, e2⟩
  · by_cases c : e = n0
    · rw [c]; omega
    · have := b2 e (by omega) y z
      omega
  · have := b3 k x y z
    omega
  · by_cases c : e = n0
    · rw [c, ho]
      have := b3 k u v w
      omega
    · exact b4 e k (by omega) y z u v w
theorem scV_p {km : Int} (hw : rd wt k0 = 2) (ho : rd sl k0 = s0) (hp : ∀ k : Int, k0 < k → k < km → ¬ rd wt k = 2) (g : scV so on wt sl n0 n1 km k1 (s0 + 1) s1) (hn : n0 ≤ n1) (hk : k0 < km) (hk1 : km ≤ k1) (hs1 : s0 + 1 ≤ s1) : scV so on wt sl n0 n1 k0 k1 s0 s1 := by
  obtain ⟨b1, b2, b3, b4⟩ := g
  refine ⟨fun s x y => ?_, fun e x y z => ?_, fun k x y z => ?_, fun e k x y z u v w => ?_⟩
  · by_cases c : s = s0
    · exact Or.inr ⟨k0, Int.le_refl _, by omega, hw, by omega⟩
    · rcases b1 s (by omega) y with ⟨e, e0, e1, e2⟩ | ⟨k, e0, e1, e2⟩
      · exact Or.inl ⟨e, e0, e1, e2⟩
      · exact Or.inr ⟨k, by omega, e1, e2⟩
  · have := b2 e x y z
    omega
  · by_cases c : k = k0
    · rw [c]; omega
    · by_cases d : k < km
      · exact absurd z (hp k (by omega) d)
      · have := b3 k (by omega) y z
        omega
  · by_cases c : k = k0
    · rw [c, ho]
      have := b2 e x y z
      omega
    · by_cases d : k < km
      · exact absurd w (hp k (by omega) d)
      · exact b4 e k x y z (by omega) v w
end
