def swA (so st nx wh wt li : nA) (kd ky : Int → Int) (xn xk : Int) (N : Int → gV → Prop) : Prop := ∀ k : Int, 0 ≤ k → k < xk → rd wt k = 3 → nS so st nx wh li kd ky k 0 xn (N k)
def alS (wt : nA) (xk : Int) (N : Int → gV → Prop) (T : gV) : Prop := ∀ k : Int, 0 ≤ k → k < xk → rd wt k = 3 → N k T
def caA (so on tw th nx wt mr : nA) (xn p k : Int) (M N : Int → gV → Prop) (T : gV) : Prop := rcA so on tw th nx xn p M T ∧ ∀ j : Int, 0 ≤ j → j < k → (rd wt j = 2 → rcA so on tw th nx xn (rd mr j) M T) ∧ (rd wt j = 3 → N j T)
def swJ (st wh : nA) (ky : Int → Int) (T : gV) (a : Int) (n : Nat) (r xw cur : Int) (A B : Prop) : Prop := ∃ c : Nat, ((c < n ∧ r = a + (c : Int)) ∨ (c = n ∧ r < 0)) ∧ ckQ xw cur (A ∧ ∀ i : Nat, i < c → ¬ dLa (rd wh (a + (i : Int)) - 1) (ky (rd st (a + (i : Int)))) T = none) B
section
variable {so st on tw th nx wh wt li mr : nA} {kd ky : Int → Int} {xn xk p k k2 a r xw cur x1 : Int} {n : Nat} {M N : Int → gV → Prop} {T : gV} {A B : Prop}
theorem ca_0 (h : rcA so on tw th nx xn p M T) (hk : k ≤ 0) : caA so on tw th nx wt mr xn p k M N T := ⟨h, fun j a b => by omega⟩
theorem ca_s (h : caA so on tw th nx wt mr xn p k M N T) (h1 : rd wt k = 2 → rcA so on tw th nx xn (rd mr k) M T) (h2 : rd wt k = 3 → N k T) (hk : k2 = k + 1) : caA so on tw th nx wt mr xn p k2 M N T := ⟨h.1, fun j a b => by
  by_cases c : j = k
  · rw [c]; exact ⟨h1, h2⟩
  · exact h.2 j a (by omega)⟩
theorem ca_x (h : caA so on tw th nx wt mr xn p k M N T) (hk : xk ≤ k) (hc : CV so on tw th nx wt mr 0 xn 0 xk (fun c => c = p)) : alM so xn M T ∧ alS wt xk N T := by
  refine ⟨fun r r0 r1 r2 => ?_, fun j j0 j1 j2 => (h.2 j j0 (by omega)).2 j2⟩
  rcases hc r r0 r1 r2 with ⟨c, c0, c1, c2⟩ | ⟨z, z0, z1, z2, z3, z4⟩
  · rw [show c = p from c1] at c2
    exact h.1 r c2 r2
  · exact (h.2 z z0 (by omega)).1 z2 r z4 r2
theorem swj_0 (h : ckQ xw cur A B) (hr : r = a) (hn : 1 ≤ n) : swJ st wh ky T a n r xw cur A B := ⟨0, Or.inl ⟨by omega, by omega⟩, ckq_i h (fun z => ⟨z, fun i hi => by omega⟩)⟩
theorem swj_o (h : swJ st wh ky T a n r xw cur A B) (hr : 0 ≤ r) : ∃ c : Nat, c < n ∧ r = a + (c : Int) ∧ ckQ xw cur (A ∧ ∀ i : Nat, i < c → ¬ dLa (rd wh (a + (i : Int)) - 1) (ky (rd st (a + (i : Int)))) T = none) B := by
  obtain ⟨c, h1, h2⟩ := h
  rcases h1 with h1 | h1
  · exact ⟨c, h1.1, h1.2, h2⟩
  · omega
theorem swj_s {c : Nat} {r2 : Int} (h : ckQ xw cur ((A ∧ ∀ i : Nat, i < c → ¬ dLa (rd wh (a + (i : Int)) - 1) (ky (rd st (a + (i : Int)))) T = none) ∧ ¬ dLa (rd wh r - 1) (ky (rd st r)) T = none) B) (hc : c < n) (hr : r = a + (c : Int)) (h0 : 0 ≤ a) (hx : r2 = if c + 1 < n then a + (c : Int) + 1 else -1) : swJ st wh ky T a n r2 xw cur A B := by
  refine ⟨c + 1, ?_, ckq_i h (fun z => ⟨z.1.1, fun i hi => ?_⟩)⟩
  · by_cases q : c + 1 < n
    · rw [if_pos q] at hx
      exact Or.inl ⟨q, by omega⟩
    · rw [if_neg q] at hx
      exact Or.inr ⟨by omega, by omega⟩
  · by_cases q : i = c
    · rw [q, ← hr]
      exact z.2
    · exact z.1.2 i (by omega)
theorem swj_x (h : swJ st wh ky T a n r xw cur A B) (hr : r < 0) (h0 : 0 ≤ a) : ckQ xw cur (A ∧ ∀ i : Nat, i < n → ¬ dLa (rd wh (a + (i : Int)) - 1) (ky (rd st (a + (i : Int)))) T = none) B := by
  obtain ⟨c, h1, h2⟩ := h
  rcases h1 with h1 | h1
  · omega
  · rw [← h1.1]
    exact h2
theorem la_y {w key : Int} (hk : k = gMe T w key) (h3 : isLa T k) : ckQ xw xw (¬ dLa w key T = none) B := ckq_y (by
  show ¬ xLa T (gMe T w key) = none
  rw [← hk]
  unfold xLa
  rw [if_pos h3]
  exact fun z => by cases z)
theorem la_n {w key : Int} (hk : k = gMe T w key) (h3 : ¬ isLa T k) (g : B → ¬ dLa w key T = none) (hx : 0 ≤ x1) : ckQ xw x1 (¬ dLa w key T = none) B := ckq_x (fun z => z (by
  show xLa T (gMe T w key) = none
  rw [← hk]
  exact if_neg h3)) hx g
theorem sw_B {c : Nat} (hN : N k = fun e => ∀ i : Nat, i < n → ¬ dLa (rd wh (a + (i : Int)) - 1) (ky (rd st (a + (i : Int)))) e = none) (hc : c < n) (hr : r = a + (c : Int)) (h : N k T) : ¬ dLa (rd wh r - 1) (ky (rd st r)) T = none := by
  rw [hN] at h
  rw [hr]
  exact h c hc
theorem sw_N (hN : N k = fun e => ∀ i : Nat, i < n → ¬ dLa (rd wh (a + (i : Int)) - 1) (ky (rd st (a + (i : Int)))) e = none) (h : ∀ i : Nat, i < n → ¬ dLa (rd wh (a + (i : Int)) - 1) (ky (rd st (a + (i : Int)))) T = none) : N k T := by
  rw [hN]
  exact h
end
