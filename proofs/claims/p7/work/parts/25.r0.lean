def mtc (bt : Int → Int) (a n k : Int) : Prop := sCh 2 k = 32 ∧ sCh 2 (k + n + 1) = 32 ∧ ∀ j : Int, 0 ≤ j → j < n → sCh 2 (k + 1 + j) = bt (a + j)
def rsv (bt : Int → Int) (a n : Int) : Prop := ∃ c : Int, 1 ≤ c ∧ c ≤ 26 ∧ tkX c bt a (a + n)
def rsI (bt : Int → Int) (a n k i s : Int) : Prop := (s = 1 ∧ sCh 2 k = 32 ∧ sCh 2 (k + n + 1) = 32 ∧ ∀ j : Int, 0 ≤ j → j < i → sCh 2 (k + 1 + j) = bt (a + j)) ∨ (s = 0 ∧ ¬ mtc bt a n k)
def rsO (bt : Int → Int) (a n k : Int) : Prop := ∀ j : Int, 0 ≤ j → j < k → ¬ mtc bt a n j
def rsB1 (k n : Nat) : Bool := !(decide (k + n + 1 < sN 2) && decide (1 ≤ n) && decide (sCh 2 ((k + n + 1 : Nat) : Int) = 32) && (List.range n).all (fun j => !decide (sCh 2 ((k + 1 + j : Nat) : Int) = 32))) || (List.range 27).any (fun c => decide (1 ≤ c) && decide ((txC ((c : Nat) : Int)).length = n) && (List.range n).all (fun j => decide (sCh 2 ((k + 1 + j : Nat) : Int) = (txC ((c : Nat) : Int)).getD j 0)))
def rsB2 (c : Nat) : Bool := (List.range 140).any (fun k => decide (k + (txC ((c : Nat) : Int)).length + 1 < sN 2) && decide (sCh 2 ((k : Nat) : Int) = 32) && decide (sCh 2 ((k + (txC ((c : Nat) : Int)).length + 1 : Nat) : Int) = 32) && (List.range (txC ((c : Nat) : Int)).length).all (fun j => decide (sCh 2 ((k + 1 + j : Nat) : Int) = (txC ((c : Nat) : Int)).getD j 0)))
set_option maxRecDepth 1000000 in
theorem rsB1_t : ((List.range 140).all fun k => !decide (sCh 2 ((k : Nat) : Int) = 32) || (List.range 140).all fun n => rsB1 k n) = true := by decide +kernel
set_option maxRecDepth 1000000 in
theorem rsB2_t : ((List.range 27).all fun c => !decide (1 ≤ c) || rsB2 c) = true := by decide +kernel
theorem rs_d1 (k : Nat) (hk : k < 140) (h1 : sCh 2 ((k : Nat) : Int) = 32) (n : Nat) (hn : n < 140) (h2 : k + n + 1 < sN 2) (h3 : 1 ≤ n) (h4 : sCh 2 ((k + n + 1 : Nat) : Int) = 32) (h5 : ∀ j, j < n → ¬ sCh 2 ((k + 1 + j : Nat) : Int) = 32) : ∃ c, c < 27 ∧ 1 ≤ c ∧ (txC ((c : Nat) : Int)).length = n ∧ ∀ j, j < n → sCh 2 ((k + 1 + j : Nat) : Int) = (txC ((c : Nat) : Int)).getD j 0 := by
  have z := List.all_eq_true.mp rsB1_t k (List.mem_range.mpr hk)
  rw [Bool.or_eq_true] at z
  rcases z with z | z
  · rw [decide_eq_true h1] at z
    cases z
  · have y := List.all_eq_true.mp z n (List.mem_range.mpr hn)
    unfold rsB1 at y
    rw [Bool.or_eq_true] at y
    rcases y with y | y
    · have q : (List.range n).all (fun j => !decide (sCh 2 ((k + 1 + j : Nat) : Int) = 32)) = true := List.all_eq_true.mpr (fun j hj => by rw [decide_eq_false (h5 j (List.mem_range.mp hj))]; rfl)
      rw [decide_eq_true h2, decide_eq_true h3, decide_eq_true h4, q] at y
      cases y
    · obtain ⟨c, hc, y⟩ := List.any_eq_true.mp y
      rw [Bool.and_eq_true, Bool.and_eq_true] at y
      exact ⟨c, List.mem_range.mp hc, of_decide_eq_true y.1.1, of_decide_eq_true y.1.2, fun j hj => of_decide_eq_true (List.all_eq_true.mp y.2 j (List.mem_range.mpr hj))⟩
theorem rs_d2 (c : Nat) (hc : c < 27) (h1 : 1 ≤ c) : ∃ k, k < 140 ∧ k + (txC ((c : Nat) : Int)).length + 1 < sN 2 ∧ sCh 2 ((k : Nat) : Int) = 32 ∧ sCh 2 ((k + (txC ((c : Nat) : Int)).length + 1 : Nat) : Int) = 32 ∧ ∀ j, j < (txC ((c : Nat) : Int)).length → sCh 2 ((k + 1 + j : Nat) : Int) = (txC ((c : Nat) : Int)).getD j 0 := by
  have z := List.all_eq_true.mp rsB2_t c (List.mem_range.mpr hc)
  rw [Bool.or_eq_true] at z
  rcases z with z | z
  · rw [decide_eq_true h1] at z
    cases z
  · obtain ⟨k, hk, y⟩ := List.any_eq_true.mp z
    rw [Bool.and_eq_true, Bool.and_eq_true, Bool.and_eq_true] at y
    exact ⟨k, List.mem_range.mp hk, of_decide_eq_true y.1.1.1, of_decide_eq_true y.1.1.2, of_decide_eq_true y.1.2, fun j hj => of_decide_eq_true (List.all_eq_true.mp y.2 j (List.mem_range.mpr hj))⟩
section
variable {bt : Int → Int} {a n k i s k2 i2 : Int}
theorem rs_y (h : mtc bt a n k) (ho : cOk bt a (a + n)) (h0 : 0 ≤ k) (h1 : k + n + 1 < sN 2) (hn : 1 ≤ n) : rsv bt a n := by
  obtain ⟨g1, g2, g3⟩ := h
  have hs : sN 2 ≤ 140 := sN_le 2 (by decide)
  have ek : ((k.toNat : Nat) : Int) = k := by omega
  have en : ((k.toNat + n.toNat + 1 : Nat) : Int) = k + n + 1 := by omega
  have z := rs_d1 k.toNat (by omega) (by rw [ek]; exact g1) n.toNat (by omega) (by omega) (by omega) (by rw [en]; exact g2) (fun j hj => by
    rw [show ((k.toNat + 1 + j : Nat) : Int) = k + 1 + (j : Int) from by omega, g3 (j : Int) (by omega) (by omega)]
    have q := ho (a + (j : Int)) (by omega) (by omega)
    unfold cLe cDi at q
    omega)
  obtain ⟨c, c1, c2, c3, c4⟩ := z
  refine ⟨(c : Int), by omega, by omega, by omega, fun j hj => ?_⟩
  have q := c4 j (by omega)
  rw [show ((k.toNat + 1 + j : Nat) : Int) = k + 1 + (j : Int) from by omega, g3 (j : Int) (by omega) (by omega)] at q
  exact q
theorem rs_n (h : rsO bt a n k) (h1 : ¬ k + n + 1 < sN 2) : ¬ rsv bt a n := by
  intro ⟨c, c1, c2, c3, c4⟩
  obtain ⟨j, j1, j2, j3, j4, j5⟩ := rs_d2 c.toNat (by omega) (by omega)
  have ec : ((c.toNat : Nat) : Int) = c := by omega
  rw [ec] at j2 j4 j5
  have el : (((txC c).length : Nat) : Int) = n := by omega
  refine h (j : Int) (by omega) (by omega) ⟨j3, ?_, fun i hi hi2 => ?_⟩
  · rw [show (j : Int) + n + 1 = ((j + (txC c).length + 1 : Nat) : Int) from by omega]
    exact j4
  · have q := j5 i.toNat (by omega)
    have q2 := c4 i.toNat (by omega)
    rw [show ((j + 1 + i.toNat : Nat) : Int) = (j : Int) + 1 + i from by omega] at q
    rw [show ((i.toNat : Nat) : Int) = i from by omega] at q2
    rw [q, q2]
theorem rsO_0 : rsO bt a n 0 := fun j h1 h2 => by omega
theorem rsO_s (h : rsO bt a n k) (g : ¬ mtc bt a n k) (e : k2 = k + 1) : rsO bt a n k2 := fun j h1 h2 => by
  by_cases c : j = k
  · rw [c]; exact g
  · exact h j h1 (by omega)
theorem rsI_1 (h1 : sCh 2 k = 32) (h2 : sCh 2 (k + n + 1) = 32) : rsI bt a n k 0 1 := Or.inl ⟨rfl, h1, h2, fun j a1 a2 => by omega⟩
theorem rsI_a (h : ¬ sCh 2 k = 32) : rsI bt a n k 0 0 := Or.inr ⟨rfl, fun z => h z.1⟩
theorem rsI_b (h : ¬ sCh 2 (k + n + 1) = 32) : rsI bt a n k 0 0 := Or.inr ⟨rfl, fun z => h z.2.1⟩
theorem rsI_s (h : rsI bt a n k i s) (hs : ¬ s = 0) (e : sCh 2 (k + 1 + i) = bt (a + i)) (e2 : i2 = i + 1) : rsI bt a n k i2 1 := by
  rcases h with ⟨h1, h2, h3, h4⟩ | ⟨h1, -⟩
  · refine Or.inl ⟨rfl, h2, h3, fun j a1 a2 => ?_⟩
    by_cases c : j = i
    · rw [c]; exact e
    · exact h4 j a1 (by omega)
  · exact absurd h1 hs
theorem rsI_m (h0 : 0 ≤ i) (hi : i < n) (e : ¬ sCh 2 (k + 1 + i) = bt (a + i)) : rsI bt a n k i2 0 := Or.inr ⟨rfl, fun z => e (z.2.2 i h0 hi)⟩
theorem rsI_y (h : rsI bt a n k i s) (hs : ¬ s = 0) (hi : n ≤ i) : mtc bt a n k := by
  rcases h with ⟨h1, h2, h3, h4⟩ | ⟨h1, -⟩
  · exact ⟨h2, h3, fun j a1 a2 => h4 j a1 (by omega)⟩
  · exact absurd h1 hs
theorem rsI_n (h : rsI bt a n k i s) (hs : s = 0) : ¬ mtc bt a n k := by
  rcases h with ⟨h1, -⟩ | ⟨-, h1⟩
  · omega
  · exact h1
end
