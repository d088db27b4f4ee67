def jN (f33 mg : nA) : Prop := ∀ j : Nat, j < 3000 → f33 j = mg j
theorem jN_0 : jN (fun _ : Nat => (0 : Int32)) (fun _ : Nat => (0 : Int32)) := fun _ _ => rfl
section
variable {o : Option (gV × List (Int × Int))} {on' : Int} {pl ky : Int → Int} {f34 f34' f28 f28' f29 f29' f30 f30' f31 f31' f32 f32' f33 f33' nu' mg mg' : nA}
theorem jN_s (h : jN f33 mg) (h1 : jR6 o on' f34 f34' f28 f28' f29 f29' f30 f30' f31 f31' f32 f32' f33 f33') (h2 : jR7 o pl ky f34' f33 f33') (h3 : jM7 o pl ky nu' mg mg') (e : f34' = nu') : jN f33' mg' := by
  cases c : o with
  | none =>
    rw [(h1.1 c).2.2.2.2.2.2, h3.1 c]
    exact h
  | some x =>
    intro j hj
    obtain ⟨m1, a1, a2⟩ := h2 x c
    rw [a2, e]
    exact h3.2 x c m1 f33 a1 j hj
theorem jN_q {ow on xy p p' r r' : Int} (h : jN f33 mg) (hE : jE ow on xy) (hp : p' = p) (h1 : (¬ ow = 0 → r = gG (rI f33) 3000 (-2) p) ∧ (ow = 0 → r = -2)) (h2 : (0 ≤ xy ∧ 0 ≤ p' ∧ p' < 3000 → r' = rd mg p') ∧ (¬ (0 ≤ xy ∧ 0 ≤ p' ∧ p' < 3000) → r' = -2)) : r = r' := by
  subst hp
  rcases hE with ⟨a, b⟩ | ⟨a, b, c⟩
  · rw [h1.2 a, h2.2 (by omega)]
  · rw [h1.1 a]
    by_cases d : 0 ≤ p' ∧ p' < 3000
    · rw [h2.1 ⟨c, d⟩, gG_i d.1 d.2]
      show (f33 p'.toNat).toInt = (mg p'.toNat).toInt
      rw [h p'.toNat (by omega)]
    · rw [h2.2 (fun z => d z.2)]
      exact if_neg d
end
theorem jw_7 {f9 f10 : Nat → Int32} {f11 : Nat → Int64} {tc : Int32} {W : List (Int × Int × Int)} {n : Int} (h : tW W n f9 f10 f11 tc) : ∀ (j : Nat) (w : Int × Int × Int), W[j]? = some w → pC f10 j = w.2.1 := by
  intro j w hw
  have hj : j < W.length := (List.getElem?_eq_some_iff.mp hw).1
  have h2 := h.2.1 j hj
  rw [hw] at h2
  injection h2 with h3
  subst h3
  rfl
