theorem nD_18 {so st on tw th fo nx wh : nA} {kd ky : Int → Int} {r q : Int} {m : gV → Prop} (h : nD so st on tw th fo nx wh kd ky r q m) : 18 < rd so r := by
  obtain ⟨-, -, -, z⟩ := h
  rcases z with z | z | z | z | z | z | z | z <;> (have := z.1; omega)
theorem RQ_e {ky : Int → Int} {wd ho ar ins wt ty li mo fi sl : nA} {xk xs a xc xp xc2 xp2 xw : Int} {x : gW} (h : RQ (fun T => rCs T ky wd ho ar ins wt ty li mo fi sl xk xs a xc xp) x xw) (e1 : xc2 = xc) (e2 : xp2 = xp) : RQ (fun T => rCs T ky wd ho ar ins wt ty li mo fi sl xk xs a xc2 xp2) x xw := by
  subst e1 e2
  exact h
theorem ifn_n {α : Type} {c : Prop} [Decidable c] {x : Option α} (h : x = none) : (if c then none else x) = none := by
  split
  · rfl
  · exact h
