theorem dTy_k {kd : Int → Int} {a now ty : Int} (h : dTy kd a now ty) : ¬ ty = 0 ∨ kd now = kd a := by
  rcases h with ⟨h1, h2, h3⟩ | h | h
  · exact Or.inr (by rw [h2])
  · exact Or.inl (by omega)
  · exact Or.inl (by omega)
