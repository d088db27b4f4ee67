theorem nD_18 {so st on tw th fo nx wh : nA} {kd ky : Int → Int} {r q : Int} {m : gV → Prop} (h : nD so st on tw th fo nx wh kd ky r q m) : 18 < rd so r := by
  obtain ⟨-, -, -, z⟩ := h
  rcases z with z | z | z | z | z | z | z | z <;> (have := z.1; omega)
theorem RQ_e {ky : Int → Int} {wd ho ar ins wt ty li mo fi sl io bv : nA} {xk xs a xc xp xc2 xp2 xw : Int} {x : gW} (h : RQ (fun T => rCs T ky wd ho ar ins wt ty li mo fi sl io bv xk xs a xc xp) x xw) (e1 : xc2 = xc) (e2 : xp2 = xp) : RQ (fun T => rCs T ky wd ho ar ins wt ty li mo fi sl io bv xk xs a xc2 xp2) x xw := by
  subst e1 e2
  exact h
theorem ifn_n {α : Type} {c : Prop} [Decidable c] {x : Option α} (h : x = none) : (if c then none else x) = none := by
  split
  · rfl
  · exact h
section
variable {kd ky : Int → Int} {L w wo i o q ty : Int} {X : Int → Int → gR} {lm : gM}
theorem Y_dc9 (h : kd i = 9) : gDcl kd ky L X lm wo w i o q = (gSwi kd ky w i).bind fun p => some (p.1, o, q, p.2) := if_pos h
theorem ty_e (h : (kd i = 3 ∧ ty = 1) ∨ (kd i = 4 ∧ ty = 2)) : gTyp kd i = some (i + 1, ty) := by
  unfold gTyp
  rcases h with h | h
  · rw [if_neg (by omega), tk_y h.1, h.2]
    rfl
  · rw [if_pos h.1, h.2]
theorem Y_dc8 (h : kd i = 8) (ht : (kd (i + 1) = 3 ∧ ty = 1) ∨ (kd (i + 1) = 4 ∧ ty = 2)) : gDcl kd ky L X lm wo w i o q = (gVas kd ky 1 ty w (i + 1 + 1) q b0).bind fun p => some (p.1, o, p.2.1, p.2.2) := by
  refine ((if_neg (by omega)).trans (if_pos h)).trans ?_
  rw [tk_y h]
  show (gTyp kd (i + 1)).bind _ = _
  rw [ty_e ht]
  rfl
theorem Y_dc8n (h : kd i = 8) (ht : ¬ (kd (i + 1) = 3 ∨ kd (i + 1) = 4)) : gDcl kd ky L X lm wo w i o q = none := by
  refine ((if_neg (by omega)).trans (if_pos h)).trans ?_
  rw [tk_y h]
  show (gTyp kd (i + 1)).bind _ = _
  have e : gTyp kd (i + 1) = none := by
    unfold gTyp
    rw [if_neg (by omega), tk_x (by omega)]
    rfl
  rw [e]
  rfl
def dTy (kd : Int → Int) (a now ty : Int) : Prop := (ty = 0 ∧ now = a ∧ ¬ kd a = 3 ∧ ¬ kd a = 4) ∨ (kd a = 3 ∧ now = a + 1 ∧ ty = 1) ∨ (kd a = 4 ∧ now = a + 1 ∧ ty = 2)
theorem Y_dct {now : Int} (h8 : ¬ kd i = 8) (h9 : ¬ kd i = 9) (h : dTy kd i now ty) : gDcl kd ky L X lm wo w i o q = gTyD kd ky L X lm wo ty w now o q := by
  refine ((if_neg h9).trans (if_neg h8)).trans ?_
  rcases h with ⟨h1, h2, h3, h4⟩ | ⟨h1, h2, h3⟩ | ⟨h1, h2, h3⟩
  · rw [if_neg (by omega), h1, h2]
  · rw [if_pos (by omega), ty_e (Or.inl ⟨h1, h3⟩), h2]
    rfl
  · rw [if_pos (by omega), ty_e (Or.inr ⟨h1, h3⟩), h2]
    rfl
theorem Y_ty6 (h : kd i = 6) : gTyD kd ky L X lm wo ty w i o q = gPro kd ky L lm ty w i o q := if_pos h
theorem Y_ty5 (h : kd i = 5) : gTyD kd ky L X lm wo ty w i o q = (gSgs kd ky X ty wo w (i + 1) q b0).bind fun p => some (p.1, o, p.2.1, p.2.2) := by
  refine ((if_neg (by omega)).trans (if_pos h)).trans ?_
  rw [tk_y h]
  rfl
theorem Y_tyv (h6 : ¬ kd i = 6) (h5 : ¬ kd i = 5) : gTyD kd ky L X lm wo ty w i o q = (gVas kd ky 0 ty w i q b0).bind fun p => some (p.1, o, p.2.1, p.2.2) := (if_neg h6).trans (if_neg h5)
end
