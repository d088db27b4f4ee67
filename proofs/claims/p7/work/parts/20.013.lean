theorem all_X (l : Launch) (D : va_G) (kI kJ kB kZ : ClassId) : ∀ n : Nat, R_X l D kI kJ kB kZ n := by
  intro n
  induction n with
  | zero => exact ⟨g_AlgolJudgeModel_expression l D kI kJ kB kZ 0 (fun k h => absurd h (by omega)), g_AlgolJudgeModel_either l D kI kJ kB kZ 0 (fun k h => absurd h (by omega)), g_AlgolJudgeModel_denial l D kI kJ kB kZ 0 (fun k h => absurd h (by omega))⟩
  | succ n ih => exact ⟨g_AlgolJudgeModel_expression l D kI kJ kB kZ (n + 1) (fun k h => by rw [show k = n from (by omega)]; exact ih), g_AlgolJudgeModel_either l D kI kJ kB kZ (n + 1) (fun k h => by rw [show k = n from (by omega)]; exact ih), g_AlgolJudgeModel_denial l D kI kJ kB kZ (n + 1) (fun k h => by rw [show k = n from (by omega)]; exact ih)⟩
theorem a_X_power (l : Launch) (D : va_G) (kI kJ kB kZ : ClassId) (n : Nat) : P_AlgolJudgeModel_power l D kI kJ kB kZ n := g_AlgolJudgeModel_power l D kI kJ kB kZ n (fun k _ => all_X l D kI kJ kB kZ k)
theorem a_X_term (l : Launch) (D : va_G) (kI kJ kB kZ : ClassId) (n : Nat) : P_AlgolJudgeModel_term l D kI kJ kB kZ n := g_AlgolJudgeModel_term l D kI kJ kB kZ n (fun k _ => all_X l D kI kJ kB kZ k)
theorem a_X_sum (l : Launch) (D : va_G) (kI kJ kB kZ : ClassId) (n : Nat) : P_AlgolJudgeModel_sum l D kI kJ kB kZ n := g_AlgolJudgeModel_sum l D kI kJ kB kZ n (fun k _ => all_X l D kI kJ kB kZ k)
theorem a_X_relation (l : Launch) (D : va_G) (kI kJ kB kZ : ClassId) (n : Nat) : P_AlgolJudgeModel_relation l D kI kJ kB kZ n := g_AlgolJudgeModel_relation l D kI kJ kB kZ n (fun k _ => all_X l D kI kJ kB kZ k)
theorem a_X_denial (l : Launch) (D : va_G) (kI kJ kB kZ : ClassId) (n : Nat) : P_AlgolJudgeModel_denial l D kI kJ kB kZ n := g_AlgolJudgeModel_denial l D kI kJ kB kZ n (fun k _ => all_X l D kI kJ kB kZ k)
theorem a_X_both (l : Launch) (D : va_G) (kI kJ kB kZ : ClassId) (n : Nat) : P_AlgolJudgeModel_both l D kI kJ kB kZ n := g_AlgolJudgeModel_both l D kI kJ kB kZ n (fun k _ => all_X l D kI kJ kB kZ k)
theorem a_X_either (l : Launch) (D : va_G) (kI kJ kB kZ : ClassId) (n : Nat) : P_AlgolJudgeModel_either l D kI kJ kB kZ n := g_AlgolJudgeModel_either l D kI kJ kB kZ n (fun k _ => all_X l D kI kJ kB kZ k)
theorem a_X_expression (l : Launch) (D : va_G) (kI kJ kB kZ : ClassId) (n : Nat) : P_AlgolJudgeModel_expression l D kI kJ kB kZ n := g_AlgolJudgeModel_expression l D kI kJ kB kZ n (fun k _ => all_X l D kI kJ kB kZ k)
theorem a_X_atom (l : Launch) (D : va_G) (kI kJ kB kZ : ClassId) (n : Nat) : P_AlgolJudgeModel_atom l D kI kJ kB kZ n := g_AlgolJudgeModel_atom l D kI kJ kB kZ n (fun k _ => all_X l D kI kJ kB kZ k)
theorem a_X_bracket (l : Launch) (D : va_G) (kI kJ kB kZ : ClassId) (n : Nat) : P_AlgolJudgeModel_bracket l D kI kJ kB kZ n := g_AlgolJudgeModel_bracket l D kI kJ kB kZ n (fun k _ => all_X l D kI kJ kB kZ k)
theorem a_X_subscripts (l : Launch) (D : va_G) (kI kJ kB kZ : ClassId) (n : Nat) : P_AlgolJudgeModel_subscripts l D kI kJ kB kZ n := g_AlgolJudgeModel_subscripts l D kI kJ kB kZ n (fun k _ => all_X l D kI kJ kB kZ k)
theorem a_X_actuals (l : Launch) (D : va_G) (kI kJ kB kZ : ClassId) (n : Nat) : P_AlgolJudgeModel_actuals l D kI kJ kB kZ n := g_AlgolJudgeModel_actuals l D kI kJ kB kZ n (fun k _ => all_X l D kI kJ kB kZ k)

