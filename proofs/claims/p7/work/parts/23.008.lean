theorem all_T (l : Launch) (D : va_G) (kI kJ kB kZ : ClassId) : ∀ n : Nat, R_T l D kI kJ kB kZ n := by
  intro n
  induction n with
  | zero => exact ⟨g_AlgolJudgeModel_need l D kI kJ kB kZ 0 (fun k h => absurd h (by omega)), g_AlgolJudgeModel_typeOf l D kI kJ kB kZ 0 (fun k h => absurd h (by omega)), g_AlgolJudgeModel_actual l D kI kJ kB kZ 0 (fun k h => absurd h (by omega))⟩
  | succ n ih => exact ⟨g_AlgolJudgeModel_need l D kI kJ kB kZ (n + 1) (fun k h => by rw [show k = n from (by omega)]; exact ih), g_AlgolJudgeModel_typeOf l D kI kJ kB kZ (n + 1) (fun k h => by rw [show k = n from (by omega)]; exact ih), g_AlgolJudgeModel_actual l D kI kJ kB kZ (n + 1) (fun k h => by rw [show k = n from (by omega)]; exact ih)⟩
theorem a_T_reference (l : Launch) (D : va_G) (kI kJ kB kZ : ClassId) (n : Nat) : P_AlgolJudgeModel_reference l D kI kJ kB kZ n := g_AlgolJudgeModel_reference l D kI kJ kB kZ n (fun k _ => all_T l D kI kJ kB kZ k)
theorem a_T_row (l : Launch) (D : va_G) (kI kJ kB kZ : ClassId) (n : Nat) : P_AlgolJudgeModel_row l D kI kJ kB kZ n := g_AlgolJudgeModel_row l D kI kJ kB kZ n (fun k _ => all_T l D kI kJ kB kZ k)
theorem a_T_indexed (l : Launch) (D : va_G) (kI kJ kB kZ : ClassId) (n : Nat) : P_AlgolJudgeModel_indexed l D kI kJ kB kZ n := g_AlgolJudgeModel_indexed l D kI kJ kB kZ n (fun k _ => all_T l D kI kJ kB kZ k)
theorem a_T_call (l : Launch) (D : va_G) (kI kJ kB kZ : ClassId) (n : Nat) : P_AlgolJudgeModel_call l D kI kJ kB kZ n := g_AlgolJudgeModel_call l D kI kJ kB kZ n (fun k _ => all_T l D kI kJ kB kZ k)
theorem a_T_typeOf (l : Launch) (D : va_G) (kI kJ kB kZ : ClassId) (n : Nat) : P_AlgolJudgeModel_typeOf l D kI kJ kB kZ n := g_AlgolJudgeModel_typeOf l D kI kJ kB kZ n (fun k _ => all_T l D kI kJ kB kZ k)
theorem a_T_need (l : Launch) (D : va_G) (kI kJ kB kZ : ClassId) (n : Nat) : P_AlgolJudgeModel_need l D kI kJ kB kZ n := g_AlgolJudgeModel_need l D kI kJ kB kZ n (fun k _ => all_T l D kI kJ kB kZ k)
theorem a_T_actual (l : Launch) (D : va_G) (kI kJ kB kZ : ClassId) (n : Nat) : P_AlgolJudgeModel_actual l D kI kJ kB kZ n := g_AlgolJudgeModel_actual l D kI kJ kB kZ n (fun k _ => all_T l D kI kJ kB kZ k)

