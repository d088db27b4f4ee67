theorem all_V (l : Launch) (D : va_G) (kI kJ kB kZ : ClassId) : ∀ n : Nat, R_V l D kI kJ kB kZ n := by
  intro n
  induction n with
  | zero => exact ⟨g_AlgolJudgeModel_variables l D kI kJ kB kZ 0 (fun k h => absurd h (by omega)), g_AlgolJudgeModel_aSwitch l D kI kJ kB kZ 0 (fun k h => absurd h (by omega))⟩
  | succ n ih => exact ⟨g_AlgolJudgeModel_variables l D kI kJ kB kZ (n + 1) (fun k h => by rw [show k = n from (by omega)]; exact ih), g_AlgolJudgeModel_aSwitch l D kI kJ kB kZ (n + 1) (fun k h => by rw [show k = n from (by omega)]; exact ih)⟩
theorem a_V_variables (l : Launch) (D : va_G) (kI kJ kB kZ : ClassId) (n : Nat) : P_AlgolJudgeModel_variables l D kI kJ kB kZ n := g_AlgolJudgeModel_variables l D kI kJ kB kZ n (fun k _ => all_V l D kI kJ kB kZ k)
theorem a_V_aSwitch (l : Launch) (D : va_G) (kI kJ kB kZ : ClassId) (n : Nat) : P_AlgolJudgeModel_aSwitch l D kI kJ kB kZ n := g_AlgolJudgeModel_aSwitch l D kI kJ kB kZ n (fun k _ => all_V l D kI kJ kB kZ k)

