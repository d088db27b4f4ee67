theorem all_S (l : Launch) (D : va_G) (kI kJ kB kZ : ClassId) : ∀ n : Nat, R_S l D kI kJ kB kZ n := by
  intro n
  induction n with
  | zero => exact ⟨g_AlgolJudgeModel_plain l D kI kJ kB kZ 0 (fun k h => absurd h (by omega)), g_AlgolJudgeModel_declaration l D kI kJ kB kZ 0 (fun k h => absurd h (by omega))⟩
  | succ n ih => exact ⟨g_AlgolJudgeModel_plain l D kI kJ kB kZ (n + 1) (fun k h => by rw [show k = n from (by omega)]; exact ih), g_AlgolJudgeModel_declaration l D kI kJ kB kZ (n + 1) (fun k h => by rw [show k = n from (by omega)]; exact ih)⟩
theorem a_S_bounds (l : Launch) (D : va_G) (kI kJ kB kZ : ClassId) (n : Nat) : P_AlgolJudgeModel_bounds l D kI kJ kB kZ n := g_AlgolJudgeModel_bounds l D kI kJ kB kZ n (fun k _ => all_S l D kI kJ kB kZ k)
theorem a_S_element (l : Launch) (D : va_G) (kI kJ kB kZ : ClassId) (n : Nat) : P_AlgolJudgeModel_element l D kI kJ kB kZ n := g_AlgolJudgeModel_element l D kI kJ kB kZ n (fun k _ => all_S l D kI kJ kB kZ k)
theorem a_S_variables (l : Launch) (D : va_G) (kI kJ kB kZ : ClassId) (n : Nat) : P_AlgolJudgeModel_variables l D kI kJ kB kZ n := g_AlgolJudgeModel_variables l D kI kJ kB kZ n (fun k _ => all_S l D kI kJ kB kZ k)
theorem a_S_arrays (l : Launch) (D : va_G) (kI kJ kB kZ : ClassId) (n : Nat) : P_AlgolJudgeModel_arrays l D kI kJ kB kZ n := g_AlgolJudgeModel_arrays l D kI kJ kB kZ n (fun k _ => all_S l D kI kJ kB kZ k)
theorem a_S_aSwitch (l : Launch) (D : va_G) (kI kJ kB kZ : ClassId) (n : Nat) : P_AlgolJudgeModel_aSwitch l D kI kJ kB kZ n := g_AlgolJudgeModel_aSwitch l D kI kJ kB kZ n (fun k _ => all_S l D kI kJ kB kZ k)
theorem a_S_specify (l : Launch) (D : va_G) (kI kJ kB kZ : ClassId) (n : Nat) : P_AlgolJudgeModel_specify l D kI kJ kB kZ n := g_AlgolJudgeModel_specify l D kI kJ kB kZ n (fun k _ => all_S l D kI kJ kB kZ k)
theorem a_S_parameters (l : Launch) (D : va_G) (kI kJ kB kZ : ClassId) (n : Nat) : P_AlgolJudgeModel_parameters l D kI kJ kB kZ n := g_AlgolJudgeModel_parameters l D kI kJ kB kZ n (fun k _ => all_S l D kI kJ kB kZ k)
theorem a_S_aProcedure (l : Launch) (D : va_G) (kI kJ kB kZ : ClassId) (n : Nat) : P_AlgolJudgeModel_aProcedure l D kI kJ kB kZ n := g_AlgolJudgeModel_aProcedure l D kI kJ kB kZ n (fun k _ => all_S l D kI kJ kB kZ k)
theorem a_S_declaration (l : Launch) (D : va_G) (kI kJ kB kZ : ClassId) (n : Nat) : P_AlgolJudgeModel_declaration l D kI kJ kB kZ n := g_AlgolJudgeModel_declaration l D kI kJ kB kZ n (fun k _ => all_S l D kI kJ kB kZ k)
theorem a_S_aGoto (l : Launch) (D : va_G) (kI kJ kB kZ : ClassId) (n : Nat) : P_AlgolJudgeModel_aGoto l D kI kJ kB kZ n := g_AlgolJudgeModel_aGoto l D kI kJ kB kZ n (fun k _ => all_S l D kI kJ kB kZ k)
theorem a_S_behindWord (l : Launch) (D : va_G) (kI kJ kB kZ : ClassId) (n : Nat) : P_AlgolJudgeModel_behindWord l D kI kJ kB kZ n := g_AlgolJudgeModel_behindWord l D kI kJ kB kZ n (fun k _ => all_S l D kI kJ kB kZ k)
theorem a_S_anIf (l : Launch) (D : va_G) (kI kJ kB kZ : ClassId) (n : Nat) : P_AlgolJudgeModel_anIf l D kI kJ kB kZ n := g_AlgolJudgeModel_anIf l D kI kJ kB kZ n (fun k _ => all_S l D kI kJ kB kZ k)
theorem a_S_aFor (l : Launch) (D : va_G) (kI kJ kB kZ : ClassId) (n : Nat) : P_AlgolJudgeModel_aFor l D kI kJ kB kZ n := g_AlgolJudgeModel_aFor l D kI kJ kB kZ n (fun k _ => all_S l D kI kJ kB kZ k)
theorem a_S_aPrint (l : Launch) (D : va_G) (kI kJ kB kZ : ClassId) (n : Nat) : P_AlgolJudgeModel_aPrint l D kI kJ kB kZ n := g_AlgolJudgeModel_aPrint l D kI kJ kB kZ n (fun k _ => all_S l D kI kJ kB kZ k)
theorem a_S_assignment (l : Launch) (D : va_G) (kI kJ kB kZ : ClassId) (n : Nat) : P_AlgolJudgeModel_assignment l D kI kJ kB kZ n := g_AlgolJudgeModel_assignment l D kI kJ kB kZ n (fun k _ => all_S l D kI kJ kB kZ k)
theorem a_S_byName (l : Launch) (D : va_G) (kI kJ kB kZ : ClassId) (n : Nat) : P_AlgolJudgeModel_byName l D kI kJ kB kZ n := g_AlgolJudgeModel_byName l D kI kJ kB kZ n (fun k _ => all_S l D kI kJ kB kZ k)
theorem a_S_plain (l : Launch) (D : va_G) (kI kJ kB kZ : ClassId) (n : Nat) : P_AlgolJudgeModel_plain l D kI kJ kB kZ n := g_AlgolJudgeModel_plain l D kI kJ kB kZ n (fun k _ => all_S l D kI kJ kB kZ k)
theorem a_S_block (l : Launch) (D : va_G) (kI kJ kB kZ : ClassId) (n : Nat) : P_AlgolJudgeModel_block l D kI kJ kB kZ n := g_AlgolJudgeModel_block l D kI kJ kB kZ n (fun k _ => all_S l D kI kJ kB kZ k)

