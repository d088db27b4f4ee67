theorem all_W (l : Launch) (D : va_G) (kI kJ kB kZ : ClassId) : ∀ n : Nat, R_W l D kI kJ kB kZ n := by
  intro n
  induction n with
  | zero => exact ⟨g_AlgolJudgeModel_plain l D kI kJ kB kZ 0 (fun k h => absurd h (by omega)), g_AlgolJudgeModel_declaration l D kI kJ kB kZ 0 (fun k h => absurd h (by omega))⟩
  | succ n ih => exact ⟨g_AlgolJudgeModel_plain l D kI kJ kB kZ (n + 1) (fun k h => by rw [show k = n from (by omega)]; exact ih), g_AlgolJudgeModel_declaration l D kI kJ kB kZ (n + 1) (fun k h => by rw [show k = n from (by omega)]; exact ih)⟩
theorem a_W_behindWord (l : Launch) (D : va_G) (kI kJ kB kZ : ClassId) (n : Nat) : P_AlgolJudgeModel_behindWord l D kI kJ kB kZ n := g_AlgolJudgeModel_behindWord l D kI kJ kB kZ n (fun k _ => all_W l D kI kJ kB kZ k)
theorem a_W_anIf (l : Launch) (D : va_G) (kI kJ kB kZ : ClassId) (n : Nat) : P_AlgolJudgeModel_anIf l D kI kJ kB kZ n := g_AlgolJudgeModel_anIf l D kI kJ kB kZ n (fun k _ => all_W l D kI kJ kB kZ k)
theorem a_W_aFor (l : Launch) (D : va_G) (kI kJ kB kZ : ClassId) (n : Nat) : P_AlgolJudgeModel_aFor l D kI kJ kB kZ n := g_AlgolJudgeModel_aFor l D kI kJ kB kZ n (fun k _ => all_W l D kI kJ kB kZ k)
theorem a_W_plain (l : Launch) (D : va_G) (kI kJ kB kZ : ClassId) (n : Nat) : P_AlgolJudgeModel_plain l D kI kJ kB kZ n := g_AlgolJudgeModel_plain l D kI kJ kB kZ n (fun k _ => all_W l D kI kJ kB kZ k)
theorem a_W_block (l : Launch) (D : va_G) (kI kJ kB kZ : ClassId) (n : Nat) : P_AlgolJudgeModel_block l D kI kJ kB kZ n := g_AlgolJudgeModel_block l D kI kJ kB kZ n (fun k _ => all_W l D kI kJ kB kZ k)
theorem a_W_declaration (l : Launch) (D : va_G) (kI kJ kB kZ : ClassId) (n : Nat) : P_AlgolJudgeModel_declaration l D kI kJ kB kZ n := g_AlgolJudgeModel_declaration l D kI kJ kB kZ n (fun k _ => all_W l D kI kJ kB kZ k)
theorem a_W_aProcedure (l : Launch) (D : va_G) (kI kJ kB kZ : ClassId) (n : Nat) : P_AlgolJudgeModel_aProcedure l D kI kJ kB kZ n := g_AlgolJudgeModel_aProcedure l D kI kJ kB kZ n (fun k _ => all_W l D kI kJ kB kZ k)

