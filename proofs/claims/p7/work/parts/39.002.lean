theorem all_P (l : Launch) (D : va_G) (kI kJ kB kZ : ClassId) : ∀ n : Nat, R_P l D kI kJ kB kZ n := by
  intro n
  induction n with
  | zero => exact (g_AlgolJudgeModel_specify l D kI kJ kB kZ 0 (fun k h => absurd h (by omega)))
  | succ n ih => exact (g_AlgolJudgeModel_specify l D kI kJ kB kZ (n + 1) (fun k h => by rw [show k = n from (by omega)]; exact ih))
theorem a_P_specify (l : Launch) (D : va_G) (kI kJ kB kZ : ClassId) (n : Nat) : P_AlgolJudgeModel_specify l D kI kJ kB kZ n := g_AlgolJudgeModel_specify l D kI kJ kB kZ n (fun k _ => all_P l D kI kJ kB kZ k)

