theorem allo_C (l : Launch) (D : va_G) (kI kJ kB kZ : ClassId) : ∀ n : Nat, Ro_C l D kI kJ kB kZ n := by
  intro n
  induction n with
  | zero => exact go_AlgolJudgeModel_check l D kI kJ kB kZ 0 (fun k h => absurd h (by omega))
  | succ n ih => exact go_AlgolJudgeModel_check l D kI kJ kB kZ (n + 1) (fun k h => by rw [show k = n from (by omega)]; exact ih)
theorem ao_C_check (l : Launch) (D : va_G) (kI kJ kB kZ : ClassId) (n : Nat) : Po_AlgolJudgeModel_check l D kI kJ kB kZ n := allo_C l D kI kJ kB kZ n

