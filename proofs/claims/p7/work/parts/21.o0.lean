def wQ (xw xw' : Int) (o : Option Int) : Prop := (0 ≤ xw → 0 ≤ xw') ∧ (xw < 0 → (o = none → 0 ≤ xw') ∧ (¬ o = none → xw' < 0))
def tQ (xw xw' r : Int) (o : Option Int) : Prop := wQ xw xw' o ∧ (xw < 0 → ∀ t, o = some t → r = t ∧ (t = 1 ∨ t = 2))
def kRel (T : gV) (wt ty li mo : nA) (k : Int) : Prop :=
  (rd wt k = 0 ∧ nK T k = 1 ∧ rd ty k = nT T k ∧ (nT T k = 1 ∨ nT T k = 2)) ∨
  (rd wt k = 1 ∧ nK T k = 2 ∧ rd ty k = nT T k ∧ (nT T k = 1 ∨ nT T k = 2) ∧ rd li k = nC T k) ∨
  (rd wt k = 2 ∧ nK T k = 3 ∧ rd ty k = nT T k ∧ (nT T k = 0 ∨ nT T k = 1 ∨ nT T k = 2) ∧ rd mo k = nC T k ∧ 0 ≤ nC T k) ∨
  (rd wt k = 3 ∧ nK T k = 4 ∧ rd ty k = 0) ∨ (rd wt k = 4 ∧ nK T k = 5 ∧ rd ty k = 0) ∨
  (rd wt k = 5 ∧ ((nK T k = 6 ∧ rd ty k = nT T k ∧ (nT T k = 1 ∨ nT T k = 2)) ∨ (nK T k = 7 ∧ rd ty k = nT T k + 4 ∧ (nT T k = 1 ∨ nT T k = 2)) ∨ (nK T k = 8 ∧ rd ty k = 8)))
def pAt (T : gV) : Nat → Int → Int
  | 0, p => p
  | i + 1, p => pAt T i (nX T p)
def fRl (T : gV) (ky : Int → Int) (ar ho wd wt ty li mo fi : nA) (xk xs : Int) : Prop :=
  (∀ w key : Int, 0 ≤ w → w < xs → rM ar ho wd ky xk key (w + 1).toNat w = gMe T (w - 1) key) ∧
  (∀ k : Int, 0 ≤ k → k < xk → kRel T wt ty li mo k) ∧ (∀ k : Int, k < 0 ∨ xk ≤ k → nK T k = 0) ∧
  (∀ k : Int, 0 ≤ k → k < xk → rd wt k = 2 → ∀ i : Nat, (i : Int) < rd mo k → pAt T i (vF T (nH T k)) = rd fi k + (i : Int) ∧ 0 ≤ rd fi k ∧ rd fi k + (i : Int) < xk ∧ rd wt (rd fi k + (i : Int)) = 5)
section
variable {xw x1 x2 x3 r t k : Int} {o o1 o2 : Option Int}
theorem wQ_0 (h : ¬ o = none) : wQ xw xw o := ⟨fun z => z, fun z => ⟨fun q => absurd q h, fun _ => z⟩⟩
theorem wQ_w (h : o = none) (h1 : 0 ≤ x1) : wQ xw x1 o := ⟨fun _ => h1, fun _ => ⟨fun _ => h1, fun q => absurd h q⟩⟩
theorem wQ_c (h : wQ xw x1 o) (e : o = none ↔ o1 = none) : wQ xw x1 o1 := ⟨h.1, fun z => ⟨fun q => (h.2 z).1 (e.mpr q), fun q => (h.2 z).2 (fun y => q (e.mp y))⟩⟩
theorem wQ_s (h : wQ xw x1 o1) (g : wQ x1 x2 o2) (e : o = none ↔ (o1 = none ∨ o2 = none)) : wQ xw x2 o := by
  refine ⟨fun z => g.1 (h.1 z), fun z => ⟨fun q => ?_, fun q => ?_⟩⟩
  · by_cases c : o1 = none
    · exact g.1 ((h.2 z).1 c)
    · have y := (h.2 z).2 c
      exact (g.2 y).1 ((e.mp q).resolve_left c)
  · have c : ¬ o1 = none := fun y => q (e.mpr (Or.inl y))
    have c2 : ¬ o2 = none := fun y => q (e.mpr (Or.inr y))
    exact (g.2 ((h.2 z).2 c)).2 c2
theorem tQ_k (h : o = some t) (ht : t = 1 ∨ t = 2) (hr : r = t) : tQ xw xw r o := ⟨wQ_0 (by rw [h]; simp), fun _ u hu => by rw [h] at hu; cases hu; exact ⟨hr, ht⟩⟩
theorem tQ_n (h : o = none) (h1 : 0 ≤ x1) : tQ xw x1 r o := ⟨wQ_w h h1, fun _ u hu => by rw [h] at hu; cases hu⟩
theorem tQ_w (h : wQ xw x1 o) (hr : ∀ u, o = some u → u = r) (ht : r = 1 ∨ r = 2) : tQ xw x1 r o := ⟨h, fun _ u hu => ⟨(hr u hu).symm, by rw [hr u hu]; exact ht⟩⟩
variable {T : gV} {d d1 d2 d3 : gV → Option Int} {ty : Int}
theorem dN_n (h : d T = none) : dN ty d T = none := by
  unfold dN
  rw [h]
  rfl
theorem dN_s (h : d T = some t) (ho : okN t ty) : dN ty d T = some t := by
  unfold dN
  rw [h]
  exact if_pos ho
theorem dN_x (h : d T = some t) (ho : ¬ okN t ty) : dN ty d T = none := by
  unfold dN
  rw [h]
  exact if_neg ho
theorem need_0 (h : tQ xw x1 r (d T)) (hy : ty = 1 ∨ ty = 2) (hc : r ≤ 0 ∨ r = ty) : wQ xw x1 (dN ty d T) := by
  refine ⟨h.1.1, fun z => ⟨fun q => ?_, fun q => ?_⟩⟩
  · cases e : d T with
    | none => exact (h.1.2 z).1 e
    | some t =>
      obtain ⟨y1, y2⟩ := h.2 z t e
      exfalso
      have y3 : okN t ty := by unfold okN; omega
      rw [dN_s e y3] at q
      cases q
  · exact (h.1.2 z).2 (fun y => q (dN_n y))
theorem need_1 (h : tQ xw x1 r (d T)) (hy : ty = 1 ∨ ty = 2) (h1 : 0 < r) (h2 : ¬ r = ty) (hw : 0 ≤ x2) : wQ xw x2 (dN ty d T) := by
  refine ⟨fun _ => hw, fun z => ⟨fun _ => hw, fun q => ?_⟩⟩
  exfalso
  cases e : d T with
  | none => exact q (dN_n e)
  | some t =>
    obtain ⟨y1, y2⟩ := h.2 z t e
    exact q (dN_x e (by unfold okN; omega))
theorem dC_n : dC ty k d T = none ↔ dN ty d T = none := by
  unfold dC dN
  cases d T with
  | none => exact ⟨fun _ => rfl, fun _ => rfl⟩
  | some t =>
    show (if okN t ty then some k else none) = none ↔ (if okN t ty then some t else none) = none
    by_cases c : okN t ty
    · rw [if_pos c, if_pos c]; simp
    · rw [if_neg c, if_neg c]
theorem dC_v {u : Int} (h : dC ty k d T = some u) : u = k := by
  unfold dC at h
  obtain ⟨t, -, h⟩ := bind_s h
  by_cases c : okN t ty
  · rw [if_pos c] at h; cases h; rfl
  · rw [if_neg c] at h; cases h
theorem dO_n : dO ty k d1 d2 T = none ↔ (dN ty d1 T = none ∨ dN ty d2 T = none) := by
  unfold dO dN
  cases d1 T with
  | none => exact ⟨fun _ => Or.inl rfl, fun _ => rfl⟩
  | some t =>
    show (if okN t ty then ((d2 T).bind fun t2 => if okN t2 ty then some k else none) else none) = none ↔ ((if okN t ty then some t else none) = none ∨ _)
    by_cases c : okN t ty
    · rw [if_pos c, if_pos c]
      cases d2 T with
      | none => exact ⟨fun _ => Or.inr rfl, fun _ => rfl⟩
      | some t2 =>
        show (if okN t2 ty then some k else none) = none ↔ (some t = none ∨ (if okN t2 ty then some t2 else none) = none)
        by_cases c2 : okN t2 ty
        · rw [if_pos c2, if_pos c2]; simp
        · rw [if_neg c2, if_neg c2]; simp
    · rw [if_neg c, if_neg c]; simp
theorem dO_v {u : Int} (h : dO ty k d1 d2 T = some u) : u = k := by
  unfold dO at h
  obtain ⟨t, -, h⟩ := bind_s h
  by_cases c : okN t ty
  · rw [if_pos c] at h
    obtain ⟨t2, -, h⟩ := bind_s h
    by_cases c2 : okN t2 ty
    · rw [if_pos c2] at h; cases h; rfl
    · rw [if_neg c2] at h; cases h
  · rw [if_neg c] at h; cases h
theorem dO_N (h : ty = 1 ∨ ty = 2) : dN ty (dO ty ty d1 d2) T = none ↔ dO ty ty d1 d2 T = none := by
  cases e : dO ty ty d1 d2 T with
  | none => exact ⟨fun _ => rfl, fun _ => dN_n e⟩
  | some u =>
    have := dO_v e
    rw [dN_s e (by unfold okN; omega)]
theorem if_q (h1 : wQ xw x1 (dN 2 d1 T)) (h2 : tQ x1 x2 r (d2 T)) (h3 : 0 < r → (0 ≤ x2 → 0 ≤ x3) ∧ ((r = 1 ∨ r = 2) → wQ x2 x3 (dN r d3 T))) (h4 : ¬ 0 < r → 0 ≤ x2 → 0 ≤ x3) : tQ xw x3 r (dIf d1 d2 d3 T) := by
  have e0 : dIf d1 d2 d3 T = (dN 2 d1 T).bind fun _ => (d2 T).bind fun t => (dN t d3 T).bind fun _ => some t := rfl
  have mono : 0 ≤ x2 → 0 ≤ x3 := fun z => by
    by_cases c : 0 < r
    · exact (h3 c).1 z
    · exact h4 c z
  refine ⟨⟨fun z => mono (h2.1.1 (h1.1 z)), fun z => ?_⟩, fun z t ht => ?_⟩
  · cases e1 : dN 2 d1 T with
    | none =>
      have y := mono (h2.1.1 ((h1.2 z).1 e1))
      exact ⟨fun _ => y, fun q => absurd (by rw [e0, e1]; rfl) q⟩
    | some t1 =>
      have z1 := (h1.2 z).2 (by rw [e1]; simp)
      cases e2 : d2 T with
      | none =>
        have y := mono ((h2.1.2 z1).1 e2)
        exact ⟨fun _ => y, fun q => absurd (by rw [e0, e1, e2]; rfl) q⟩
      | some t2 =>
        obtain ⟨y1, y2⟩ := h2.2 z1 t2 e2
        have z2 := (h2.1.2 z1).2 (by rw [e2]; simp)
        have h3' := (h3 (by omega)).2 (by omega)
        rw [y1] at h3'
        refine ⟨fun q => ?_, fun q => ?_⟩
        · rw [e0, e1, e2] at q
          cases e3 : dN t2 d3 T with
          | none => exact (h3'.2 z2).1 e3
          | some t3 =>
            have q : ((dN t2 d3 T).bind fun _ => some t2) = none := q
            rw [e3] at q
            cases q
        · refine (h3'.2 z2).2 (fun e3 => q ?_)
          rw [e0, e1, e2]
          show ((dN t2 d3 T).bind fun _ => some t2) = none
          rw [e3]
          rfl
  · rw [e0] at ht
    obtain ⟨t1, e1, ht⟩ := bind_s ht
    obtain ⟨t2, e2, ht⟩ := bind_s ht
    obtain ⟨t3, e3, ht⟩ := bind_s ht
    cases ht
    have z1 := (h1.2 z).2 (by rw [e1]; simp)
    exact h2.2 z1 t e2
theorem dS1_n : dS1 d T = none ↔ dN 1 d T = none := by
  unfold dS1
  cases dN 1 d T with
  | none => exact ⟨fun _ => rfl, fun _ => rfl⟩
  | some t => simp
theorem dS2_n : dS2 d1 d2 T = none ↔ (dN 1 d1 T = none ∨ dN 1 d2 T = none) := by
  unfold dS2
  cases dN 1 d1 T with
  | none => simp
  | some t =>
    cases dN 1 d2 T with
    | none => simp
    | some t2 => simp
end
section
variable {so st on tw th nx wh : nA} {kd ky : Int → Int} {p q e : Int} {d : gV → Option Int}
theorem TE_1 (h : TX so st on tw th nx wh kd ky p q e d) (s : rd so e = 1) : d = fun _ => some 1 := by
  obtain ⟨h0, f, h⟩ := h
  cases f with
  | zero => exact h.elim
  | succ f =>
    obtain ⟨-, -, -, h⟩ := h
    unfold isNP at h
    rcases h with h | h | h | h | h | h | h | h | h | h | h | h
    · exact h.2
    all_goals (exfalso; have := h.1; omega)
theorem TE_2 (h : TX so st on tw th nx wh kd ky p q e d) (s : rd so e = 2) : d = fun _ => some 2 := by
  obtain ⟨h0, f, h⟩ := h
  cases f with
  | zero => exact h.elim
  | succ f =>
    obtain ⟨-, -, -, h⟩ := h
    unfold isNP at h
    rcases h with h | h | h | h | h | h | h | h | h | h | h | h
    · exfalso; have := h.1; omega
    · exact h.2
    all_goals (exfalso; have := h.1; omega)
theorem TE_3 (h : TX so st on tw th nx wh kd ky p q e d) (s : rd so e = 3) : kd (rd st e) = 27 ∧ d = dVa (rd wh e - 1) (ky (rd st e)) := by
  obtain ⟨h0, f, h⟩ := h
  cases f with
  | zero => exact h.elim
  | succ f =>
    obtain ⟨-, -, -, h⟩ := h
    unfold isNP at h
    rcases h with h | h | h | h | h | h | h | h | h | h | h | h
    · exfalso; have := h.1; omega
    · exfalso; have := h.1; omega
    · exact h.2
    all_goals (exfalso; have := h.1; omega)
theorem TE_18 (h : TX so st on tw th nx wh kd ky p q e d) (s : rd so e = 18) : TX so st on tw th nx wh kd ky p q (rd on e) d := by
  obtain ⟨h0, f, h⟩ := h
  cases f with
  | zero => exact h.elim
  | succ f =>
    obtain ⟨-, -, -, h⟩ := h
    unfold isNP at h
    rcases h with h | h | h | h | h | h | h | h | h | h | h | h
    · exfalso; have := h.1; omega
    · exfalso; have := h.1; omega
    · exfalso; have := h.1; omega
    · exact ⟨h0, f, h.2⟩
    all_goals (exfalso; have := h.1; omega)
theorem TE_6 (h : TX so st on tw th nx wh kd ky p q e d) (s : rd so e = 6) : ∃ d1 d2 d3, TX so st on tw th nx wh kd ky p q (rd on e) d1 ∧ TX so st on tw th nx wh kd ky p q (rd tw e) d2 ∧ TX so st on tw th nx wh kd ky p q (rd th e) d3 ∧ d = dIf d1 d2 d3 := by
  obtain ⟨h0, f, h⟩ := h
  cases f with
  | zero => exact h.elim
  | succ f =>
    obtain ⟨-, -, -, h⟩ := h
    unfold isNP at h
    rcases h with h | h | h | h | h | h | h | h | h | h | h | h
    · exfalso; have := h.1; omega
    · exfalso; have := h.1; omega
    · exfalso; have := h.1; omega
    · exfalso; have := h.1; omega
    · obtain ⟨-, d1, d2, d3, x1, x2, x3, x4⟩ := h
      exact ⟨d1, d2, d3, ⟨h0, f, x1⟩, ⟨h0, f, x2⟩, ⟨h0, f, x3⟩, x4⟩
    all_goals (exfalso; have := h.1; omega)
theorem TE_B (h : TX so st on tw th nx wh kd ky p q e d) (s : rd so e = 7 ∨ rd so e = 8) : ∃ d1 d2, TX so st on tw th nx wh kd ky p q (rd on e) d1 ∧ TX so st on tw th nx wh kd ky p q (rd tw e) d2 ∧ d = dO 2 2 d1 d2 := by
  obtain ⟨h0, f, h⟩ := h
  cases f with
  | zero => exact h.elim
  | succ f =>
    obtain ⟨-, -, -, h⟩ := h
    unfold isNP at h
    rcases h with h | h | h | h | h | h | h | h | h | h | h | h
    · exfalso; have := h.1; omega
    · exfalso; have := h.1; omega
    · exfalso; have := h.1; omega
    · exfalso; have := h.1; omega
    · exfalso; have := h.1; omega
    · obtain ⟨-, d1, d2, x1, x2, x3⟩ := h
      exact ⟨d1, d2, ⟨h0, f, x1⟩, ⟨h0, f, x2⟩, x3⟩
    all_goals (exfalso; have := h.1; omega)
theorem TE_N (h : TX so st on tw th nx wh kd ky p q e d) (s : isNP (rd so e)) : ∃ d1 d2, TX so st on tw th nx wh kd ky p q (rd on e) d1 ∧ TX so st on tw th nx wh kd ky p q (rd tw e) d2 ∧ d = dO 1 1 d1 d2 := by
  obtain ⟨h0, f, h⟩ := h
  cases f with
  | zero => exact h.elim
  | succ f =>
    obtain ⟨-, -, -, h⟩ := h
    unfold isNP at h s
    rcases h with h | h | h | h | h | h | h | h | h | h | h | h
    · exfalso; have := h.1; omega
    · exfalso; have := h.1; omega
    · exfalso; have := h.1; omega
    · exfalso; have := h.1; omega
    · exfalso; have := h.1; omega
    · exfalso; have := h.1; omega
    · obtain ⟨-, d1, d2, x1, x2, x3⟩ := h
      exact ⟨d1, d2, ⟨h0, f, x1⟩, ⟨h0, f, x2⟩, x3⟩
    all_goals (exfalso; have := h.1; omega)
theorem TE_10 (h : TX so st on tw th nx wh kd ky p q e d) (s : rd so e = 10) : ∃ d1 d2, TX so st on tw th nx wh kd ky p q (rd on e) d1 ∧ TX so st on tw th nx wh kd ky p q (rd tw e) d2 ∧ d = dO 1 2 d1 d2 := by
  obtain ⟨h0, f, h⟩ := h
  cases f with
  | zero => exact h.elim
  | succ f =>
    obtain ⟨-, -, -, h⟩ := h
    unfold isNP at h
    rcases h with h | h | h | h | h | h | h | h | h | h | h | h
    · exfalso; have := h.1; omega
    · exfalso; have := h.1; omega
    · exfalso; have := h.1; omega
    · exfalso; have := h.1; omega
    · exfalso; have := h.1; omega
    · exfalso; have := h.1; omega
    · exfalso; have := h.1; omega
    · obtain ⟨-, d1, d2, x1, x2, x3⟩ := h
      exact ⟨d1, d2, ⟨h0, f, x1⟩, ⟨h0, f, x2⟩, x3⟩
    all_goals (exfalso; have := h.1; omega)
theorem TE_9 (h : TX so st on tw th nx wh kd ky p q e d) (s : rd so e = 9) : ∃ d1, TX so st on tw th nx wh kd ky p q (rd on e) d1 ∧ d = dC 2 2 d1 := by
  obtain ⟨h0, f, h⟩ := h
  cases f with
  | zero => exact h.elim
  | succ f =>
    obtain ⟨-, -, -, h⟩ := h
    unfold isNP at h
    rcases h with h | h | h | h | h | h | h | h | h | h | h | h
    · exfalso; have := h.1; omega
    · exfalso; have := h.1; omega
    · exfalso; have := h.1; omega
    · exfalso; have := h.1; omega
    · exfalso; have := h.1; omega
    · exfalso; have := h.1; omega
    · exfalso; have := h.1; omega
    · exfalso; have := h.1; omega
    · obtain ⟨-, d1, x1, x2⟩ := h
      exact ⟨d1, ⟨h0, f, x1⟩, x2⟩
    all_goals (exfalso; have := h.1; omega)
theorem TE_13 (h : TX so st on tw th nx wh kd ky p q e d) (s : rd so e = 13 ∨ rd so e = 14) : ∃ d1, TX so st on tw th nx wh kd ky p q (rd on e) d1 ∧ d = dC 1 1 d1 := by
  obtain ⟨h0, f, h⟩ := h
  cases f with
  | zero => exact h.elim
  | succ f =>
    obtain ⟨-, -, -, h⟩ := h
    unfold isNP at h
    rcases h with h | h | h | h | h | h | h | h | h | h | h | h
    · exfalso; have := h.1; omega
    · exfalso; have := h.1; omega
    · exfalso; have := h.1; omega
    · exfalso; have := h.1; omega
    · exfalso; have := h.1; omega
    · exfalso; have := h.1; omega
    · exfalso; have := h.1; omega
    · exfalso; have := h.1; omega
    · exfalso; have := h.1; omega
    · obtain ⟨-, d1, x1, x2⟩ := h
      exact ⟨d1, ⟨h0, f, x1⟩, x2⟩
    all_goals (exfalso; have := h.1; omega)
theorem TE_4 (h : TX so st on tw th nx wh kd ky p q e d) (s : rd so e = 4) : kd (rd st e) = 27 ∧ ∃ c, TS so st on tw th nx wh kd ky p q e c ∧ d = dEl (rd wh e - 1) (ky (rd st e)) c := by
  obtain ⟨h0, f, h⟩ := h
  cases f with
  | zero => exact h.elim
  | succ f =>
    obtain ⟨-, -, -, h⟩ := h
    unfold isNP at h
    rcases h with h | h | h | h | h | h | h | h | h | h | h | h
    · exfalso; have := h.1; omega
    · exfalso; have := h.1; omega
    · exfalso; have := h.1; omega
    · exfalso; have := h.1; omega
    · exfalso; have := h.1; omega
    · exfalso; have := h.1; omega
    · exfalso; have := h.1; omega
    · exfalso; have := h.1; omega
    · exfalso; have := h.1; omega
    · exfalso; have := h.1; omega
    · obtain ⟨-, sk, d1, x1, x2⟩ := h
      refine ⟨sk, ?_⟩
      rcases x2 with ⟨x2, x3⟩ | ⟨x2, d2, x3, x4⟩
      · exact ⟨dS1 d1, ⟨d1, ⟨h0, f, x1⟩, Or.inl ⟨x2, rfl⟩⟩, x3⟩
      · exact ⟨dS2 d1 d2, ⟨d1, ⟨h0, f, x1⟩, Or.inr ⟨x2, d2, ⟨h0, f, x3⟩, rfl⟩⟩, x4⟩
    · exfalso; have := h.1; omega
theorem TE_5 (h : TX so st on tw th nx wh kd ky p q e d) (s : rd so e = 5) : kd (rd st e) = 27 ∧ ∃ as, TA so st on tw th nx wh kd ky (rd wh e - 1) p q as (rd on e) ∧ d = dCa (rd wh e - 1) (ky (rd st e)) as := by
  obtain ⟨h0, f, h⟩ := h
  cases f with
  | zero => exact h.elim
  | succ f =>
    obtain ⟨-, -, -, h⟩ := h
    unfold isNP at h
    rcases h with h | h | h | h | h | h | h | h | h | h | h | h
    · exfalso; have := h.1; omega
    · exfalso; have := h.1; omega
    · exfalso; have := h.1; omega
    · exfalso; have := h.1; omega
    · exfalso; have := h.1; omega
    · exfalso; have := h.1; omega
    · exfalso; have := h.1; omega
    · exfalso; have := h.1; omega
    · exfalso; have := h.1; omega
    · exfalso; have := h.1; omega
    · exfalso; have := h.1; omega
    · obtain ⟨-, sk, as, x1, x2⟩ := h
      exact ⟨sk, as, ⟨h0, aL_m (tw := tw) (th := th) (tw' := tw) (th' := th) as p p _ (fun lo lo' a e d b1 b2 b3 b4 b5 => ⟨⟨by omega, f, tX_m f f lo a lo' a e d aq_0 b2 (Int.le_refl _) (by omega) (Nat.le_refl _) b5⟩, (tX_r b5).1, (tX_r b5).2.1⟩) aq_0 (Int.le_refl _) (Int.le_refl _) h0 x1⟩, x2⟩
end
