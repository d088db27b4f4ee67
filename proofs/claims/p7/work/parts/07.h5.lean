section
variable {σ : Type} {kd : Int → Int} {sep : Int} {S : σ → Int → Option (Int × σ)} {F : Option (Int × σ)} {tf tf1 tf2 ta ta1 ta2 ta3 i i2 r : Int} {R R' : σ → Prop} {x0 : σ}
def gLpE (kd : Int → Int) (sep : Int) (S : σ → Int → Option (Int × σ)) (k : Nat) (j : Int) (x : σ) : Option (Int × σ) := if kd j = sep then gLp kd sep S k (j + 1) x else some (j, x)
theorem gLp_s {k : Nat} {x : σ} : gLp kd sep S (k + 1) i x = (S x i).bind fun p => gLpE kd sep S k p.1 p.2 := rfl
def cLp (kd : Int → Int) (sep : Int) (S : σ → Int → Option (Int × σ)) (F : Option (Int × σ)) (tf0 tf ta i : Int) (R : σ → Prop) : Prop :=
  (tf = -2 → tf0 = -2) ∧ (tf0 = -2 → (tf = -2 → i ≤ ta ∧ ∃ (k : Nat) (x : σ), 3001 ≤ (k : Int) + i ∧ F = gLpE kd sep S k ta x ∧ R x) ∧ (¬ tf = -2 → F = none))
def cLh (kd : Int → Int) (sep : Int) (S : σ → Int → Option (Int × σ)) (F : Option (Int × σ)) (tf0 tf ta i : Int) (R : σ → Prop) : Prop :=
  (tf = -2 → tf0 = -2) ∧ (tf0 = -2 → (tf = -2 → i ≤ ta ∧ ((i = 0 ∧ ∃ x : σ, F = gLp kd sep S 3002 ta x ∧ R x) ∨ (0 < i ∧ ∃ (k : Nat) (x : σ), 3002 ≤ (k : Int) + i ∧ F = gLpE kd sep S k ta x ∧ R x))) ∧ (¬ tf = -2 → F = none))
theorem cLp_0 (h0 : 0 ≤ ta1) (h : cQ (S x0 ta) tf tf1 (fun p => ta1 = p.1 ∧ R p.2)) : cLp kd sep S (gLp kd sep S 3002 ta x0) tf tf1 ta1 0 R := by
  refine ⟨h.1, fun q0 => ?_⟩
  rw [gLp_s]
  cases hF : S x0 ta with
  | none => exact ⟨fun q1 => absurd q1 ((h.2 q0).2 hF), fun _ => rfl⟩
  | some p =>
    have a := (h.2 q0).1 p hF
    refine ⟨fun q1 => ⟨h0, 3001, p.2, by omega, ?_, a.2.2⟩, fun q1 => absurd a.1 q1⟩
    rw [a.2.1]
    rfl
theorem cLp_s (h : cLp kd sep S F tf tf1 ta1 i R) (ha : aQ kd sep tf1 ta1 ta2 1) (hS : tf1 = -2 → ∀ x, R x → cQ (S x ta2) tf1 tf2 (fun p => ta3 = p.1 ∧ R' p.2)) (hm : ta2 ≤ ta3) (hi : i ≤ 3000) (hi2 : i2 = i + 1) : cLp kd sep S F tf tf2 ta3 i2 R' := by
  obtain ⟨_, hal, htk, hta⟩ : (1 : Int) = 1 ∧ tf1 = -2 ∧ kd ta1 = sep ∧ ta2 = ta1 + 1 := by
    rcases ha with ha | ha
    · exact ha
    · exact absurd ha.1 (by decide)
  refine ⟨fun _ => h.1 hal, fun q0 => ?_⟩
  obtain ⟨hit, k, x, hk, hF, hs⟩ := (h.2 q0).1 hal
  obtain ⟨k', rfl⟩ : ∃ k' : Nat, k = k' + 1 := ⟨k - 1, by omega⟩
  have h2 := hS hal x hs
  have hF2 : F = (S x ta2).bind fun p => gLpE kd sep S k' p.1 p.2 := by
    rw [hF, hta, ← gLp_s]
    unfold gLpE
    rw [if_pos htk]
  cases hf : S x ta2 with
  | none =>
    rw [hf] at hF2
    exact ⟨fun q1 => absurd q1 ((h2.2 hal).2 hf), fun _ => hF2⟩
  | some p =>
    have a := (h2.2 hal).1 p hf
    rw [hf] at hF2
    refine ⟨fun q1 => ⟨by omega, k', p.2, by omega, ?_, a.2.2⟩, fun q1 => absurd a.1 q1⟩
    rw [hF2, a.2.1]
    rfl
theorem cLp_x (h : cLp kd sep S F tf tf1 ta1 i R) (ha : aQ kd sep tf1 ta1 ta2 0) : cQ F tf tf1 (fun p => ta2 = p.1 ∧ R p.2) := by
  have hb : (tf1 = -2 → ¬ kd ta1 = sep) ∧ ta2 = ta1 := by
    rcases ha with ha | ha
    · exact absurd ha.1 (by decide)
    · exact ha.2
  refine cQ_p h.1 (fun q0 => ?_)
  by_cases q1 : tf1 = -2
  · obtain ⟨hit, k, x, hk, hF, hs⟩ := (h.2 q0).1 q1
    rw [hF]
    unfold gLpE
    rw [if_neg (hb.1 q1), q0, q1]
    exact cQ_e (fun _ => ⟨hb.2, hs⟩)
  · rw [(h.2 q0).2 q1]
    exact cQ_n q1
theorem cLp_y {G : Int × σ → Prop} (h : cLp kd sep S F tf tf1 ta1 i R) (hi : 3001 ≤ i) (ht : ta1 < 3001) : cQ F tf tf1 G := by
  refine cQ_p h.1 (fun q0 => ?_)
  have hd : ¬ tf1 = -2 := fun q1 => by
    have := ((h.2 q0).1 q1).1
    omega
  rw [(h.2 q0).2 hd]
  exact cQ_n hd
theorem cLh_0 (h0 : 0 ≤ ta) (h : tf = -2 → R x0) : cLh kd sep S (gLp kd sep S 3002 ta x0) tf tf ta 0 R := ⟨fun q => q, fun q0 => ⟨fun _ => ⟨h0, Or.inl ⟨rfl, x0, rfl, h q0⟩⟩, fun q => absurd q0 q⟩⟩
theorem cQ_a {α : Type} {F : Option α} {R : α → Prop} (h : cQ F tf tf1 R) (q : tf1 = -2) : ∃ a, F = some a ∧ R a := by
  have h0 := h.1 q
  cases hF : F with
  | none => exact absurd q ((h.2 h0).2 hF)
  | some a => exact ⟨a, rfl, ((h.2 h0).1 a hF).2⟩
theorem cLh_1 (h : cLh kd sep S F tf tf1 ta1 i R) (hi : i = 0) (hS : tf1 = -2 → ∀ x, R x → cQ (S x ta1) tf1 tf2 (fun p => ta2 = p.1 ∧ R' p.2)) (hd : tf2 = -2 → tf1 = -2) (hp : ∀ x p, S x ta1 = some p → ta1 < p.1) (hi2 : i2 = i + 1) : cLh kd sep S F tf tf2 ta2 i2 R' := by
  refine ⟨fun q => h.1 (hd q), fun q0 => ?_⟩
  by_cases q1 : tf1 = -2
  · rcases ((h.2 q0).1 q1).2 with ⟨_, x, hF, hs⟩ | ⟨hz, _⟩
    · rw [gLp_s] at hF
      have h2 := hS q1 x hs
      cases hf : S x ta1 with
      | none =>
        rw [hf] at hF
        exact ⟨fun q2 => absurd q2 ((h2.2 q1).2 hf), fun _ => hF⟩
      | some p =>
        have a := (h2.2 q1).1 p hf
        rw [hf] at hF
        have hl := hp x p hf
        have hb := ((h.2 q0).1 q1).1
        refine ⟨fun q2 => ⟨by have := a.2.1; omega, Or.inr ⟨by omega, 3001, p.2, by omega, ?_, a.2.2⟩⟩, fun q2 => absurd a.1 q2⟩
        rw [hF, a.2.1]
        rfl
    · omega
  · exact ⟨fun q2 => absurd (hd q2) q1, fun _ => (h.2 q0).2 q1⟩
theorem cLh_s (h : cLh kd sep S F tf tf1 ta1 i R) (hi : 0 < i) (ha : aQ kd sep tf1 ta1 ta2 1) (hS : tf1 = -2 → ∀ x, R x → cQ (S x ta2) tf1 tf2 (fun p => ta3 = p.1 ∧ R' p.2)) (hm : ta2 ≤ ta3) (hi3 : i ≤ 3000) (hi2 : i2 = i + 1) : cLh kd sep S F tf tf2 ta3 i2 R' := by
  obtain ⟨_, hal, htk, hta⟩ : (1 : Int) = 1 ∧ tf1 = -2 ∧ kd ta1 = sep ∧ ta2 = ta1 + 1 := by
    rcases ha with ha | ha
    · exact ha
    · exact absurd ha.1 (by decide)
  refine ⟨fun _ => h.1 hal, fun q0 => ?_⟩
  rcases ((h.2 q0).1 hal).2 with ⟨hz, _⟩ | ⟨_, k, x, hk, hF, hs⟩
  · omega
  have hit := ((h.2 q0).1 hal).1
  obtain ⟨k', rfl⟩ : ∃ k' : Nat, k = k' + 1 := ⟨k - 1, by omega⟩
  have h2 := hS hal x hs
  have hF2 : F = (S x ta2).bind fun p => gLpE kd sep S k' p.1 p.2 := by
    rw [hF, hta, ← gLp_s]
    unfold gLpE
    rw [if_pos htk]
  cases hf : S x ta2 with
  | none =>
    rw [hf] at hF2
    exact ⟨fun q1 => absurd q1 ((h2.2 hal).2 hf), fun _ => hF2⟩
  | some p =>
    have a := (h2.2 hal).1 p hf
    rw [hf] at hF2
    refine ⟨fun q1 => ⟨by omega, Or.inr ⟨by omega, k', p.2, by omega, ?_, a.2.2⟩⟩, fun q1 => absurd a.1 q1⟩
    rw [hF2, a.2.1]
    rfl
theorem cLh_x (h : cLh kd sep S F tf tf1 ta1 i R) (hi : 0 < i) (ha : aQ kd sep tf1 ta1 ta2 0) : cQ F tf tf1 (fun p => ta2 = p.1 ∧ R p.2) := by
  have hb : (tf1 = -2 → ¬ kd ta1 = sep) ∧ ta2 = ta1 := by
    rcases ha with ha | ha
    · exact absurd ha.1 (by decide)
    · exact ha.2
  refine cQ_p h.1 (fun q0 => ?_)
  by_cases q1 : tf1 = -2
  · rcases ((h.2 q0).1 q1).2 with ⟨hz, _⟩ | ⟨_, k, x, hk, hF, hs⟩
    · omega
    · rw [hF]
      unfold gLpE
      rw [if_neg (hb.1 q1), q0, q1]
      exact cQ_e (fun _ => ⟨hb.2, hs⟩)
  · rw [(h.2 q0).2 q1]
    exact cQ_n q1
theorem cLh_y {G : Int × σ → Prop} (h : cLh kd sep S F tf tf1 ta1 i R) (hi : 3001 ≤ i) (ht : ta1 < 3001) : cQ F tf tf1 G := by
  refine cQ_p h.1 (fun q0 => ?_)
  have hd : ¬ tf1 = -2 := fun q1 => by
    have := ((h.2 q0).1 q1).1
    omega
  rw [(h.2 q0).2 hd]
  exact cQ_n hd
end
