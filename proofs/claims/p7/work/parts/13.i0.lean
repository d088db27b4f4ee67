def sBt (kd : Int → Int) (t : Int) : Int := if kd t = 36 then 1 else if kd t = 37 then -1 else 0
def sSm (kd : Int → Int) : Nat → Int → Int
  | 0, _ => 0
  | k + 1, i => sBt kd i + sSm kd k (i + 1)
def gQ (kd : Int → Int) (i j : Int) : Prop := i ≤ j ∧ (∀ t, i ≤ t → t < j → 0 < kd t ∧ ¬ kd t = 29) ∧ (∀ k : Nat, i + (k : Int) ≤ j → 0 ≤ sSm kd k i) ∧ sSm kd (j - i).toNat i = 0
section
variable {kd ky : Int → Int} {lo : gL} {i j k w : Int}
theorem sSm_a : ∀ (a b : Nat) (i : Int), sSm kd (a + b) i = sSm kd a i + sSm kd b (i + (a : Int)) := by
  intro a
  induction a with
  | zero => intro b i; rw [Nat.zero_add]; show sSm kd b i = 0 + sSm kd b (i + 0); rw [Int.add_zero, Int.zero_add]
  | succ a ih =>
    intro b i
    rw [show a + 1 + b = (a + b) + 1 by omega]
    show sBt kd i + sSm kd (a + b) (i + 1) = sBt kd i + sSm kd a (i + 1) + sSm kd b (i + ((a + 1 : Nat) : Int))
    rw [ih, show i + 1 + (a : Int) = i + ((a + 1 : Nat) : Int) by omega]
    omega
theorem gQ_0 : gQ kd i i := by
  refine ⟨Int.le_refl _, fun t h1 h2 => absurd h2 (by omega), fun k hk => ?_, ?_⟩
  · rw [show k = 0 by omega]
    exact Int.le_refl _
  · rw [show (i - i).toNat = 0 by omega]
    rfl
theorem gQ_t (h : 0 < kd i) (h1 : ¬ kd i = 36) (h2 : ¬ kd i = 37) (h3 : ¬ kd i = 29) : gQ kd i (i + 1) := by
  have e : sBt kd i = 0 := by unfold sBt; rw [if_neg h1, if_neg h2]
  refine ⟨by omega, fun t a b => by rw [show t = i by omega]; exact ⟨h, h3⟩, fun k hk => ?_, ?_⟩
  · by_cases hk : k = 0
    · rw [hk]; exact Int.le_refl _
    · rw [show k = 1 by omega]
      show 0 ≤ sBt kd i + 0
      omega
  · rw [show (i + 1 - i).toNat = 1 by omega]
    show sBt kd i + 0 = 0
    omega
theorem gQ_a (h : gQ kd i j) (g : gQ kd j k) : gQ kd i k := by
  obtain ⟨a1, a2, a3, a4⟩ := h
  obtain ⟨b1, b2, b3, b4⟩ := g
  refine ⟨by omega, fun t c d => ?_, fun n hn => ?_, ?_⟩
  · by_cases ht : t < j
    · exact a2 t c ht
    · exact b2 t (by omega) d
  · by_cases hc : i + (n : Int) ≤ j
    · exact a3 n hc
    · obtain ⟨q, hq⟩ : ∃ q : Nat, n = (j - i).toNat + q := ⟨n - (j - i).toNat, by omega⟩
      rw [hq, sSm_a, a4, show i + (((j - i).toNat : Nat) : Int) = j by omega]
      have := b3 q (by omega)
      omega
  · rw [show (k - i).toNat = (j - i).toNat + (k - j).toNat by omega, sSm_a, a4, show i + (((j - i).toNat : Nat) : Int) = j by omega, b4]
    rfl
theorem gQ_b (h : kd i = 36) (g : gQ kd (i + 1) j) (h2 : kd j = 37) : gQ kd i (j + 1) := by
  obtain ⟨a1, a2, a3, a4⟩ := g
  have e1 : sBt kd i = 1 := by unfold sBt; rw [if_pos h]
  have e2 : sBt kd j = -1 := by unfold sBt; rw [if_neg (by omega), if_pos h2]
  refine ⟨by omega, fun t c d => ?_, fun n hn => ?_, ?_⟩
  · by_cases t1 : t = i
    · rw [t1, h]; exact ⟨by decide, by decide⟩
    · by_cases t2 : t = j
      · rw [t2, h2]; exact ⟨by decide, by decide⟩
      · exact a2 t (by omega) (by omega)
  · by_cases n0 : n = 0
    · rw [n0]; exact Int.le_refl _
    · obtain ⟨q, rfl⟩ : ∃ q : Nat, n = q + 1 := ⟨n - 1, by omega⟩
      show 0 ≤ sBt kd i + sSm kd q (i + 1)
      by_cases hq : i + 1 + (q : Int) ≤ j
      · have := a3 q hq
        omega
      · rw [show q = (j - (i + 1)).toNat + 1 by omega, sSm_a, a4, show i + 1 + (((j - (i + 1)).toNat : Nat) : Int) = j by omega]
        show 0 ≤ sBt kd i + (0 + (sBt kd j + 0))
        omega
  · rw [show (j + 1 - i).toNat = ((j - (i + 1)).toNat + 1) + 1 by omega]
    show sBt kd i + sSm kd ((j - (i + 1)).toNat + 1) (i + 1) = 0
    rw [sSm_a, a4, show i + 1 + (((j - (i + 1)).toNat : Nat) : Int) = j by omega]
    show sBt kd i + (0 + (sBt kd j + 0)) = 0
    omega
theorem gQ_k {n : Int} (h : tkn kd n i = some j) (h0 : 0 < n) (h1 : ¬ n = 36) (h2 : ¬ n = 37) (h3 : ¬ n = 29 := by decide) : gQ kd i j := by
  have e := tkn_j h
  rw [e.2]
  exact gQ_t (by omega) (by omega) (by omega) (by omega)
def qL (kd : Int → Int) (lo : gL) : Prop := ∀ c w i p, lo c w i = some p → gQ kd i p.1
theorem q_brk {p : Int × gD} (hl : qL kd lo) (h : gBrk kd lo w i = some p) : gQ kd i p.1 := by
  obtain ⟨a, ha, h⟩ := bind_s h
  obtain ⟨b, hb, h⟩ := bind_s h
  obtain ⟨c, hc, h⟩ := bind_s h
  cases h
  exact gQ_a (gQ_k ha (by decide) (by decide) (by decide)) (gQ_a (hl _ _ _ _ hb) (gQ_k hc (by decide) (by decide) (by decide)))
theorem q_sub {p : Int × gD} (hl : qL kd lo) (h : gSub kd lo w i = some p) : gQ kd i p.1 ∧ kd i = 36 ∧ gQ kd (i + 1) (p.1 - 1) ∧ kd (p.1 - 1) = 37 := by
  obtain ⟨a, ha, h⟩ := bind_s h
  obtain ⟨b, hb, h⟩ := bind_s h
  have ea := tkn_j ha
  rw [ea.2] at hb
  have qb := hl _ _ _ _ hb
  by_cases hc : kd b.1 = 38
  · rw [if_pos hc] at h
    obtain ⟨c, hc2, h⟩ := bind_s h
    obtain ⟨d, hd, h⟩ := bind_s h
    cases h
    have ed := tkn_j hd
    have q1 := gQ_a qb (gQ_a (gQ_t (by omega) (by omega) (by omega) (by omega)) (hl _ _ _ _ hc2))
    show gQ kd i d ∧ kd i = 36 ∧ gQ kd (i + 1) (d - 1) ∧ kd (d - 1) = 37
    rw [ed.2, show c.1 + 1 - 1 = c.1 by omega]
    exact ⟨gQ_b ea.1 q1 ed.1, ea.1, q1, ed.1⟩
  · rw [if_neg hc] at h
    obtain ⟨d, hd, h⟩ := bind_s h
    cases h
    have ed := tkn_j hd
    show gQ kd i d ∧ kd i = 36 ∧ gQ kd (i + 1) (d - 1) ∧ kd (d - 1) = 37
    rw [ed.2, show b.1 + 1 - 1 = b.1 by omega]
    exact ⟨gQ_b ea.1 qb ed.1, ea.1, qb, ed.1⟩
theorem q_act {X : Int → gR} (hX : ∀ i p, X i = some p → gQ kd i p.1) : ∀ (f : Nat) (i : Int) (us : List (Int × Int)) (as : List gA) (p : Int × List (Int × Int) × List gA), gAct kd ky X f i us as = some p → gQ kd i p.1 := by
  intro f
  induction f with
  | zero => intro i us as p h; cases h
  | succ f ih =>
    intro i us as p h
    obtain ⟨a, ha, h⟩ := bind_s (show (X i).bind _ = some p from h)
    have q1 := hX _ _ ha
    unfold gAcE at h
    by_cases hc : kd a.1 = 38
    · rw [if_pos hc] at h
      exact gQ_a q1 (gQ_a (gQ_t (by omega) (by omega) (by omega) (by omega)) (ih _ _ _ _ h))
    · rw [if_neg hc] at h
      obtain ⟨d, hd, h⟩ := bind_s h
      cases h
      exact gQ_a q1 (gQ_k hd (by decide) (by decide) (by decide))
theorem q_acs {p : Int × List (Int × Int) × List gA} (hl : qL kd lo) (h : gAcs kd ky lo w i = some p) : gQ kd i p.1 := by
  obtain ⟨a, ha, h⟩ := bind_s h
  exact gQ_a (gQ_k ha (by decide) (by decide) (by decide)) (q_act (fun i p hp => hl _ _ _ _ hp) _ _ _ _ _ h)
theorem q_nam {p : Int × gD} (hl : qL kd lo) (h : gNam kd ky lo w i = some p) : gQ kd i p.1 := by
  obtain ⟨a, ha, h⟩ := bind_s h
  have q1 := gQ_k ha (by decide) (by decide) (by decide)
  by_cases hc : kd a = 36
  · rw [if_pos hc] at h
    obtain ⟨b, hb, h⟩ := bind_s h
    cases h
    exact gQ_a q1 (q_sub hl hb).1
  · rw [if_neg hc] at h
    by_cases hd : kd a = 34
    · rw [if_pos hd] at h
      obtain ⟨b, hb, h⟩ := bind_s h
      cases h
      exact gQ_a q1 (q_acs hl hb)
    · rw [if_neg hd] at h
      cases h
      exact q1
theorem q_atm {p : Int × gD} (hl : qL kd lo) (h : gAtm kd ky lo w i = some p) : gQ kd i p.1 := by
  unfold gAtm at h
  by_cases c1 : kd i = 28
  · rw [if_pos c1] at h
    cases h
    exact gQ_t (by omega) (by omega) (by omega) (by omega)
  · rw [if_neg c1] at h
    by_cases c2 : kd i = 20 ∨ kd i = 21
    · rw [if_pos c2] at h
      cases h
      exact gQ_t (by omega) (by omega) (by omega) (by omega)
    · rw [if_neg c2] at h
      by_cases c3 : kd i = 34
      · rw [if_pos c3] at h
        obtain ⟨b, hb, h⟩ := bind_s h
        cases h
        have q2 := q_brk hl hb
        exact q2
      · rw [if_neg c3] at h
        by_cases c4 : kd i = 27
        · rw [if_pos c4] at h
          exact q_nam hl h
        · rw [if_neg c4] at h
          cases h
def tOk (t : Int → Bool) : Prop := ∀ k, t k = true → 0 < k ∧ ¬ k = 36 ∧ ¬ k = 37 ∧ ¬ k = 29
theorem q_chn {f : Int → gR} {t : Int → Bool} {ty : Int} (hf : ∀ i p, f i = some p → gQ kd i p.1) (ht : tOk t) : ∀ (n : Nat) (i : Int) (d : gD) (p : Int × gD), gChn kd f t ty n i d = some p → gQ kd i p.1 := by
  intro n
  induction n with
  | zero => intro i d p h; cases h
  | succ n ih =>
    intro i d p h
    have h : (if t (kd i) = true then (f (i + 1)).bind fun p => gChn kd f t ty n p.1 (gBo ty ty d p.2) else some (i, d)) = some p := h
    by_cases hc : t (kd i) = true
    · rw [if_pos hc] at h
      obtain ⟨a, ha, h⟩ := bind_s h
      have z := ht _ hc
      exact gQ_a (gQ_t z.1 z.2.1 z.2.2.1 z.2.2.2) (gQ_a (hf _ _ ha) (ih _ _ _ h))
    · rw [if_neg hc] at h
      cases h
      exact gQ_0
theorem q_row {f : Int → gR} {t : Int → Bool} {ty : Int} (hf : ∀ i p, f i = some p → gQ kd i p.1) (ht : tOk t) {p : Int × gD} (h : gRow kd f t ty i = some p) : gQ kd i p.1 := by
  obtain ⟨a, ha, h⟩ := bind_s h
  exact gQ_a (hf _ _ ha) (q_chn hf ht _ _ _ _ h)
theorem t_pow : tOk tPow := fun k h => by have := of_decide_eq_true h; omega
theorem t_trm : tOk tTrm := fun k h => by have := of_decide_eq_true h; omega
theorem t_sum : tOk tSum := fun k h => by have := of_decide_eq_true h; omega
theorem t_and : tOk tAnd := fun k h => by have := of_decide_eq_true h; omega
theorem t_or : tOk tOr := fun k h => by have := of_decide_eq_true h; omega
theorem q_trm {p : Int × gD} (hl : qL kd lo) (h : gTrm kd ky lo w i = some p) : gQ kd i p.1 :=
  q_row (fun i p hp => q_row (fun i p hp => q_atm hl hp) t_pow hp) t_trm h
theorem q_sum {p : Int × gD} (hl : qL kd lo) (h : gSum kd ky lo w i = some p) : gQ kd i p.1 := by
  unfold gSum at h
  by_cases hc : tSum (kd i) = true
  · rw [if_pos hc] at h
    obtain ⟨a, ha, h⟩ := bind_s h
    have z := t_sum _ hc
    exact gQ_a (gQ_t z.1 z.2.1 z.2.2.1 z.2.2.2) (gQ_a (q_trm hl ha) (q_chn (fun i p hp => q_trm hl hp) t_sum _ _ _ _ h))
  · rw [if_neg hc] at h
    exact q_row (fun i p hp => q_trm hl hp) t_sum h
theorem q_rel {p : Int × gD} (hl : qL kd lo) (h : gRel kd ky lo w i = some p) : gQ kd i p.1 := by
  obtain ⟨a, ha, h⟩ := bind_s h
  have q1 := q_sum hl ha
  by_cases hc : 41 ≤ kd a.1 ∧ kd a.1 ≤ 46
  · rw [if_pos hc] at h
    obtain ⟨b, hb, h⟩ := bind_s h
    cases h
    have q2 := q_sum hl hb
    exact gQ_a q1 (gQ_a (gQ_t (by omega) (by omega) (by omega) (by omega)) q2)
  · rw [if_neg hc] at h
    cases h
    exact q1
theorem q_den {p : Int × gD} (hl : qL kd lo) (h : gDen kd ky lo w i = some p) : gQ kd i p.1 := by
  unfold gDen at h
  by_cases hc : kd i = 22
  · rw [if_pos hc] at h
    obtain ⟨a, ha, h⟩ := bind_s h
    obtain ⟨b, hb, h⟩ := bind_s h
    cases h
    have q2 := hl _ _ _ _ hb
    exact gQ_a (gQ_k ha (by decide) (by decide) (by decide)) q2
  · rw [if_neg hc] at h
    exact q_rel hl h
theorem q_eit {p : Int × gD} (hl : qL kd lo) (h : gEit kd ky lo w i = some p) : gQ kd i p.1 :=
  q_row (fun i p hp => q_row (fun i p hp => q_den hl hp) t_and hp) t_or h
theorem q_exp {p : Int × gD} (hl : qL kd lo) (h : gExp kd ky lo w i = some p) : gQ kd i p.1 := by
  unfold gExp at h
  by_cases hc : kd i = 11
  · rw [if_pos hc] at h
    obtain ⟨a, ha, h⟩ := bind_s h
    obtain ⟨b, hb, h⟩ := bind_s h
    obtain ⟨c, hc2, h⟩ := bind_s h
    obtain ⟨d, hd, h⟩ := bind_s h
    obtain ⟨e, he, h⟩ := bind_s h
    obtain ⟨f, hf, h⟩ := bind_s h
    cases h
    have q2 := hl _ _ _ _ hf
    exact gQ_a (gQ_k ha (by decide) (by decide) (by decide)) (gQ_a (hl _ _ _ _ hb) (gQ_a (gQ_k hc2 (by decide) (by decide) (by decide)) (gQ_a (hl _ _ _ _ hd) (gQ_a (gQ_k he (by decide) (by decide) (by decide)) q2))))
  · rw [if_neg hc] at h
    exact q_eit hl h
theorem q_lev : ∀ n : Nat, qL kd (gLev kd ky n) := by
  intro n
  induction n with
  | zero => intro c w i p h; cases h
  | succ n ih =>
    intro c w i p h
    have h : (if c = 0 then gExp kd ky (gLev kd ky n) else if c = 1 then gEit kd ky (gLev kd ky n) else gDen kd ky (gLev kd ky n)) w i = some p := h
    by_cases c0 : c = 0
    · rw [if_pos c0] at h
      exact q_exp ih h
    · rw [if_neg c0] at h
      by_cases c1 : c = 1
      · rw [if_pos c1] at h
        exact q_eit ih h
      · rw [if_neg c1] at h
        exact q_den ih h
end
