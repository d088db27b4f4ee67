def uE (kd : Int → Int) (w i j : Int) (us : List (Int × Int)) : Prop := i ≤ j ∧ (∀ u ∈ us, u.2 = w ∧ i ≤ u.1 ∧ u.1 < j ∧ kd u.1 = 27) ∧ (∀ t, i ≤ t → t < j → kd t = 27 → (t, w) ∈ us)
section
variable {kd ky : Int → Int} {lo : gL} {i j k w : Int} {a b us : List (Int × Int)}
theorem uE_0 : uE kd w i i [] := ⟨Int.le_refl _, fun u hu => absurd hu List.not_mem_nil, fun t h1 h2 => absurd h2 (by omega)⟩
theorem uE_a (h : uE kd w i k a) (g : uE kd w k j b) : uE kd w i j (a ++ b) := by
  obtain ⟨a1, a2, a3⟩ := h
  obtain ⟨b1, b2, b3⟩ := g
  refine ⟨by omega, fun u hu => ?_, fun t h1 h2 h3 => ?_⟩
  · rcases List.mem_append.mp hu with z | z
    · have := a2 u z; exact ⟨this.1, this.2.1, by omega, this.2.2.2⟩
    · have := b2 u z; exact ⟨this.1, by omega, this.2.2.1, this.2.2.2⟩
  · by_cases c : t < k
    · exact List.mem_append.mpr (Or.inl (a3 t h1 c h3))
    · exact List.mem_append.mpr (Or.inr (b3 t (by omega) h2 h3))
theorem uE_t (h : ¬ kd i = 27) : uE kd w i (i + 1) [] := ⟨by omega, fun u hu => absurd hu List.not_mem_nil, fun t h1 h2 h3 => absurd h3 (by rw [show t = i from by omega]; exact h)⟩
theorem uE_n (h : kd i = 27) : uE kd w i (i + 1) [(i, w)] := ⟨by omega, fun u hu => by rw [List.mem_singleton.mp hu]; exact ⟨rfl, Int.le_refl _, show i < i + 1 by omega, h⟩, fun t h1 h2 _ => by rw [show t = i from by omega]; exact List.mem_singleton.mpr rfl⟩
theorem uE_k {n : Int} (h : tkn kd n i = some j) (h0 : ¬ n = 27) : uE kd w i j [] := by
  have e := tkn_j h
  rw [e.2]
  exact uE_t (by omega)
theorem uE_l (h : uE kd w i k []) (g : uE kd w k j b) : uE kd w i j b := uE_a h g
theorem uE_r (h : uE kd w i k a) (g : uE kd w k j []) : uE kd w i j a := by
  have z := uE_a h g
  rw [List.append_nil] at z
  exact z
def uL (kd : Int → Int) (lo : gL) : Prop := ∀ c w i p, lo c w i = some p → uE kd w i p.1 p.2.1
theorem u_brk {p : Int × gD} (hl : uL kd lo) (h : gBrk kd lo w i = some p) : uE kd w i p.1 p.2.1 := by
  obtain ⟨a, ha, h⟩ := bind_s h
  obtain ⟨b, hb, h⟩ := bind_s h
  obtain ⟨c, hc, h⟩ := bind_s h
  cases h
  show uE kd w i c b.2.1
  exact uE_l (uE_k ha (by decide)) (uE_r (hl _ _ _ _ hb) (uE_k hc (by decide)))
theorem u_sub {p : Int × gD} (hl : uL kd lo) (h : gSub kd lo w i = some p) : uE kd w i p.1 p.2.1 := by
  obtain ⟨a, ha, h⟩ := bind_s h
  obtain ⟨b, hb, h⟩ := bind_s h
  have qb := hl _ _ _ _ hb
  by_cases hc : kd b.1 = 38
  · rw [if_pos hc] at h
    obtain ⟨c, hc2, h⟩ := bind_s h
    obtain ⟨d, hd, h⟩ := bind_s h
    cases h
    exact uE_l (uE_k ha (by decide)) (uE_a qb (uE_l (uE_t (by omega)) (uE_r (hl _ _ _ _ hc2) (uE_k hd (by decide)))))
  · rw [if_neg hc] at h
    obtain ⟨d, hd, h⟩ := bind_s h
    cases h
    exact uE_l (uE_k ha (by decide)) (uE_r qb (uE_k hd (by decide)))
theorem u_act {X : Int → gR} (hX : ∀ i p, X i = some p → uE kd w i p.1 p.2.1) : ∀ (f : Nat) (i i0 : Int) (us : List (Int × Int)) (as : List gA) (p : Int × List (Int × Int) × List gA), uE kd w i0 i us → gAct kd ky X f i us as = some p → uE kd w i0 p.1 p.2.1 := by
  intro f
  induction f with
  | zero => intro i i0 us as p _ h; cases h
  | succ f ih =>
    intro i i0 us as p hu h
    obtain ⟨a, ha, h⟩ := bind_s (show (X i).bind _ = some p from h)
    have q1 := uE_a hu (hX _ _ ha)
    unfold gAcE at h
    by_cases hc : kd a.1 = 38
    · rw [if_pos hc] at h
      exact ih _ _ _ _ _ (uE_r q1 (uE_t (by omega))) h
    · rw [if_neg hc] at h
      obtain ⟨d, hd, h⟩ := bind_s h
      cases h
      exact uE_r q1 (uE_k hd (by decide))
theorem u_acs {p : Int × List (Int × Int) × List gA} (hl : uL kd lo) (h : gAcs kd ky lo w i = some p) : uE kd w i p.1 p.2.1 := by
  obtain ⟨a, ha, h⟩ := bind_s h
  exact u_act (fun i p hp => hl _ _ _ _ hp) _ _ _ _ _ _ (uE_k ha (by decide)) h
theorem u_nam {p : Int × gD} (hl : uL kd lo) (h : gNam kd ky lo w i = some p) : uE kd w i p.1 p.2.1 := by
  obtain ⟨a, ha, h⟩ := bind_s h
  have ea := tkn_j ha
  have q1 : uE kd w i a [(i, w)] := by rw [ea.2]; exact uE_n ea.1
  by_cases hc : kd a = 36
  · rw [if_pos hc] at h
    obtain ⟨b, hb, h⟩ := bind_s h
    cases h
    exact uE_a q1 (u_sub hl hb)
  · rw [if_neg hc] at h
    by_cases hd : kd a = 34
    · rw [if_pos hd] at h
      obtain ⟨b, hb, h⟩ := bind_s h
      cases h
      exact uE_a q1 (u_acs hl hb)
    · rw [if_neg hd] at h
      cases h
      exact q1
theorem u_atm {p : Int × gD} (hl : uL kd lo) (h : gAtm kd ky lo w i = some p) : uE kd w i p.1 p.2.1 := by
  unfold gAtm at h
  by_cases c1 : kd i = 28
  · rw [if_pos c1] at h
    cases h
    exact uE_t (by omega)
  · rw [if_neg c1] at h
    by_cases c2 : kd i = 20 ∨ kd i = 21
    · rw [if_pos c2] at h
      cases h
      exact uE_t (by omega)
    · rw [if_neg c2] at h
      by_cases c3 : kd i = 34
      · rw [if_pos c3] at h
        obtain ⟨b, hb, h⟩ := bind_s h
        cases h
        show uE kd w i b.1 b.2.1
        exact u_brk hl hb
      · rw [if_neg c3] at h
        by_cases c4 : kd i = 27
        · rw [if_pos c4] at h
          exact u_nam hl h
        · rw [if_neg c4] at h
          cases h
def tO2 (t : Int → Bool) : Prop := ∀ k, t k = true → ¬ k = 27
theorem u_chn {f : Int → gR} {t : Int → Bool} {ty : Int} (hf : ∀ i p, f i = some p → uE kd w i p.1 p.2.1) (ht : tO2 t) : ∀ (n : Nat) (i i0 : Int) (d : gD) (p : Int × gD), uE kd w i0 i d.1 → gChn kd f t ty n i d = some p → uE kd w i0 p.1 p.2.1 := by
  intro n
  induction n with
  | zero => intro i i0 d p _ h; cases h
  | succ n ih =>
    intro i i0 d p hd h
    have h : (if t (kd i) = true then (f (i + 1)).bind fun p => gChn kd f t ty n p.1 (gBo ty ty d p.2) else some (i, d)) = some p := h
    by_cases hc : t (kd i) = true
    · rw [if_pos hc] at h
      obtain ⟨a, ha, h⟩ := bind_s h
      exact ih _ _ _ _ (uE_a hd (uE_l (uE_t (ht _ hc)) (hf _ _ ha))) h
    · rw [if_neg hc] at h
      cases h
      exact hd
theorem u_row {f : Int → gR} {t : Int → Bool} {ty : Int} (hf : ∀ i p, f i = some p → uE kd w i p.1 p.2.1) (ht : tO2 t) {p : Int × gD} (h : gRow kd f t ty i = some p) : uE kd w i p.1 p.2.1 := by
  obtain ⟨a, ha, h⟩ := bind_s h
  exact u_chn hf ht _ _ _ _ _ (hf _ _ ha) h
theorem v_pow : tO2 tPow := fun k h => by have := of_decide_eq_true h; omega
theorem v_trm : tO2 tTrm := fun k h => by have := of_decide_eq_true h; omega
theorem v_sum : tO2 tSum := fun k h => by have := of_decide_eq_true h; omega
theorem v_and : tO2 tAnd := fun k h => by have := of_decide_eq_true h; omega
theorem v_or : tO2 tOr := fun k h => by have := of_decide_eq_true h; omega
theorem u_trm {p : Int × gD} (hl : uL kd lo) (h : gTrm kd ky lo w i = some p) : uE kd w i p.1 p.2.1 :=
  u_row (fun i p hp => u_row (fun i p hp => u_atm hl hp) v_pow hp) v_trm h
theorem u_sum {p : Int × gD} (hl : uL kd lo) (h : gSum kd ky lo w i = some p) : uE kd w i p.1 p.2.1 := by
  unfold gSum at h
  by_cases hc : tSum (kd i) = true
  · rw [if_pos hc] at h
    obtain ⟨a, ha, h⟩ := bind_s h
    exact u_chn (fun i p hp => u_trm hl hp) v_sum _ _ _ _ _ (uE_l (uE_t (v_sum _ hc)) (show uE kd w (i + 1) a.1 (gCs 1 1 a.2).1 from u_trm hl ha)) h
  · rw [if_neg hc] at h
    exact u_row (fun i p hp => u_trm hl hp) v_sum h
theorem u_rel {p : Int × gD} (hl : uL kd lo) (h : gRel kd ky lo w i = some p) : uE kd w i p.1 p.2.1 := by
  obtain ⟨a, ha, h⟩ := bind_s h
  have q1 := u_sum hl ha
  by_cases hc : 41 ≤ kd a.1 ∧ kd a.1 ≤ 46
  · rw [if_pos hc] at h
    obtain ⟨b, hb, h⟩ := bind_s h
    cases h
    exact uE_a q1 (uE_l (uE_t (by omega)) (u_sum hl hb))
  · rw [if_neg hc] at h
    cases h
    exact q1
theorem u_den {p : Int × gD} (hl : uL kd lo) (h : gDen kd ky lo w i = some p) : uE kd w i p.1 p.2.1 := by
  unfold gDen at h
  by_cases hc : kd i = 22
  · rw [if_pos hc] at h
    obtain ⟨a, ha, h⟩ := bind_s h
    obtain ⟨b, hb, h⟩ := bind_s h
    cases h
    show uE kd w i b.1 b.2.1
    exact uE_l (uE_k ha (by decide)) (hl _ _ _ _ hb)
  · rw [if_neg hc] at h
    exact u_rel hl h
theorem u_eit {p : Int × gD} (hl : uL kd lo) (h : gEit kd ky lo w i = some p) : uE kd w i p.1 p.2.1 :=
  u_row (fun i p hp => u_row (fun i p hp => u_den hl hp) v_and hp) v_or h
theorem u_exp {p : Int × gD} (hl : uL kd lo) (h : gExp kd ky lo w i = some p) : uE kd w i p.1 p.2.1 := by
  unfold gExp at h
  by_cases hc : kd i = 11
  · rw [if_pos hc] at h
    obtain ⟨a, ha, h⟩ := bind_s h
    obtain ⟨b, hb, h⟩ := bind_s h
    obtain ⟨c, hc2, h⟩ := bind_s h
    obtain ⟨d, hd, h⟩ := bind_s h
    obtain ⟨e, he, h⟩ := bind_s h
    obtain ⟨f, hf, h⟩ := bind_s h
    cases h
    exact uE_l (uE_k ha (by decide)) (uE_a (hl _ _ _ _ hb) (uE_l (uE_k hc2 (by decide)) (uE_a (hl _ _ _ _ hd) (uE_l (uE_k he (by decide)) (hl _ _ _ _ hf)))))
  · rw [if_neg hc] at h
    exact u_eit hl h
theorem u_lev : ∀ n : Nat, uL kd (gLev kd ky n) := by
  intro n
  induction n with
  | zero => intro c w i p h; cases h
  | succ n ih =>
    intro c w i p h
    have h : (if c = 0 then gExp kd ky (gLev kd ky n) else if c = 1 then gEit kd ky (gLev kd ky n) else gDen kd ky (gLev kd ky n)) w i = some p := h
    by_cases c0 : c = 0
    · rw [if_pos c0] at h
      exact u_exp ih h
    · rw [if_neg c0] at h
      by_cases c1 : c = 1
      · rw [if_pos c1] at h
        exact u_eit ih h
      · rw [if_neg c1] at h
        exact u_den ih h
end
