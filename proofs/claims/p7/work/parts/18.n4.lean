def eW (kd : Int → Int) (st wh : nA) (lo hi i j c : Int) : Prop := (∀ e, lo ≤ e → e < hi → rd wh e = c ∧ i ≤ rd st e ∧ rd st e < j) ∧ (∀ t, i ≤ t → t < j → kd t = 27 → ∃ e, lo ≤ e ∧ e < hi ∧ rd st e = t)
section
variable {kd : Int → Int} {st wh st' wh' : nA} {lo m hi hi2 i j k j2 c t : Int}
theorem eW_0 : eW kd st wh lo lo i i c := ⟨fun e a b => by omega, fun t a b => by omega⟩
theorem eW_e (h : eW kd st wh lo hi i j c) (e1 : hi2 = hi) (e2 : j2 = j) : eW kd st wh lo hi2 i j2 c := by
  subst e1 e2
  exact h
theorem eW_u (h : eW kd st wh lo hi i j c) (g : ∀ e, lo ≤ e → e < hi → rd st' e = rd st e ∧ rd wh' e = rd wh e) : eW kd st' wh' lo hi i j c := by
  refine ⟨fun e a b => ?_, fun t a b q => ?_⟩
  · rw [(g e a b).1, (g e a b).2]
    exact h.1 e a b
  · obtain ⟨e, e1, e2, e3⟩ := h.2 t a b q
    exact ⟨e, e1, e2, by rw [(g e e1 e2).1]; exact e3⟩
theorem eW_g (h : eW kd st wh lo hi i j c) {n : Int} (g : ag2 n st wh st' wh') (h0 : 0 ≤ lo) (h1 : hi ≤ n) : eW kd st' wh' lo hi i j c := eW_u h (fun e a b => g e (by omega) (by omega))
theorem eW_c (h : eW kd st wh lo m i k c) (g : eW kd st wh m hi k j c) (h1 : lo ≤ m) (h2 : m ≤ hi) (h3 : i ≤ k) (h4 : k ≤ j) : eW kd st wh lo hi i j c := by
  refine ⟨fun e a b => ?_, fun t a b q => ?_⟩
  · by_cases z : e < m
    · have := h.1 e a z; exact ⟨this.1, this.2.1, by omega⟩
    · have := g.1 e (by omega) b; exact ⟨this.1, by omega, this.2.2⟩
  · by_cases z : t < k
    · obtain ⟨e, e1, e2, e3⟩ := h.2 t a z q; exact ⟨e, e1, by omega, e3⟩
    · obtain ⟨e, e1, e2, e3⟩ := g.2 t (by omega) b q; exact ⟨e, by omega, e2, e3⟩
theorem eW_t (h : eW kd st wh lo hi i k c) (hk : ¬ kd k = 27) (e : j = k + 1) (e1 : hi2 = hi) : eW kd st wh lo hi2 i j c := by
  subst e e1
  refine ⟨fun e a b => ?_, fun t a b q => ?_⟩
  · have := h.1 e a b; exact ⟨this.1, this.2.1, by omega⟩
  · by_cases z : t < k
    · exact h.2 t a z q
    · exact absurd q (by rw [show t = k from by omega]; exact hk)
theorem eW_n (h : eW kd st wh lo m i j c) (e : hi = m + 1) (hs : rd st m = t) (hw : rd wh m = c) (ht : i ≤ t ∧ t < j) : eW kd st wh lo hi i j c := by
  subst e
  refine ⟨fun e a b => ?_, fun t a b q => ?_⟩
  · by_cases z : e < m
    · exact h.1 e a z
    · rw [show e = m from by omega, hs, hw]
      exact ⟨rfl, ht.1, ht.2⟩
  · obtain ⟨e, e1, e2, e3⟩ := h.2 t a b q; exact ⟨e, e1, by omega, e3⟩
theorem eW_k (h : eW kd st wh lo m i k c) (e : hi = m + 1) (hs : rd st m = k) (hw : rd wh m = c) (ej : j = k + 1) (hl : lo ≤ m) (hik : i ≤ k) : eW kd st wh lo hi i j c := by
  subst e ej
  refine ⟨fun e a b => ?_, fun t a b q => ?_⟩
  · by_cases z : e < m
    · have := h.1 e a z; exact ⟨this.1, this.2.1, by omega⟩
    · rw [show e = m from by omega, hs, hw]
      exact ⟨rfl, by omega, by omega⟩
  · by_cases z : t < k
    · obtain ⟨e, e1, e2, e3⟩ := h.2 t a z q; exact ⟨e, e1, by omega, e3⟩
    · exact ⟨m, hl, by omega, by rw [hs]; omega⟩
theorem eW_p (h : eW kd st wh (lo + 1) hi i j c) (hs : rd st lo = t) (hw : rd wh lo = c) (h1 : i ≤ t) (h2 : t < j) : eW kd st wh lo hi i j c := by
  refine ⟨fun e a b => ?_, fun u a b q => ?_⟩
  · by_cases z : e = lo
    · rw [z, hs, hw]
      exact ⟨rfl, h1, h2⟩
    · exact h.1 e (by omega) b
  · obtain ⟨e, e1, e2, e3⟩ := h.2 u a b q
    exact ⟨e, by omega, e2, e3⟩
end
theorem cd_27 : ∀ i : Nat, cdS i = 27 → False := by
  intro i h
  by_cases c : i < 47
  · exact absurd h ((show ∀ i, i < 47 → ¬ cdS i = 27 by decide) i c)
  · have e : cdS i = 0 := by
      unfold cdS
      rw [List.getD_eq_getElem?_getD, List.getElem?_eq_none (by have : cSt.length = 47 := rfl; omega)]
      rfl
    omega
