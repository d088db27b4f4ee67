section
variable {kd ky : Int → Int} {lo : gL} {i j k w : Int}
theorem e_lau {p : Int × gB} (h : gLaU kd ky w i = some p) : uE kd w i p.1 p.2.1 := by
  obtain ⟨j, hj, h2⟩ := bind_s h
  cases h2
  have e := tkn_j hj
  show uE kd w i j [(i, w)]
  rw [e.2]
  exact uE_n e.1
theorem e_bnd {X : Int → gR} (hX : ∀ i p, X i = some p → uE kd w i p.1 p.2.1) {p : Int × gB} (h : gBnd kd X i = some p) : uE kd w i p.1 p.2.1 := by
  obtain ⟨a, ha, h⟩ := bind_s h
  obtain ⟨k, hk, h⟩ := bind_s h
  obtain ⟨l, hl, h⟩ := bind_s h
  cases h
  show uE kd w i l.1 (a.2.1 ++ l.2.1)
  exact uE_a (hX _ _ ha) (uE_l (uE_k hk (by decide)) (hX _ _ hl))
theorem e_bds {X : Int → gR} (hX : ∀ i p, X i = some p → uE kd w i p.1 p.2.1) {p : Int × gB × Int} (h : gBds kd X i = some p) : uE kd w i p.1 p.2.1.1 := by
  obtain ⟨a, ha, h⟩ := bind_s h
  obtain ⟨r, hr, h⟩ := bind_s h
  have z := uE_l (uE_k ha (by decide)) (e_bnd hX hr)
  by_cases hc : kd r.1 = 38
  · rw [if_pos hc] at h
    obtain ⟨s, hs, h⟩ := bind_s h
    obtain ⟨l, hl, h⟩ := bind_s h
    cases h
    show uE kd w i l (r.2.1 ++ s.2.1)
    exact uE_r (uE_a z (uE_l (uE_t (by omega)) (e_bnd hX hs))) (uE_k hl (by decide))
  · rw [if_neg hc] at h
    obtain ⟨l, hl, h⟩ := bind_s h
    cases h
    show uE kd w i l r.2.1
    exact uE_r z (uE_k hl (by decide))
theorem e_lf1 (hl : uL kd lo) {p : Int × gD} (h : gLf1 kd ky lo w i = some p) : uE kd w i p.1 p.2.1 := by
  obtain ⟨j, hj, h⟩ := bind_s h
  have e := tkn_j hj
  have n1 : uE kd w i j [(i, w)] := by rw [e.2]; exact uE_n e.1
  by_cases hc : kd j = 36
  · rw [if_pos hc] at h
    obtain ⟨u, hu, h⟩ := bind_s h
    obtain ⟨k, hk, h⟩ := bind_s h
    cases h
    show uE kd w i k ([(i, w)] ++ u.2.1)
    exact uE_a n1 (uE_r (u_sub hl hu) (uE_k hk (by decide)))
  · rw [if_neg hc] at h
    obtain ⟨k, hk, h⟩ := bind_s h
    cases h
    show uE kd w i k [(i, w)]
    exact uE_r n1 (uE_k hk (by decide))
theorem e_lfs (hl : uL kd lo) : ∀ (k : Nat) (i i0 : Int) (a : gD) (p : Int × gB), uE kd w i0 i a.1 → gLfs kd ky lo w k i a = some p → uE kd w i0 p.1 p.2.1 := by
  intro k
  induction k with
  | zero => intro i i0 a p _ h; cases h
  | succ k ih =>
    intro i i0 a p ha h
    have h : (if gLfT kd i = true then (gLf1 kd ky lo w i).bind fun p => gLfs kd ky lo w k p.1 (gLfS a p.2) else (gExp kd ky lo w i).bind fun r => some (r.1, gAsE a r.2)) = some p := h
    by_cases hc : gLfT kd i = true
    · rw [if_pos hc] at h
      obtain ⟨u, hu, h⟩ := bind_s h
      exact ih _ _ _ _ (show uE kd w i0 u.1 (a.1 ++ u.2.1) from uE_a ha (e_lf1 hl hu)) h
    · rw [if_neg hc] at h
      obtain ⟨u, hu, h⟩ := bind_s h
      cases h
      show uE kd w i0 u.1 (a.1 ++ u.2.1)
      exact uE_a ha (u_exp hl hu)
theorem e_asn (hl : uL kd lo) {p : Int × gB} (h : gAsn kd ky lo w i = some p) : uE kd w i p.1 p.2.1 := by
  obtain ⟨u, hu, h⟩ := bind_s h
  exact e_lfs hl _ _ _ _ _ (e_lf1 hl hu) h
theorem e_cll (hl : uL kd lo) {p : Int × gB} (h : gCll kd ky lo w i = some p) : uE kd w i p.1 p.2.1 := by
  obtain ⟨j, hj, h⟩ := bind_s h
  have e := tkn_j hj
  have n1 : uE kd w i j [(i, w)] := by rw [e.2]; exact uE_n e.1
  by_cases hc : kd j = 34
  · rw [if_pos hc] at h
    obtain ⟨u, hu, h⟩ := bind_s h
    cases h
    show uE kd w i u.1 ([(i, w)] ++ u.2.1)
    exact uE_a n1 (u_acs hl hu)
  · rw [if_neg hc] at h
    cases h
    exact n1
theorem e_nms (hl : uL kd lo) {p : Int × gB} (h : gNmS kd ky lo w i = some p) : uE kd w i p.1 p.2.1 := by
  unfold gNmS at h
  by_cases hc : kd (i + 1) = 47 ∨ kd (i + 1) = 36
  · rw [if_pos hc] at h
    exact e_asn hl h
  · rw [if_neg hc] at h
    exact e_cll hl h
theorem e_jmp (hl : uL kd lo) {p : Int × gB} (h : gJmp kd ky lo w i = some p) : uE kd w i p.1 p.2.1 := by
  obtain ⟨j, hj, h⟩ := bind_s h
  refine uE_l (uE_k hj (by decide)) ?_
  by_cases hc : kd (j + 1) = 36
  · rw [if_pos hc] at h
    obtain ⟨u, hu, h⟩ := bind_s h
    obtain ⟨v, hv, h⟩ := bind_s h
    obtain ⟨x, hx, h⟩ := bind_s h
    obtain ⟨y, hy, h⟩ := bind_s h
    cases h
    have e := tkn_j hu
    have n1 : uE kd w j u [(j, w)] := by rw [e.2]; exact uE_n e.1
    show uE kd w j y ([(j, w)] ++ x.2.1)
    exact uE_a n1 (uE_l (uE_k hv (by decide)) (uE_r (hl _ _ _ _ hx) (uE_k hy (by decide))))
  · rw [if_neg hc] at h
    exact e_lau h
theorem e_el1 {X : Int → gR} (hX : ∀ i p, X i = some p → uE kd w i p.1 p.2.1) {p : Int × gB} (h : gEl1 kd X i = some p) : uE kd w i p.1 p.2.1 := by
  obtain ⟨j, hj, h⟩ := bind_s h
  have z := hX _ _ hj
  by_cases hc : kd j.1 = 16
  · rw [if_pos hc] at h
    obtain ⟨u, hu, h⟩ := bind_s h
    obtain ⟨v, hv, h⟩ := bind_s h
    obtain ⟨x, hx, h⟩ := bind_s h
    cases h
    show uE kd w i x.1 ((j.2.1 ++ u.2.1) ++ x.2.1)
    exact uE_a (uE_a z (uE_l (uE_t (by omega)) (hX _ _ hu))) (uE_l (uE_k hv (by decide)) (hX _ _ hx))
  · rw [if_neg hc] at h
    by_cases hd : kd j.1 = 18
    · rw [if_pos hd] at h
      obtain ⟨u, hu, h⟩ := bind_s h
      cases h
      show uE kd w i u.1 (j.2.1 ++ u.2.1)
      exact uE_a z (uE_l (uE_t (by omega)) (hX _ _ hu))
    · rw [if_neg hd] at h
      cases h
      exact z
theorem e_pri (hl : uL kd lo) {p : Int × gB} (h : gPri kd lo w i = some p) : uE kd w i p.1 p.2.1 := by
  obtain ⟨j, hj, h⟩ := bind_s h
  obtain ⟨u, hu, h⟩ := bind_s h
  cases h
  show uE kd w i u.1 u.2.1
  exact uE_l (uE_k hj (by decide)) (u_brk hl hu)
end
def sW (kd : Int → Int) (st wh dc : nA) (lo hi i j : Int) (us : List (Int × Int)) : Prop := (∀ e, lo ≤ e → e < hi → kd (rd st e) = 27 → i ≤ rd st e ∧ rd st e < j ∧ ((rd st e, rd wh e - 1) ∈ us ∨ ¬ rd dc (rd st e) = 0)) ∧ (∀ u ∈ us, i ≤ u.1 ∧ u.1 < j ∧ rd dc u.1 = 0 ∧ ∃ e, lo ≤ e ∧ e < hi ∧ rd st e = u.1 ∧ rd wh e = u.2 + 1)
def dZ (dc : nA) (j : Int) : Prop := ∀ t, j ≤ t → rd dc t = 0
def dA (dc dc' : nA) (j : Int) : Prop := ∀ t, 0 ≤ t → t < j → rd dc' t = rd dc t
def uP (F : gS) (kd : Int → Int) (st wh dc : nA) (lo hi i j : Int) : Prop := ∀ a, F = some a → sW kd st wh dc lo hi i j a.2.2.2.1
section
variable {kd : Int → Int} {st wh dc st' wh' dc' : nA} {lo m hi hi2 i j k j2 c t w : Int} {us vs a b : List (Int × Int)}
theorem uP_i {F : gS} {x : Int × Int × Int × gB} (h : F = some x) (g : sW kd st wh dc lo hi i j x.2.2.2.1) : uP F kd st wh dc lo hi i j := fun a ha => by
  rw [h] at ha
  cases ha
  exact g
theorem sW_0 (h : i ≤ j) : sW kd st wh dc lo lo i j [] := ⟨fun e a b => by omega, fun u hu => absurd hu List.not_mem_nil⟩
theorem sW_e (h : sW kd st wh dc lo hi i j us) (e1 : hi2 = hi) (e2 : j ≤ j2) : sW kd st wh dc lo hi2 i j2 us := by
  subst e1
  exact ⟨fun e a b q => ⟨(h.1 e a b q).1, by have := (h.1 e a b q).2.1; omega, (h.1 e a b q).2.2⟩, fun u hu => ⟨(h.2 u hu).1, by have := (h.2 u hu).2.1; omega, (h.2 u hu).2.2⟩⟩
theorem sW_m (h : sW kd st wh dc lo hi i j us) (hm : ∀ u, u ∈ us ↔ u ∈ vs) : sW kd st wh dc lo hi i j vs := ⟨fun e a b q => ⟨(h.1 e a b q).1, (h.1 e a b q).2.1, ((h.1 e a b q).2.2).imp (hm _).mp id⟩, fun u hu => h.2 u ((hm u).mpr hu)⟩
theorem sW_u (h : sW kd st wh dc lo hi i j us) (g : ∀ e, lo ≤ e → e < hi → rd st' e = rd st e ∧ rd wh' e = rd wh e) (d : ∀ t, i ≤ t → t < j → rd dc' t = rd dc t) : sW kd st' wh' dc' lo hi i j us := by
  refine ⟨fun e a b => ?_, fun u hu => ?_⟩
  · rw [(g e a b).1, (g e a b).2]
    intro q
    obtain ⟨x1, x2, x3⟩ := h.1 e a b q
    rw [d _ x1 x2]
    exact ⟨x1, x2, x3⟩
  · obtain ⟨x1, x2, x3, e, e1, e2, e3, e4⟩ := h.2 u hu
    exact ⟨x1, x2, by rw [d _ x1 x2]; exact x3, e, e1, e2, by rw [(g e e1 e2).1]; exact e3, by rw [(g e e1 e2).2]; exact e4⟩
theorem sW_g (h : sW kd st wh dc lo hi i j us) {n : Int} (g : ag2 n st wh st' wh') (d : dA dc dc' j2) (h0 : 0 ≤ lo) (h1 : hi ≤ n) (h2 : j ≤ j2) (h3 : 0 ≤ i) : sW kd st' wh' dc' lo hi i j us := sW_u h (fun e a b => g e (by omega) (by omega)) (fun t a b => d t (by omega) (by omega))
theorem sW_c (h : sW kd st wh dc lo m i k a) (g : sW kd st wh dc m hi k j b) (h1 : lo ≤ m) (h2 : m ≤ hi) (h3 : i ≤ k) (h4 : k ≤ j) : sW kd st wh dc lo hi i j (a ++ b) := by
  refine ⟨fun e x y q => ?_, fun u hu => ?_⟩
  · by_cases z : e < m
    · obtain ⟨x1, x2, x3⟩ := h.1 e x z q
      exact ⟨x1, by omega, x3.imp (fun z => List.mem_append.mpr (Or.inl z)) id⟩
    · obtain ⟨x1, x2, x3⟩ := g.1 e (by omega) y q
      exact ⟨by omega, x2, x3.imp (fun z => List.mem_append.mpr (Or.inr z)) id⟩
  · rcases List.mem_append.mp hu with z | z
    · obtain ⟨x1, x2, x3, e, e1, e2, e3⟩ := h.2 u z
      exact ⟨x1, by omega, x3, e, e1, by omega, e3⟩
    · obtain ⟨x1, x2, x3, e, e1, e2, e3⟩ := g.2 u z
      exact ⟨by omega, x2, x3, e, by omega, e2, e3⟩
theorem sW_n (h : sW kd st wh dc lo m i j us) (e : hi = m + 1) (hs : rd st m = t) (hk : ¬ kd t = 27) : sW kd st wh dc lo hi i j us := by
  subst e
  refine ⟨fun e a b q => ?_, fun u hu => ?_⟩
  · by_cases z : e < m
    · exact h.1 e a z q
    · rw [show e = m from by omega, hs] at q
      exact absurd q hk
  · obtain ⟨x1, x2, x3, e, e1, e2, e3⟩ := h.2 u hu
    exact ⟨x1, x2, x3, e, e1, by omega, e3⟩
theorem sW_1 (h0 : rd st m = k) (h1 : rd wh m = w + 1) (h2 : rd dc k = 0) (e : hi = m + 1) (e2 : j = k + 1) : sW kd st wh dc m hi k j [(k, w)] := by
  subst e e2
  refine ⟨fun e a b _ => ?_, fun u hu => ?_⟩
  · rw [show e = m from by omega, h0, h1, show w + 1 - 1 = w from by omega]
    exact ⟨Int.le_refl _, by omega, Or.inl (List.mem_singleton.mpr rfl)⟩
  · rw [List.mem_singleton.mp hu]
    exact ⟨Int.le_refl _, show k < k + 1 by omega, h2, m, Int.le_refl _, by omega, h0, h1⟩
theorem sW_x (h0 : rd st m = k) (h1 : ¬ rd dc k = 0) (e : hi = m + 1) (e2 : j = k + 1) : sW kd st wh dc m hi k j [] := by
  subst e e2
  refine ⟨fun e a b _ => ?_, fun u hu => absurd hu List.not_mem_nil⟩
  rw [show e = m from by omega, h0]
  exact ⟨Int.le_refl _, by omega, Or.inr h1⟩
theorem sW_E (h : eW kd st wh lo hi i j c) (u : uE kd (c - 1) i j us) (d : ∀ t, i ≤ t → t < j → rd dc t = 0) : sW kd st wh dc lo hi i j us := by
  refine ⟨fun e a b q => ?_, fun v hv => ?_⟩
  · obtain ⟨x1, x2, x3⟩ := h.1 e a b
    exact ⟨x2, x3, Or.inl (by rw [x1]; exact u.2.2 _ x2 x3 q)⟩
  · obtain ⟨y1, y2, y3, y4⟩ := u.2.1 v hv
    obtain ⟨e, e1, e2, e3⟩ := h.2 v.1 y2 y3 y4
    exact ⟨y2, y3, d _ y2 y3, e, e1, e2, e3, by rw [(h.1 e e1 e2).1, y1]; omega⟩
theorem dA_0 : dA dc dc j := fun _ _ _ => rfl
theorem dA_t {dc2 : nA} (h : dA dc dc' j) (g : dA dc' dc2 k) (e : j ≤ k) : dA dc dc2 j := fun t a b => (g t a (by omega)).trans (h t a b)
theorem dZ_w (h : dZ dc j) (e : j ≤ k) : dZ dc k := fun t a => h t (by omega)
theorem dA_u {x v : Int32} (h0 : 0 ≤ x.toInt) (h1 : j ≤ x.toInt) : dA dc (upd dc x.toNatClampNeg v) j := fun t a b => rd_n h0 a (by omega)
theorem dZ_u {x v : Int32} (h : dZ dc j) (h0 : 0 ≤ x.toInt) (h1 : x.toInt < k) (h2 : j ≤ k) (h3 : 0 ≤ k) : dZ (upd dc x.toNatClampNeg v) k := fun t a => (rd_n h0 (by omega) (by omega)).trans (h t (by omega))
end
