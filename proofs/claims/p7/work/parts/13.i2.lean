abbrev isW (k : Int) : Prop := 1 ≤ k ∧ k ≤ 28
def plK (kd pl : Int → Int) : Prop := (∀ t, 0 < kd t → pl t + 1 ≤ pl (t + 1)) ∧ (∀ t, kd t = 1 → pl t + 5 ≤ pl (t + 1) ∧ (isW (kd (t + 1)) → pl t + 6 ≤ pl (t + 1))) ∧ (∀ t, kd t = 2 → pl t + 3 ≤ pl (t + 1) ∧ (isW (kd (t + 1)) → pl t + 4 ≤ pl (t + 1))) ∧ (∀ t, kd t = 6 → pl t + 9 ≤ pl (t + 1) ∧ (isW (kd (t + 1)) → pl t + 10 ≤ pl (t + 1)))
def bY (kd pl : Int → Int) (s i j : Int) : Prop := pl i + 9 * s ≤ pl j ∧ (1 ≤ s → isW (kd j) → pl i + 9 * s + 1 ≤ pl j)
def gF (kd pl : Int → Int) (L' : Int) (F F' : gS) (i o : Int) : Prop := ∀ a, F = some a → bG kd 0 i a.1 a.2.2.2 ∧ a.2.1 = o + ((gPs a).length : Int) ∧ bY kd pl ((gPs a).length : Int) i a.1 ∧ (a.2.1 ≤ L' → F' = some a)
section
variable {kd ky pl : Int → Int} {L L' : Int} {lo : gL} {lm lm' : gM} {X : Int → Int → gR} {Y : Int → gR} {i j k o q w wo ty s s' n : Int} {F F' : gS} {b : gB}
theorem gP_m (hk : plK kd pl) (h : gP kd i j) : pl i + (j - i) ≤ pl j := by
  have key : ∀ (n : Nat) (j : Int), j = i + (n : Int) → (∀ t, i ≤ t → t < j → 0 < kd t) → pl i + (j - i) ≤ pl j := by
    intro n
    induction n with
    | zero => intro j e _; rw [show j = i by omega]; omega
    | succ n ih =>
      intro j e hp
      have a := ih (j - 1) (by omega) (fun t h1 h2 => hp t h1 (by omega))
      have c := hk.1 (j - 1) (hp (j - 1) (by omega) (by omega))
      rw [show j - 1 + 1 = j by omega] at c
      omega
  exact key (j - i).toNat j (by have := h.1; omega) h.2
theorem bY_0 (hk : plK kd pl) (h : gP kd i j) : bY kd pl 0 i j := ⟨by have := gP_m hk h; have := h.1; omega, fun h1 => absurd h1 (by omega)⟩
theorem bY_a (hk : plK kd pl) (hs : 0 ≤ s) (hs' : 0 ≤ s') (h : bY kd pl s i j) (g : bY kd pl s' j k) (hp : gP kd j k) (e : n = s + s') : bY kd pl n i k := by
  have m := gP_m hk hp
  refine ⟨by have := h.1; have := g.1; omega, fun h1 h2 => ?_⟩
  by_cases c : 1 ≤ s'
  · have := g.2 c h2
    have := h.1
    omega
  · by_cases d : j = k
    · rw [← d] at h2 ⊢
      have := h.2 (by omega) h2
      omega
    · have := h.1
      have := hp.1
      omega
theorem gF_l (hk : plK kd pl) {G : Option (Int × gB)} (h : ∀ p, G = some p → bG kd 0 i p.1 p.2 ∧ p.2.2.2.1 = []) : gF kd pl L' (G.bind fun p => some (p.1, o, q, p.2)) (G.bind fun p => some (p.1, o, q, p.2)) i o := by
  intro a ha
  obtain ⟨p, hp, h2⟩ := bind_s ha
  have z := h p hp
  refine ⟨?_, ?_, ?_, fun _ => ha⟩
  · cases h2
    exact z.1
  · cases h2
    show o = o + ((p.2.2.2.1).length : Int)
    rw [z.2]
    simp
  · cases h2
    show bY kd pl ((p.2.2.2.1).length : Int) i p.1
    rw [z.2]
    exact bY_0 hk z.1.1
theorem gF_v (hk : plK kd pl) {G : Option (Int × Int × gB)} (h : ∀ p, G = some p → bG kd 0 i p.1 p.2.2 ∧ p.2.2.2.2.1 = []) : gF kd pl L' (G.bind fun p => some (p.1, o, p.2.1, p.2.2)) (G.bind fun p => some (p.1, o, p.2.1, p.2.2)) i o := by
  intro a ha
  obtain ⟨p, hp, h2⟩ := bind_s ha
  have z := h p hp
  refine ⟨?_, ?_, ?_, fun _ => ha⟩
  · cases h2
    exact z.1
  · cases h2
    show o = o + ((p.2.2.2.2.1).length : Int)
    rw [z.2]
    simp
  · cases h2
    show bY kd pl ((p.2.2.2.2.1).length : Int) i p.1
    rw [z.2]
    exact bY_0 hk z.1.1
theorem gF_p (hk : plK kd pl) {i0 : Int} (hp : gP kd i0 i) (h : gF kd pl L' F F' i o) : gF kd pl L' F F' i0 o := by
  intro a ha
  have z := h a ha
  refine ⟨bG_f hp z.1, z.2.1, ?_, z.2.2.2⟩
  exact bY_a hk (by decide) (by omega) (bY_0 hk hp) z.2.2.1 z.1.1 (by omega)
theorem gF_q (hk : plK kd pl) {i0 o0 : Int} {b : gB} (hb : bG kd 0 i0 i b) (ho : o = o0 + (b.2.2.1.length : Int)) (hy : bY kd pl (b.2.2.1.length : Int) i0 i) (h : gF kd pl L' F F' i o) : gF kd pl L' (F.bind fun r => some (r.1, r.2.1, r.2.2.1, bSq b r.2.2.2)) (F'.bind fun r => some (r.1, r.2.1, r.2.2.1, bSq b r.2.2.2)) i0 o0 := by
  intro a ha
  obtain ⟨r, hr, h2⟩ := bind_s ha
  have z := h r hr
  have e : (gPs a).length = b.2.2.1.length + (gPs r).length := by
    cases h2
    show (b.2.2.1 ++ gPs r).length = _
    rw [List.length_append]
  have e2 : a.2.1 = r.2.1 := by cases h2; rfl
  have e3 : a.1 = r.1 := by cases h2; rfl
  refine ⟨?_, ?_, ?_, fun hl => ?_⟩
  · cases h2
    exact bG_q (n := 0) hb z.1 (by omega)
  · have := z.2.1
    omega
  · rw [e, e3]
    exact bY_a hk (by omega) (by omega) hy z.2.2.1 z.1.1 (by omega)
  · rw [z.2.2.2 (by omega)]
    exact h2
theorem gF_i {c : Prop} [Decidable c] {F1 F1' F2 F2' : gS} (h : c → gF kd pl L' F1 F1' i o) (g : ¬ c → gF kd pl L' F2 F2' i o) : gF kd pl L' (if c then F1 else F2) (if c then F1' else F2') i o := by
  by_cases hc : c
  · rw [if_pos hc, if_pos hc]
    exact h hc
  · rw [if_neg hc, if_neg hc]
    exact g hc
theorem gF_n : gF kd pl L' none F' i o := fun a ha => by cases ha
theorem gF_k (hk : plK kd pl) {K K' : Int → gS} (h0 : 0 < n) (h : kd i = n → gF kd pl L' (K (i + 1)) (K' (i + 1)) (i + 1) o) : gF kd pl L' ((tkn kd n i).bind K) ((tkn kd n i).bind K') i o := by
  unfold tkn
  by_cases hc : kd i = n
  · rw [if_pos hc]
    exact gF_p hk (gP_t (by omega)) (h hc)
  · rw [if_neg hc]
    exact gF_n
theorem gF_x (hk : plK kd pl) {α : Type} {G : Option α} {po : α → Int} {K K' : α → gS} (hG : ∀ p, G = some p → gP kd i (po p)) (h : ∀ p, G = some p → gF kd pl L' (K p) (K' p) (po p) o) : gF kd pl L' (G.bind K) (G.bind K') i o := by
  cases hg : G with
  | none => exact gF_n
  | some p => exact gF_p hk (hG p hg) (h p hg)
theorem i_lf1 {p : Int × gD} (hl : qL kd lo) (h : gLf1 kd ky lo w i = some p) : gP kd i p.1 := by
  obtain ⟨a, ha, h⟩ := bind_s h
  by_cases hc : kd a = 36
  · rw [if_pos hc] at h
    obtain ⟨b, hb, h⟩ := bind_s h
    obtain ⟨d, hd, h⟩ := bind_s h
    cases h
    exact gP_a (gP_k ha (by decide)) (gP_a (gP_q (q_sub hl hb).1) (gP_k hd (by decide)))
  · rw [if_neg hc] at h
    obtain ⟨d, hd, h⟩ := bind_s h
    cases h
    exact gP_a (gP_k ha (by decide)) (gP_k hd (by decide))
theorem i_lfs (hl : qL kd lo) : ∀ (k : Nat) (i : Int) (a : gD) (p : Int × gB), gLfs kd ky lo w k i a = some p → gP kd i p.1 ∧ p.2.2.1 = [] := by
  intro k
  induction k with
  | zero => intro i a p h; cases h
  | succ k ih =>
    intro i a p h
    have h : (if gLfT kd i = true then (gLf1 kd ky lo w i).bind fun p => gLfs kd ky lo w k p.1 (gLfS a p.2) else (gExp kd ky lo w i).bind fun r => some (r.1, gAsE a r.2)) = some p := h
    by_cases hc : gLfT kd i = true
    · rw [if_pos hc] at h
      obtain ⟨u, hu, h⟩ := bind_s h
      have z := ih _ _ _ h
      exact ⟨gP_a (i_lf1 hl hu) z.1, z.2⟩
    · rw [if_neg hc] at h
      obtain ⟨u, hu, h⟩ := bind_s h
      cases h
      have z := q_exp hl hu
      exact ⟨gP_q z, rfl⟩
theorem i_asn {p : Int × gB} (hl : qL kd lo) (h : gAsn kd ky lo w i = some p) : bG kd 0 i p.1 p.2 := by
  have np := np_asn h
  obtain ⟨u, hu, h⟩ := bind_s h
  have z := i_lfs hl _ _ _ _ h
  exact bG_e (gP_a (i_lf1 hl hu) z.1) z.2 np
theorem i_cll {p : Int × gB} (hl : qL kd lo) (h : gCll kd ky lo w i = some p) : bG kd 0 i p.1 p.2 := by
  obtain ⟨j, hj, h⟩ := bind_s h
  by_cases hc : kd j = 34
  · rw [if_pos hc] at h
    obtain ⟨u, hu, h⟩ := bind_s h
    cases h
    have z := q_acs hl hu
    exact bG_e (gP_a (gP_k hj (by decide)) (gP_q z)) rfl rfl
  · rw [if_neg hc] at h
    cases h
    exact bG_e (gP_k hj (by decide)) rfl rfl
theorem i_jmp {p : Int × gB} (hl : qL kd lo) (h : gJmp kd ky lo w i = some p) : bG kd 0 i p.1 p.2 := by
  obtain ⟨j, hj, h⟩ := bind_s h
  by_cases hc : kd (j + 1) = 36
  · rw [if_pos hc] at h
    obtain ⟨a, ha, h⟩ := bind_s h
    obtain ⟨b, hb, h⟩ := bind_s h
    obtain ⟨c, hc2, h⟩ := bind_s h
    obtain ⟨d, hd, h⟩ := bind_s h
    cases h
    have z := hl _ _ _ _ hc2
    exact bG_e (gP_a (gP_k hj (by decide)) (gP_a (gP_k ha (by decide)) (gP_a (gP_k hb (by decide)) (gP_a (gP_q z) (gP_k hd (by decide)))))) rfl rfl
  · rw [if_neg hc] at h
    exact bG_f (gP_k hj (by decide)) (i_lau h)
theorem i_el1 (hY : ∀ i p, Y i = some p → gP kd i p.1) {p : Int × gB} (h : gEl1 kd Y i = some p) : bG kd 0 i p.1 p.2 := by
  obtain ⟨j, hj, h⟩ := bind_s h
  by_cases hc : kd j.1 = 16
  · rw [if_pos hc] at h
    obtain ⟨u, hu, h⟩ := bind_s h
    obtain ⟨v, hv, h⟩ := bind_s h
    obtain ⟨x, hx, h⟩ := bind_s h
    cases h
    have z := hY _ _ hx
    exact bG_e (gP_a (hY _ _ hj) (gP_a (gP_t (by omega)) (gP_a (hY _ _ hu) (gP_a (gP_k hv (by decide)) z)))) rfl rfl
  · rw [if_neg hc] at h
    by_cases hd : kd j.1 = 18
    · rw [if_pos hd] at h
      obtain ⟨u, hu, h⟩ := bind_s h
      cases h
      have z := hY _ _ hu
      exact bG_e (gP_a (hY _ _ hj) (gP_a (gP_t (by omega)) z)) rfl rfl
    · rw [if_neg hd] at h
      cases h
      have z := hY _ _ hj
      exact bG_e z rfl rfl
theorem i_els (hY : ∀ i p, Y i = some p → gP kd i p.1) {i0 : Int} {b : gB} (hb : bG kd 0 i0 i b) {p : Int × gB} (h : gEls kd Y i b = some p) : bG kd 0 i0 p.1 p.2 := by
  refine gLp_j (Q := fun j x => bG kd 0 i0 j x) (R := fun j x => bG kd 0 i0 j x) (fun x j p hx hp => ?_) (fun j x hx hk => bG_p hx (gP_t (by omega))) _ _ _ _ hb h
  obtain ⟨u, hu, hp⟩ := bind_s hp
  cases hp
  exact bG_q (n := 0) hx (i_el1 hY hu) (by omega)
end
