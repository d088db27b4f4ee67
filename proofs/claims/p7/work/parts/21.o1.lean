def nQ (xw xw' ty : Int) (d : gV → Option Int) (T : gV) : Prop := (0 ≤ xw → 0 ≤ xw') ∧ ((ty = 1 ∨ ty = 2) → wQ xw xw' (dN ty d T))
theorem gb_1 (z : Int32) (h : z.toInt = 1) : (z &&& 4).toInt = 0 ∧ (z &&& 3).toInt = 1 := by
  have e : z = 1 := Int32.toInt_inj.mp (h.trans (by decide +kernel))
  subst e
  decide +kernel
theorem gb_2 (z : Int32) (h : z.toInt = 2) : (z &&& 4).toInt = 0 ∧ (z &&& 3).toInt = 2 := by
  have e : z = 2 := Int32.toInt_inj.mp (h.trans (by decide +kernel))
  subst e
  decide +kernel
theorem gb_5 (z : Int32) (h : z.toInt = 5) : (z &&& 4).toInt = 4 ∧ (z &&& 3).toInt = 1 := by
  have e : z = 5 := Int32.toInt_inj.mp (h.trans (by decide +kernel))
  subst e
  decide +kernel
theorem gb_6 (z : Int32) (h : z.toInt = 6) : (z &&& 4).toInt = 4 ∧ (z &&& 3).toInt = 2 := by
  have e : z = 6 := Int32.toInt_inj.mp (h.trans (by decide +kernel))
  subst e
  decide +kernel
theorem gb_8 (z : Int32) (h : z.toInt = 8) : (z &&& 4).toInt = 0 ∧ (z &&& 3).toInt = 0 := by
  have e : z = 8 := Int32.toInt_inj.mp (h.trans (by decide +kernel))
  subst e
  decide +kernel
theorem gb_p (z : Int32) (h : z.toInt = 1 ∨ z.toInt = 2 ∨ z.toInt = 5 ∨ z.toInt = 6 ∨ z.toInt = 8) : ((z.toInt = 5 ∨ z.toInt = 6) ∧ (z &&& 4).toInt = 4 ∧ (z &&& 3).toInt = z.toInt - 4) ∨ (¬ (z.toInt = 5 ∨ z.toInt = 6) ∧ (z &&& 4).toInt = 0) := by
  rcases h with h | h | h | h | h
  · have := gb_1 z h; omega
  · have := gb_2 z h; omega
  · have := gb_5 z h; omega
  · have := gb_6 z h; omega
  · have := gb_8 z h; omega
section
variable {T : gV} {wt ty li mo : nA} {k xw x1 x2 r t c : Int} {d d1 d2 : gV → Option Int}
theorem kp_t (h : kRel T wt ty li mo k) (hw : rd wt k = 5) : rd ty k = 1 ∨ rd ty k = 2 ∨ rd ty k = 5 ∨ rd ty k = 6 ∨ rd ty k = 8 := by
  unfold kRel at h
  omega
theorem va_n (h : nK T k = 0) : xVa T k = none := by
  unfold xVa xRe
  rw [if_neg (by unfold isSi; omega), if_neg (by unfold isFn; omega)]
theorem va_s (h : nK T k = 1 ∨ nK T k = 6) : xVa T k = some (nT T k) := by
  unfold xVa
  rw [if_pos (by unfold isSi; omega)]
theorem va_p (h : nK T k = 3) (h1 : ¬ nT T k = 0) (h2 : nC T k = 0) : xVa T k = some (nT T k) := by
  unfold xVa xRe
  rw [if_neg (by unfold isSi; omega), if_pos (by unfold isFn; omega), if_pos h2]
theorem va_q (h : nK T k = 3) (h1 : ¬ nT T k = 0) (h2 : ¬ nC T k = 0) : xVa T k = none := by
  unfold xVa xRe
  rw [if_neg (by unfold isSi; omega), if_pos (by unfold isFn; omega), if_neg h2]
theorem va_o (h1 : ¬ nK T k = 1) (h6 : ¬ nK T k = 6) (h3 : nK T k = 3 → nT T k = 0) : xVa T k = none := by
  unfold xVa xRe
  rw [if_neg (by unfold isSi; omega), if_neg (by unfold isFn; exact fun q => q.2 (h3 q.1))]
theorem ref_n (h : k < 0) (hz : ∀ k : Int, k < 0 → nK T k = 0) (hw : 0 ≤ x1) : tQ xw x1 r (xVa T k) := tQ_n (va_n (hz k h)) hw
theorem ref_v (h : kRel T wt ty li mo k) (hw : rd wt k = 0) (hr : r = rd ty k) : tQ xw xw r (xVa T k) := by
  unfold kRel at h
  exact tQ_k (va_s (by omega)) (by omega) (by omega)
theorem ref_p (h : kRel T wt ty li mo k) (hw : rd wt k = 5) (h2 : rd ty k ≤ 2) (hr : r = rd ty k) : tQ xw xw r (xVa T k) := by
  unfold kRel at h
  exact tQ_k (va_s (by omega)) (by omega) (by omega)
theorem ref_q (h : kRel T wt ty li mo k) (hw : rd wt k = 5) (h2 : ¬ rd ty k ≤ 2) (hx : 0 ≤ x1) : tQ xw x1 r (xVa T k) := by
  unfold kRel at h
  exact tQ_n (va_o (by omega) (by omega) (by omega)) hx
theorem ref_f (h : kRel T wt ty li mo k) (hw : rd wt k = 2) (h2 : ¬ rd ty k = 0) (h3 : ¬ 0 < rd mo k) (hr : r = rd ty k) : tQ xw xw r (xVa T k) := by
  unfold kRel at h
  exact tQ_k (va_p (by omega) (by omega) (by omega)) (by omega) (by omega)
theorem ref_g (h : kRel T wt ty li mo k) (hw : rd wt k = 2) (h2 : ¬ rd ty k = 0) (h3 : 0 < rd mo k) (hx : 0 ≤ x1) : tQ xw x1 r (xVa T k) := by
  unfold kRel at h
  exact tQ_n (va_q (by omega) (by omega) (by omega)) hx
theorem ref_o (h : kRel T wt ty li mo k) (h0 : ¬ rd wt k = 0) (h5 : ¬ rd wt k = 5) (h2 : ¬ rd wt k = 2 ∨ rd ty k = 0) (hx : 0 ≤ x1) : tQ xw x1 r (xVa T k) := by
  unfold kRel at h
  exact tQ_n (va_o (by omega) (by omega) (by omega)) hx
theorem el_b {s : Option Int} : (s.bind fun c => xEl T k c) = none ↔ (s = none ∨ ∃ c, s = some c ∧ xEl T k c = none) := by
  cases s with
  | none => exact ⟨fun _ => Or.inl rfl, fun _ => rfl⟩
  | some c => exact ⟨fun h => Or.inr ⟨c, rfl, h⟩, fun h => by rcases h with h | ⟨c2, e, h⟩; cases h; cases e; exact h⟩
theorem xEl_a (h : nK T k = 7 ∨ (nK T k = 2 ∧ nC T k = c)) : xEl T k c = some (nT T k) := by
  unfold xEl
  rw [if_pos (by unfold isAr; omega), if_neg (by omega)]
theorem xEl_w (h : nK T k = 2) (h2 : ¬ nC T k = c) : xEl T k c = none := by
  unfold xEl
  rw [if_pos (by unfold isAr; omega), if_pos ⟨h, h2⟩]
theorem xEl_o (h : ¬ nK T k = 7) (h2 : ¬ nK T k = 2) : xEl T k c = none := by
  unfold xEl
  exact if_neg (by unfold isAr; omega)
theorem el_ok {s : Option Int} (hs : wQ xw x1 s) (hc : ∀ u, s = some u → u = c) (he : xEl T k c = some t) (ht : t = 1 ∨ t = 2) (hr : r = t) : tQ xw x1 r (s.bind fun c => xEl T k c) := by
  have e : (s.bind fun c => xEl T k c) = none ↔ s = none := by
    cases s with
    | none => exact ⟨fun _ => rfl, fun _ => rfl⟩
    | some u =>
      have := hc u rfl
      subst this
      show xEl T k u = none ↔ _
      rw [he]
      simp
  refine ⟨wQ_c hs e.symm, fun _ u hu => ?_⟩
  obtain ⟨v, hv, hu⟩ := bind_s hu
  have := hc v hv
  subst this
  rw [he] at hu
  cases hu
  exact ⟨hr, ht⟩
theorem el_no {s : Option Int} (hc : ∀ u, s = some u → u = c) (he : xEl T k c = none) (hx : 0 ≤ x2) : tQ xw x2 r (s.bind fun c => xEl T k c) := by
  refine tQ_n ?_ hx
  cases s with
  | none => rfl
  | some u =>
    have := hc u rfl
    subst this
    exact he
theorem dS1_v {u : Int} (h : dS1 d T = some u) : u = 1 := by
  unfold dS1 at h
  obtain ⟨v, -, h⟩ := bind_s h
  cases h
  rfl
theorem dS2_v {u : Int} (h : dS2 d1 d2 T = some u) : u = 2 := by
  unfold dS2 at h
  obtain ⟨v, -, h⟩ := bind_s h
  obtain ⟨v, -, h⟩ := bind_s h
  cases h
  rfl
theorem ix_1 (h : nQ xw x1 1 d T) : wQ xw x1 (dS1 d T) := wQ_c (h.2 (by decide)) dS1_n.symm
theorem ix_2 (h : nQ xw x1 1 d1 T) (g : nQ x1 x2 1 d2 T) : wQ xw x2 (dS2 d1 d2 T) := wQ_s (h.2 (by decide)) (g.2 (by decide)) dS2_n
end
def cAll (T : gV) (w : Int) (as : List gA) (k : Int) : Option Int := if (as.length : Int) = nC T k then aAll T w as (vF T (nH T k)) else none
section
variable {T : gV} {w k xw x1 r : Int} {as : List gA} {d : gV → Option Int}
theorem ca_n (h : nK T k = 3 → nT T k = 0) (w : Int) (as : List gA) : ((aCnt T w as (vF T (nH T k))).bind fun c => xRe T k c) = none := by
  have e : ∀ c, xRe T k c = none := fun c => by
    unfold xRe
    exact if_neg (by unfold isFn; exact fun q => q.2 (h q.1))
  cases aCnt T w as (vF T (nH T k)) with
  | none => rfl
  | some c => exact e c
theorem ca_y (h : nK T k = 3) (h2 : ¬ nT T k = 0) : (((aCnt T w as (vF T (nH T k))).bind fun c => xRe T k c) = none ↔ cAll T w as k = none) ∧ ∀ u, ((aCnt T w as (vF T (nH T k))).bind fun c => xRe T k c) = some u → u = nT T k := by
  have e : ∀ c, xRe T k c = if nC T k = c then some (nT T k) else none := fun c => by
    unfold xRe
    exact if_pos ⟨h, h2⟩
  unfold cAll aCnt
  cases aAll T w as (vF T (nH T k)) with
  | none =>
    refine ⟨⟨fun _ => ?_, fun _ => rfl⟩, fun u hu => by cases hu⟩
    by_cases c : (as.length : Int) = nC T k
    · rw [if_pos c]
    · rw [if_neg c]
  | some v =>
    show (xRe T k (as.length : Int) = none ↔ _) ∧ ∀ u, xRe T k (as.length : Int) = some u → _
    rw [e]
    by_cases c : (as.length : Int) = nC T k
    · rw [if_pos c.symm, if_pos c]
      exact ⟨by simp, fun u hu => by cases hu; rfl⟩
    · rw [if_neg (fun z => c z.symm), if_neg c]
      exact ⟨by simp, fun u hu => by cases hu⟩
theorem call_q (h : nK T k = 3) (h2 : nT T k = 1 ∨ nT T k = 2) (hw : wQ xw x1 (cAll T w as k)) (hr : r = nT T k) : tQ xw x1 r ((aCnt T w as (vF T (nH T k))).bind fun c => xRe T k c) := by
  have z := ca_y (w := w) (as := as) h (by omega)
  exact ⟨wQ_c hw z.1.symm, fun _ u hu => by have := z.2 u hu; omega⟩
end
