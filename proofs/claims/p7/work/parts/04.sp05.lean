def gBr (kd : Int → Int) (t o : Int) : Int := if kd t = 36 then o + 1 else if kd t = 37 then o - 1 else o
def gScn (kd : Int → Int) : Nat → Int → Int → Bool
  | 0, _, _ => false
  | f + 1, t, o => if gBr kd t o = 0 then decide (kd (t + 1) = 47) else gScn kd f (t + 1) (gBr kd t o)
def gLfT (kd : Int → Int) (i : Int) : Bool := if kd i = 27 then (if kd (i + 1) = 36 then gScn kd 3002 (i + 1) 0 else decide (kd (i + 1) = 47)) else false
section
variable {kd : Int → Int} {t t2 o o2 i : Int}
theorem br_e (hb : (kd t = 36 ∧ o2 = o + 1) ∨ (¬ kd t = 36 ∧ kd t = 37 ∧ o2 = o - 1) ∨ (¬ kd t = 36 ∧ ¬ kd t = 37 ∧ o2 = o)) : gBr kd t o = o2 := by
  unfold gBr
  rcases hb with h | h | h
  · rw [if_pos h.1, h.2]
  · rw [if_neg h.1, if_pos h.2.1, h.2.2]
  · rw [if_neg h.1, if_neg h.2.1, h.2.2]
theorem sc_i (h : t = i + 1) : gScn kd 3002 (i + 1) 0 = gScn kd (3003 + i - t).toNat t 0 := by
  subst h
  rw [show (3003 + i - (i + 1)).toNat = 3002 by omega]
theorem sc_n (h0 : 0 ≤ i) (h1 : t ≤ 3001) (h2 : t2 = t + 1) (hb : (kd t = 36 ∧ o2 = o + 1) ∨ (¬ kd t = 36 ∧ kd t = 37 ∧ o2 = o - 1) ∨ (¬ kd t = 36 ∧ ¬ kd t = 37 ∧ o2 = o)) (h : ¬ o2 = 0) : gScn kd (3003 + i - t).toNat t o = gScn kd (3003 + i - t2).toNat t2 o2 := by
  rw [show (3003 + i - t).toNat = (3003 + i - t2).toNat + 1 by omega]
  show (if gBr kd t o = 0 then _ else _) = _
  rw [br_e hb, if_neg h, h2]
theorem sc_e (h0 : 0 ≤ i) (h1 : t ≤ 3001) (hb : (kd t = 36 ∧ o2 = o + 1) ∨ (¬ kd t = 36 ∧ kd t = 37 ∧ o2 = o - 1) ∨ (¬ kd t = 36 ∧ ¬ kd t = 37 ∧ o2 = o)) (h : o2 = 0) : gScn kd (3003 + i - t).toNat t o = decide (kd (t + 1) = 47) := by
  rw [show (3003 + i - t).toNat = (3002 + i - t).toNat + 1 by omega]
  show (if gBr kd t o = 0 then _ else _) = _
  rw [br_e hb, if_pos h]
theorem sc_z (hk : ∀ s : Int, t ≤ s → ¬ kd s = 36 ∧ ¬ kd s = 37) (h : ¬ o = 0) : ∀ (f : Nat) (s : Int), t ≤ s → ¬ gScn kd f s o = true := by
  intro f
  induction f with
  | zero => intro s _; exact Bool.false_ne_true
  | succ f ih =>
    intro s hs
    show ¬ (if gBr kd s o = 0 then _ else _) = true
    have e : gBr kd s o = o := br_e (Or.inr (Or.inr ⟨(hk s hs).1, (hk s hs).2, rfl⟩))
    rw [e, if_neg h]
    exact ih (s + 1) (by omega)
end
section
variable {f9 : Nat → Int32} {tc ta tf x : Int32}
theorem kC_r (h0 : 0 ≤ x.toInt) (h1 : x.toInt < tc.toInt) : kC f9 tc x.toInt = (f9 (Int32.toNatClampNeg x)).toInt := by
  unfold kC
  rw [if_pos ⟨h0, h1⟩]
  rfl
theorem kC_q {y : Int32} (h0 : 0 ≤ x.toInt) (h1 : x.toInt < tc.toInt) (h : y = f9 (Int32.toNatClampNeg x)) : kC f9 tc x.toInt = y.toInt := by
  rw [kC_r h0 h1, h]
theorem tL_n (h : tL f9 tc) (h0 : 1 ≤ tc.toInt) : ∀ s : Int, tc.toInt - 1 ≤ s → ¬ kC f9 tc s = 36 ∧ ¬ kC f9 tc s = 37 := by
  intro s hs
  unfold kC
  by_cases hc : s < tc.toInt
  · rw [if_pos ⟨by omega, hc⟩, show s = tc.toInt - 1 by omega]
    unfold tL at h
    rw [h]
    decide
  · rw [if_neg (by omega)]
    decide
theorem lf_0 (h : ¬ kA f9 tc ta tf = 27) (q : tf.toInt = -2) : ¬ gLfT (kC f9 tc) ta.toInt = true := by
  unfold kA at h
  rw [if_pos q] at h
  unfold gLfT
  rw [if_neg h]
  exact Bool.false_ne_true
theorem lf_a (h : kA f9 tc ta tf = 27) : tf.toInt = -2 ∧ kC f9 tc ta.toInt = 27 := kA_a h (by decide)
theorem lf_b {k : Int} (h : kA f9 tc ta tf = 27) : kBn f9 tc ta tf = kC f9 tc (ta.toInt + 1) := by
  unfold kBn
  rw [if_pos (lf_a h).1]
theorem lf_1 (h : kA f9 tc ta tf = 27) (h2 : ¬ kBn f9 tc ta tf = 36) : gLfT (kC f9 tc) ta.toInt = decide (kBn f9 tc ta tf = 47) := by
  rw [lf_b (k := 0) h] at h2 ⊢
  unfold gLfT
  rw [if_pos (lf_a h).2, if_neg h2]
theorem lf_s (h : kA f9 tc ta tf = 27) (h2 : kBn f9 tc ta tf = 36) : gLfT (kC f9 tc) ta.toInt = gScn (kC f9 tc) 3002 (ta.toInt + 1) 0 := by
  rw [lf_b (k := 0) h] at h2
  unfold gLfT
  rw [if_pos (lf_a h).2, if_pos h2]
theorem lf_t (h : kA f9 tc ta tf = 27) (h2 : kBn f9 tc ta tf = 36) (hL : tL f9 tc) (h0 : 0 ≤ ta.toInt) (h1 : 1 ≤ tc.toInt) : ta.toInt + 1 < tc.toInt - 1 := by
  rw [lf_b (k := 0) h] at h2
  by_cases hc : tc.toInt - 1 ≤ ta.toInt + 1
  · exact absurd h2 (tL_n hL h1 _ hc).1
  · omega
end
