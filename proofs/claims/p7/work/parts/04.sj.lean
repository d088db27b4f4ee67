noncomputable def cnt (P : Nat → Prop) : Nat → Nat
  | 0 => 0
  | n + 1 => cnt P n + @ite Nat (P n) (Classical.propDecidable _) 1 0
theorem cnt_le (P : Nat → Prop) : ∀ n, cnt P n ≤ n := by
  intro n
  induction n with
  | zero => exact Nat.le_refl _
  | succ n ih =>
    unfold cnt
    split <;> omega
theorem cnt_two {P Q R : Nat → Prop} (h1 : ∀ k, P k → R k) (h2 : ∀ k, Q k → R k) (h3 : ∀ k, P k → ¬ Q k) : ∀ n, cnt P n + cnt Q n ≤ cnt R n := by
  intro n
  induction n with
  | zero => exact Nat.le_refl _
  | succ n ih =>
    unfold cnt
    by_cases p : P n
    · rw [if_pos p, if_neg (h3 n p), if_pos (h1 n p)]
      omega
    · by_cases q : Q n
      · rw [if_neg p, if_pos q, if_pos (h2 n q)]
        omega
      · rw [if_neg p, if_neg q]
        omega
theorem cnt_mono {P R : Nat → Prop} (h : ∀ k, P k → R k) (n : Nat) : cnt P n ≤ cnt R n := by
  have h1 := cnt_two (P := P) (Q := fun _ => False) (R := R) h (fun _ q => q.elim) (fun _ _ q => q) n
  omega
theorem cnt_pt {k : Nat} : ∀ n, k < n → 1 ≤ cnt (fun j => j = k) n := by
  intro n
  induction n with
  | zero => intro h; omega
  | succ n ih =>
    intro h
    unfold cnt
    by_cases e : n = k
    · rw [if_pos e]
      omega
    · have := ih (by omega)
      omega
noncomputable def cS (hm : Nat → Int32) (bn : Int32) (c : Int) (a : Nat) : Nat := cnt (fun j => (hm j).toInt = c ∧ a ≤ j) bn.toInt.toNat
theorem cS_le {hm : Nat → Int32} {bn : Int32} {c : Int} {a : Nat} (h : 0 ≤ bn.toInt) : (cS hm bn c a : Int) ≤ bn.toInt := by
  have := cnt_le (fun j => (hm j).toInt = c ∧ a ≤ j) bn.toInt.toNat
  unfold cS
  omega
theorem cS_mono {hm : Nat → Int32} {bn : Int32} {c : Int} {a b : Nat} (h : b ≤ a) : cS hm bn c a ≤ cS hm bn c b := cnt_mono (fun k q => ⟨q.1, Nat.le_trans h q.2⟩) _
theorem cS_step {hm : Nat → Int32} {bn : Int32} {c : Int} {a k : Nat} (hk : (k : Int) < bn.toInt) (hc : (hm k).toInt = c) (ha : k < a) : cS hm bn c a + 1 ≤ cS hm bn c k := by
  have h1 := cnt_two (P := fun j => (hm j).toInt = c ∧ a ≤ j) (Q := fun j => j = k) (R := fun j => (hm j).toInt = c ∧ k ≤ j) (fun j q => ⟨q.1, by omega⟩) (fun j q => by subst q; exact ⟨hc, Nat.le_refl _⟩) (fun j q e => by omega) bn.toInt.toNat
  have h2 := cnt_pt (k := k) bn.toInt.toNat (by omega)
  unfold cS
  omega
def zGet (n : Int32) (f : Nat → Int32) (p r : Int32) : Prop := (0 ≤ p.toInt ∧ p.toInt < n.toInt ∧ r = f p.toNatClampNeg) ∨ (¬ (0 ≤ p.toInt ∧ p.toInt < n.toInt) ∧ r.toInt = -1)
def sOneV (hm : Nat → Int32) (bn x : Int32) (c : Int) : Prop := x.toInt = -1 ∨ ∃ k : Nat, x.toInt = k ∧ (k : Int) < bn.toInt ∧ (hm k).toInt = c
theorem sI_first {hm nx hd fs ls pr : Nat → Int32} {bn sn so ss p r : Int32} (h : sI hm nx hd fs ls pr bn sn so ss) (hg : zGet sn fs p r) : sOneV hm bn r p.toInt := by
  rcases hg with ⟨h1, h2, e⟩ | ⟨-, e⟩
  · have e2 := zci h1
    rcases h.1 p.toNatClampNeg (by omega) with q | ⟨k, q1, q2, q3⟩
    · exact Or.inl (by rw [e]; exact q)
    · exact Or.inr ⟨k, by rw [e]; exact q1, q2, by omega⟩
  · exact Or.inl e
def cInv (hm : Nat → Int32) (bn : Int32) (c : Int) (v w : Int32) (B : Int) : Prop := (v.toInt < 0 ∧ w.toInt ≤ B) ∨ ∃ k : Nat, v.toInt = k ∧ (k : Int) < bn.toInt ∧ (hm k).toInt = c ∧ w.toInt + (cS hm bn c k : Nat) ≤ B
theorem cInv_0 {hm : Nat → Int32} {bn v w : Int32} {c : Int} (h : sOneV hm bn v c) : cInv hm bn c v w (w.toInt + (cS hm bn c 0 : Nat)) := by
  rcases h with h | ⟨k, h1, h2, h3⟩
  · exact Or.inl ⟨by omega, by omega⟩
  · refine Or.inr ⟨k, h1, h2, h3, ?_⟩
    have := cS_mono (hm := hm) (bn := bn) (c := c) (Nat.zero_le k)
    omega
theorem cInv_w {hm : Nat → Int32} {bn v w : Int32} {c B : Int} (h : cInv hm bn c v w B) : w.toInt ≤ B := by
  rcases h with h | ⟨k, -, -, -, h⟩ <;> omega
theorem sOneV_lt {hm : Nat → Int32} {bn v : Int32} {c : Int} (h : sOneV hm bn v c) (hb : 0 ≤ bn.toInt) : v.toInt < bn.toInt := by
  rcases h with h | ⟨k, h1, h2, -⟩ <;> omega
theorem cInv_v {hm : Nat → Int32} {bn v w : Int32} {c B : Int} (h : cInv hm bn c v w B) (hb : 0 ≤ bn.toInt) : v.toInt < bn.toInt := by
  rcases h with h | ⟨k, h1, h2, -, -⟩ <;> omega
theorem cInv_step {hm nx hd fs ls pr : Nat → Int32} {bn sn so ss v v2 w w2 : Int32} {c B : Int} (h : cInv hm bn c v w B) (h0 : ¬ v.toInt < 0) (hw : w2.toInt = w.toInt + 1) (hg : zGet bn nx v v2) (hs : sI hm nx hd fs ls pr bn sn so ss) : cInv hm bn c v2 w2 B := by
  rcases h with ⟨h1, -⟩ | ⟨k, h1, h2, h3, h4⟩
  · exact absurd h1 h0
  · rcases hg with ⟨q1, q2, e⟩ | ⟨q, -⟩
    · have e2 : v.toNatClampNeg = k := zcl h1
      rw [e2] at e
      rcases hs.2.2.1 k h2 with p | ⟨j, p1, p2, p3, p4⟩
      · have := cS_step h2 h3 (Nat.lt_succ_self k)
        exact Or.inl ⟨by rw [e]; omega, by omega⟩
      · have := cS_step h2 h3 p2
        exact Or.inr ⟨j, by rw [e]; exact p1, p3, by omega, by omega⟩
    · exact absurd ⟨by omega, by omega⟩ q
def isH (hd pr : Nat → Int32) (bn sn : Int32) (h : Int) : Prop := 0 ≤ h ∧ h < sn.toInt ∧ 0 ≤ (pr h.toNat).toInt ∧ (pr h.toNat).toInt < bn.toInt ∧ (hd (pr h.toNat).toInt.toNat).toInt = h
theorem isH_no1 {hd pr : Nat → Int32} {bn sn p : Int32} (h : p.toInt < 0) : ¬ isH hd pr bn sn p.toInt := fun q => by
  have := q.1
  omega
theorem isH_no2 {hd pr : Nat → Int32} {bn sn p a b : Int32} (h1 : zGet sn pr p a) (h2 : zGet bn hd a b) (h3 : ¬ b.toInt = p.toInt) : ¬ isH hd pr bn sn p.toInt := by
  intro ⟨q1, q2, q3, q4, q5⟩
  have e : p.toNatClampNeg = p.toInt.toNat := rfl
  rcases h1 with ⟨-, -, e1⟩ | ⟨w, -⟩
  · rw [e] at e1
    rw [← e1] at q3 q4 q5
    have e3 : a.toNatClampNeg = a.toInt.toNat := rfl
    rcases h2 with ⟨-, -, e2⟩ | ⟨w, -⟩
    · rw [e3] at e2
      rw [← e2] at q5
      exact h3 q5
    · exact w ⟨q3, q4⟩
  · exact w ⟨q1, q2⟩
noncomputable def cH (hm hd pr : Nat → Int32) (bn sn : Int32) (s : Int) (a : Nat) : Nat := cnt (fun j => isH hd pr bn sn (hm j).toInt ∧ (hm (pr (hm j).toInt.toNat).toInt.toNat).toInt = s ∧ a ≤ (pr (hm j).toInt.toNat).toInt.toNat) bn.toInt.toNat
noncomputable def cB (hm hd pr : Nat → Int32) (bn sn : Int32) (s : Int) : Nat := cnt (fun j => (¬ isH hd pr bn sn (hm j).toInt ∧ (hm j).toInt = s) ∨ (isH hd pr bn sn (hm j).toInt ∧ (hm (pr (hm j).toInt.toNat).toInt.toNat).toInt = s)) bn.toInt.toNat
noncomputable def cL (hm hd pr : Nat → Int32) (bn sn : Int32) (s : Int) : Nat := cnt (fun j => (¬ isH hd pr bn sn (hm j).toInt ∧ (hm j).toInt < s) ∨ (isH hd pr bn sn (hm j).toInt ∧ (hm (pr (hm j).toInt.toNat).toInt.toNat).toInt < s)) bn.toInt.toNat
theorem cL_le {hm hd pr : Nat → Int32} {bn sn : Int32} {s : Int} (h : 0 ≤ bn.toInt) : (cL hm hd pr bn sn s : Int) ≤ bn.toInt := by
  have := cnt_le (fun j => (¬ isH hd pr bn sn (hm j).toInt ∧ (hm j).toInt < s) ∨ (isH hd pr bn sn (hm j).toInt ∧ (hm (pr (hm j).toInt.toNat).toInt.toNat).toInt < s)) bn.toInt.toNat
  unfold cL
  omega
theorem cB_le {hm hd pr : Nat → Int32} {bn sn : Int32} {s : Int} (h : 0 ≤ bn.toInt) : (cB hm hd pr bn sn s : Int) ≤ bn.toInt := by
  have := cnt_le (fun j => (¬ isH hd pr bn sn (hm j).toInt ∧ (hm j).toInt = s) ∨ (isH hd pr bn sn (hm j).toInt ∧ (hm (pr (hm j).toInt.toNat).toInt.toNat).toInt = s)) bn.toInt.toNat
  unfold cB
  omega
theorem cL_mono {hm hd pr : Nat → Int32} {bn sn : Int32} {s t : Int} (h : s ≤ t) : cL hm hd pr bn sn s ≤ cL hm hd pr bn sn t := cnt_mono (fun k q => q.elim (fun w => Or.inl ⟨w.1, by omega⟩) (fun w => Or.inr ⟨w.1, by omega⟩)) _
theorem cL_step {hm hd pr : Nat → Int32} {bn sn : Int32} {s : Int} : cL hm hd pr bn sn s + cB hm hd pr bn sn s ≤ cL hm hd pr bn sn (s + 1) := by
  refine cnt_two (fun j q => ?_) (fun j q => ?_) (fun j q w => ?_) _
  · rcases q with q | q
    · exact Or.inl ⟨q.1, by omega⟩
    · exact Or.inr ⟨q.1, by omega⟩
  · rcases q with q | q
    · exact Or.inl ⟨q.1, by omega⟩
    · exact Or.inr ⟨q.1, by omega⟩
  · rcases q with q | q <;> rcases w with w | w
    · omega
    · exact q.1 w.1
    · exact w.1 q.1
    · omega
theorem cB_two {hm hd pr : Nat → Int32} {bn sn : Int32} {s : Int} (hn : ¬ isH hd pr bn sn s) : cS hm bn s 0 + cH hm hd pr bn sn s 0 ≤ cB hm hd pr bn sn s := by
  refine cnt_two (fun j q => ?_) (fun j q => ?_) (fun j q w => ?_) _
  · exact Or.inl ⟨by rw [q.1]; exact hn, q.1⟩
  · exact Or.inr ⟨q.1, q.2.1⟩
  · apply hn
    have := w.1
    rw [q.1] at this
    exact this
theorem cH_mono {hm hd pr : Nat → Int32} {bn sn : Int32} {s : Int} {a b : Nat} (h : b ≤ a) : cH hm hd pr bn sn s a ≤ cH hm hd pr bn sn s b := cnt_mono (fun k q => ⟨q.1, q.2.1, Nat.le_trans h q.2.2⟩) _
def cJ (hm hd pr : Nat → Int32) (bn sn : Int32) (s : Int) (v w : Int32) (B : Int) : Prop := (v.toInt < 0 ∧ w.toInt ≤ B) ∨ ∃ k : Nat, v.toInt = k ∧ (k : Int) < bn.toInt ∧ (hm k).toInt = s ∧ w.toInt + (cH hm hd pr bn sn s k : Nat) ≤ B
theorem cJ_0 {hm hd pr : Nat → Int32} {bn sn on v w p : Int32} (h : sOneV hm bn v p.toInt) (hn : ¬ isH hd pr bn sn p.toInt) (hw : w.toInt ≤ on.toInt + (cS hm bn p.toInt 0 : Nat)) : cJ hm hd pr bn sn p.toInt v w (on.toInt + (cB hm hd pr bn sn p.toInt : Nat)) := by
  have h2 := cB_two (hm := hm) hn
  rcases h with h | ⟨k, h1, h3, h4⟩
  · exact Or.inl ⟨by omega, by omega⟩
  · have := cH_mono (hm := hm) (hd := hd) (pr := pr) (bn := bn) (sn := sn) (s := p.toInt) (Nat.zero_le k)
    exact Or.inr ⟨k, h1, h3, h4, by omega⟩
theorem cJ_w {hm hd pr : Nat → Int32} {bn sn v w : Int32} {s B : Int} (h : cJ hm hd pr bn sn s v w B) : w.toInt ≤ B := by
  rcases h with h | ⟨k, -, -, -, h⟩ <;> omega
theorem cJ_step {hm nx hd fs ls pr : Nat → Int32} {bn sn so ss v v2 w w2 g r : Int32} {s B : Int} (h : cJ hm hd pr bn sn s v w B) (h0 : ¬ v.toInt < 0) (hh : zGet bn hd v g) (hf : zGet sn fs g r) (hr : r.toInt < 0 → w2.toInt = w.toInt) (hw : w2.toInt ≤ w.toInt + (cS hm bn g.toInt 0 : Nat)) (hg : zGet bn nx v v2) (hs : sI hm nx hd fs ls pr bn sn so ss) (h333 : sn.toInt ≤ 333) : cJ hm hd pr bn sn s v2 w2 B := by
  rcases h with ⟨h1, -⟩ | ⟨k, h1, h2, h3, h4⟩
  · exact absurd h1 h0
  · have e2 : v.toNatClampNeg = k := zcl h1
    have eg : g = hd k := by
      rcases hh with ⟨-, -, e⟩ | ⟨q, -⟩
      · rw [e, e2]
      · exact absurd ⟨by omega, by omega⟩ q
    have hm1 := cH_mono (hm := hm) (hd := hd) (pr := pr) (bn := bn) (sn := sn) (s := s) (Nat.le_succ k)
    have hstep : w2.toInt + (cH hm hd pr bn sn s (k + 1) : Nat) ≤ B := by
      have out : ¬ (0 ≤ g.toInt ∧ g.toInt < sn.toInt) → w2.toInt + (cH hm hd pr bn sn s (k + 1) : Nat) ≤ B := by
        intro q
        rcases hf with ⟨q1, q2, -⟩ | ⟨-, e⟩
        · exact absurd ⟨q1, q2⟩ q
        · have := hr (by omega)
          have hm2 : cH hm hd pr bn sn s (k + 1) ≤ cH hm hd pr bn sn s k := hm1
          omega
      rcases hs.2.2.2.1 k h2 with q | q | ⟨y, q1, q2, q3⟩
      · exact out (by rw [eg]; omega)
      · exact out (by rw [eg]; omega)
      · have ey : g.toInt = (y : Int) := by rw [eg]; exact q1
        have hk : ((pr ((y : Int).toNat)).toInt) = (k : Int) := by
          have : ((y : Int).toNat) = y := by omega
          rw [this]
          exact q3
        have hk2 : (k : Int).toNat = k := by omega
        have hy : isH hd pr bn sn (y : Int) := ⟨by omega, q2, by rw [hk]; omega, by rw [hk]; exact h2, by rw [hk, hk2]; exact q1⟩
        have h5 : cS hm bn g.toInt 0 + cH hm hd pr bn sn s (k + 1) ≤ cH hm hd pr bn sn s k := by
          rw [ey]
          refine cnt_two (fun j q => ?_) (fun j q => ?_) (fun j q w => ?_) _
          · have e5 := q.1
            refine ⟨by rw [e5]; exact hy, ?_, ?_⟩
            · rw [e5, hk, hk2]
              exact h3
            · rw [e5, hk, hk2]
              exact Nat.le_refl k
          · exact ⟨q.1, q.2.1, Nat.le_trans (Nat.le_succ k) q.2.2⟩
          · have e5 := q.1
            have e6 := w.2.2
            rw [e5, hk, hk2] at e6
            omega
        omega
    rcases hg with ⟨q1, q2, e⟩ | ⟨q, -⟩
    · rw [e2] at e
      rcases hs.2.2.1 k h2 with p | ⟨j, p1, p2, p3, p4⟩
      · exact Or.inl ⟨by rw [e]; omega, by omega⟩
      · have := cH_mono (hm := hm) (hd := hd) (pr := pr) (bn := bn) (sn := sn) (s := s) (show k + 1 ≤ j from p2)
        exact Or.inr ⟨j, by rw [e]; exact p1, p3, by omega, by omega⟩
    · exact absurd ⟨by omega, by omega⟩ q
theorem cJ_v {hm hd pr : Nat → Int32} {bn sn v w : Int32} {s B : Int} (h : cJ hm hd pr bn sn s v w B) (hb : 0 ≤ bn.toInt) : v.toInt < bn.toInt := by
  rcases h with h | ⟨k, h1, h2, -, -⟩ <;> omega
