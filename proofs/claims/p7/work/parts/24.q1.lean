def nRl2 (T : gV) (ky : Int → Int) (wd ho : nA) (xk : Int) : Prop := xk = T 10 0 ∧ ∀ k : Nat, (k : Int) < T 10 0 → ky (rd wd (k : Int)) = T 0 k ∧ rd ho (k : Int) = T 4 k + 1
def sRl2 (T : gV) (ar : nA) (xs : Int) : Prop := xs = T 11 0 + 1 ∧ rd ar 0 = -1 ∧ ∀ s : Nat, (s : Int) < T 11 0 → rd ar ((s : Int) + 1) = T 7 s + 1 ∧ -1 ≤ T 7 s ∧ T 7 s < (s : Int)
section
variable {T : gV} {ky : Int → Int} {wd ho ar : nA} {xk xs key : Int}
theorem rF_f (h : nRl2 T ky wd ho xk) (s : Int) : ∀ (f : Nat) (k : Int), 0 ≤ k → k + (f : Int) ≤ T 10 0 → rF ho wd ky (s + 1) key f k = fF T s key f k := by
  intro f
  induction f with
  | zero => intro k _ _; rfl
  | succ f ih =>
    intro k h0 h1
    have q := h.2 k.toNat (by omega)
    rw [show ((k.toNat : Nat) : Int) = k from by omega] at q
    have e1 : rF ho wd ky (s + 1) key (f + 1) k = if rd ho k = s + 1 ∧ ky (rd wd k) = key then k else rF ho wd ky (s + 1) key f (k + 1) := rfl
    have e2 : fF T s key (f + 1) k = if T 4 k.toNat = s ∧ T 0 k.toNat = key then k else fF T s key f (k + 1) := rfl
    rw [e1, e2, q.1, q.2, ih (k + 1) (by omega) (by omega)]
    by_cases c : T 4 k.toNat = s ∧ T 0 k.toNat = key
    · rw [if_pos c, if_pos ⟨by omega, c.2⟩]
    · rw [if_neg c, if_neg (fun z => c ⟨by omega, z.2⟩)]
theorem rF_z (h : nRl2 T ky wd ho xk) (hc : cI T) : ∀ (f : Nat) (k : Int), 0 ≤ k → k + (f : Int) ≤ T 10 0 → rF ho wd ky 0 key f k = -1 := by
  intro f
  induction f with
  | zero => intro k _ _; rfl
  | succ f ih =>
    intro k h0 h1
    have q := h.2 k.toNat (by omega)
    have q2 := hc.2.2.1 k.toNat (by omega)
    rw [show ((k.toNat : Nat) : Int) = k from by omega] at q
    exact (if_neg (fun z => by omega)).trans (ih (k + 1) (by omega) (by omega))
theorem sR_a (h : sRl2 T ar xs) (hc : cI T) : arI ar xs := fun s hs => by
  have h2 := hc.2.1
  by_cases c : s = 0
  · subst c
    have q : (ar 0).toInt = -1 := h.2.1
    rw [q]
    omega
  · have q := h.2.2 (s - 1) (by have := h.1; omega)
    have e : rd ar (((s - 1 : Nat) : Int) + 1) = (ar s).toInt := by
      show (ar (((s - 1 : Nat) : Int) + 1).toNat).toInt = _
      rw [show (((s - 1 : Nat) : Int) + 1).toNat = s from by omega]
    rw [e] at q
    omega
theorem rM_o (hn : nRl2 T ky wd ho xk) (hs : sRl2 T ar xs) (hc : cI T) : rM ar ho wd ky xk key ((-1 : Int) + 2).toNat (-1 + 1) = -1 := by
  have hk := hn.1
  have b0 := hc.1
  have e1 : rM ar ho wd ky xk key ((-1 : Int) + 2).toNat (-1 + 1) = if 0 ≤ (-1 : Int) + 1 then (if 0 ≤ rF ho wd ky (-1 + 1) key xk.toNat 0 then rF ho wd ky (-1 + 1) key xk.toNat 0 else rM ar ho wd ky xk key 0 (rd ar (-1 + 1))) else -1 := rfl
  have z := rF_z (key := key) hn hc xk.toNat 0 (by omega) (by omega)
  rw [e1, if_pos (by decide), show (-1 : Int) + 1 = 0 from by decide, z, if_neg (by decide)]
  rfl
theorem rM_g (hn : nRl2 T ky wd ho xk) (hs : sRl2 T ar xs) (hc : cI T) (hb : T 10 0 ≤ 1501) : ∀ (f : Nat) (w : Int), -1 ≤ w → w < T 11 0 → w + 1 ≤ (f : Int) → rM ar ho wd ky xk key (w + 2).toNat (w + 1) = sFind (T 0) (T 5) (T 10 0) (T 8) (T 7) (T 11 0) key f w := by
  intro f
  induction f with
  | zero =>
    intro w h1 _ h3
    obtain rfl : w = -1 := by omega
    exact rM_o hn hs hc
  | succ f ih =>
    intro w h1 h2 h3
    have hk := hn.1
    have b0 := hc.1
    by_cases c : w = -1
    · subst c
      rw [rM_o hn hs hc]
      exact (if_neg (fun q => by have := q.1; omega)).symm
    · have ew : ((w.toNat : Nat) : Int) = w := by omega
      have q := hs.2.2 w.toNat (by omega)
      rw [ew] at q
      have tf := tFc_s (key := key) (s := w.toNat) hc hb (by omega)
      have rf := rF_f (key := key) hn w xk.toNat 0 (by omega) (by omega)
      rw [ew] at tf
      have er : rF ho wd ky (w + 1) key xk.toNat 0 = tFind (T 0) (T 5) (T 10 0) key 1501 (T 8 w.toNat) := by rw [rf, tf, hk]
      have e2 : sFind (T 0) (T 5) (T 10 0) (T 8) (T 7) (T 11 0) key (f + 1) w = if 0 ≤ w ∧ w < T 11 0 then (if 0 ≤ tFind (T 0) (T 5) (T 10 0) key 1501 (T 8 w.toNat) then tFind (T 0) (T 5) (T 10 0) key 1501 (T 8 w.toNat) else sFind (T 0) (T 5) (T 10 0) (T 8) (T 7) (T 11 0) key f (T 7 w.toNat)) else -1 := rfl
      rw [e2, if_pos ⟨by omega, h2⟩, ← er]
      by_cases c2 : 0 ≤ rF ho wd ky (w + 1) key xk.toNat 0
      · rw [if_pos c2, show (w + 2) = (w + 1) + 1 from by omega]
        exact rM_h (by omega) rfl c2
      · rw [if_neg c2, ← ih (T 7 w.toNat) (by omega) (by omega) (by omega), show (w + 2) = (w + 1) + 1 from by omega, show T 7 w.toNat + 2 = (T 7 w.toNat + 1) + 1 from by omega]
        exact rM_s (sR_a hs hc) (by omega) (by have := hs.1; omega) (by omega) q.1
theorem rM_me (hn : nRl2 T ky wd ho xk) (hs : sRl2 T ar xs) (hc : cI T) (hb : T 10 0 ≤ 1501) (h3 : T 11 0 ≤ 333) {w : Int} (h0 : 0 ≤ w) (h1 : w < xs) : rM ar ho wd ky xk key (w + 1).toNat w = gMe T (w - 1) key := by
  have q := hs.1
  have z := rM_g (key := key) hn hs hc hb 333 (w - 1) (by omega) (by omega) (by omega)
  rw [show w - 1 + 2 = w + 1 from by omega, show w - 1 + 1 = w from by omega] at z
  exact z
end
