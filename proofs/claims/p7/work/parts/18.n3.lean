def nmK (kd : Int → Int) (wd : nA) (n : Int) : Prop := ∀ k : Nat, (k : Int) < n → kd (wd k).toInt = 27
def rF (ho wd : nA) (ky : Int → Int) (s key : Int) : Nat → Int → Int
  | 0, _ => -1
  | f + 1, k => if rd ho k = s ∧ ky (rd wd k) = key then k else rF ho wd ky s key f (k + 1)
def rM (ar ho wd : nA) (ky : Int → Int) (n key : Int) : Nat → Int → Int
  | 0, _ => -1
  | f + 1, k => if 0 ≤ k then (if 0 ≤ rF ho wd ky k key n.toNat 0 then rF ho wd ky k key n.toNat 0 else rM ar ho wd ky n key f (rd ar k)) else -1
theorem rd_z {f : nA} {x z : Int32} (ez : z = f x.toNatClampNeg) : rd f x.toInt = z.toInt := by
  rw [ez]
  rfl
section
variable {kd ky : Int → Int} {wd ho ar : nA} {n s key : Int} {i z : Int32}
theorem nmK_at (h : nmK kd wd n) (h0 : 0 ≤ i.toInt) (h1 : i.toInt < n) (e : z = wd i.toNatClampNeg) : kd z.toInt = 27 := by
  have e1 := zci h0
  have q := h i.toNatClampNeg (by omega)
  rw [← e] at q
  exact q
theorem nmK_p {x : Int32} {m : Int} (h : nmK kd wd n) (h0 : 0 ≤ i.toInt) (hi : i.toInt = n) (hm : m ≤ n + 1) (hx : kd x.toInt = 27) : nmK kd (upd wd i.toNatClampNeg x) m := by
  intro k hk
  have e1 := zci h0
  by_cases q : k = i.toNatClampNeg
  · rw [q, pk_us]
    exact hx
  · rw [pk_un q]
    exact h k (by omega)
variable {a b v v2 : Int}
theorem rF_n (h : b ≤ a) : rF ho wd ky s key (b - a).toNat a = -1 := by
  rw [show (b - a).toNat = 0 from by omega]
  rfl
theorem rF_h (h : a < b) (e : rd ho a = s ∧ ky (rd wd a) = key) : rF ho wd ky s key (b - a).toNat a = a := by
  obtain ⟨m, hm⟩ : ∃ m : Nat, (b - a).toNat = m + 1 := ⟨(b - a).toNat - 1, by omega⟩
  rw [hm]
  exact if_pos e
theorem rF_s (h : a < b) (e : ¬ (rd ho a = s ∧ ky (rd wd a) = key)) (e2 : v = a + 1) : rF ho wd ky s key (b - a).toNat a = rF ho wd ky s key (b - v).toNat v := by
  obtain ⟨m, hm⟩ : ∃ m : Nat, (b - a).toNat = m + 1 := ⟨(b - a).toNat - 1, by omega⟩
  rw [hm, show (b - v).toNat = m from by omega, e2]
  exact if_neg e
theorem rM_st {m : Int} (ha : arI ar m) : ∀ (g : Nat) (k : Int), k < m → k + 1 ≤ (g : Int) → rM ar ho wd ky n key (g + 1) k = rM ar ho wd ky n key g k := by
  intro g
  induction g with
  | zero =>
    intro k _ h
    exact if_neg (by omega)
  | succ g ih =>
    intro k hm h
    show (if 0 ≤ k then (if 0 ≤ rF ho wd ky k key n.toNat 0 then _ else rM ar ho wd ky n key (g + 1) (rd ar k)) else -1) = (if 0 ≤ k then (if 0 ≤ rF ho wd ky k key n.toNat 0 then _ else rM ar ho wd ky n key g (rd ar k)) else -1)
    by_cases c : 0 ≤ k
    · have q := ha k.toNat (by omega)
      have e : rd ar k = (ar k.toNat).toInt := rfl
      rw [ih (rd ar k) (by omega) (by omega)]
    · rw [if_neg c, if_neg c]
theorem rM_d {m k : Int} (ha : arI ar m) (hk : k < m) : ∀ d : Nat, rM ar ho wd ky n key ((k + 1).toNat + d) k = rM ar ho wd ky n key (k + 1).toNat k := by
  intro d
  induction d with
  | zero => rfl
  | succ d ih => exact (rM_st ha ((k + 1).toNat + d) k hk (by omega)).trans ih
theorem rM_n (h : v < 0) : rM ar ho wd ky n key (v + 1).toNat v = -1 := by
  rw [show (v + 1).toNat = 0 from by omega]
  rfl
theorem rM_h (h : 0 ≤ v) (e : a = rF ho wd ky v key n.toNat 0) (h2 : 0 ≤ a) : rM ar ho wd ky n key (v + 1).toNat v = a := by
  rw [show (v + 1).toNat = v.toNat + 1 from by omega]
  show (if 0 ≤ v then (if 0 ≤ rF ho wd ky v key n.toNat 0 then _ else _) else -1) = a
  rw [if_pos h, ← e, if_pos h2]
theorem rM_s {m : Int} (ha : arI ar m) (h : 0 ≤ v) (hm : v < m) (e : rF ho wd ky v key n.toNat 0 < 0) (e2 : rd ar v = v2) : rM ar ho wd ky n key (v + 1).toNat v = rM ar ho wd ky n key (v2 + 1).toNat v2 := by
  have q := ha v.toNat (by omega)
  have e3 : rd ar v = (ar v.toNat).toInt := rfl
  rw [show (v + 1).toNat = v.toNat + 1 from by omega]
  show (if 0 ≤ v then (if 0 ≤ rF ho wd ky v key n.toNat 0 then _ else rM ar ho wd ky n key v.toNat (rd ar v)) else -1) = _
  rw [if_pos h, if_neg (by omega), e2]
  have z := rM_d (ho := ho) (wd := wd) (ky := ky) (n := n) (key := key) ha (show v2 < m by omega) (v.toNat - (v2 + 1).toNat)
  rw [show (v2 + 1).toNat + (v.toNat - (v2 + 1).toNat) = v.toNat from by omega] at z
  exact z
end
