theorem exI {α : Type} {p : α → Prop} {b : Prop} (h : ∀ a, p a → b) : (∃ x, p x) → b := fun q => q.elim h
theorem anI {p q b : Prop} (h : p → q → b) : p ∧ q → b := fun z => h z.1 z.2
theorem orI {p q b : Prop} (h : p → b) (g : q → b) : p ∨ q → b := fun z => z.elim h g
def dB (a b c d : Int32) (k : Int) : Prop := c.toInt = -2 → a.toInt = -2 ∧ d.toInt = b.toInt + k
theorem dB_0 {a b : Int32} : dB a b a b 0 := fun h => ⟨h, by omega⟩
theorem dB_tr {a b c d e f : Int32} {k j : Int} (h : dB a b c d k) (g : e.toInt = -2 → c.toInt = -2 ∧ f.toInt = d.toInt + j) : dB a b e f (k + j) := fun q => by
  have q1 := g q
  have q2 := h q1.1
  exact ⟨q2.1, by omega⟩
theorem dB_tm {a b c d e f : Int32} {k j : Int} (h : dB a b c d k) (g : e.toInt = -2 → c.toInt = -2 ∧ f.toInt = d.toInt - j) : dB a b e f (k - j) := fun q => by
  have q1 := g q
  have q2 := h q1.1
  exact ⟨q2.1, by omega⟩
theorem dB_no {a b e f : Int32} {k : Int} (h : ¬ e.toInt = -2) : dB a b e f k := fun q => absurd q h
theorem dB_out {a b c d : Int32} {k j : Int} (h : dB a b c d k) (e : k = j) : c.toInt = -2 → a.toInt = -2 ∧ d.toInt = b.toInt + j := fun q => by
  have q2 := h q
  exact ⟨q2.1, by omega⟩
theorem dB_om {a b c d : Int32} {k j : Int} (h : dB a b c d k) (e : k = -j) : c.toInt = -2 → a.toInt = -2 ∧ d.toInt = b.toInt - j := fun q => by
  have q2 := h q
  exact ⟨q2.1, by omega⟩
theorem dB_fu {a b c d : Int32} {k : Int} {n q : Nat} (h : dB a b c d k) (g : a.toInt = -2 → 21 ≤ b.toInt + n) (e : q + 1 = n) (hk : 1 ≤ k) : c.toInt = -2 → 21 ≤ d.toInt + q := fun z => by
  have q2 := h z
  have q3 := g q2.1
  omega
theorem dB_f0 {a b c d : Int32} {k : Int} {n : Nat} (h : dB a b c d k) (g : a.toInt = -2 → 21 ≤ b.toInt + n) (hk : 0 ≤ k) : c.toInt = -2 → 21 ≤ d.toInt + n := fun z => by
  have q2 := h z
  have q3 := g q2.1
  omega
theorem dB_ri {a b c d : Int32} {k : Int} (h : dB a b c d k) (g : a.toInt = -2 → 0 ≤ b.toInt ∧ b.toInt ≤ 20) (hk : 1 ≤ k) : c.toInt = -2 → 1 ≤ d.toInt := fun z => by
  have q2 := h z
  have q3 := g q2.1
  omega
theorem fuC {a m n c : Nat} (h : a ≤ c) : a ≤ m * n + c := Nat.le_trans h (Nat.le_add_left _ _)
theorem fuD {a m n c : Nat} (h : a ≤ 32 * c) : a ≤ 32 * (m * n + c) := by
  have := Nat.le_add_left c (m * n)
  omega
theorem fuM {m m' n c1 c2 : Nat} (hm : m ≤ m') (hc : c1 + 1 ≤ c2) : m * n + c1 + 1 ≤ m' * n + c2 := by
  have := Nat.mul_le_mul_right n hm
  omega
theorem fuN {m m' n c1 c2 x : Nat} (hm : m ≤ m') (hc : x + 32 * c1 ≤ 32 * c2) : x + 32 * (m * n + c1) ≤ 32 * (m' * n + c2) := by
  have := Nat.mul_le_mul_right n hm
  omega
theorem fuK {m m' n k c1 c2 : Nat} (hk : k + 1 = n) (hm : m ≤ m') (hc : c1 + 1 ≤ c2 + m') : m * k + c1 + 1 ≤ m' * n + c2 := by
  subst hk
  have := Nat.mul_le_mul_right k hm
  have h2 : m' * (k + 1) = m' * k + m' := Nat.mul_succ m' k
  omega
theorem fuL {m m' n k c1 c2 x : Nat} (hk : k + 1 = n) (hm : m ≤ m') (hc : x + 32 * c1 ≤ 32 * c2 + 32 * m') : x + 32 * (m * k + c1) ≤ 32 * (m' * n + c2) := by
  subst hk
  have := Nat.mul_le_mul_right k hm
  have h2 : m' * (k + 1) = m' * k + m' := Nat.mul_succ m' k
  omega
