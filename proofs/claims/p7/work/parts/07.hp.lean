def pKr (f : Nat → Int32) (n : Int) (g : Nat → Int32) (n' : Int) : Prop := n ≤ n' ∧ ∀ s : Nat, (s : Int) < n → g s = f s
theorem pK_0 {f : Nat → Int32} {n : Int} : pKr f n f n := ⟨Int.le_refl _, fun _ _ => rfl⟩
theorem pK_t {f g h : Nat → Int32} {n n1 n2 : Int} (a : pKr f n g n1) (b : pKr g n1 h n2) : pKr f n h n2 := ⟨Int.le_trans a.1 b.1, fun s q => (b.2 s (by have := a.1; omega)).trans (a.2 s q)⟩
theorem pK_o {f : Nat → Int32} {n n' : Int} {so c : Int32} (h : so.toInt = n) (h0 : 0 ≤ so.toInt) (h2 : n' = so.toInt + 1) : pKr f n (upd f (Int32.toNatClampNeg so) c) n' := by
  refine ⟨by omega, fun s q => ?_⟩
  unfold upd
  have e : ((Int32.toNatClampNeg so : Nat) : Int) = so.toInt := by
    show ((so.toInt.toNat : Nat) : Int) = so.toInt
    omega
  rw [if_neg (by omega)]
theorem pK_w {f : Nat → Int32} {so c : Int32} : (upd f (Int32.toNatClampNeg so) c so.toInt.toNat).toInt = c.toInt := by
  have e : upd f (Int32.toNatClampNeg so) c so.toInt.toNat = c := if_pos (show so.toInt.toNat = Int32.toNatClampNeg so from rfl)
  rw [e]
