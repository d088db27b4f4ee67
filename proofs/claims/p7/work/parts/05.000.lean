def fl9 (f : Nat → Int32) (n : Int) (v : Int32) : Prop := ∀ j : Nat, (j : Int) < n → f j = v
theorem fl9_0 {f : Nat → Int32} {n : Int} {v : Int32} (h : n ≤ 0) : fl9 f n v := fun j a => by omega
theorem fl9_s {f : Nat → Int32} {i : Int32} {n : Int} {v : Int32} (h : fl9 f i.toInt v) (h0 : 0 ≤ i.toInt) (e : n = i.toInt + 1) : fl9 (upd f (Int32.toNatClampNeg i) v) n v := fun j a => by
  show (if j = i.toInt.toNat then v else f j) = v
  by_cases c : j = i.toInt.toNat
  · rw [if_pos c]
  · rw [if_neg c]
    exact h j (by omega)
theorem fl9_e {f : Nat → Int32} {m n : Int} {v : Int32} (h : fl9 f m v) (e : n ≤ m) : fl9 f n v := fun j a => h j (by omega)
theorem zmin {x y v : Int32} (e : v = (if y < x then y else x)) : v.toInt ≤ x.toInt ∧ v.toInt ≤ y.toInt := by
  by_cases h : y < x
  · rw [if_pos h] at e
    have h1 := Int32.lt_iff_toInt_lt.mp h
    subst e
    omega
  · rw [if_neg h] at e
    have h1 : ¬ y.toInt < x.toInt := fun q => h (Int32.lt_iff_toInt_lt.mpr q)
    subst e
    omega
theorem zmax {x y v : Int32} (e : v = (if x < y then y else x)) : x.toInt ≤ v.toInt ∧ y.toInt ≤ v.toInt := by
  by_cases h : x < y
  · rw [if_pos h] at e
    have h1 := Int32.lt_iff_toInt_lt.mp h
    subst e
    omega
  · rw [if_neg h] at e
    have h1 : ¬ x.toInt < y.toInt := fun q => h (Int32.lt_iff_toInt_lt.mpr q)
    subst e
    omega