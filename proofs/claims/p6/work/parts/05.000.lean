theorem zmin {x y v : Int32} (e : v = (if y < x then y else x)) : v.toInt ≤ x.toInt ∧ v.toInt ≤ y.toInt := by
  by_cases h : y < x
  · rw [if_pos h] at e
    have h1 := Int32.lt_iff_toInt_lt.mp h
    subst e
    omega
  · rw [if_neg h] at e
    have h1 : ¬ y.toInt < x.toInt := fun q => h (Int32.lt_iff_toInt_lt.mpr q)
    subst e
    omega
theorem zmax {x y v : Int32} (e : v = (if x < y then y else x)) : x.toInt ≤ v.toInt ∧ y.toInt ≤ v.toInt := by
  by_cases h : x < y
  · rw [if_pos h] at e
    have h1 := Int32.lt_iff_toInt_lt.mp h
    subst e
    omega
  · rw [if_neg h] at e
    have h1 : ¬ x.toInt < y.toInt := fun q => h (Int32.lt_iff_toInt_lt.mpr q)
    subst e
    omega