theorem inB_z {f : Nat → Int32} {n a b : Int} (h : n = 0) : inB f n a b := fun k hk => by omega
theorem arI_z {f : Nat → Int32} {i v : Int32} {n : Int} (hi : i.toInt = 0) (hv : v.toInt = -1) (hn : n = 1) : arI (upd f i.toNatClampNeg v) n := by
  intro k hk
  have e1 := zci (i := i) (by omega)
  have e2 : k = i.toNatClampNeg := by omega
  rw [e2, pk_us]
  omega
theorem okI_z {ar ins sl : Nat → Int32} {i v : Int32} {xs xk : Int} (hi : i.toInt = 0) (hv : v.toInt = -1) (hn : xs = 1) : okI ar (upd ins i.toNatClampNeg v) sl xs xk := by
  intro s s0 s1
  have e2 : s = i.toInt := by omega
  rw [e2, rd_s (by omega)]
  exact Or.inl hv
theorem WS_z {wh mo : Nat → Int32} {xk : Int} (h : xk = 0) : WS wh mo xk xk := by
  subst h
  exact Int.le_refl _
theorem bvI_z {bv va : Nat → Int32} {xk : Int} {tT : Nat} (h : xk = 0) : bvI bv va xk tT := fun k a b => by omega
theorem blI_z {so on : Nat → Int32} {xn xs : Int} (h : xn = 0) : blI so on xn xs := fun b c d => by omega
theorem liI_z {wh li : Nat → Int32} {xk xn : Int} (h : xk = 0) : liI wh li xk xn := fun b c d => by omega

