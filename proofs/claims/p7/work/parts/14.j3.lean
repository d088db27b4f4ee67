theorem kS_g : ∀ j : Nat, j < 15 → sCh 1 (0 + (j : Int)) = sTb.getD j 0 := by decide +kernel
theorem kS_1 {f : Nat → Int32} {x z y r : Int32} (ez : z = f x.toNatClampNeg) (ey : y = z &&& 255) (h1 : -128 ≤ z.toInt) (h2 : z.toInt ≤ 127) (h : 0 ≤ ((y.toUInt32 % 65536).toInt32).toInt ∧ ((y.toUInt32 % 65536).toInt32).toInt ≤ 255 → r.toInt = fIx (sCh 1) (((y.toUInt32 % 65536).toInt32).toInt8.toInt32).toInt (sN 1) 0) : (r.toInt < 0 ∧ kSg (tB f x.toInt) = -1) ∨ (0 ≤ r.toInt ∧ r.toInt ≤ 15 ∧ kSg (tB f x.toInt) = 30 + r.toInt) := by
  obtain ⟨b1, b2, b3⟩ := bt_c ey h1 h2
  have e := h ⟨b1, b2⟩
  rw [b3] at e
  have q := fI_sg (g := sCh 1) (c := z.toInt) sTb 0 (by decide) kS_g
  rw [show sTb.length = sN 1 from by decide +kernel, ← e] at q
  have e2 : kSg (tB f x.toInt) = sIx z.toInt sTb (30 + 0) := by rw [tB_z ez]; rfl
  rw [← e2, show ((sN 1 : Nat) : Int) = 15 from by decide +kernel] at q
  rcases q with q | q
  · exact Or.inl q
  · exact Or.inr ⟨q.1, by omega, q.2.2⟩
