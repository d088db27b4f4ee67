def jM6 (o : Option (gV × List (Int × Int))) (xy' : Int) (nu nu' td td' : nA) : Prop := (o = none → nu' = nu ∧ td' = td) ∧ (∀ x, o = some x → x.1 10 0 ≤ 1501 ∧ nwF x.1 (x.1 11 0).toNat ((0, nu) : sGv) = ((xy', nu') : sGv) ∧ tdL (rd nu') (nK x.1) (nT x.1) (nC x.1) (mkV x.1) (owV x.1 nu') (x.1 10 0).toNat td = td')
section
variable {T : gV} {ky : Int → Int} {wd ho ar ins wt ty li mo fi sl io bv nu : nA} {xk xs k : Int}
theorem l4_0 {x : Int32} (h : x.toInt = 1 ∨ x.toInt = 2) : (x &&& 4).toInt = 0 ∧ (x &&& 3).toInt = x.toInt := by
  rcases h with h | h
  · rw [show x = 1 from Int32.toInt_inj.mp (h.trans (by decide +kernel))]
    decide +kernel
  · rw [show x = 2 from Int32.toInt_inj.mp (h.trans (by decide +kernel))]
    decide +kernel
theorem l4_z {x : Int32} (h : x.toInt = 0) : (x &&& 3).toInt = 0 := by
  rw [show x = 0 from Int32.toInt_inj.mp (h.trans (by decide +kernel))]
  decide +kernel
theorem l4_1 {x : Int32} (h : x.toInt = 5 ∨ x.toInt = 6) : (x &&& 4).toInt = 4 ∧ (x &&& 3).toInt = x.toInt - 4 := by
  rcases h with h | h
  · rw [show x = 5 from Int32.toInt_inj.mp (h.trans (by decide +kernel))]
    decide +kernel
  · rw [show x = 6 from Int32.toInt_inj.mp (h.trans (by decide +kernel))]
    decide +kernel
theorem zv_0 (h : rBs T ky wd ho ar ins wt ty li mo fi sl io bv xk xs xk) (k0 : 0 ≤ k) (k1 : k < xk) : zv0 wt ty k = nK T k ∧ zv1 wt ty k = nT T k ∧ zv2 wt li mo k = nC T k ∧ zv3 io bv k = mkV T k := by
  have e10 := h.1.1
  have q := h.2.2.2.2.2.2 k k0 k1
  obtain ⟨-, -, x1, x2, x3⟩ := h.2.2.2.2.2.1 k k0 k1
  have ek : nK T k = T 1 k.toNat := gG_i k0 (by omega)
  have et : nT T k = T 2 k.toNat := gG_i k0 (by omega)
  have ec : nC T k = T 3 k.toNat := gG_i k0 (by omega)
  have ty_ : rd ty k = (ty k.toNat).toInt := rfl
  refine ⟨?_, ?_, ?_, ?_⟩
  · rw [ek]
    unfold zv0
    unfold kFl kM6 at q
    rcases q with q | q | q | q | q | ⟨q1, q | q | q⟩
    · rw [if_pos (by omega)]; omega
    · rw [if_pos (by omega)]; omega
    · rw [if_pos (by omega)]; omega
    · rw [if_pos (by omega)]; omega
    · rw [if_pos (by omega)]; omega
    · have z := l4_0 (x := ty k.toNat) (by omega)
      rw [if_neg (by omega), if_neg (by omega), if_pos z.1]; omega
    · have z := l4_1 (x := ty k.toNat) (by omega)
      rw [if_neg (by omega), if_neg (by omega), if_neg (by omega)]; omega
    · rw [if_neg (by omega), if_pos (by omega)]; omega
  · rw [et]
    unfold zv1
    unfold kFl kM6 at q
    rcases q with q | q | q | q | q | ⟨q1, q | q | q⟩
    · have z := l4_0 (x := ty k.toNat) (by omega)
      rw [if_neg (by omega)]; omega
    · have z := l4_0 (x := ty k.toNat) (by omega)
      rw [if_neg (by omega)]; omega
    · have q4 := q.2.2.2.1
      have q3 := q.2.2.1
      have q0 := q.1
      rw [if_neg (by omega)]
      rcases q4 with y | y
      · have z := l4_z (x := ty k.toNat) (by omega)
        omega
      · have z := l4_0 (x := ty k.toNat) (by omega)
        omega
    · rw [if_pos (by omega), x2 (by omega)]
    · rw [if_pos (by omega), x2 (by omega)]
    · have z := l4_0 (x := ty k.toNat) (by omega)
      rw [if_neg (by omega)]; omega
    · have z := l4_1 (x := ty k.toNat) (by omega)
      rw [if_neg (by omega)]; omega
    · rw [if_pos (by omega), x2 (by omega)]
  · rw [ec]
    unfold zv2
    unfold kFl kM6 at q
    rcases q with q | q | q | q | q | q
    · rw [if_neg (by omega), if_neg (by omega)]; omega
    · rw [if_pos (by omega)]; omega
    · have q0 := q.1
      have q5 := q.2.2.2.2.1
      rw [if_neg (by omega), if_pos (by omega)]; exact q5
    · rw [if_neg (by omega), if_neg (by omega)]; omega
    · rw [if_neg (by omega), if_neg (by omega)]; omega
    · rw [if_neg (by omega), if_neg (by omega)]
      have q2 := q.2
      omega
  · unfold zv3 mkV
    rcases x3 with ⟨y1, y2, y3, y4⟩ | ⟨y1, y2⟩
    · rw [if_neg (by omega), if_neg (fun z => by have := z.2.2; omega)]
    · rw [if_pos y1, if_pos ⟨k0, by omega, y2⟩]
theorem t9_b (h : rBs T ky wd ho ar ins wt ty li mo fi sl io bv xk xs xk) : ∀ (n : Nat) (s : Nat), s ≤ n → (s : Int) < T 11 0 → -1 ≤ T 9 s ∧ T 9 s < T 10 0 := by
  have b0 := h.2.2.1.1
  intro n
  induction n with
  | zero =>
    intro s hs h1
    have q := h.2.1.2.2 s h1
    rcases h.2.2.2.2.1 s h1 with z | z | z <;> omega
  | succ n ih =>
    intro s hs h1
    have q := h.2.1.2.2 s h1
    rcases h.2.2.2.2.1 s h1 with z | z | z
    · omega
    · omega
    · have := ih (T 7 s).toNat (by omega) (by omega)
      omega
theorem zv_4 (h : rBs T ky wd ho ar ins wt ty li mo fi sl io bv xk xs xk) (hb : T 10 0 ≤ 1501) (k0 : 0 ≤ k) (k1 : k < xk) : zv4 ins ho nu k = owV T nu k := by
  have e10 := h.1.1
  have h4 := h.2.2.1.2.2.1 k.toNat (by omega)
  have ho_ := (h.1.2 k.toNat (by omega)).2
  rw [show ((k.toNat : Nat) : Int) = k from by omega] at ho_
  have hi := h.2.2.2.1 (T 4 k.toNat).toNat (by omega)
  rw [show (((T 4 k.toNat).toNat : Nat) : Int) + 1 = rd ho k from by omega] at hi
  have b := t9_b h (T 4 k.toNat).toNat (T 4 k.toNat).toNat (Nat.le_refl _) (by omega)
  unfold zv4 owV nuO
  have e4 : gG (T 4) (T 10 0) (-1) k = T 4 k.toNat := gG_i k0 (by omega)
  have es : sPr T (T 4 k.toNat) = T 9 (T 4 k.toNat).toNat := if_pos ⟨h4.1, h4.2⟩
  rw [e4, es, hi]
  by_cases c : T 9 (T 4 k.toNat).toNat < 0
  · rw [if_pos c]
    exact (if_neg (fun z => by omega)).symm
  · rw [if_neg c]
    exact (if_pos ⟨by omega, by omega⟩).symm
theorem tdL_c {v0 v1 v2 v3 v4 w0 w1 w2 w3 w4 m : Int → Int} {f : nA} : ∀ n : Nat, (∀ k : Int, 0 ≤ k → k < (n : Int) → v0 k = w0 k ∧ v1 k = w1 k ∧ v2 k = w2 k ∧ v3 k = w3 k ∧ v4 k = w4 k) → tdL m v0 v1 v2 v3 v4 n f = tdL m w0 w1 w2 w3 w4 n f
  | 0, _ => rfl
  | n + 1, h => by
    obtain ⟨a0, a1, a2, a3, a4⟩ := h (n : Int) (by omega) (by omega)
    show tdU _ _ _ _ _ _ (tdL m v0 v1 v2 v3 v4 n f) = tdU _ _ _ _ _ _ (tdL m w0 w1 w2 w3 w4 n f)
    rw [tdL_c n (fun k a b => h k a (by omega)), a0, a1, a2, a3, a4]
theorem tdL_of {td : nA} (h : rBs T ky wd ho ar ins wt ty li mo fi sl io bv xk xs xk) (hb : T 10 0 ≤ 1501) : tdL (rd nu) (zv0 wt ty) (zv1 wt ty) (zv2 wt li mo) (zv3 io bv) (zv4 ins ho nu) xk.toNat td = tdL (rd nu) (nK T) (nT T) (nC T) (mkV T) (owV T nu) (T 10 0).toNat td := by
  have e10 := h.1.1
  have b0 := h.2.2.1.1
  rw [e10]
  refine tdL_c _ (fun k a b => ?_)
  obtain ⟨z0, z1, z2, z3⟩ := zv_0 h a (by omega)
  exact ⟨z0, z1, z2, z3, zv_4 h hb a (by omega)⟩
end
section
variable {T0 T1 : gV} {kd ky pl : Int → Int} {xy' : Int} {us : List (Int × Int)} {nu nu' td td' : nA} {o : Option (gV × List (Int × Int))}
theorem jM6_n (h : o = none) : jM6 o xy' nu nu td td := ⟨fun _ => ⟨rfl, rfl⟩, fun x hx => by rw [h] at hx; cases hx⟩
theorem jM6_y (h : o = some (T1, us)) (hb : T1 10 0 ≤ 1501) (h1 : nwF T1 (T1 11 0).toNat ((0, nu) : sGv) = ((xy', nu') : sGv)) (h2 : tdL (rd nu') (nK T1) (nT T1) (nC T1) (mkV T1) (owV T1 nu') (T1 10 0).toNat td = td') : jM6 o xy' nu nu' td td' := ⟨fun e => (by rw [h] at e; cases e), fun x hx => (by rw [h] at hx; cases hx; exact ⟨hb, h1, h2⟩)⟩
end
