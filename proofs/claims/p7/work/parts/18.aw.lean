theorem okM_agx {so on tw th fo nx : Nat → Int32} {so' on' tw' th' fo' nx' : Nat → Int32} {wh mr : Nat → Int32} {rk rk' : Int → Int} {lo xk xn xn' a x : Int} (h : okM wh mr rk lo xk xn a) (g : ag xn x so on tw th fo nx rk so' on' tw' th' fo' nx' rk') (hx : rk' x = rk x) (hn : xn ≤ xn') : okM wh mr rk' lo xk xn' a := fun k k0 k1 k2 k3 k4 => by
  obtain ⟨c1, c2, c3, c4⟩ := h k k0 k1 k2 k3 k4
  by_cases q : rd mr k = x
  · rw [q] at c1 c2 c3 c4 ⊢
    rw [hx]
    exact ⟨c1, by omega, c3, c4⟩
  · have := (g _ c1 c2 q).2.2.2.2.2.2
    rw [this]
    exact ⟨c1, by omega, c3, c4⟩
theorem blI_P {so on tw th fo nx : Nat → Int32} {so' on' tw' th' fo' nx' : Nat → Int32} {rk rk' : Int → Int} {xn xn' xs x : Int} (h : blI so on xn xs) (g : ag xn x so on tw th fo nx rk so' on' tw' th' fo' nx' rk') (k : noB so' xn xn') (h1 : rd so x ≠ 21) (h2 : rd so' x ≠ 21) : blI so' on' xn' xs := by
  intro e e0 e1 e2
  by_cases q : e < xn
  · have nx : e ≠ x := fun c => h2 (c ▸ e2)
    obtain ⟨g1, g2, -⟩ := g e e0 q nx
    rw [g1] at e2
    rw [g2]
    obtain ⟨c1, c2, c3⟩ := h e e0 q e2
    refine ⟨c1, c2, fun c d0 d1 d2 => ?_⟩
    have ny : c ≠ x := fun z => h2 (z ▸ d2)
    obtain ⟨k1, k2, -⟩ := g c d0 (by omega) ny
    rw [k1] at d2
    rw [k2]
    exact c3 c d0 d1 d2
  · have := k e e0 (by omega) e1
    omega
def okQm (ar ins sl : Nat → Int32) (xs xk : Int) (ar' ins' sl' : Nat → Int32) (xs' xk' : Int) : Prop := ∀ p : Int, okQ ar ins sl xs xk p → okQ ar' ins' sl' xs' xk' p
theorem okQm_0 {ar ins sl : Nat → Int32} {xs xk : Int} : okQm ar ins sl xs xk ar ins sl xs xk := fun _ h => h
theorem okQm_tr {ar ins sl ar' ins' sl' ar2 ins2 sl2 : Nat → Int32} {xs xk xs' xk' xs2 xk2 : Int} (g : okQm ar ins sl xs xk ar' ins' sl' xs' xk') (k : okQm ar' ins' sl' xs' xk' ar2 ins2 sl2 xs2 xk2) : okQm ar ins sl xs xk ar2 ins2 sl2 xs2 xk2 := fun p h => k p (g p h)
theorem okQm_le {ar ins sl ar' ins' sl' : Nat → Int32} {xs xk xs' xk' xk2 : Int} (g : okQm ar ins sl xs xk ar' ins' sl' xs' xk') (h2 : xk' ≤ xk2) : okQm ar ins sl xs xk ar' ins' sl' xs' xk2 := fun p h => okQ_le (g p h) (by omega) h2
theorem okQm_op {ar ins sl ar' ins' sl' : Nat → Int32} {xs xk xs' xk' xs2 : Int} {i a b : Int32} (g : okQm ar ins sl xs xk ar' ins' sl' xs' xk') (hA : arI ar' xs') (h0 : 0 ≤ i.toInt) (hi : i.toInt = xs') (h1 : xs' ≤ xs2) : okQm ar ins sl xs xk (upd ar' i.toNatClampNeg a) (upd ins' i.toNatClampNeg b) sl' xs2 xk' := fun p h => okQ_op (g p h) hA h0 hi h1
theorem okQm_pr {ar ins sl ar' ins' sl' : Nat → Int32} {xs xk xs' xk' xs2 xk2 : Int} {i a k v : Int32} (g : okQm ar ins sl xs xk ar' ins' sl' xs' xk') (hA : arI ar' xs') (h0 : 0 ≤ i.toInt) (hi : i.toInt = xs') (h1 : xs2 = xs' + 1) (hk0 : 0 ≤ k.toInt) (hk : k.toInt = xk') (hk1 : xk2 = xk' + 1) : okQm ar ins sl xs xk (upd ar' i.toNatClampNeg a) (upd ins' i.toNatClampNeg k) (upd sl' k.toNatClampNeg v) xs2 xk2 := fun p h => okQ_pr (g p h) hA h0 hi h1 hk0 hk hk1
def WS (wh mo : Nat → Int32) (xk c : Int) : Prop := wsum wh mo xk.toNat ≤ c
theorem WS_le {wh mo : Nat → Int32} {xk c d : Int} (h : WS wh mo xk c) (h1 : c ≤ d) : WS wh mo xk d := by
  unfold WS at *
  omega
theorem WS_d {wh mo : Nat → Int32} {xk xk' c : Int} {i w : Int32} (h : WS wh mo xk c) (h0 : 0 ≤ i.toInt) (hi : i.toInt = xk) (h1 : xk' = xk + 1) (hw : w.toInt ≠ 2) : WS (upd wh i.toNatClampNeg w) mo xk' c := by
  have e1 := zci h0
  unfold WS at *
  have e2 : xk'.toNat = i.toNatClampNeg + 1 := by omega
  have e3 : xk.toNat = i.toNatClampNeg := by omega
  rw [e2]
  show wsum (upd wh i.toNatClampNeg w) mo i.toNatClampNeg + _ ≤ c
  rw [wsum_w _ (by omega), pk_us, if_neg hw, ← e3]
  omega
theorem WS_p {wh mo : Nat → Int32} {xk xk' c : Int} {i w v : Int32} (h : WS wh mo xk c) (h0 : 0 ≤ i.toInt) (hi : i.toInt = xk) (h1 : xk' = xk + 1) (hv : v.toInt = 0) : WS (upd wh i.toNatClampNeg w) (upd mo i.toNatClampNeg v) xk' c := by
  have e1 := zci h0
  unfold WS at *
  have e2 : xk'.toNat = i.toNatClampNeg + 1 := by omega
  have e3 : xk.toNat = i.toNatClampNeg := by omega
  rw [e2]
  show wsum (upd wh i.toNatClampNeg w) (upd mo i.toNatClampNeg v) i.toNatClampNeg + _ ≤ c
  rw [wsum_w _ (by omega), wsum_m _ (by omega), pk_us, pk_us, ← e3]
  split <;> omega
theorem WS_0 {wh mo : Nat → Int32} {xk c : Int} {i v : Int32} (h : WS wh mo xk c) (h0 : 0 ≤ i.toInt) (hi : i.toInt < xk) (hm : inA mo 0 6) (hv : v.toInt = 0) : WS wh (upd mo i.toNatClampNeg v) xk c := by
  have e1 := zci h0
  have e2 := (hm i.toNatClampNeg).1
  unfold WS at *
  by_cases q : (wh i.toNatClampNeg).toInt = 2
  · rw [wsum_s q _ (by omega)]
    omega
  · rw [wsum_o q]
    exact h
theorem WS_s {wh mo : Nat → Int32} {xk c d : Int} {i v z : Int32} (h : WS wh mo xk c) (h0 : 0 ≤ i.toInt) (hi : i.toInt < xk) (e : z = mo i.toNatClampNeg) (hv : v.toInt = z.toInt + 1) (hd : d = c + 1) : WS wh (upd mo i.toNatClampNeg v) xk d := by
  have e1 := zci h0
  unfold WS at *
  by_cases q : (wh i.toNatClampNeg).toInt = 2
  · rw [wsum_s q _ (by omega), ← e]
    omega
  · rw [wsum_o q]
    omega
