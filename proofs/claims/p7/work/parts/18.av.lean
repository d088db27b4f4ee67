def inA (f : Nat → Int32) (a b : Int) : Prop := ∀ k : Nat, a ≤ (f k).toInt ∧ (f k).toInt ≤ b
theorem inA_at {f : Nat → Int32} {a b : Int} {i z : Int32} (h : inA f a b) (e : z = f i.toNatClampNeg) : a ≤ z.toInt ∧ z.toInt ≤ b := by
  rw [e]
  exact h _
theorem inA_set {f : Nat → Int32} {a b : Int} {j : Nat} {x : Int32} (h : inA f a b) (ha : a ≤ x.toInt) (hb : x.toInt ≤ b) : inA (upd f j x) a b := by
  intro k
  by_cases q : k = j
  · rw [q, pk_us]
    exact ⟨ha, hb⟩
  · rw [pk_un q]
    exact h k
/-- the parameters of the first n names -/
def wsum (wh mo : Nat → Int32) : Nat → Int
  | 0 => 0
  | n + 1 => wsum wh mo n + (if (wh n).toInt = 2 then (mo n).toInt else 0)
theorem wsum_w {wh mo : Nat → Int32} {j : Nat} {v : Int32} : ∀ n : Nat, n ≤ j → wsum (upd wh j v) mo n = wsum wh mo n := by
  intro n
  induction n with
  | zero => intro _; rfl
  | succ n ih =>
    intro h
    show wsum (upd wh j v) mo n + _ = wsum wh mo n + _
    rw [ih (by omega), pk_un (by omega)]
theorem wsum_m {wh mo : Nat → Int32} {j : Nat} {v : Int32} : ∀ n : Nat, n ≤ j → wsum wh (upd mo j v) n = wsum wh mo n := by
  intro n
  induction n with
  | zero => intro _; rfl
  | succ n ih =>
    intro h
    show wsum wh (upd mo j v) n + _ = wsum wh mo n + _
    rw [ih (by omega), pk_un (by omega)]
theorem wsum_s {wh mo : Nat → Int32} {j : Nat} {v : Int32} (hw : (wh j).toInt = 2) : ∀ n : Nat, j < n → wsum wh (upd mo j v) n = wsum wh mo n + v.toInt - (mo j).toInt := by
  intro n
  induction n with
  | zero => intro h; omega
  | succ n ih =>
    intro h
    show wsum wh (upd mo j v) n + _ = wsum wh mo n + _ + _ - _
    by_cases q : j = n
    · subst q
      rw [wsum_m j (by omega), pk_us, if_pos hw, if_pos hw]
      omega
    · rw [ih (by omega), pk_un (by omega)]
      omega
theorem wsum_o {wh mo : Nat → Int32} {j : Nat} {v : Int32} (hw : (wh j).toInt ≠ 2) : ∀ n : Nat, wsum wh (upd mo j v) n = wsum wh mo n := by
  intro n
  induction n with
  | zero => rfl
  | succ n ih =>
    show wsum wh (upd mo j v) n + _ = wsum wh mo n + _
    by_cases q : n = j
    · subst q
      rw [ih, if_neg hw, if_neg hw]
    · rw [ih, pk_un q]
/-- a procedure p, whose scope is slot p, lies in a scope of an earlier procedure or of none -/
def pOK (ar ins sl : Nat → Int32) (xs xk p : Int) : Prop := 0 ≤ p ∧ p < xk ∧ 0 ≤ rd sl p ∧ rd sl p < xs ∧ 0 ≤ rd ar (rd sl p) ∧ -1 ≤ rd ins (rd ar (rd sl p)) ∧ rd ins (rd ar (rd sl p)) < p
def okI (ar ins sl : Nat → Int32) (xs xk : Int) : Prop := ∀ s : Int, 0 ≤ s → s < xs → rd ins s = -1 ∨ pOK ar ins sl xs xk (rd ins s)
def okQ (ar ins sl : Nat → Int32) (xs xk p : Int) : Prop := p = -1 ∨ pOK ar ins sl xs xk p
theorem arI_r {f : Nat → Int32} {n c : Int} (h : arI f n) (h0 : 0 ≤ c) (h1 : c < n) : -1 ≤ rd f c ∧ rd f c < c := by
  have := h c.toNat (by omega)
  unfold rd
  omega
theorem pOK_le {ar ins sl : Nat → Int32} {xs xs' xk xk' p : Int} (h : pOK ar ins sl xs xk p) (h1 : xs ≤ xs') (h2 : xk ≤ xk') : pOK ar ins sl xs' xk' p := by
  unfold pOK at *
  omega
theorem pOK_op {ar ins sl : Nat → Int32} {xs xs' xk p : Int} {i a b : Int32} (h : pOK ar ins sl xs xk p) (hA : arI ar xs) (h0 : 0 ≤ i.toInt) (hi : i.toInt = xs) (h1 : xs ≤ xs') : pOK (upd ar i.toNatClampNeg a) (upd ins i.toNatClampNeg b) sl xs' xk p := by
  obtain ⟨c1, c2, c3, c4, c5, c6, c7⟩ := h
  have q := arI_r hA c3 c4
  unfold pOK
  rw [rd_n (f := ar) h0 c3 (by omega), rd_n (f := ins) h0 c5 (by omega)]
  omega
theorem okQ_op {ar ins sl : Nat → Int32} {xs xs' xk p : Int} {i a b : Int32} (h : okQ ar ins sl xs xk p) (hA : arI ar xs) (h0 : 0 ≤ i.toInt) (hi : i.toInt = xs) (h1 : xs ≤ xs') : okQ (upd ar i.toNatClampNeg a) (upd ins i.toNatClampNeg b) sl xs' xk p := h.imp id (fun h => pOK_op h hA h0 hi h1)
theorem okQ_le {ar ins sl : Nat → Int32} {xs xs' xk xk' p : Int} (h : okQ ar ins sl xs xk p) (h1 : xs ≤ xs') (h2 : xk ≤ xk') : okQ ar ins sl xs' xk' p := h.imp id (fun h => pOK_le h h1 h2)
theorem okI_le {ar ins sl : Nat → Int32} {xs xk xk' : Int} (h : okI ar ins sl xs xk) (h2 : xk ≤ xk') : okI ar ins sl xs xk' := fun s a b => (h s a b).imp id (fun h => pOK_le h (by omega) h2)
/-- a block's scope -/
theorem okI_op {ar ins sl : Nat → Int32} {xs xs' xk : Int} {i a b : Int32} (h : okI ar ins sl xs xk) (hA : arI ar xs) (h0 : 0 ≤ i.toInt) (hi : i.toInt = xs) (h1 : xs' = xs + 1) (hp : okQ ar ins sl xs xk b.toInt) : okI (upd ar i.toNatClampNeg a) (upd ins i.toNatClampNeg b) sl xs' xk := by
  intro s s0 s1
  by_cases q : s = i.toInt
  · rw [q, rd_s h0]
    exact okQ_op hp hA h0 hi (by omega)
  · rw [rd_n (f := ins) h0 s0 q]
    exact okQ_op (h s s0 (by omega)) hA h0 hi (by omega)
/-- a procedure's scope: k is the newest name -/
theorem pOK_sl {ar ins sl : Nat → Int32} {xs xk p : Int} {k v : Int32} (h : pOK ar ins sl xs xk p) (h0 : 0 ≤ k.toInt) (hk : p ≠ k.toInt) : pOK ar ins (upd sl k.toNatClampNeg v) xs xk p := by
  have c1 := h.1
  unfold pOK at *
  rw [rd_n (f := sl) h0 c1 hk]
  exact h
theorem okI_pr {ar ins sl : Nat → Int32} {xs xs' xk xk' : Int} {i a k v : Int32} (h : okI ar ins sl xs xk) (hA : arI ar xs) (h0 : 0 ≤ i.toInt) (hi : i.toInt = xs) (h1 : xs' = xs + 1) (hk0 : 0 ≤ k.toInt) (hk : k.toInt = xk) (hk1 : xk' = xk + 1) (hv : v.toInt = i.toInt) (ha : 0 ≤ a.toInt) (ha1 : a.toInt < xs) : okI (upd ar i.toNatClampNeg a) (upd ins i.toNatClampNeg k) (upd sl k.toNatClampNeg v) xs' xk' ∧ pOK (upd ar i.toNatClampNeg a) (upd ins i.toNatClampNeg k) (upd sl k.toNatClampNeg v) xs' xk' k.toInt := by
  have P : pOK (upd ar i.toNatClampNeg a) (upd ins i.toNatClampNeg k) (upd sl k.toNatClampNeg v) xs' xk' k.toInt := by
    unfold pOK
    rw [rd_s (f := sl) hk0, hv, rd_s (f := ar) h0, rd_n (f := ins) h0 ha (by omega)]
    have := h a.toInt ha ha1
    unfold pOK at this
    omega
  refine ⟨fun s s0 s1 => ?_, P⟩
  by_cases q : s = i.toInt
  · rw [q, rd_s h0]
    exact Or.inr P
  · rw [rd_n (f := ins) h0 s0 q]
    rcases h s s0 (by omega) with e | e
    · exact Or.inl e
    · have := e.2.1
      exact Or.inr (pOK_sl (pOK_le (pOK_op (xs' := xs') e hA h0 hi (by omega)) (Int.le_refl _) (by omega)) hk0 (by omega))
theorem okQ_pr {ar ins sl : Nat → Int32} {xs xs' xk xk' p : Int} {i a k v : Int32} (h : okQ ar ins sl xs xk p) (hA : arI ar xs) (h0 : 0 ≤ i.toInt) (hi : i.toInt = xs) (h1 : xs' = xs + 1) (hk0 : 0 ≤ k.toInt) (hk : k.toInt = xk) (hk1 : xk' = xk + 1) : okQ (upd ar i.toNatClampNeg a) (upd ins i.toNatClampNeg k) (upd sl k.toNatClampNeg v) xs' xk' p := by
  rcases h with e | e
  · exact Or.inl e
  · have := e.2.1
    exact Or.inr (pOK_sl (pOK_le (pOK_op (xs' := xs') e hA h0 hi (by omega)) (Int.le_refl _) (by omega)) hk0 (by omega))
def hmI (ho : Nat → Int32) (xw xk xs : Int) : Prop := 0 ≤ xw ∨ inB ho xk 0 (xs - 1)
/-- a switch's list -/
def liI (wh li : Nat → Int32) (xk xn : Int) : Prop := ∀ k : Int, 0 ≤ k → k < xk → rd wh k = 3 → rd li k < xn
def bvI (bv va : Nat → Int32) (xk : Int) (tT : Nat) : Prop := ∀ k : Int, 0 ≤ k → k < xk → rd bv k = 0 ∨ (0 ≤ rd va k ∧ rd va k ≤ tT)
/-- the procedures' statements -/
def okM (wh mr : Nat → Int32) (rk : Int → Int) (lo xk xn a : Int) : Prop := ∀ k : Int, 0 ≤ k → lo ≤ k → k < xk → k ≠ a → rd wh k = 2 → 0 ≤ rd mr k ∧ rd mr k < xn ∧ 300 < rk (rd mr k) ∧ rk (rd mr k) < 400
def agm (n : Int) (wh mr wh' mr' : Nat → Int32) : Prop := ∀ c : Int, 0 ≤ c → c < n → rd wh' c = rd wh c ∧ rd mr' c = rd mr c
/-- the blocks' scopes, each later than those before it -/
def blI (so on : Nat → Int32) (xn xs : Int) : Prop := ∀ b : Int, 0 ≤ b → b < xn → rd so b = 21 → 0 ≤ rd on b ∧ rd on b < xs ∧ ∀ c : Int, 0 ≤ c → c < b → rd so c = 21 → rd on c < rd on b
theorem blI_xs {so on : Nat → Int32} {xn xs xs' : Int} (h : blI so on xn xs) (h1 : xs ≤ xs') : blI so on xn xs' := fun e a b c => by
  have q := h e a b c
  exact ⟨q.1, by omega, q.2.2⟩
theorem blI_node {so on : Nat → Int32} {i v w : Int32} {xn xn' xs : Int} (h : blI so on xn xs) (h0 : 0 ≤ i.toInt) (hi : i.toInt = xn) (h1 : xn' = xn + 1) (hv : v.toInt ≠ 21) : blI (upd so i.toNatClampNeg v) (upd on i.toNatClampNeg w) xn' xs := by
  intro b b0 b1 b2
  by_cases q : b = i.toInt
  · rw [q, rd_s h0] at b2
    exact absurd b2 hv
  · rw [rd_n (f := so) h0 b0 q] at b2
    rw [rd_n (f := on) h0 b0 q]
    obtain ⟨c1, c2, c3⟩ := h b b0 (by omega) b2
    refine ⟨c1, c2, fun c d0 d1 d2 => ?_⟩
    rw [rd_n (f := so) h0 d0 (by omega)] at d2
    rw [rd_n (f := on) h0 d0 (by omega)]
    exact c3 c d0 d1 d2
theorem blI_blk {so on : Nat → Int32} {i v w r : Int32} {xn xn' xs xs' : Int} (h : blI so on xn xs) (h0 : 0 ≤ i.toInt) (hi : i.toInt = xn) (h1 : xn' = xn + 1) (h2 : xs' = xs + 1) (hr : r.toInt = xs) (hs : 0 ≤ xs) : blI (upd so i.toNatClampNeg v) (upd (upd on i.toNatClampNeg w) i.toNatClampNeg r) xn' xs' := by
  intro b b0 b1 b2
  by_cases q : b = i.toInt
  · rw [q, rd_s h0]
    refine ⟨by omega, by omega, fun c d0 d1 d2 => ?_⟩
    rw [rd_n (f := so) h0 d0 (by omega)] at d2
    rw [rd_n h0 d0 (by omega), rd_n (f := on) h0 d0 (by omega)]
    have := (h c d0 (by omega) d2).2.1
    omega
  · rw [rd_n (f := so) h0 b0 q] at b2
    rw [rd_n h0 b0 q, rd_n (f := on) h0 b0 q]
    obtain ⟨c1, c2, c3⟩ := h b b0 (by omega) b2
    refine ⟨c1, by omega, fun c d0 d1 d2 => ?_⟩
    rw [rd_n (f := so) h0 d0 (by omega)] at d2
    rw [rd_n h0 d0 (by omega), rd_n (f := on) h0 d0 (by omega)]
    exact c3 c d0 d1 d2
theorem blI_on {so on : Nat → Int32} {i v : Int32} {xn xs : Int} (h : blI so on xn xs) (h0 : 0 ≤ i.toInt) (hs : rd so i.toInt ≠ 21) : blI so (upd on i.toNatClampNeg v) xn xs := by
  intro b b0 b1 b2
  have nb : b ≠ i.toInt := fun q => hs (q ▸ b2)
  rw [rd_n (f := on) h0 b0 nb]
  obtain ⟨c1, c2, c3⟩ := h b b0 b1 b2
  refine ⟨c1, c2, fun c d0 d1 d2 => ?_⟩
  have nc : c ≠ i.toInt := fun q => hs (q ▸ d2)
  rw [rd_n (f := on) h0 d0 nc]
  exact c3 c d0 d1 d2
theorem blI_E {so on tw th fo nx : Nat → Int32} {so' on' tw' th' fo' nx' : Nat → Int32} {rk rk' : Int → Int} {xn xn' xs a b x : Int} (h : blI so on xn xs) (g : ag xn x so on tw th fo nx rk so' on' tw' th' fo' nx' rk') (k : okP so' on' tw' th' fo' nx' rk' xn xn' a b 300) (hx : x = -1) : blI so' on' xn' xs := by
  intro e e0 e1 e2
  by_cases q : e < xn
  · obtain ⟨g1, g2, -⟩ := g e e0 q (by omega)
    rw [g1] at e2
    rw [g2]
    obtain ⟨c1, c2, c3⟩ := h e e0 q e2
    refine ⟨c1, c2, fun c d0 d1 d2 => ?_⟩
    obtain ⟨k1, k2, -⟩ := g c d0 (by omega) (by omega)
    rw [k1] at d2
    rw [k2]
    exact c3 c d0 d1 d2
  · obtain ⟨w, wm⟩ := k.2.2.1 e (by omega) e1
    have := w.1
    unfold kR at this
    omega
theorem liI_le {wh li : Nat → Int32} {xk xn xn' : Int} (h : liI wh li xk xn) (h1 : xn ≤ xn') : liI wh li xk xn' := fun k a b c => by
  have := h k a b c
  omega
theorem liI_decl {wh li : Nat → Int32} {xk xk' xn : Int} {i w v : Int32} (h : liI wh li xk xn) (h0 : 0 ≤ i.toInt) (hi : i.toInt = xk) (h1 : xk' = xk + 1) (hv : v.toInt < xn) : liI (upd wh i.toNatClampNeg w) (upd li i.toNatClampNeg v) xk' xn := by
  intro k k0 k1 k2
  by_cases q : k = i.toInt
  · rw [q, rd_s h0]
    exact hv
  · rw [rd_n (f := wh) h0 k0 q] at k2
    rw [rd_n (f := li) h0 k0 q]
    exact h k k0 (by omega) k2
theorem liI_set {wh li : Nat → Int32} {xk xn : Int} {i v : Int32} (h : liI wh li xk xn) (h0 : 0 ≤ i.toInt) (hv : v.toInt < xn) : liI wh (upd li i.toNatClampNeg v) xk xn := by
  intro k k0 k1 k2
  by_cases q : k = i.toInt
  · rw [q, rd_s h0]
    exact hv
  · rw [rd_n (f := li) h0 k0 q]
    exact h k k0 k1 k2
theorem okM_0 {wh mr : Nat → Int32} {rk : Int → Int} {lo xn : Int} : okM wh mr rk lo lo xn (-1) := fun k _ a b => by omega
theorem okM_ag {so on tw th fo nx : Nat → Int32} {so' on' tw' th' fo' nx' : Nat → Int32} {wh mr : Nat → Int32} {rk rk' : Int → Int} {lo xk xn xn' a x : Int} (h : okM wh mr rk lo xk xn a) (g : ag xn x so on tw th fo nx rk so' on' tw' th' fo' nx' rk') (hx : x = -1) (hn : xn ≤ xn') : okM wh mr rk' lo xk xn' a := fun k k0 k1 k2 k3 k4 => by
  obtain ⟨c1, c2, c3, c4⟩ := h k k0 k1 k2 k3 k4
  have := (g _ c1 c2 (by omega)).2.2.2.2.2.2
  rw [this]
  exact ⟨c1, by omega, c3, c4⟩
theorem okM_call {so on tw th fo nx : Nat → Int32} {so' on' tw' th' fo' nx' : Nat → Int32} {wh mr wh' mr' : Nat → Int32} {rk rk' : Int → Int} {lo xk xk' xn xn' a : Int} (h : okM wh mr rk lo xk xn a) (g : ag xn (-1) so on tw th fo nx rk so' on' tw' th' fo' nx' rk') (gm : agm xk wh mr wh' mr') (h2 : okM wh' mr' rk' xk xk' xn' (-1)) (hn : xn ≤ xn') (ha : a < xk) : okM wh' mr' rk' lo xk' xn' a := fun k k0 k1 k2 k3 k4 => by
  by_cases q : k < xk
  · obtain ⟨e1, e2⟩ := gm k k0 q
    rw [e1] at k4
    rw [e2]
    exact okM_ag h g rfl hn k k0 k1 q k3 k4
  · exact h2 k k0 (by omega) k2 (by omega) k4
theorem okM_decl {wh mr : Nat → Int32} {rk : Int → Int} {lo xk xk' xn a : Int} {i w v : Int32} (h : okM wh mr rk lo xk xn a) (h0 : 0 ≤ i.toInt) (hi : i.toInt = xk) (h1 : xk' = xk + 1) (hw : w.toInt ≠ 2) : okM (upd wh i.toNatClampNeg w) (upd mr i.toNatClampNeg v) rk lo xk' xn a := fun k k0 k1 k2 k3 k4 => by
  by_cases q : k = i.toInt
  · rw [q, rd_s h0] at k4
    exact absurd k4 hw
  · rw [rd_n (f := wh) h0 k0 q] at k4
    rw [rd_n (f := mr) h0 k0 q]
    exact h k k0 k1 (by omega) k3 k4
theorem okM_proc {wh mr : Nat → Int32} {rk : Int → Int} {lo xk xk' xn : Int} {i w v : Int32} (h : okM wh mr rk lo xk xn (-1)) (h0 : 0 ≤ i.toInt) (hi : i.toInt = xk) (h1 : xk' = xk + 1) : okM (upd wh i.toNatClampNeg w) (upd mr i.toNatClampNeg v) rk lo xk' xn i.toInt := fun k k0 k1 k2 k3 k4 => by
  rw [rd_n (f := wh) h0 k0 k3] at k4
  rw [rd_n (f := mr) h0 k0 k3]
  exact h k k0 k1 (by omega) (by omega) k4
theorem okM_more {wh mr : Nat → Int32} {rk : Int → Int} {lo xk xn : Int} {i v : Int32} (h : okM wh mr rk lo xk xn i.toInt) (h0 : 0 ≤ i.toInt) (v0 : 0 ≤ v.toInt) (v1 : v.toInt < xn) (v2 : 300 < rk v.toInt) (v3 : rk v.toInt < 400) : okM wh (upd mr i.toNatClampNeg v) rk lo xk xn (-1) := fun k k0 k1 k2 k3 k4 => by
  by_cases q : k = i.toInt
  · rw [q, rd_s h0]
    exact ⟨v0, v1, v2, v3⟩
  · rw [rd_n (f := mr) h0 k0 q]
    exact h k k0 k1 k2 q k4
theorem agm_0 {wh mr : Nat → Int32} {n : Int} : agm n wh mr wh mr := fun c _ _ => ⟨rfl, rfl⟩
theorem agm_tr {wh mr wh' mr' wh2 mr2 : Nat → Int32} {n m : Int} (g : agm n wh mr wh' mr') (k : agm m wh' mr' wh2 mr2) (h : n ≤ m) : agm n wh mr wh2 mr2 := fun c a b => by
  obtain ⟨e1, e2⟩ := g c a b
  obtain ⟨f1, f2⟩ := k c a (by omega)
  exact ⟨f1.trans e1, f2.trans e2⟩
theorem agm_decl {wh mr wh' mr' : Nat → Int32} {n : Int} {i w v : Int32} (g : agm n wh mr wh' mr') (h0 : 0 ≤ i.toInt) (h : n ≤ i.toInt) : agm n wh mr (upd wh' i.toNatClampNeg w) (upd mr' i.toNatClampNeg v) := fun c a b => by
  rw [rd_n (f := wh') h0 a (by omega), rd_n (f := mr') h0 a (by omega)]
  exact g c a b
theorem agm_more {wh mr wh' mr' : Nat → Int32} {n : Int} {i v : Int32} (g : agm n wh mr wh' mr') (h0 : 0 ≤ i.toInt) (h : n ≤ i.toInt) : agm n wh mr wh' (upd mr' i.toNatClampNeg v) := fun c a b => by
  rw [rd_n (f := mr') h0 a (by omega)]
  exact g c a b
theorem hmI_w {ho : Nat → Int32} {xw xk xs : Int} (h : 0 ≤ xw) : hmI ho xw xk xs := Or.inl h
theorem hmI_le {ho : Nat → Int32} {xw xk xs xs' : Int} (h : hmI ho xw xk xs) (h1 : xs ≤ xs') : hmI ho xw xk xs' := h.imp id (fun h => inB_le h (by omega) (by omega) (by omega))
theorem hmI_in {ho : Nat → Int32} {xw xk xk' xs : Int} {i v : Int32} (h : hmI ho xw xk xs) (h0 : 0 ≤ i.toInt) (hi : i.toInt = xk) (h1 : xk' = xk + 1) (v0 : 0 ≤ v.toInt) (v1 : v.toInt < xs) : hmI (upd ho i.toNatClampNeg v) xw xk' xs := h.imp id (fun h => inB_push h h0 hi (by omega) v0 (by omega))
theorem bvI_decl {bv va : Nat → Int32} {xk xk' : Int} {tT : Nat} {i v : Int32} (h : bvI bv va xk tT) (h0 : 0 ≤ i.toInt) (hi : i.toInt = xk) (h1 : xk' = xk + 1) (hv : v.toInt = 0) : bvI (upd bv i.toNatClampNeg v) va xk' tT := fun k k0 k1 => by
  by_cases q : k = i.toInt
  · rw [q, rd_s h0]
    exact Or.inl hv
  · rw [rd_n (f := bv) h0 k0 q]
    exact h k k0 (by omega)
theorem bvI_set {bv va : Nat → Int32} {xk : Int} {tT : Nat} {i v w : Int32} (h : bvI bv va xk tT) (h0 : 0 ≤ i.toInt) (w0 : 0 ≤ w.toInt) (w1 : w.toInt ≤ tT) : bvI (upd bv i.toNatClampNeg v) (upd va i.toNatClampNeg w) xk tT := fun k k0 k1 => by
  by_cases q : k = i.toInt
  · rw [q, rd_s (f := va) h0]
    exact Or.inr ⟨w0, w1⟩
  · rw [rd_n (f := bv) h0 k0 q, rd_n (f := va) h0 k0 q]
    exact h k k0 k1
theorem bvI_at {bv va : Nat → Int32} {xk : Int} {tT : Nat} {i z y : Int32} (h : bvI bv va xk tT) (h0 : 0 ≤ i.toInt) (h1 : i.toInt < xk) (e : z = bv i.toNatClampNeg) (hz : ¬ z.toInt = 0) (f : y = va i.toNatClampNeg) : 0 ≤ y.toInt ∧ y.toInt ≤ tT := by
  rcases h i.toInt h0 h1 with q | q
  · exact absurd ((vl h0 e).trans q) hz
  · rw [vl h0 f]
    exact q
