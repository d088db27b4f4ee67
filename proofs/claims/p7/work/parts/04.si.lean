theorem zcl {i : Int32} {k : Nat} (h : i.toInt = k) : i.toNatClampNeg = k := by
  show i.toInt.toNat = k
  omega
theorem zci {i : Int32} (h : 0 ≤ i.toInt) : i.toInt = (i.toNatClampNeg : Int) := by
  show i.toInt = ((i.toInt.toNat : Nat) : Int)
  omega
def sOne (hm f : Nat → Int32) (bn : Int32) (s : Nat) : Prop := (f s).toInt = -1 ∨ ∃ k : Nat, (f s).toInt = k ∧ (k : Int) < bn.toInt ∧ (hm k).toInt = s
def sNx (hm nx : Nat → Int32) (bn : Int32) (k : Nat) : Prop := (nx k).toInt = -1 ∨ ∃ j : Nat, (nx k).toInt = j ∧ k < j ∧ (j : Int) < bn.toInt ∧ (hm j).toInt = (hm k).toInt
def sHd (hd pr : Nat → Int32) (sn : Int32) (k : Nat) : Prop := (hd k).toInt = -1 ∨ 333 ≤ (hd k).toInt ∨ ∃ s : Nat, (hd k).toInt = s ∧ (s : Int) < sn.toInt ∧ (pr s).toInt = k
def sI (hm nx hd fs ls pr : Nat → Int32) (bn sn so ss : Int32) : Prop := (∀ s : Nat, (s : Int) < sn.toInt → sOne hm fs bn s) ∧ (∀ s : Nat, (s : Int) < sn.toInt → sOne hm ls bn s) ∧ (∀ k : Nat, (k : Int) < bn.toInt → sNx hm nx bn k) ∧ (∀ k : Nat, (k : Int) < bn.toInt → sHd hd pr sn k) ∧ (ss.toInt = 0 → sn.toInt = so.toInt)
def sIo (hm nx hd fs ls pr : Nat → Int32) (bn sn so ss p : Int32) : Prop := (∀ s : Nat, (s : Int) < sn.toInt → sOne hm fs bn s) ∧ (∀ s : Nat, (s : Int) < sn.toInt → sOne hm ls bn s) ∧ (∀ k : Nat, (k : Int) < bn.toInt → sNx hm nx bn k) ∧ (∀ k : Nat, (k : Int) < bn.toInt → sHd hd pr sn k ∨ ((k : Int) = p.toInt ∧ ss.toInt = 0 ∧ (hd k).toInt = so.toInt)) ∧ (ss.toInt = 0 → sn.toInt = so.toInt)
def zAdd (bn : Int32) (hm nx hd : Nat → Int32) (c bn' : Int32) (hm' nx' hd' : Nat → Int32) : Prop := (1501 ≤ bn.toInt ∧ bn' = bn ∧ hm' = hm ∧ nx' = nx ∧ hd' = hd) ∨ (bn.toInt < 1501 ∧ bn'.toInt = bn.toInt + 1 ∧ ∃ n : Nat, bn.toInt = n ∧ hm' = upd hm n c ∧ nx' = upd nx n (-1) ∧ hd' = upd hd n (-1))
def zCh (bn : Int32) (nx : Nat → Int32) (p q : Int32) (nx' : Nat → Int32) : Prop := (¬ (0 ≤ p.toInt ∧ p.toInt < bn.toInt) ∧ nx' = nx) ∨ ∃ k : Nat, p.toInt = k ∧ (k : Int) < bn.toInt ∧ nx' = upd nx k q
theorem zCh_in {bn : Int32} {nx : Nat → Int32} {p q : Int32} (h1 : 0 ≤ p.toInt) (h2 : p.toInt < bn.toInt) : zCh bn nx p q (upd nx p.toNatClampNeg q) := Or.inr ⟨_, zci h1, by have := zci h1; omega, rfl⟩
theorem zm1 : (-1 : Int32).toInt = -1 := by decide +kernel
theorem sOne_up {hm f : Nat → Int32} {bn bn' : Int32} {n : Nat} {c : Int32} {s : Nat} (h : sOne hm f bn s) (hn : bn.toInt = n) (hb : bn'.toInt = bn.toInt + 1) : sOne (upd hm n c) f bn' s := by
  rcases h with h | ⟨k, h1, h2, h3⟩
  · exact Or.inl h
  · refine Or.inr ⟨k, h1, by omega, ?_⟩
    rw [pk_un (by omega)]
    exact h3
theorem sOne_set {hm f : Nat → Int32} {bn : Int32} {c : Nat} {x : Int32} {s : Nat} (h : sOne hm f bn s) (hx : x.toInt = -1 ∨ ∃ k : Nat, x.toInt = k ∧ (k : Int) < bn.toInt ∧ (hm k).toInt = c) : sOne hm (upd f c x) bn s := by
  by_cases e : s = c
  · subst e
    unfold sOne
    rw [pk_us]
    exact hx
  · unfold sOne
    rw [pk_un e]
    exact h
theorem sI_0 {hm nx hd fs ls pr : Nat → Int32} : sI hm nx hd fs ls pr 0 0 0 0 := by
  refine ⟨fun s h => ?_, fun s h => ?_, fun s h => ?_, fun s h => ?_, fun _ => rfl⟩
  all_goals (rw [zI_0] at h; omega)
theorem sI_o {hm nx hd fs ls pr : Nat → Int32} {bn sn so ss p : Int32} (h : sI hm nx hd fs ls pr bn sn so ss) : sIo hm nx hd fs ls pr bn sn so ss p := ⟨h.1, h.2.1, h.2.2.1, fun k hk => Or.inl (h.2.2.2.1 k hk), h.2.2.2.2⟩
theorem sI_hd {hm nx hd hd' fs ls pr : Nat → Int32} {bn sn so ss p : Int32} (h : sI hm nx hd fs ls pr bn sn so ss) (hc : zCh bn hd p so hd') (h0 : ss.toInt = 0) : sIo hm nx hd' fs ls pr bn sn so ss p := by
  refine ⟨h.1, h.2.1, h.2.2.1, fun k hk => ?_, h.2.2.2.2⟩
  rcases hc with ⟨-, e⟩ | ⟨j, h1, h2, e⟩
  · subst e
    exact Or.inl (h.2.2.2.1 k hk)
  · subst e
    by_cases q : k = j
    · subst q
      refine Or.inr ⟨by omega, h0, ?_⟩
      rw [pk_us]
    · refine Or.inl ?_
      unfold sHd
      rw [pk_un q]
      exact h.2.2.2.1 k hk
theorem sI_st {hm nx hd fs ls pr : Nat → Int32} {bn sn so ss so' ss' : Int32} (h : sI hm nx hd fs ls pr bn sn so ss) (h1 : ¬ ss'.toInt = 0) : sI hm nx hd fs ls pr bn sn so' ss' := ⟨h.1, h.2.1, h.2.2.1, h.2.2.2.1, fun e => absurd e h1⟩
theorem sI_oF {hm nx hd fs ls pr : Nat → Int32} {bn sn so ss p : Int32} (h : sIo hm nx hd fs ls pr bn sn so ss p) (h3 : 333 ≤ so.toInt) : sI hm nx hd fs ls pr bn sn so ss := by
  refine ⟨h.1, h.2.1, h.2.2.1, fun k hk => ?_, h.2.2.2.2⟩
  rcases h.2.2.2.1 k hk with q | ⟨-, -, q⟩
  · exact q
  · exact Or.inr (Or.inl (by omega))
theorem sI_oS {hm nx hd fs ls pr : Nat → Int32} {bn sn so so' ss p : Int32} (h : sIo hm nx hd fs ls pr bn sn so ss p) (h3 : ¬ ss.toInt = 0) : sI hm nx hd fs ls pr bn sn so' ss := by
  refine ⟨h.1, h.2.1, h.2.2.1, fun k hk => ?_, fun e => absurd e h3⟩
  rcases h.2.2.2.1 k hk with q | ⟨-, q, -⟩
  · exact q
  · exact absurd q h3
theorem sI_oN {hm nx hd fs ls pr : Nat → Int32} {bn sn sn' so so' ss p : Int32} (h : sIo hm nx hd fs ls pr bn sn so ss p) (h0 : ss.toInt = 0) (hs : 0 ≤ so.toInt) (h1 : sn'.toInt = so.toInt + 1) (h2 : so'.toInt = so.toInt + 1) : sI hm nx hd (upd fs so.toNatClampNeg (-1)) (upd ls so.toNatClampNeg (-1)) (upd pr so.toNatClampNeg p) bn sn' so' ss := by
  have e1 := h.2.2.2.2 h0
  have e2 := zci hs
  refine ⟨fun s hk => ?_, fun s hk => ?_, h.2.2.1, fun k hk => ?_, fun _ => by omega⟩
  · by_cases q : s = so.toNatClampNeg
    · exact Or.inl (by rw [q, pk_us, zm1])
    · unfold sOne
      rw [pk_un q]
      exact h.1 s (by omega)
  · by_cases q : s = so.toNatClampNeg
    · exact Or.inl (by rw [q, pk_us, zm1])
    · unfold sOne
      rw [pk_un q]
      exact h.2.1 s (by omega)
  · rcases h.2.2.2.1 k hk with q | ⟨q1, -, q2⟩
    · rcases q with q | q | ⟨s, q1, q2, q3⟩
      · exact Or.inl q
      · exact Or.inr (Or.inl q)
      · refine Or.inr (Or.inr ⟨s, q1, by omega, ?_⟩)
        rw [pk_un (by omega)]
        exact q3
    · refine Or.inr (Or.inr ⟨so.toNatClampNeg, by omega, by omega, ?_⟩)
      rw [pk_us]
      omega
/-- a name comes to the table, in a scope that stands -/
theorem sI_add {hm nx hd fs ls pr hm' nx' hd' : Nat → Int32} {bn bn' sn so ss c : Int32} (h : sI hm nx hd fs ls pr bn sn so ss) (ha : zAdd bn hm nx hd c bn' hm' nx' hd') : sI hm' nx' hd' fs ls pr bn' sn so ss := by
  rcases ha with ⟨-, rfl, rfl, rfl, rfl⟩ | ⟨-, hb, n, hn, rfl, rfl, rfl⟩
  · exact h
  · refine ⟨fun s hk => sOne_up (h.1 s hk) hn hb, fun s hk => sOne_up (h.2.1 s hk) hn hb, fun k hk => ?_, fun k hk => ?_, h.2.2.2.2⟩
    · by_cases q : k = n
      · subst q
        exact Or.inl (by rw [pk_us, zm1])
      · unfold sNx
        rw [pk_un q]
        rcases h.2.2.1 k (by omega) with p | ⟨j, p1, p2, p3, p4⟩
        · exact Or.inl p
        · refine Or.inr ⟨j, p1, p2, by omega, ?_⟩
          rw [pk_un (by omega), pk_un q]
          exact p4
    · by_cases q : k = n
      · subst q
        exact Or.inl (by rw [pk_us, zm1])
      · unfold sHd
        rw [pk_un q]
        exact h.2.2.2.1 k (by omega)
theorem zAdd_new {hm nx hd hm' nx' hd' : Nat → Int32} {bn bn' c r : Int32} (ha : zAdd bn hm nx hd c bn' hm' nx' hd') (hr : (r.toInt = -1 ∧ 1501 ≤ bn.toInt) ∨ (r.toInt = bn.toInt ∧ bn.toInt < 1501)) (hc : 0 ≤ c.toInt) : r.toInt = -1 ∨ ∃ k : Nat, r.toInt = k ∧ (k : Int) < bn'.toInt ∧ (hm' k).toInt = c.toNatClampNeg := by
  rcases ha with ⟨h1, -⟩ | ⟨h1, hb, n, hn, rfl, -, -⟩
  · exact Or.inl (by omega)
  · refine Or.inr ⟨n, by omega, by omega, ?_⟩
    rw [pk_us]
    exact zci hc
theorem sI_dA {hm nx hd fs ls pr hm' nx' hd' : Nat → Int32} {bn bn' sn so ss c r : Int32} (h : sI hm nx hd fs ls pr bn sn so ss) (ha : zAdd bn hm nx hd c bn' hm' nx' hd') (hr : (r.toInt = -1 ∧ 1501 ≤ bn.toInt) ∨ (r.toInt = bn.toInt ∧ bn.toInt < 1501)) (hc : 0 ≤ c.toInt) : sI hm' nx' hd' (upd fs c.toNatClampNeg r) (upd ls c.toNatClampNeg r) pr bn' sn so ss := by
  have h1 := sI_add h ha
  have h2 := zAdd_new ha hr hc
  exact ⟨fun s hk => sOne_set (h1.1 s hk) h2, fun s hk => sOne_set (h1.2.1 s hk) h2, h1.2.2.1, h1.2.2.2.1, h1.2.2.2.2⟩
theorem sI_dB {hm nx hd fs ls pr hm' nx' nx2 hd' : Nat → Int32} {bn bn' sn so ss c r z : Int32} (h : sI hm nx hd fs ls pr bn sn so ss) (hb0 : 0 ≤ bn.toInt) (ha : zAdd bn hm nx hd c bn' hm' nx' hd') (hr : (r.toInt = -1 ∧ 1501 ≤ bn.toInt) ∨ (r.toInt = bn.toInt ∧ bn.toInt < 1501)) (hc : 0 ≤ c.toInt) (hc2 : c.toInt < sn.toInt) (hz : z = ls c.toNatClampNeg) (hch : zCh bn' nx' z r nx2) : sI hm' nx2 hd' fs (upd ls c.toNatClampNeg r) pr bn' sn so ss := by
  have h1 := sI_add h ha
  have h2 := zAdd_new ha hr hc
  refine ⟨h1.1, fun s hk => sOne_set (h1.2.1 s hk) h2, fun k hk => ?_, h1.2.2.2.1, h1.2.2.2.2⟩
  rcases hch with ⟨-, rfl⟩ | ⟨j, q1, q2, rfl⟩
  · exact h1.2.2.1 k hk
  · by_cases e : k = j
    · subst e
      unfold sNx
      rw [pk_us]
      rcases h2 with p | ⟨n, p1, p2, p3⟩
      · exact Or.inl p
      · have e2 := zci hc
        rcases h.2.1 c.toNatClampNeg (by omega) with w | ⟨y, w1, w2, w3⟩
        · rw [← hz] at w
          omega
        · rw [← hz] at w1
          have e3 : y = k := by omega
          subst e3
          have e4 : (hm' y).toInt = c.toNatClampNeg := by
            rcases ha with ⟨-, -, rfl, -⟩ | ⟨-, -, n', hn', rfl, -, -⟩
            · exact w3
            · rw [pk_un (by omega)]
              exact w3
          refine Or.inr ⟨n, p1, ?_, p2, by omega⟩
          rcases hr with ⟨hr, -⟩ | ⟨hr, -⟩ <;> omega
    · unfold sNx
      rw [pk_un e]
      exact h1.2.2.1 k hk
