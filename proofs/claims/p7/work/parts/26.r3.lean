def tkw (bt : Int → Int) (w : Int × Int × Int) (k a b : Int) : Prop := (k = 3 ∧ w.1 = 28) ∨ (k = 1 ∧ w.1 = 27 ∧ tkN (fun _ => w.2.2) bt 0 a b) ∨ (((k = 2 ∧ 1 ≤ w.1 ∧ w.1 ≤ 26) ∨ (k = 4 ∧ 30 ≤ w.1 ∧ w.1 ≤ 47)) ∧ tkX w.1 bt a b)
def tkG (bt : Int → Int) (W : List (Int × Int × Int)) (kn fr to : nA) (t : Int) : Prop := ∀ j : Nat, (j : Int) < t → ∃ w, W[j]? = some w ∧ (fr j).toInt = w.2.1 ∧ tkw bt w (kn j).toInt (fr j).toInt (to j).toInt
def tkF (bt : Int → Int) (W : List (Int × Int × Int)) (kn fr to : nA) : Prop := ∃ T : Nat, tkG bt W kn fr to T ∧ (((kn T).toInt = 0 ∧ T = W.length) ∨ ((kn T).toInt = 5 ∧ ∃ w, W[T]? = some w ∧ w.1 = -1))
def tkQ (bt : Int → Int) (n : Int) (kn fr to : nA) (t m p : Int) : Prop := (m = 1 ∧ 0 ≤ t ∧ tkG bt (gTk bt n n.toNat 0) kn fr to t ∧ (gTk bt n n.toNat 0).drop t.toNat = gTk bt n (n - p).toNat p) ∨ (m = 0 ∧ tkF bt (gTk bt n n.toNat 0) kn fr to)
section
variable {bt : Int → Int} {n t t2 m p b e : Int} {kn fr to : nA} {i x y z : Int32}
theorem tkQ_0 (h : t = 0) (hp : p = 0) : tkQ bt n kn fr to t 1 p := by
  subst h
  subst hp
  refine Or.inl ⟨rfl, by decide, fun j hj => by omega, ?_⟩
  rw [show (n - 0).toNat = n.toNat from by omega]
  rfl
theorem tkG_u {W : List (Int × Int × Int)} (h : tkG bt W kn fr to t) (h0 : 0 ≤ i.toInt) (hi : i.toInt = t) : tkG bt W (upd kn i.toNatClampNeg x) (upd fr i.toNatClampNeg y) (upd to i.toNatClampNeg z) t := fun j hj => by
  have e1 := zci h0
  rw [pk_un (by omega), pk_un (by omega), pk_un (by omega)]
  exact h j hj
theorem tq_t (h : tkQ bt n kn fr to t m p) (hm : ¬ m = 0) (g : gTk bt n (n - p).toNat p = gTk bt n (n - b).toNat b) (hb : b < n) (hc : ¬ cBl (bt b)) : 0 ≤ t ∧ tkG bt (gTk bt n n.toNat 0) kn fr to t ∧ (gTk bt n n.toNat 0)[t.toNat]? = some ((tNx bt n b).1, b, (tNx bt n b).2.1) ∧ (gTk bt n n.toNat 0).drop (t.toNat + 1) = gTk bt n (n - (tNx bt n b).2.2).toNat (tNx bt n b).2.2 := by
  rcases h with ⟨-, h1, h2, h3⟩ | ⟨h1, -⟩
  · have e0 := (h3.trans g).trans (gTk_t hb hc)
    refine ⟨h1, h2, ?_, ?_⟩
    · have q : ((gTk bt n n.toNat 0).drop t.toNat)[0]? = some ((tNx bt n b).1, b, (tNx bt n b).2.1) := by
        rw [e0]
        rfl
      rw [List.getElem?_drop] at q
      exact q
    · rw [← List.drop_drop, e0]
      rfl
  · exact absurd h1 hm
theorem tq_1 (h : tkQ bt n kn fr to t m p) (hm : ¬ m = 0) (g : gTk bt n (n - p).toNat p = gTk bt n (n - b).toNat b) (hb : b < n) (hc : ¬ cBl (bt b)) (h0 : 0 ≤ i.toInt) (hi : i.toInt = t) (ht : t2 = t + 1) (hy : y.toInt = b) (hz : z.toInt = e) (he : (tNx bt n b).2.2 = e) (hw : tkw bt ((tNx bt n b).1, b, (tNx bt n b).2.1) x.toInt b e) : tkQ bt n (upd kn i.toNatClampNeg x) (upd fr i.toNatClampNeg y) (upd to i.toNatClampNeg z) t2 1 e := by
  obtain ⟨a1, a2, a3, a4⟩ := tq_t h hm g hb hc
  have e1 := zci h0
  refine Or.inl ⟨rfl, by omega, fun j hj => ?_, ?_⟩
  · by_cases c : j = i.toNatClampNeg
    · refine ⟨((tNx bt n b).1, b, (tNx bt n b).2.1), ?_, ?_, ?_⟩
      · rw [show j = t.toNat from by omega]; exact a3
      · rw [c, pk_us]; exact hy
      · rw [c, pk_us, pk_us, pk_us, hy, hz]; exact hw
    · rw [pk_un c, pk_un c, pk_un c]
      exact a2 j (by omega)
  · rw [show t2.toNat = t.toNat + 1 from by omega, a4, he]
theorem tq_5 (h : tkQ bt n kn fr to t m p) (hm : ¬ m = 0) (g : gTk bt n (n - p).toNat p = gTk bt n (n - b).toNat b) (hb : b < n) (hc : ¬ cBl (bt b)) (h0 : 0 ≤ i.toInt) (hi : i.toInt = t) (hx : x.toInt = 5) (hw : (tNx bt n b).1 = -1) : tkQ bt n (upd kn i.toNatClampNeg x) (upd fr i.toNatClampNeg y) (upd to i.toNatClampNeg z) t2 0 e := by
  obtain ⟨a1, a2, a3, a4⟩ := tq_t h hm g hb hc
  have e1 := zci h0
  have e2 : t.toNat = i.toNatClampNeg := by omega
  refine Or.inr ⟨rfl, t.toNat, ?_, Or.inr ⟨?_, _, a3, hw⟩⟩
  · rw [show ((t.toNat : Nat) : Int) = t from by omega]
    exact tkG_u a2 h0 hi
  · rw [e2, pk_us]
    exact hx
theorem tq_0 (h : tkQ bt n kn fr to t m p) (hm : ¬ m = 0) (g : gTk bt n (n - p).toNat p = gTk bt n (n - b).toNat b) (hb : n ≤ b) (h0 : 0 ≤ i.toInt) (hi : i.toInt = t) (hx : x.toInt = 0) : tkQ bt n (upd kn i.toNatClampNeg x) (upd fr i.toNatClampNeg y) (upd to i.toNatClampNeg z) t2 0 e := by
  have e1 := zci h0
  rcases h with ⟨-, h1, h2, h3⟩ | ⟨h1, -⟩
  · have e2 : t.toNat = i.toNatClampNeg := by omega
    have e0 : (gTk bt n n.toNat 0).drop t.toNat = [] := by
      rw [h3, g, show (n - b).toNat = 0 from by omega]
      rfl
    have h6 : (gTk bt n n.toNat 0).length ≤ t.toNat := List.drop_eq_nil_iff.mp e0
    have h7 : t.toNat ≤ (gTk bt n n.toNat 0).length := by
      apply Nat.le_of_not_lt
      intro q
      obtain ⟨w, q1, -⟩ := h2 (gTk bt n n.toNat 0).length (by omega)
      rw [List.getElem?_eq_none (Nat.le_refl _)] at q1
      cases q1
    refine Or.inr ⟨rfl, t.toNat, ?_, Or.inl ⟨?_, Nat.le_antisymm h7 h6⟩⟩
    · rw [show ((t.toNat : Nat) : Int) = t from by omega]
      exact tkG_u h2 h0 hi
    · rw [e2, pk_us]
      exact hx
  · exact absurd h1 hm
theorem tq_e (h : tkQ bt n kn fr to t m p) (hm : m = 0) : tkF bt (gTk bt n n.toNat 0) kn fr to := by
  rcases h with ⟨h1, -⟩ | ⟨-, h⟩
  · omega
  · exact h
def wIr (bt : Int → Int) (n b v : Int) : Prop := wEn bt n (n - b).toNat b = wEn bt n (n - v).toNat v ∧ cOk bt b v
theorem wr_0 : wIr bt n b b := ⟨rfl, fun j h1 h2 => by omega⟩
theorem wr_s {v v2 : Int} (h : wIr bt n b v) (hv : v < n) (hc : cLe (bt v) ∨ cDi (bt v)) (e : v2 = v + 1) : wIr bt n b v2 := ⟨h.1.trans (wV_e hv hc e), fun j h1 h2 => by
  by_cases k : j = v
  · rw [k]; exact hc
  · exact h.2 j h1 (by omega)⟩
theorem wr_x {v : Int} (h : wIr bt n b v) (hx : ¬ (v < n ∧ (cLe (bt v) ∨ cDi (bt v)))) : v = wEn bt n (n - b).toNat b := by
  rw [h.1]
  by_cases hb : v < n
  · obtain ⟨m, hm⟩ : ∃ m : Nat, (n - v).toNat = m + 1 := ⟨(n - v).toNat - 1, by omega⟩
    rw [hm]
    exact (if_neg hx).symm
  · rw [show (n - v).toNat = 0 from by omega]
    rfl
theorem tkF_R {W : List (Int × Int × Int)} {kd ky : Int → Int} {T : Nat} (h : tkF bt W kn fr to) (hT : ∀ j : Nat, j < T → 1 ≤ (kn j).toInt ∧ (kn j).toInt ≤ 4) (hE : (kn T).toInt = 0 ∨ (kn T).toInt = 5) (hk : ∀ (j : Nat) (w : Int × Int × Int), W[j]? = some w → kd j = w.1 ∧ ky j = w.2.2) (h0 : kd W.length = 0) : tkR kd ky bt kn fr to T := by
  obtain ⟨S, g1, g2⟩ := h
  have eS : S = T := by
    apply Nat.le_antisymm
    · apply Nat.le_of_not_lt
      intro z
      have z2 : (T : Int) < (S : Int) := Int.ofNat_lt.mpr z
      obtain ⟨w, -, -, q⟩ := g1 T z2
      unfold tkw at q
      clear g1 g2 hk h0 hT
      omega
    · apply Nat.le_of_not_lt
      intro z
      have q := hT S z
      have g3 : (kn S).toInt = 0 ∨ (kn S).toInt = 5 := by
        rcases g2 with g2 | g2
        · exact Or.inl g2.1
        · exact Or.inr g2.1
      clear g1 g2 hk h0 hT
      omega
  subst eS
  intro j hj
  by_cases c : j < S
  · obtain ⟨w, q1, q2, q3⟩ := g1 j (by omega)
    obtain ⟨k1, k2⟩ := hk j w q1
    rcases q3 with ⟨a, b⟩ | ⟨a, b, d⟩ | ⟨a, b⟩
    · exact Or.inr (Or.inr (Or.inl ⟨a, k1.trans b⟩))
    · refine Or.inr (Or.inr (Or.inr (Or.inl ⟨a, k1.trans b, ?_⟩)))
      exact ⟨k2.trans d.1, d.2⟩
    · refine Or.inr (Or.inr (Or.inr (Or.inr ⟨?_, ?_⟩)))
      · rw [k1]; exact a
      · rw [k1]; exact b
  · have ej : j = S := by omega
    subst ej
    rcases g2 with ⟨a, b⟩ | ⟨a, w, b, d⟩
    · refine Or.inl ⟨a, ?_⟩
      rw [b]
      exact h0
    · exact Or.inr (Or.inl ⟨a, (hk j w b).1.trans d⟩)
end
theorem tk_min {y v : Int64} {z : Int32} {u : Int} (e : y = (if (((10 * v) + z.toInt64) - 48) < 1099511627776 then (((10 * v) + z.toInt64) - 48) else 1099511627776)) (h0 : 0 ≤ v.toInt) (h1 : v.toInt ≤ 1099511627776) (hz : z.toInt = u) (z0 : -1000 ≤ u) (z1 : u ≤ 1000) : y.toInt = min 1099511627776 (10 * v.toInt + (u - 48)) := by
  have e1 : (10 * v.toInt).bmod (2 ^ 64) = 10 * v.toInt := Int.bmod_eq_of_le (by omega) (by omega)
  have e2 : (10 * v.toInt + z.toInt).bmod (2 ^ 64) = 10 * v.toInt + z.toInt := Int.bmod_eq_of_le (by omega) (by omega)
  have e3 : (10 * v.toInt + z.toInt - 48).bmod (2 ^ 64) = 10 * v.toInt + z.toInt - 48 := Int.bmod_eq_of_le (by omega) (by omega)
  have e4 : (((10 * v) + z.toInt64) - 48).toInt = 10 * v.toInt + z.toInt - 48 := by
    rw [Int64.toInt_sub, Int64.toInt_add, Int64.toInt_mul, Int32.toInt_toInt64, show (10 : Int64).toInt = 10 from by decide +kernel, show (48 : Int64).toInt = 48 from by decide +kernel, e1, e2, e3]
  have e5 : (1099511627776 : Int64).toInt = 1099511627776 := by decide +kernel
  by_cases c : (((10 * v) + z.toInt64) - 48) < 1099511627776
  · rw [if_pos c] at e
    have q := Int64.lt_iff_toInt_lt.mp c
    rw [e, e4]
    rw [e4, e5] at q
    omega
  · rw [if_neg c] at e
    have q : ¬ (((10 * v) + z.toInt64) - 48).toInt < (1099511627776 : Int64).toInt := fun w => c (Int64.lt_iff_toInt_lt.mpr w)
    rw [e, e5]
    rw [e4, e5] at q
    omega
