def rd (f : Nat → Int32) (c : Int) : Int := (f c.toNat).toInt
theorem vl {f : Nat → Int32} {i z : Int32} (h : 0 ≤ i.toInt) (e : z = f i.toNatClampNeg) : z.toInt = rd f i.toInt := by
  have e1 := zci h
  rw [e, rd, e1]
  rfl
theorem rd_s {f : Nat → Int32} {i v : Int32} (h : 0 ≤ i.toInt) : rd (upd f i.toNatClampNeg v) i.toInt = v.toInt := by
  have e1 := zci h
  have e2 : i.toInt.toNat = i.toNatClampNeg := by omega
  rw [rd, e2, pk_us]
theorem rd_n {f : Nat → Int32} {i v : Int32} {c : Int} (h : 0 ≤ i.toInt) (hc : 0 ≤ c) (n : c ≠ i.toInt) : rd (upd f i.toNatClampNeg v) c = rd f c := by
  have e1 := zci h
  rw [rd, rd, pk_un (by omega)]
def updr (r : Int → Int) (i v : Int) : Int → Int := fun c => if c = i then v else r c
theorem ur_s {r : Int → Int} {i v : Int} : updr r i v i = v := if_pos rfl
theorem ur_n {r : Int → Int} {i v c : Int} (h : c ≠ i) : updr r i v c = r c := if_neg h
/-- the class of a sort: rows of boolean pairs 1, of integer pairs 2, members of a list 18, 29, 30 -/
def qc (s : Int) : Int := if s = 7 ∨ s = 8 then 1 else if s = 11 ∨ s = 12 ∨ s = 15 ∨ s = 16 ∨ s = 17 then 2 else if s = 18 ∨ s = 29 ∨ s = 30 then s else 0
theorem qc_e (s : Int) : ((s = 7 ∨ s = 8) → qc s = 1) ∧ ((s = 11 ∨ s = 12 ∨ s = 15 ∨ s = 16 ∨ s = 17) → qc s = 2) ∧ ((s = 18 ∨ s = 29 ∨ s = 30) → qc s = s) ∧ (¬ (s = 7 ∨ s = 8) → ¬ (s = 11 ∨ s = 12 ∨ s = 15 ∨ s = 16 ∨ s = 17) → ¬ (s = 18 ∨ s = 29 ∨ s = 30) → qc s = 0) := by
  unfold qc
  split
  · omega
  · split
    · omega
    · split <;> omega
def sE (s : Int) : Bool := s == 4 || s == 5 || s == 6 || s == 9 || s == 10 || s == 13 || s == 14 || s == 18 || s == 22 || s == 23 || s == 25 || s == 27 || s == 29 || s == 30
def sC (s : Int) : Bool := s == 5 || s == 23
def sP (s : Int) : Bool := s == 7 || s == 8 || s == 11 || s == 12 || s == 15 || s == 16 || s == 17
def sT (s : Int) : Bool := s == 4 || s == 6 || s == 10 || sP s || s == 22 || s == 24 || s == 29 || s == 30
def sB (s : Int) : Bool := s == 21 || s == 25 || s == 26
def sH (s : Int) : Bool := s == 6 || s == 29 || s == 30
def sF (s : Int) : Bool := s == 4 || s == 5 || s == 6 || s == 9 || s == 10 || s == 13 || s == 14 || s == 18 || s == 22 || s == 25 || s == 27 || s == 29 || s == 30 || sP s
def sG (s : Int) : Bool := s == 6 || s == 10 || sP s || s == 22 || s == 25 || s == 26 || s == 30
def chE (K : Int → Int) (hi k v : Int) : Prop := v < 0 ∨ (v < hi ∧ 0 ≤ K v ∧ K v < k ∧ K v < 300)
def chS (K : Int → Int) (hi k v : Int) : Prop := v < 0 ∨ (v < hi ∧ 300 < K v ∧ K v < k)
def chL (Q K : Int → Int) (hi q v : Int) : Prop := v < 0 ∨ (v < hi ∧ K v = 300 ∧ Q v = q)
def chQ (Q : Int → Int) (hi v : Int) : Prop := v < 0 ∨ (v < hi ∧ Q v = 18)
def chP (Q K : Int → Int) (hi e s k v : Int) : Prop := v < 0 ∨ (v < e ∧ v < hi ∧ 0 ≤ K v ∧ (K v < k ∨ (K v = k ∧ Q v = qc s)))
def kO (Q K : Int → Int) (hi e s k v : Int) : Prop := (sE s = true → chE K hi k v) ∧ (sC s = true → chQ Q hi v) ∧ (sP s = true → chP Q K hi e s k v) ∧ (s = 26 → chL Q K hi 29 v)
def kT (K : Int → Int) (hi s k v : Int) : Prop := (sT s = true → chE K hi k v) ∧ (sB s = true → chS K hi k v)
def kH (Q K : Int → Int) (hi s k v : Int) : Prop := (sH s = true → chE K hi k v) ∧ (s = 25 → chS K hi k v) ∧ (s = 21 → chL Q K hi 30 v)
def kF (K : Int → Int) (hi s k v : Int) : Prop := s = 30 → chE K hi k v
def kX (Q K : Int → Int) (hi e s k v : Int) : Prop := v < 0 ∨ (e < v ∧ v < hi ∧ K v = k ∧ Q v = qc s)
def kR (s k : Int) : Prop := (0 ≤ k ∧ k < 300 ∧ 1 ≤ s ∧ s ≤ 18) ∨ (300 < k ∧ k < 400 ∧ 20 ≤ s ∧ s ≤ 28) ∨ (k = 300 ∧ (s = 29 ∨ s = 30))
def full (s o t h f : Int) : Prop := (sF s = true → 0 ≤ o) ∧ (sG s = true → 0 ≤ t) ∧ (s = 6 → 0 ≤ h) ∧ (s = 30 → h < 0 ∨ 0 ≤ f)
theorem chE_cg {K K' : Int → Int} {hi hi' k v : Int} (h : chE K hi k v) (g : ∀ c, 0 ≤ c → c < hi → K' c = K c) (hh : hi ≤ hi') : chE K' hi' k v := by
  unfold chE at *
  by_cases q : v < 0
  · exact Or.inl q
  · have := g v (by omega) (by omega)
    omega
theorem chS_cg {K K' : Int → Int} {hi hi' k v : Int} (h : chS K hi k v) (g : ∀ c, 0 ≤ c → c < hi → K' c = K c) (hh : hi ≤ hi') : chS K' hi' k v := by
  unfold chS at *
  by_cases q : v < 0
  · exact Or.inl q
  · have := g v (by omega) (by omega)
    omega
theorem chL_cg {Q K Q' K' : Int → Int} {hi hi' q v : Int} (h : chL Q K hi q v) (g : ∀ c, 0 ≤ c → c < hi → Q' c = Q c ∧ K' c = K c) (hh : hi ≤ hi') : chL Q' K' hi' q v := by
  unfold chL at *
  by_cases q : v < 0
  · exact Or.inl q
  · have := g v (by omega) (by omega)
    omega
theorem chQ_cg {Q Q' : Int → Int} {hi hi' v : Int} (h : chQ Q hi v) (g : ∀ c, 0 ≤ c → c < hi → Q' c = Q c) (hh : hi ≤ hi') : chQ Q' hi' v := by
  unfold chQ at *
  by_cases q : v < 0
  · exact Or.inl q
  · have := g v (by omega) (by omega)
    omega
theorem chP_cg {Q K Q' K' : Int → Int} {hi hi' e s k v : Int} (h : chP Q K hi e s k v) (g : ∀ c, 0 ≤ c → c < hi → Q' c = Q c ∧ K' c = K c) (hh : hi ≤ hi') : chP Q' K' hi' e s k v := by
  unfold chP at *
  by_cases q : v < 0
  · exact Or.inl q
  · have := g v (by omega) (by omega)
    omega
theorem kO_cg {Q K Q' K' : Int → Int} {hi hi' e s k v : Int} (h : kO Q K hi e s k v) (g : ∀ c, 0 ≤ c → c < hi → Q' c = Q c ∧ K' c = K c) (hh : hi ≤ hi') : kO Q' K' hi' e s k v := ⟨fun a => chE_cg (h.1 a) (fun c x y => (g c x y).2) hh, fun a => chQ_cg (h.2.1 a) (fun c x y => (g c x y).1) hh, fun a => chP_cg (h.2.2.1 a) g hh, fun a => chL_cg (h.2.2.2 a) g hh⟩
theorem kT_cg {K K' : Int → Int} {hi hi' s k v : Int} (h : kT K hi s k v) (g : ∀ c, 0 ≤ c → c < hi → K' c = K c) (hh : hi ≤ hi') : kT K' hi' s k v := ⟨fun a => chE_cg (h.1 a) g hh, fun a => chS_cg (h.2 a) g hh⟩
theorem kH_cg {Q K Q' K' : Int → Int} {hi hi' s k v : Int} (h : kH Q K hi s k v) (g : ∀ c, 0 ≤ c → c < hi → Q' c = Q c ∧ K' c = K c) (hh : hi ≤ hi') : kH Q' K' hi' s k v := ⟨fun a => chE_cg (h.1 a) (fun c x y => (g c x y).2) hh, fun a => chS_cg (h.2.1 a) (fun c x y => (g c x y).2) hh, fun a => chL_cg (h.2.2 a) g hh⟩
theorem kF_cg {K K' : Int → Int} {hi hi' s k v : Int} (h : kF K hi s k v) (g : ∀ c, 0 ≤ c → c < hi → K' c = K c) (hh : hi ≤ hi') : kF K' hi' s k v := fun a => chE_cg (h a) g hh
theorem kX_cg {Q K Q' K' : Int → Int} {hi hi' e s k v : Int} (h : kX Q K hi e s k v) (g : ∀ c, 0 ≤ c → c < hi → Q' c = Q c ∧ K' c = K c) (hh : hi ≤ hi') (h0 : 0 ≤ e) : kX Q' K' hi' e s k v := by
  unfold kX at *
  by_cases q : v < 0
  · exact Or.inl q
  · have := g v (by omega) (by omega)
    omega
def qf (so : Nat → Int32) : Int → Int := fun c => qc (rd so c)
def okW (so on tw th fo nx : Nat → Int32) (rk : Int → Int) (hi e : Int) : Prop := kR (rd so e) (rk e) ∧ kO (qf so) rk hi e (rd so e) (rk e) (rd on e) ∧ kT rk hi (rd so e) (rk e) (rd tw e) ∧ kH (qf so) rk hi (rd so e) (rk e) (rd th e) ∧ kF rk hi (rd so e) (rk e) (rd fo e) ∧ kX (qf so) rk hi e (rd so e) (rk e) (rd nx e)
def okF (so on tw th fo nx : Nat → Int32) (e : Int) : Prop := full (rd so e) (rd on e) (rd tw e) (rd th e) (rd fo e)
def okP (so on tw th fo nx : Nat → Int32) (rk : Int → Int) (lo hi a b m : Int) : Prop := 0 ≤ lo ∧ lo ≤ hi ∧ (∀ e : Int, lo ≤ e → e < hi → okW so on tw th fo nx rk hi e ∧ rk e < m) ∧ ∀ e : Int, lo ≤ e → e < hi → e ≠ a → e ≠ b → okF so on tw th fo nx e
def ag (n x : Int) (so on tw th fo nx : Nat → Int32) (rk : Int → Int) (so' on' tw' th' fo' nx' : Nat → Int32) (rk' : Int → Int) : Prop := ∀ c : Int, 0 ≤ c → c < n → c ≠ x → rd so' c = rd so c ∧ rd on' c = rd on c ∧ rd tw' c = rd tw c ∧ rd th' c = rd th c ∧ rd fo' c = rd fo c ∧ rd nx' c = rd nx c ∧ rk' c = rk c
def nd (so on tw th fo nx : Nat → Int32) (rk : Int → Int) (e s o t h f x k : Int) : Prop := rd so e = s ∧ rd on e = o ∧ rd tw e = t ∧ rd th e = h ∧ rd fo e = f ∧ rd nx e = x ∧ rk e = k
theorem okW_cg {so on tw th fo nx : Nat → Int32} {so' on' tw' th' fo' nx' : Nat → Int32} {rk rk' : Int → Int} {hi hi' e : Int} (h : okW so on tw th fo nx rk hi e) (h0 : 0 ≤ e) (h1 : e < hi) (g : ag hi (-1) so on tw th fo nx rk so' on' tw' th' fo' nx' rk') (hh : hi ≤ hi') : okW so' on' tw' th' fo' nx' rk' hi' e := by
  obtain ⟨e1, e2, e3, e4, e5, e6, e7⟩ := g e h0 h1 (by omega)
  have g2 : ∀ c, 0 ≤ c → c < hi → qf so' c = qf so c ∧ rk' c = rk c := fun c a1 a2 => by
    have := g c a1 a2 (by omega)
    exact ⟨congrArg qc this.1, this.2.2.2.2.2.2⟩
  have g1 : ∀ c, 0 ≤ c → c < hi → rk' c = rk c := fun c a1 a2 => (g2 c a1 a2).2
  unfold okW
  rw [e1, e2, e3, e4, e5, e6, e7]
  exact ⟨h.1, kO_cg h.2.1 g2 hh, kT_cg h.2.2.1 g1 hh, kH_cg h.2.2.2.1 g2 hh, kF_cg h.2.2.2.2.1 g1 hh, kX_cg h.2.2.2.2.2 g2 hh h0⟩
theorem okF_cg {so on tw th fo nx : Nat → Int32} {so' on' tw' th' fo' nx' : Nat → Int32} {rk rk' : Int → Int} {n x e : Int} (h : okF so on tw th fo nx e) (h0 : 0 ≤ e) (h1 : e < n) (h2 : e ≠ x) (g : ag n x so on tw th fo nx rk so' on' tw' th' fo' nx' rk') : okF so' on' tw' th' fo' nx' e := by
  obtain ⟨e1, e2, e3, e4, e5, e6, e7⟩ := g e h0 h1 h2
  unfold okF
  rw [e1, e2, e3, e4, e5]
  exact h
theorem okP_call {so on tw th fo nx : Nat → Int32} {so' on' tw' th' fo' nx' : Nat → Int32} {rk rk' : Int → Int} {lo hi hi' a b m m2 : Int} (h : okP so on tw th fo nx rk lo hi a b m) (g : ag hi (-1) so on tw th fo nx rk so' on' tw' th' fo' nx' rk') (h2 : okP so' on' tw' th' fo' nx' rk' hi hi' (-1) (-1) m2) (hm : m2 ≤ m) : okP so' on' tw' th' fo' nx' rk' lo hi' a b m := by
  obtain ⟨h0, h1, hw, hf⟩ := h
  obtain ⟨k0, k1, kw, kf⟩ := h2
  refine ⟨h0, by omega, fun e a1 a2 => ?_, fun e a1 a2 a3 a4 => ?_⟩
  · by_cases q : e < hi
    · exact ⟨okW_cg (hw e a1 q).1 (by omega) q g k1, by have := (g e (by omega) q (by omega)).2.2.2.2.2.2; have := (hw e a1 q).2; omega⟩
    · exact ⟨(kw e (by omega) a2).1, by have := (kw e (by omega) a2).2; omega⟩
  · by_cases q : e < hi
    · exact okF_cg (hf e a1 q a3 a4) (by omega) q (by omega) g
    · exact kf e (by omega) a2 (by omega) (by omega)
def tr (so : Nat → Int32) (rk : Int → Int) (c k q : Int) : Prop := c < 0 ∨ (rk c = k ∧ qf so c = q)
theorem tr_ag {so on tw th fo nx : Nat → Int32} {so' on' tw' th' fo' nx' : Nat → Int32} {rk rk' : Int → Int} {n x c k q : Int} (h : tr so rk c k q) (g : ag n x so on tw th fo nx rk so' on' tw' th' fo' nx' rk') (hc : 0 ≤ c → c < n ∧ c ≠ x) : tr so' rk' c k q := by
  rcases h with h | ⟨h1, h2⟩
  · exact Or.inl h
  · by_cases p : 0 ≤ c
    · obtain ⟨e1, -, -, -, -, -, e7⟩ := g c p (hc p).1 (hc p).2
      exact Or.inr ⟨e7.trans h1, (congrArg qc e1).trans h2⟩
    · exact Or.inl (by omega)
def trg (so : Nat → Int32) (rk : Int → Int) (g c k q : Int) : Prop := g < 0 ∨ (rk c = k ∧ qf so c = q)
theorem trg_ag {so on tw th fo nx : Nat → Int32} {so' on' tw' th' fo' nx' : Nat → Int32} {rk rk' : Int → Int} {n x g0 c k q : Int} (h : trg so rk g0 c k q) (g : ag n x so on tw th fo nx rk so' on' tw' th' fo' nx' rk') (hc : 0 ≤ g0 → 0 ≤ c ∧ c < n ∧ c ≠ x) : trg so' rk' g0 c k q := by
  rcases h with h | ⟨h1, h2⟩
  · exact Or.inl h
  · by_cases p : 0 ≤ g0
    · obtain ⟨p1, p2, p3⟩ := hc p
      obtain ⟨e1, -, -, -, -, -, e7⟩ := g c p1 p2 p3
      exact Or.inr ⟨e7.trans h1, (congrArg qc e1).trans h2⟩
    · exact Or.inl (by omega)
theorem okP_0 {so on tw th fo nx : Nat → Int32} {rk : Int → Int} {lo m : Int} (h : 0 ≤ lo) : okP so on tw th fo nx rk lo lo (-1) (-1) m := ⟨h, by omega, fun e a b => by omega, fun e a b => by omega⟩
theorem ag_0 {so on tw th fo nx : Nat → Int32} {rk : Int → Int} {n x : Int} : ag n x so on tw th fo nx rk so on tw th fo nx rk := fun c _ _ _ => ⟨rfl, rfl, rfl, rfl, rfl, rfl, rfl⟩
theorem ag_tr {so on tw th fo nx : Nat → Int32} {so' on' tw' th' fo' nx' : Nat → Int32} {so2 on2 tw2 th2 fo2 nx2 : Nat → Int32} {rk rk' rk2 : Int → Int} {n m x y : Int} (g : ag n x so on tw th fo nx rk so' on' tw' th' fo' nx' rk') (k : ag m y so' on' tw' th' fo' nx' rk' so2 on2 tw2 th2 fo2 nx2 rk2) (h : n ≤ m) (hy : y = -1 ∨ y = x ∨ n ≤ y) : ag n x so on tw th fo nx rk so2 on2 tw2 th2 fo2 nx2 rk2 := fun c a1 a2 a3 => by
  obtain ⟨e1, e2, e3, e4, e5, e6, e7⟩ := g c a1 a2 a3
  obtain ⟨f1, f2, f3, f4, f5, f6, f7⟩ := k c a1 (by omega) (by omega)
  exact ⟨f1.trans e1, f2.trans e2, f3.trans e3, f4.trans e4, f5.trans e5, f6.trans e6, f7.trans e7⟩
theorem nd_ag {so on tw th fo nx : Nat → Int32} {so' on' tw' th' fo' nx' : Nat → Int32} {rk rk' : Int → Int} {n x e s o t h f y k : Int} (d : nd so on tw th fo nx rk e s o t h f y k) (g : ag n x so on tw th fo nx rk so' on' tw' th' fo' nx' rk') (h0 : 0 ≤ e) (h1 : e < n) (h2 : e ≠ x) : nd so' on' tw' th' fo' nx' rk' e s o t h f y k := by
  obtain ⟨e1, e2, e3, e4, e5, e6, e7⟩ := g e h0 h1 h2
  obtain ⟨f1, f2, f3, f4, f5, f6, f7⟩ := d
  exact ⟨e1.trans f1, e2.trans f2, e3.trans f3, e4.trans f4, e5.trans f5, e6.trans f6, e7.trans f7⟩
theorem ag_node {so on tw th fo nx : Nat → Int32} {rk : Int → Int} {i v1 v2 v3 v4 v5 v6 : Int32} {k n : Int} (h : 0 ≤ i.toInt) (hn : n ≤ i.toInt) : ag n (-1) so on tw th fo nx rk (upd so i.toNatClampNeg v1) (upd on i.toNatClampNeg v2) (upd tw i.toNatClampNeg v3) (upd th i.toNatClampNeg v4) (upd fo i.toNatClampNeg v5) (upd nx i.toNatClampNeg v6) (updr rk i.toInt k) := fun c a1 a2 a3 => ⟨rd_n h a1 (by omega), rd_n h a1 (by omega), rd_n h a1 (by omega), rd_n h a1 (by omega), rd_n h a1 (by omega), rd_n h a1 (by omega), ur_n (by omega)⟩
theorem nd_node {so on tw th fo nx : Nat → Int32} {rk : Int → Int} {i v1 : Int32} {k : Int} (h : 0 ≤ i.toInt) : nd (upd so i.toNatClampNeg v1) (upd on i.toNatClampNeg (-1)) (upd tw i.toNatClampNeg (-1)) (upd th i.toNatClampNeg (-1)) (upd fo i.toNatClampNeg (-1)) (upd nx i.toNatClampNeg (-1)) (updr rk i.toInt k) i.toInt v1.toInt (-1) (-1) (-1) (-1) (-1) k := ⟨rd_s h, (rd_s h).trans (by decide +kernel), (rd_s h).trans (by decide +kernel), (rd_s h).trans (by decide +kernel), (rd_s h).trans (by decide +kernel), (rd_s h).trans (by decide +kernel), ur_s⟩
theorem okW_new {so on tw th fo nx : Nat → Int32} {rk : Int → Int} {hi e s k : Int} (d : nd so on tw th fo nx rk e s (-1) (-1) (-1) (-1) (-1) k) (hr : kR s k) : okW so on tw th fo nx rk hi e := by
  obtain ⟨f1, f2, f3, f4, f5, f6, f7⟩ := d
  unfold okW
  rw [f1, f2, f3, f4, f5, f6, f7]
  exact ⟨hr, ⟨fun _ => Or.inl (by decide), fun _ => Or.inl (by decide), fun _ => Or.inl (by decide), fun _ => Or.inl (by decide)⟩, ⟨fun _ => Or.inl (by decide), fun _ => Or.inl (by decide)⟩, ⟨fun _ => Or.inl (by decide), fun _ => Or.inl (by decide), fun _ => Or.inl (by decide)⟩, fun _ => Or.inl (by decide), Or.inl (by decide)⟩
theorem okP_node {so on tw th fo nx : Nat → Int32} {rk : Int → Int} {i v1 : Int32} {k lo hi hi' a b m : Int} (h : okP so on tw th fo nx rk lo hi a b m) (hi0 : i.toInt = hi) (hh : hi' = hi + 1) (hr : kR v1.toInt k) (hm : k < m) : okW (upd so i.toNatClampNeg v1) (upd on i.toNatClampNeg (-1)) (upd tw i.toNatClampNeg (-1)) (upd th i.toNatClampNeg (-1)) (upd fo i.toNatClampNeg (-1)) (upd nx i.toNatClampNeg (-1)) (updr rk i.toInt k) hi' i.toInt ∧ (∀ e : Int, lo ≤ e → e < hi' → okW (upd so i.toNatClampNeg v1) (upd on i.toNatClampNeg (-1)) (upd tw i.toNatClampNeg (-1)) (upd th i.toNatClampNeg (-1)) (upd fo i.toNatClampNeg (-1)) (upd nx i.toNatClampNeg (-1)) (updr rk i.toInt k) hi' e ∧ updr rk i.toInt k e < m) ∧ ∀ e : Int, lo ≤ e → e < hi' → e ≠ a → e ≠ b → e ≠ hi → okF (upd so i.toNatClampNeg v1) (upd on i.toNatClampNeg (-1)) (upd tw i.toNatClampNeg (-1)) (upd th i.toNatClampNeg (-1)) (upd fo i.toNatClampNeg (-1)) (upd nx i.toNatClampNeg (-1)) e := by
  obtain ⟨h0, h1, hw, hf⟩ := h
  have hI : 0 ≤ i.toInt := by omega
  have g : ag hi (-1) so on tw th fo nx rk (upd so i.toNatClampNeg v1) (upd on i.toNatClampNeg (-1)) (upd tw i.toNatClampNeg (-1)) (upd th i.toNatClampNeg (-1)) (upd fo i.toNatClampNeg (-1)) (upd nx i.toNatClampNeg (-1)) (updr rk i.toInt k) := ag_node hI (by omega)
  have hn := okW_new (hi := hi') (nd_node (rk := rk) (k := k) (v1 := v1) (so := so) (on := on) (tw := tw) (th := th) (fo := fo) (nx := nx) hI) hr
  refine ⟨hn, fun e a1 a2 => ?_, fun e a1 a2 a3 a4 a5 => ?_⟩
  · by_cases q : e < hi
    · exact ⟨okW_cg (hw e a1 q).1 (by omega) q g (by omega), by rw [ur_n (by omega)]; exact (hw e a1 q).2⟩
    · obtain rfl : e = i.toInt := by omega
      exact ⟨hn, by rw [ur_s]; exact hm⟩
  · exact okF_cg (hf e a1 (by omega) a3 a4) (by omega) (by omega) (by omega) g
def noB (so : Nat → Int32) (lo hi : Int) : Prop := ∀ e : Int, 0 ≤ e → lo ≤ e → e < hi → rd so e ≤ 18
theorem noB_0 {so : Nat → Int32} {lo : Int} : noB so lo lo := fun e _ a b => by omega
theorem noB_call {so on tw th fo nx : Nat → Int32} {so' on' tw' th' fo' nx' : Nat → Int32} {rk rk' : Int → Int} {lo hi hi' x : Int} (h : noB so lo hi) (g : ag hi x so on tw th fo nx rk so' on' tw' th' fo' nx' rk') (k : okP so' on' tw' th' fo' nx' rk' hi hi' (-1) (-1) 300) (hx : x < lo) : noB so' lo hi' := fun e e0 e1 e2 => by
  by_cases q : e < hi
  · rw [(g e e0 q (by omega)).1]
    exact h e e0 e1 q
  · obtain ⟨w, wm⟩ := k.2.2.1 e (by omega) e2
    have := w.1
    unfold kR at this
    omega
theorem noB_so {so : Nat → Int32} {lo hi : Int} {i v : Int32} (h : noB so lo hi) (h0 : 0 ≤ i.toInt) (h1 : i.toInt < lo) : noB (upd so i.toNatClampNeg v) lo hi := fun e e0 e1 e2 => by
  rw [rd_n (f := so) h0 e0 (by omega)]
  exact h e e0 e1 e2
theorem okP_na {so on tw th fo nx : Nat → Int32} {rk : Int → Int} {i v1 : Int32} {k lo hi hi' b m : Int} (h : okP so on tw th fo nx rk lo hi (-1) b m) (hi0 : i.toInt = hi) (hh : hi' = hi + 1) (hr : kR v1.toInt k) (hm : k < m) : okP (upd so i.toNatClampNeg v1) (upd on i.toNatClampNeg (-1)) (upd tw i.toNatClampNeg (-1)) (upd th i.toNatClampNeg (-1)) (upd fo i.toNatClampNeg (-1)) (upd nx i.toNatClampNeg (-1)) (updr rk i.toInt k) lo hi' i.toInt b m := by
  obtain ⟨-, h1, h2⟩ := okP_node h hi0 hh hr hm
  exact ⟨h.1, by have := h.2.1; omega, h1, fun e a1 a2 a3 a4 => h2 e a1 a2 (by have := h.1; omega) a4 (by omega)⟩
theorem okP_nb {so on tw th fo nx : Nat → Int32} {rk : Int → Int} {i v1 : Int32} {k lo hi hi' a m : Int} (h : okP so on tw th fo nx rk lo hi a (-1) m) (hi0 : i.toInt = hi) (hh : hi' = hi + 1) (hr : kR v1.toInt k) (hm : k < m) : okP (upd so i.toNatClampNeg v1) (upd on i.toNatClampNeg (-1)) (upd tw i.toNatClampNeg (-1)) (upd th i.toNatClampNeg (-1)) (upd fo i.toNatClampNeg (-1)) (upd nx i.toNatClampNeg (-1)) (updr rk i.toInt k) lo hi' a i.toInt m := by
  obtain ⟨-, h1, h2⟩ := okP_node h hi0 hh hr hm
  exact ⟨h.1, by have := h.2.1; omega, h1, fun e a1 a2 a3 a4 => h2 e a1 a2 a3 (by have := h.1; omega) (by omega)⟩
theorem okP_ca {so on tw th fo nx : Nat → Int32} {rk : Int → Int} {lo hi a b s o t h f x k m : Int} (H : okP so on tw th fo nx rk lo hi a b m) (d : nd so on tw th fo nx rk a s o t h f x k) (hf : full s o t h f) : okP so on tw th fo nx rk lo hi (-1) b m := by
  obtain ⟨h0, h1, hw, hF⟩ := H
  obtain ⟨f1, f2, f3, f4, f5, f6, f7⟩ := d
  refine ⟨h0, h1, hw, fun e a1 a2 a3 a4 => ?_⟩
  by_cases q : e = a
  · rw [q]
    unfold okF
    rw [f1, f2, f3, f4, f5]
    exact hf
  · exact hF e a1 a2 q a4
theorem okP_cb {so on tw th fo nx : Nat → Int32} {rk : Int → Int} {lo hi a b s o t h f x k m : Int} (H : okP so on tw th fo nx rk lo hi a b m) (d : nd so on tw th fo nx rk b s o t h f x k) (hf : full s o t h f) : okP so on tw th fo nx rk lo hi a (-1) m := by
  obtain ⟨h0, h1, hw, hF⟩ := H
  obtain ⟨f1, f2, f3, f4, f5, f6, f7⟩ := d
  refine ⟨h0, h1, hw, fun e a1 a2 a3 a4 => ?_⟩
  by_cases q : e = b
  · rw [q]
    unfold okF
    rw [f1, f2, f3, f4, f5]
    exact hf
  · exact hF e a1 a2 a3 q
theorem ag_so {so on tw th fo nx : Nat → Int32} {rk : Int → Int} {i v : Int32} {n : Int} (h : 0 ≤ i.toInt) : ag n i.toInt so on tw th fo nx rk (upd so i.toNatClampNeg v) on tw th fo nx rk := fun c a1 a2 a3 => ⟨rd_n h a1 (by omega), rfl, rfl, rfl, rfl, rfl, rfl⟩
theorem nd_so {so on tw th fo nx : Nat → Int32} {rk : Int → Int} {i v : Int32} {s o t g f x k : Int} (d : nd so on tw th fo nx rk i.toInt s o t g f x k) (h : 0 ≤ i.toInt) : nd (upd so i.toNatClampNeg v) on tw th fo nx rk i.toInt v.toInt o t g f x k := ⟨rd_s h, d.2.1, d.2.2.1, d.2.2.2.1, d.2.2.2.2.1, d.2.2.2.2.2.1, d.2.2.2.2.2.2⟩
theorem ag_on {so on tw th fo nx : Nat → Int32} {rk : Int → Int} {i v : Int32} {n : Int} (h : 0 ≤ i.toInt) : ag n i.toInt so on tw th fo nx rk so (upd on i.toNatClampNeg v) tw th fo nx rk := fun c a1 a2 a3 => ⟨rfl, rd_n h a1 (by omega), rfl, rfl, rfl, rfl, rfl⟩
theorem nd_on {so on tw th fo nx : Nat → Int32} {rk : Int → Int} {i v : Int32} {s o t g f x k : Int} (d : nd so on tw th fo nx rk i.toInt s o t g f x k) (h : 0 ≤ i.toInt) : nd so (upd on i.toNatClampNeg v) tw th fo nx rk i.toInt s v.toInt t g f x k := ⟨d.1, rd_s h, d.2.2.1, d.2.2.2.1, d.2.2.2.2.1, d.2.2.2.2.2.1, d.2.2.2.2.2.2⟩
theorem okP_on {so on tw th fo nx : Nat → Int32} {rk : Int → Int} {i v : Int32} {lo hi a b m : Int} (H : okP so on tw th fo nx rk lo hi a b m) (hI : 0 ≤ i.toInt) (hop : i.toInt = a ∨ i.toInt = b ∨ i.toInt < lo) (hv : kO (qf so) rk hi i.toInt (rd so i.toInt) (rk i.toInt) v.toInt) : okP so (upd on i.toNatClampNeg v) tw th fo nx rk lo hi a b m := by
  obtain ⟨h0, h1, hw, hF⟩ := H
  refine ⟨h0, h1, fun e a1 a2 => ?_, fun e a1 a2 a3 a4 => ?_⟩
  · have h := (hw e a1 a2).1
    refine ⟨?_, (hw e a1 a2).2⟩
    unfold okW at h ⊢
    by_cases q : e = i.toInt
    · rw [q] at h ⊢
      rw [rd_s hI]
      exact ⟨h.1, hv, h.2.2.1, h.2.2.2.1, h.2.2.2.2.1, h.2.2.2.2.2⟩
    · rw [rd_n hI (by omega) q]
      exact h
  · have h := hF e a1 a2 a3 a4
    unfold okF at h ⊢
    rw [rd_n hI (by omega) (by omega)]
    exact h
theorem ag_tw {so on tw th fo nx : Nat → Int32} {rk : Int → Int} {i v : Int32} {n : Int} (h : 0 ≤ i.toInt) : ag n i.toInt so on tw th fo nx rk so on (upd tw i.toNatClampNeg v) th fo nx rk := fun c a1 a2 a3 => ⟨rfl, rfl, rd_n h a1 (by omega), rfl, rfl, rfl, rfl⟩
theorem nd_tw {so on tw th fo nx : Nat → Int32} {rk : Int → Int} {i v : Int32} {s o t g f x k : Int} (d : nd so on tw th fo nx rk i.toInt s o t g f x k) (h : 0 ≤ i.toInt) : nd so on (upd tw i.toNatClampNeg v) th fo nx rk i.toInt s o v.toInt g f x k := ⟨d.1, d.2.1, rd_s h, d.2.2.2.1, d.2.2.2.2.1, d.2.2.2.2.2.1, d.2.2.2.2.2.2⟩
theorem okP_tw {so on tw th fo nx : Nat → Int32} {rk : Int → Int} {i v : Int32} {lo hi a b m : Int} (H : okP so on tw th fo nx rk lo hi a b m) (hI : 0 ≤ i.toInt) (hop : i.toInt = a ∨ i.toInt = b ∨ i.toInt < lo) (hv : kT rk hi (rd so i.toInt) (rk i.toInt) v.toInt) : okP so on (upd tw i.toNatClampNeg v) th fo nx rk lo hi a b m := by
  obtain ⟨h0, h1, hw, hF⟩ := H
  refine ⟨h0, h1, fun e a1 a2 => ?_, fun e a1 a2 a3 a4 => ?_⟩
  · have h := (hw e a1 a2).1
    refine ⟨?_, (hw e a1 a2).2⟩
    unfold okW at h ⊢
    by_cases q : e = i.toInt
    · rw [q] at h ⊢
      rw [rd_s hI]
      exact ⟨h.1, h.2.1, hv, h.2.2.2.1, h.2.2.2.2.1, h.2.2.2.2.2⟩
    · rw [rd_n hI (by omega) q]
      exact h
  · have h := hF e a1 a2 a3 a4
    unfold okF at h ⊢
    rw [rd_n hI (by omega) (by omega)]
    exact h
theorem ag_th {so on tw th fo nx : Nat → Int32} {rk : Int → Int} {i v : Int32} {n : Int} (h : 0 ≤ i.toInt) : ag n i.toInt so on tw th fo nx rk so on tw (upd th i.toNatClampNeg v) fo nx rk := fun c a1 a2 a3 => ⟨rfl, rfl, rfl, rd_n h a1 (by omega), rfl, rfl, rfl⟩
theorem nd_th {so on tw th fo nx : Nat → Int32} {rk : Int → Int} {i v : Int32} {s o t g f x k : Int} (d : nd so on tw th fo nx rk i.toInt s o t g f x k) (h : 0 ≤ i.toInt) : nd so on tw (upd th i.toNatClampNeg v) fo nx rk i.toInt s o t v.toInt f x k := ⟨d.1, d.2.1, d.2.2.1, rd_s h, d.2.2.2.2.1, d.2.2.2.2.2.1, d.2.2.2.2.2.2⟩
theorem okP_th {so on tw th fo nx : Nat → Int32} {rk : Int → Int} {i v : Int32} {lo hi a b m : Int} (H : okP so on tw th fo nx rk lo hi a b m) (hI : 0 ≤ i.toInt) (hop : i.toInt = a ∨ i.toInt = b ∨ i.toInt < lo) (hv : kH (qf so) rk hi (rd so i.toInt) (rk i.toInt) v.toInt) : okP so on tw (upd th i.toNatClampNeg v) fo nx rk lo hi a b m := by
  obtain ⟨h0, h1, hw, hF⟩ := H
  refine ⟨h0, h1, fun e a1 a2 => ?_, fun e a1 a2 a3 a4 => ?_⟩
  · have h := (hw e a1 a2).1
    refine ⟨?_, (hw e a1 a2).2⟩
    unfold okW at h ⊢
    by_cases q : e = i.toInt
    · rw [q] at h ⊢
      rw [rd_s hI]
      exact ⟨h.1, h.2.1, h.2.2.1, hv, h.2.2.2.2.1, h.2.2.2.2.2⟩
    · rw [rd_n hI (by omega) q]
      exact h
  · have h := hF e a1 a2 a3 a4
    unfold okF at h ⊢
    rw [rd_n hI (by omega) (by omega)]
    exact h
theorem ag_fo {so on tw th fo nx : Nat → Int32} {rk : Int → Int} {i v : Int32} {n : Int} (h : 0 ≤ i.toInt) : ag n i.toInt so on tw th fo nx rk so on tw th (upd fo i.toNatClampNeg v) nx rk := fun c a1 a2 a3 => ⟨rfl, rfl, rfl, rfl, rd_n h a1 (by omega), rfl, rfl⟩
theorem nd_fo {so on tw th fo nx : Nat → Int32} {rk : Int → Int} {i v : Int32} {s o t g f x k : Int} (d : nd so on tw th fo nx rk i.toInt s o t g f x k) (h : 0 ≤ i.toInt) : nd so on tw th (upd fo i.toNatClampNeg v) nx rk i.toInt s o t g v.toInt x k := ⟨d.1, d.2.1, d.2.2.1, d.2.2.2.1, rd_s h, d.2.2.2.2.2.1, d.2.2.2.2.2.2⟩
theorem okP_fo {so on tw th fo nx : Nat → Int32} {rk : Int → Int} {i v : Int32} {lo hi a b m : Int} (H : okP so on tw th fo nx rk lo hi a b m) (hI : 0 ≤ i.toInt) (hop : i.toInt = a ∨ i.toInt = b ∨ i.toInt < lo) (hv : kF rk hi (rd so i.toInt) (rk i.toInt) v.toInt) : okP so on tw th (upd fo i.toNatClampNeg v) nx rk lo hi a b m := by
  obtain ⟨h0, h1, hw, hF⟩ := H
  refine ⟨h0, h1, fun e a1 a2 => ?_, fun e a1 a2 a3 a4 => ?_⟩
  · have h := (hw e a1 a2).1
    refine ⟨?_, (hw e a1 a2).2⟩
    unfold okW at h ⊢
    by_cases q : e = i.toInt
    · rw [q] at h ⊢
      rw [rd_s hI]
      exact ⟨h.1, h.2.1, h.2.2.1, h.2.2.2.1, hv, h.2.2.2.2.2⟩
    · rw [rd_n hI (by omega) q]
      exact h
  · have h := hF e a1 a2 a3 a4
    unfold okF at h ⊢
    rw [rd_n hI (by omega) (by omega)]
    exact h
theorem ag_nx {so on tw th fo nx : Nat → Int32} {rk : Int → Int} {i v : Int32} {n : Int} (h : 0 ≤ i.toInt) : ag n i.toInt so on tw th fo nx rk so on tw th fo (upd nx i.toNatClampNeg v) rk := fun c a1 a2 a3 => ⟨rfl, rfl, rfl, rfl, rfl, rd_n h a1 (by omega), rfl⟩
theorem nd_nx {so on tw th fo nx : Nat → Int32} {rk : Int → Int} {i v : Int32} {s o t g f x k : Int} (d : nd so on tw th fo nx rk i.toInt s o t g f x k) (h : 0 ≤ i.toInt) : nd so on tw th fo (upd nx i.toNatClampNeg v) rk i.toInt s o t g f v.toInt k := ⟨d.1, d.2.1, d.2.2.1, d.2.2.2.1, d.2.2.2.2.1, rd_s h, d.2.2.2.2.2.2⟩
theorem okP_nx {so on tw th fo nx : Nat → Int32} {rk : Int → Int} {i v : Int32} {lo hi a b m : Int} (H : okP so on tw th fo nx rk lo hi a b m) (hI : 0 ≤ i.toInt) (hv : kX (qf so) rk hi i.toInt (rd so i.toInt) (rk i.toInt) v.toInt) : okP so on tw th fo (upd nx i.toNatClampNeg v) rk lo hi a b m := by
  obtain ⟨h0, h1, hw, hF⟩ := H
  refine ⟨h0, h1, fun e a1 a2 => ?_, fun e a1 a2 a3 a4 => ?_⟩
  · have h := (hw e a1 a2).1
    refine ⟨?_, (hw e a1 a2).2⟩
    unfold okW at h ⊢
    by_cases q : e = i.toInt
    · rw [q] at h ⊢
      rw [rd_s hI]
      exact ⟨h.1, h.2.1, h.2.2.1, h.2.2.2.1, h.2.2.2.2.1, hv⟩
    · rw [rd_n hI (by omega) q]
      exact h
  · have h := hF e a1 a2 a3 a4
    exact h
theorem okP_so {so on tw th fo nx : Nat → Int32} {rk : Int → Int} {i v : Int32} {lo hi a b t g f x k m : Int} (H : okP so on tw th fo nx rk lo hi a b m) (hI : 0 ≤ i.toInt) (hop : i.toInt = a ∨ i.toInt = b ∨ i.toInt < lo) (d : nd so on tw th fo nx rk i.toInt 3 (-1) t g f x k) (ht : t = -1) (hk : 0 ≤ k ∧ k < 300) (hv : v.toInt = 4 ∨ v.toInt = 5) : okP (upd so i.toNatClampNeg v) on tw th fo nx rk lo hi a b m := by
  obtain ⟨h0, h1, hw, hF⟩ := H
  obtain ⟨f1, f2, f3, f4, f5, f6, f7⟩ := d
  have q3 : qc 3 = 0 := by decide
  have qv : qc v.toInt = 0 := by
    rcases hv with hv | hv <;> rw [hv] <;> decide
  have hq : ∀ c : Int, 0 ≤ c → qf (upd so i.toNatClampNeg v) c = qf so c := fun c hc => by
    by_cases q : c = i.toInt
    · unfold qf
      rw [q, rd_s hI, f1, q3, qv]
    · unfold qf
      rw [rd_n hI hc q]
  have hg : ∀ c, 0 ≤ c → c < hi → qf (upd so i.toNatClampNeg v) c = qf so c ∧ rk c = rk c := fun c a1 _ => ⟨hq c a1, rfl⟩
  refine ⟨h0, h1, fun e a1 a2 => ?_, fun e a1 a2 a3 a4 => ?_⟩
  · have h := (hw e a1 a2).1
    refine ⟨?_, (hw e a1 a2).2⟩
    unfold okW at h ⊢
    obtain ⟨c1, c2, c3, c4, c5, c6⟩ := h
    have c2 := kO_cg c2 hg (Int.le_refl _)
    have c4 := kH_cg c4 hg (Int.le_refl _)
    have c6 := kX_cg c6 hg (Int.le_refl _) (by omega)
    by_cases q : e = i.toInt
    · rw [q] at c1 c2 c3 c4 c5 c6 ⊢
      rw [rd_s hI]
      rw [f1] at c1 c2 c3 c4 c5 c6
      rw [f2] at c2
      rw [f3, ht] at c3
      rw [f2, f3, ht]
      refine ⟨?_, ⟨fun _ => Or.inl (by decide), fun _ => Or.inl (by decide), fun _ => Or.inl (by decide), fun _ => Or.inl (by decide)⟩, ⟨fun _ => Or.inl (by decide), fun _ => Or.inl (by decide)⟩, ?_, ?_, ?_⟩
      · unfold kR at *
        omega
      · rcases hv with hv | hv <;> rw [hv] <;> exact ⟨fun a => absurd a (by decide), fun a => absurd a (by decide), fun a => absurd a (by decide)⟩
      · rcases hv with hv | hv <;> rw [hv] <;> exact fun a => absurd a (by decide)
      · unfold kX at *
        rw [qv]
        rw [q3] at c6
        exact c6
    · rw [rd_n hI (by omega) q]
      exact ⟨c1, c2, c3, c4, c5, c6⟩
  · have h := hF e a1 a2 a3 a4
    unfold okF at h ⊢
    rw [rd_n hI (by omega) (by omega)]
    exact h
