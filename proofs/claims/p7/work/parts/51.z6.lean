def mR1 (kd : Int → Int) (st wh dc fr nu : nA) (M : Int → Int → Int) (e : Int) (g : nA) : nA := if kd (rd st e) = 27 ∧ rd dc (rd st e) = 0 ∧ 0 ≤ M (rd wh e) (rd st e) then upd g (rd fr (rd st e)).toNat (nu (M (rd wh e) (rd st e)).toNat) else g
def mnR (kd : Int → Int) (st wh dc fr nu : nA) (M : Int → Int → Int) : Nat → nA → nA
  | 0, g => g
  | n + 1, g => mR1 kd st wh dc fr nu M (n : Int) (mnR kd st wh dc fr nu M n g)
def mnK (kd : Int → Int) (st wh dc fr nu : nA) (M : Int → Int → Int) (n : Nat) (g' : nA) : Prop := ∃ g0 : nA, fl9 g0 3000 (-1) ∧ mnR kd st wh dc fr nu M n g0 = g'
def mnP (kd : Int → Int) (st wh dc fr : nA) (M : Int → Int → Int) (j : Nat) (e : Int) : Prop := (kd (rd st e) = 27 ∧ rd dc (rd st e) = 0 ∧ 0 ≤ M (rd wh e) (rd st e)) ∧ (rd fr (rd st e)).toNat = j
section
variable {kd : Int → Int} {st wh dc fr nu g g0 : nA} {M : Int → Int → Int} {e e2 t w x r : Int} {z v r32 : Int32}
theorem mn_st (h0 : 0 ≤ e) (h2 : e2 = e + 1) : mnR kd st wh dc fr nu M e2.toNat g0 = mR1 kd st wh dc fr nu M e (mnR kd st wh dc fr nu M e.toNat g0) := by
  rw [show e2.toNat = e.toNat + 1 by omega]
  show mR1 kd st wh dc fr nu M (e.toNat : Int) _ = _
  rw [show ((e.toNat : Nat) : Int) = e by omega]
theorem mn_f (h : mnR kd st wh dc fr nu M e.toNat g0 = g) (h0 : 0 ≤ e) (h2 : e2 = e + 1) (hn : ¬ (kd (rd st e) = 27 ∧ rd dc (rd st e) = 0 ∧ 0 ≤ M (rd wh e) (rd st e))) : mnR kd st wh dc fr nu M e2.toNat g0 = g := by
  rw [mn_st h0 h2, h]
  unfold mR1
  rw [if_neg hn]
theorem mn_k (h : mnR kd st wh dc fr nu M e.toNat g0 = g) (h0 : 0 ≤ e) (h2 : e2 = e + 1) (a : t = rd st e) (k : ¬ kd t = 27) : mnR kd st wh dc fr nu M e2.toNat g0 = g := mn_f h h0 h2 (fun q => k (by rw [a]; exact q.1))
theorem mn_d (h : mnR kd st wh dc fr nu M e.toNat g0 = g) (h0 : 0 ≤ e) (h2 : e2 = e + 1) (a : t = rd st e) (d : x = rd dc t) (n : ¬ x = 0) : mnR kd st wh dc fr nu M e2.toNat g0 = g := mn_f h h0 h2 (fun q => n (by rw [d, a]; exact q.2.1))
theorem mn_m (h : mnR kd st wh dc fr nu M e.toNat g0 = g) (h0 : 0 ≤ e) (h2 : e2 = e + 1) (a : t = rd st e) (b : w = rd wh e) (m : r = M w t) (n : r < 0) : mnR kd st wh dc fr nu M e2.toNat g0 = g := mn_f h h0 h2 (fun q => by
  have q2 := q.2.2
  rw [← a, ← b, ← m] at q2
  omega)
theorem mn_s (h : mnR kd st wh dc fr nu M e.toNat g0 = g) (h0 : 0 ≤ e) (h2 : e2 = e + 1) (a : t = rd st e) (k : kd t = 27) (d : x = rd dc t) (d0 : x = 0) (b : w = rd wh e) (m : r32.toInt = M w t) (n : 0 ≤ r32.toInt) (hz : z.toInt = rd fr t) (hv : v = nu r32.toNatClampNeg) : mnR kd st wh dc fr nu M e2.toNat g0 = upd g z.toNatClampNeg v := by
  rw [mn_st h0 h2, h]
  unfold mR1
  rw [← a, ← b, if_pos ⟨k, d.symm.trans d0, by rw [← m]; exact n⟩, ← m, ← hz, hv]
  rfl
theorem mn_v {j : Nat} {v : Int32} : ∀ n : Nat, (∀ e : Int, 0 ≤ e → e < (n : Int) → mnP kd st wh dc fr M j e → nu (M (rd wh e) (rd st e)).toNat = v) → (mnR kd st wh dc fr nu M n g0 j = v) ∨ ((∀ e : Int, 0 ≤ e → e < (n : Int) → ¬ mnP kd st wh dc fr M j e) ∧ mnR kd st wh dc fr nu M n g0 j = g0 j)
  | 0, _ => Or.inr ⟨fun e a b => by omega, rfl⟩
  | n + 1, h => by
    have ih := mn_v (v := v) n (fun e a b => h e a (by omega))
    by_cases c : mnP kd st wh dc fr M j (n : Int)
    · left
      show mR1 kd st wh dc fr nu M (n : Int) (mnR kd st wh dc fr nu M n g0) j = v
      unfold mR1
      rw [if_pos c.1]
      show (if j = (rd fr (rd st (n : Int))).toNat then _ else _) = v
      rw [if_pos c.2.symm]
      exact h n (by omega) (by omega) c
    · have e1 : mnR kd st wh dc fr nu M (n + 1) g0 j = mnR kd st wh dc fr nu M n g0 j := by
        show mR1 kd st wh dc fr nu M (n : Int) (mnR kd st wh dc fr nu M n g0) j = _
        unfold mR1
        by_cases d : kd (rd st (n : Int)) = 27 ∧ rd dc (rd st (n : Int)) = 0 ∧ 0 ≤ M (rd wh (n : Int)) (rd st (n : Int))
        · rw [if_pos d]
          show (if j = (rd fr (rd st (n : Int))).toNat then _ else _) = _
          rw [if_neg (fun z => c ⟨d, z.symm⟩)]
        · rw [if_neg d]
      rcases ih with ih | ⟨i1, i2⟩
      · exact Or.inl (e1.trans ih)
      · refine Or.inr ⟨fun e a b => ?_, e1.trans i2⟩
        by_cases q : e = (n : Int)
        · rw [q]
          exact c
        · exact i1 e a (by omega)
end
section
variable {T : gV} {pl ky kd : Int → Int} {st wh dc fr nu g f m1 : nA} {M : Int → Int → Int} {j : Nat} {v : Int32}
theorem gU_v : ∀ (us : List (Int × Int)) (m : nA), (∀ u ∈ us, pl u.1 < 3000 → (pl u.1).toNat = j → Int32.ofInt (gMe T u.2 (ky u.1)) = v) → ((∃ u ∈ us, pl u.1 < 3000 ∧ (pl u.1).toNat = j) → gUse T pl ky us m j = v) ∧ ((∀ u ∈ us, ¬ (pl u.1 < 3000 ∧ (pl u.1).toNat = j)) → gUse T pl ky us m j = m j)
  | [], m, _ => ⟨fun ⟨u, hu, _⟩ => absurd hu List.not_mem_nil, fun _ => rfl⟩
  | u :: us, m, h => by
    have ih := gU_v us (if pl u.1 < 3000 then upd m (pl u.1).toNat (Int32.ofInt (gMe T u.2 (ky u.1))) else m) (fun x hx => h x (List.mem_cons_of_mem _ hx))
    have e : gUse T pl ky (u :: us) m = gUse T pl ky us (if pl u.1 < 3000 then upd m (pl u.1).toNat (Int32.ofInt (gMe T u.2 (ky u.1))) else m) := rfl
    rw [e]
    refine ⟨fun hx => ?_, fun hx => ?_⟩
    · by_cases c : ∃ u ∈ us, pl u.1 < 3000 ∧ (pl u.1).toNat = j
      · exact ih.1 c
      · rw [ih.2 (fun x hx2 hx3 => c ⟨x, hx2, hx3⟩)]
        obtain ⟨x, hx1, hx2, hx3⟩ := hx
        rcases List.mem_cons.mp hx1 with z | z
        · rw [z] at hx2 hx3
          rw [if_pos hx2]
          show (if j = (pl u.1).toNat then _ else _) = v
          rw [if_pos hx3.symm]
          exact h u List.mem_cons_self hx2 hx3
        · exact absurd ⟨x, z, hx2, hx3⟩ c
    · rw [ih.2 (fun x hx2 => hx x (List.mem_cons_of_mem _ hx2))]
      have z := hx u List.mem_cons_self
      by_cases c : pl u.1 < 3000
      · rw [if_pos c]
        show (if j = (pl u.1).toNat then _ else _) = m j
        rw [if_neg (fun y => z ⟨c, y.symm⟩)]
      · rw [if_neg c]
theorem mnL_v {nv : Int → Int} : ∀ n : Nat, j < n → mnL nv g n f j = Int32.ofInt (nv (g j).toInt)
  | 0, h => absurd h (by omega)
  | n + 1, h => by
    show (if j = n then _ else _) = _
    by_cases c : j = n
    · rw [if_pos c, c]
    · rw [if_neg c]
      exact mnL_v n (by omega)
theorem tFd_b {ks nx : Nat → Int} {n key : Int} : ∀ (f : Nat) (k : Int), -1 ≤ tFind ks nx n key f k ∧ (tFind ks nx n key f k < n ∨ tFind ks nx n key f k = -1)
  | 0, k => ⟨Int.le_refl _, Or.inr rfl⟩
  | f + 1, k => by
    have ih := tFd_b (ks := ks) (nx := nx) (n := n) (key := key) f (nx k.toNat)
    unfold tFind
    by_cases a : 0 ≤ k ∧ k < n
    · rw [if_pos a]
      by_cases b : ks k.toNat = key
      · rw [if_pos b]
        omega
      · rw [if_neg b]
        exact ih
    · rw [if_neg a]
      exact ⟨Int.le_refl _, Or.inr rfl⟩
theorem sFd_b {ks nx fs ps : Nat → Int} {n sn key : Int} : ∀ (f : Nat) (s : Int), -1 ≤ sFind ks nx n fs ps sn key f s ∧ (sFind ks nx n fs ps sn key f s < n ∨ sFind ks nx n fs ps sn key f s = -1)
  | 0, s => ⟨Int.le_refl _, Or.inr rfl⟩
  | f + 1, s => by
    have ih := sFd_b (ks := ks) (nx := nx) (fs := fs) (ps := ps) (n := n) (sn := sn) (key := key) f (ps s.toNat)
    unfold sFind
    by_cases a : 0 ≤ s ∧ s < sn
    · rw [if_pos a]
      by_cases b : 0 ≤ tFind ks nx n key 1501 (fs s.toNat)
      · rw [if_pos b]
        exact tFd_b _ _
      · rw [if_neg b]
        exact ih
    · rw [if_neg a]
      exact ⟨Int.le_refl _, Or.inr rfl⟩
theorem l3_m {us : List (Int × Int)} {e xn xs : Int} (hs : sW kd st wh dc 0 xn 0 e us) (hu : uS kd 0 e us) (hq : gP kd 0 e) (hk : plK kd pl) (hp : ∀ t : Int, 0 ≤ pl t ∧ pl t ≤ 3000) (hfr : ∀ t : Int, 0 ≤ t → t < e → rd fr t = pl t) (hw : ∀ n : Int, 0 ≤ n → n < xn → 0 ≤ rd wh n ∧ rd wh n < xs) (hM : ∀ w t : Int, 0 ≤ w → w < xs → M w t = gMe T (w - 1) (ky t)) (hb : T 10 0 ≤ 1501) (h1 : fl9 m1 3000 (-1)) (hK : mnK kd st wh dc fr nu M xn.toNat g) (hj : j < 3000) : mnL (nuO nu) (gUse T pl ky us m1) 3000 f j = g j := by
  obtain ⟨g0, h0, hg⟩ := hK
  rw [mnL_v 3000 hj, ← hg]
  have dis : ∀ u ∈ us, ∀ v ∈ us, pl u.1 = pl v.1 → u = v := fun u hu1 v hv1 hpl => hu.2.2.1 u hu1 v hv1 (by
    have a := hu.2.1 u hu1
    have b := hu.2.1 v hv1
    rcases Int.lt_trichotomy u.1 v.1 with c | c | c
    · have := gP_m hk (show gP kd u.1 v.1 from ⟨by omega, fun t x y => hq.2 t (by omega) (by omega)⟩)
      omega
    · exact c
    · have := gP_m hk (show gP kd v.1 u.1 from ⟨by omega, fun t x y => hq.2 t (by omega) (by omega)⟩)
      omega)
  have nd : ∀ n : Int, 0 ≤ n → n < xn → mnP kd st wh dc fr M j n → (rd st n, rd wh n - 1) ∈ us ∧ (pl (rd st n)).toNat = j ∧ M (rd wh n) (rd st n) = gMe T (rd wh n - 1) (ky (rd st n)) := fun n a b c => by
    obtain ⟨⟨c1, c2, c3⟩, c4⟩ := c
    obtain ⟨x1, x2, x3⟩ := hs.1 n a b c1
    have y : (rd st n, rd wh n - 1) ∈ us := x3.resolve_right (fun z => z c2)
    refine ⟨y, ?_, hM _ _ (hw n a b).1 (hw n a b).2⟩
    rw [← hfr _ x1 x2]
    exact c4
  by_cases hx : ∃ u ∈ us, (pl u.1).toNat = j
  · obtain ⟨u, hu1, huj⟩ := hx
    have pu := hp u.1
    have e1 : gUse T pl ky us m1 j = Int32.ofInt (gMe T u.2 (ky u.1)) := (gU_v us m1 (fun v hv _ hvj => by rw [dis v hv u hu1 (by have := hp v.1; omega)])).1 ⟨u, hu1, by omega, huj⟩
    have mb : -1 ≤ gMe T u.2 (ky u.1) ∧ (gMe T u.2 (ky u.1) < T 10 0 ∨ gMe T u.2 (ky u.1) = -1) := sFd_b _ _
    rw [e1, Int32.toInt_ofInt_of_le (by omega) (by omega)]
    have hv : ∀ n : Int, 0 ≤ n → n < (xn.toNat : Int) → mnP kd st wh dc fr M j n → nu (M (rd wh n) (rd st n)).toNat = nu (gMe T u.2 (ky u.1)).toNat := fun n a b c => by
      obtain ⟨y1, y2, y3⟩ := nd n a (by omega) c
      have pn := hp (rd st n)
      have eu := dis _ y1 u hu1 (show pl (rd st n) = pl u.1 by omega)
      have e5 : rd st n = u.1 := congrArg Prod.fst eu
      have e6 : rd wh n - 1 = u.2 := congrArg Prod.snd eu
      rw [y3, e5, e6]
    by_cases c0 : 0 ≤ gMe T u.2 (ky u.1)
    · rcases mn_v (g0 := g0) xn.toNat hv with q | ⟨q1, q2⟩
      · rw [q]
        unfold nuO
        rw [gG_i c0 (by omega)]
        exact Int32.ofInt_toInt _
      · obtain ⟨x1, x2, x3, n, n0, n1, n2, n3⟩ := hs.2 u hu1
        refine absurd ?_ (q1 n n0 (by omega))
        refine ⟨⟨by rw [n2]; exact hu.2.2.2 u hu1, by rw [n2]; exact x3, ?_⟩, by rw [n2, hfr _ x1 x2]; exact huj⟩
        rw [hM _ _ (hw n n0 n1).1 (hw n n0 n1).2, n2, n3, show u.2 + 1 - 1 = u.2 by omega]
        exact c0
    · have q : mnR kd st wh dc fr nu M xn.toNat g0 j = g0 j := by
        rcases mn_v (g0 := g0) (nu := nu) (v := g0 j) xn.toNat (fun n a b c => by
          obtain ⟨y1, y2, y3⟩ := nd n a (by omega) c
          have pn := hp (rd st n)
          have eu := dis _ y1 u hu1 (show pl (rd st n) = pl u.1 by omega)
          have e5 : rd st n = u.1 := congrArg Prod.fst eu
          have e6 : rd wh n - 1 = u.2 := congrArg Prod.snd eu
          have c3 := c.1.2.2
          rw [y3, e5, e6] at c3
          exact absurd c3 c0) with q | q
        · exact q
        · exact q.2
      rw [q, h0 j (by omega)]
      unfold nuO gG
      rw [if_neg (by omega)]
      decide +kernel
  · have e1 : gUse T pl ky us m1 j = m1 j := (gU_v (v := 0) us m1 (fun u hu1 _ huj => absurd ⟨u, hu1, huj⟩ hx)).2 (fun u hu1 hz => hx ⟨u, hu1, hz.2⟩)
    have q : mnR kd st wh dc fr nu M xn.toNat g0 j = g0 j := by
      rcases mn_v (g0 := g0) (nu := nu) (v := g0 j) xn.toNat (fun n a b c => by
        obtain ⟨y1, y2, y3⟩ := nd n a (by omega) c
        exact absurd ⟨_, y1, y2⟩ hx) with q | q
      · exact q
      · exact q.2
    rw [e1, q, h0 j (by omega), h1 j (by omega)]
    unfold nuO gG
    rw [if_neg (by decide)]
    decide +kernel
end
def jM7 (o : Option (gV × List (Int × Int))) (pl ky : Int → Int) (nu' mg mg' : nA) : Prop := (o = none → mg' = mg) ∧ (∀ x, o = some x → ∀ m1 f : nA, fl9 m1 3000 (-1) → ∀ j : Nat, j < 3000 → mnL (nuO nu') (gUse x.1 pl ky x.2 m1) 3000 f j = mg' j)
section
variable {o : Option (gV × List (Int × Int))} {T : gV} {pl ky kd : Int → Int} {st wh dc fr nu mg mg' : nA} {M : Int → Int → Int}
theorem jM7_n (h : o = none) : jM7 o pl ky nu mg mg := ⟨fun _ => rfl, fun x hx => by rw [h] at hx; cases hx⟩
theorem jM7_y {us : List (Int × Int)} {e xn xs : Int} (h : o = some (T, us)) (hs : sW kd st wh dc 0 xn 0 e us) (hu : uS kd 0 e us) (hq : gP kd 0 e) (hk : plK kd pl) (hp : ∀ t : Int, 0 ≤ pl t ∧ pl t ≤ 3000) (hfr : ∀ t : Int, 0 ≤ t → t < e → rd fr t = pl t) (hw : inB wh xn 0 (xs - 1)) (hM : ∀ w t : Int, 0 ≤ w → w < xs → M w t = gMe T (w - 1) (ky t)) (hb : T 10 0 ≤ 1501) (hK : mnK kd st wh dc fr nu M xn.toNat mg') : jM7 o pl ky nu mg mg' := by
  refine ⟨fun z => ?_, fun x hx m1 f h1 j hj => ?_⟩
  · rw [h] at z
    cases z
  · rw [h] at hx
    cases hx
    refine l3_m hs hu hq hk hp hfr (fun n a b => ?_) hM hb h1 hK hj
    have z := hw n.toNat (by omega)
    exact ⟨z.1, show (wh n.toNat).toInt < xs by omega⟩
end
theorem tkF_P {bt pl : Int → Int} {W : List (Int × Int × Int)} {kn fr to : nA} {T : Nat} (h : tkF bt W kn fr to) (hT : ∀ j : Nat, j < T → 1 ≤ (kn j).toInt ∧ (kn j).toInt ≤ 4) (hk : ∀ (j : Nat) (w : Int × Int × Int), W[j]? = some w → pl j = w.2.1) : ∀ t : Int, 0 ≤ t → t < (T : Int) → rd fr t = pl t := by
  obtain ⟨S, g1, g2⟩ := h
  intro t h0 h1
  have c : t < (S : Int) := by
    apply Int.lt_of_not_ge
    intro z
    have q := hT S (by omega)
    have g3 : (kn S).toInt = 0 ∨ (kn S).toInt = 5 := by
      rcases g2 with g2 | g2
      · exact Or.inl g2.1
      · exact Or.inr g2.1
    omega
  obtain ⟨w, q1, q2, q3⟩ := g1 t.toNat (by omega)
  have q4 := hk t.toNat w q1
  rw [show ((t.toNat : Nat) : Int) = t by omega] at q4
  rw [q4]
  exact q2
theorem dZ_al {dc : nA} {v : Int32} {j : Int} (h : ∀ i : Nat, dc i = v) (e : v.toInt = 0) : dZ dc j := fun t _ => by
  show (dc t.toNat).toInt = 0
  rw [h, e]
theorem arV_c {c : ClassId} {N : Nat} {f g : Nat → Value} (h : ∀ j : Nat, j < N → f j = g j) : arrV c N f = arrV c N g := by
  unfold arrV
  rw [show (fun j : Fin N => f j.val) = (fun j : Fin N => g j.val) from funext (fun j => h j.val j.isLt)]
theorem vaP_1 {D : va_G} {cl : List vw_C} {a : Nat} {c : ClassId} {N : Nat} {f g : Nat → Int32} {H : Heap} (h : va_P D cl [(a, .inl (c, N, .inl f))] H) (e : ∀ j : Nat, j < N → f j = g j) : va_P D cl [(a, .inl (c, N, .inl g))] H := fun k q hk => by
  cases k with
  | zero =>
    have hk : some ((a, .inl (c, N, .inl g)) : Nat × va_E) = some q := hk
    cases hk
    have z : H[a]? = some (vp_cell c (N, .inl f)) := h 0 _ rfl
    show H[a]? = some (vp_cell c (N, .inl g))
    rw [z]
    exact congrArg some (show arrV c N (fun j => Value.int (f j)) = arrV c N (fun j => Value.int (g j)) from arV_c (fun j hj => congrArg Value.int (e j hj)))
  | succ k => cases hk
theorem vaD_1 {A : Nat → Prop} {a : Nat} {e e' : va_E} (h : va_D A [(a, e)]) : va_D A [(a, e')] := by
  refine ⟨fun i j p q hi hj _ => ?_, fun k q hk => ?_⟩
  · cases i with
    | zero =>
      cases j with
      | zero => rfl
      | succ j => cases hj
    | succ i => cases hi
  · cases k with
    | zero =>
      have hk : some ((a, e') : Nat × va_E) = some q := hk
      cases hk
      exact h.2 0 (a, e) rfl
    | succ k => cases hk
def al9 (f : Nat → Int32) (v : Int32) : Prop := ∀ j : Nat, f j = v
