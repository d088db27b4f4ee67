def wTx : List (List Int) := [[98, 101, 103, 105, 110], [101, 110, 100], [105, 110, 116, 101, 103, 101, 114], [98, 111, 111, 108, 101, 97, 110], [97, 114, 114, 97, 121], [112, 114, 111, 99, 101, 100, 117, 114, 101], [118, 97, 108, 117, 101], [111, 119, 110], [115, 119, 105, 116, 99, 104], [108, 97, 98, 101, 108], [105, 102], [116, 104, 101, 110], [101, 108, 115, 101], [102, 111, 114], [100, 111], [115, 116, 101, 112], [117, 110, 116, 105, 108], [119, 104, 105, 108, 101], [103, 111, 116, 111], [116, 114, 117, 101], [102, 97, 108, 115, 101], [110, 111, 116], [97, 110, 100], [111, 114], [100, 105, 118], [112, 114, 105, 110, 116]]
def cSt : List Int := [0, 0, 0, 1, 8, 3, 4, 6, 9, 38, 47, 34, 35, 39, 7, 10, 5, 19, 36, 37, 11, 22, 30, 31, 20, 21, 33, 32, 25, 41, 45, 42, 46, 43, 44, 23, 24, 12, 13, 14, 16, 18, 17, 15, 26, 40, 2]
def txC (c : Int) : List Int := if 1 ≤ c ∧ c ≤ 26 then wTx.getD (c - 1).toNat [] else if 30 ≤ c ∧ c ≤ 44 then [sTb.getD (c - 30).toNat 0] else if c = 45 then [60, 61] else if c = 46 then [62, 61] else if c = 47 then [58, 61] else []
def cdS (i : Nat) : Int := cSt.getD i 0
abbrev okC (c : Int) : Prop := (1 ≤ c ∧ c ≤ 26) ∨ (30 ≤ c ∧ c ≤ 47)
set_option maxRecDepth 100000 in
theorem cdS_tx : ∀ i, i < 47 → 3 ≤ i → (sX i).2.2.2.map Int32.toInt = txC (cdS i) ∧ okC (cdS i) := by decide +kernel
set_option maxRecDepth 100000 in
theorem txC_i : ∀ a b : Fin 48, okC (a.val : Int) → okC (b.val : Int) → txC (a.val : Int) = txC (b.val : Int) → a = b := by decide +kernel
theorem txC_inj {a b : Int} (ha : okC a) (hb : okC b) (h : txC a = txC b) : a = b := by
  have ea : ((a.toNat : Nat) : Int) = a := by unfold okC at ha; omega
  have eb : ((b.toNat : Nat) : Int) = b := by unfold okC at hb; omega
  have q := txC_i ⟨a.toNat, by unfold okC at ha; omega⟩ ⟨b.toNat, by unfold okC at hb; omega⟩ (by show okC ((a.toNat : Nat) : Int); rw [ea]; exact ha) (by show okC ((b.toNat : Nat) : Int); rw [eb]; exact hb) (by show txC ((a.toNat : Nat) : Int) = txC ((b.toNat : Nat) : Int); rw [ea, eb]; exact h)
  have q1 : a.toNat = b.toNat := congrArg Fin.val q
  omega
theorem tx_l {i : Nat} (hi : i < 47) (h3 : 3 ≤ i) : (txC (cdS i)).length = sN i := by
  rw [← (cdS_tx i hi h3).1, List.length_map]
  rfl
theorem tx_c {i : Nat} (hi : i < 47) (h3 : 3 ≤ i) {j : Nat} (hj : j < sN i) : (txC (cdS i)).getD j 0 = sCh i (j : Int) := by
  have hl : j < (sX i).2.2.2.length := hj
  have hm : j < ((sX i).2.2.2.map Int32.toInt).length := by rw [List.length_map]; exact hl
  rw [← (cdS_tx i hi h3).1, gD_in hm, List.getElem_map]
  show _ = ((sX i).2.2.2.getD ((j : Int)).toNat 0).toInt
  rw [show ((j : Int)).toNat = j from by omega, gD_in hl]
def cOk (bt : Int → Int) (a b : Int) : Prop := ∀ j : Int, a ≤ j → j < b → cLe (bt j) ∨ cDi (bt j)
def tkN (ky bt : Int → Int) (t a b : Int) : Prop := ky t = wKy bt (b - a).toNat a 0 ∧ 1 ≤ b - a ∧ b - a ≤ 8 ∧ cOk bt a b
def tkX (c : Int) (bt : Int → Int) (a b : Int) : Prop := b - a = ((txC c).length : Int) ∧ ∀ j : Nat, j < (txC c).length → bt (a + (j : Int)) = (txC c).getD j 0
def tk1 (kd ky bt : Int → Int) (t k a b : Int) : Prop := (k = 0 ∧ kd t = 0) ∨ (k = 5 ∧ kd t = -1) ∨ (k = 3 ∧ kd t = 28) ∨ (k = 1 ∧ kd t = 27 ∧ tkN ky bt t a b) ∨ (((k = 2 ∧ 1 ≤ kd t ∧ kd t ≤ 26) ∨ (k = 4 ∧ 30 ≤ kd t ∧ kd t ≤ 47)) ∧ tkX (kd t) bt a b)
def tkR (kd ky bt : Int → Int) (kn fr to : Nat → Int32) (T : Nat) : Prop := ∀ t : Nat, t ≤ T → tk1 kd ky bt (t : Int) (kn t).toInt (fr t).toInt (to t).toInt
section
variable {kd ky bt : Int → Int} {kn fr to tp : Nat → Int32} {T : Nat} {i z : Int32} {t k a b c : Int}
theorem tk_at (h : tkR kd ky bt kn fr to T) (h0 : 0 ≤ i.toInt) (h1 : i.toInt ≤ T) : tk1 kd ky bt i.toInt (kn i.toNatClampNeg).toInt (fr i.toNatClampNeg).toInt (to i.toNatClampNeg).toInt := by
  have e : ((i.toNatClampNeg : Nat) : Int) = i.toInt := by
    show ((i.toInt.toNat : Nat) : Int) = i.toInt
    omega
  have q := h i.toNatClampNeg (by omega)
  rw [e] at q
  exact q
theorem tk_k (h : tk1 kd ky bt t k a b) : (k = 1 ↔ kd t = 27) ∧ (k = 3 ↔ kd t = 28) ∧ (k = 0 ↔ kd t = 0) ∧ (k = 5 ↔ kd t = -1) := by
  rcases h with ⟨h1, h2⟩ | ⟨h1, h2⟩ | ⟨h1, h2⟩ | ⟨h1, h2, -⟩ | ⟨⟨h1, h2, h3⟩ | ⟨h1, h2, h3⟩, -⟩
  all_goals (refine ⟨⟨fun q => ?_, fun q => ?_⟩, ⟨fun q => ?_, fun q => ?_⟩, ⟨fun q => ?_, fun q => ?_⟩, ⟨fun q => ?_, fun q => ?_⟩⟩ <;> omega)
theorem tkz (h : tkR kd ky bt kn fr to T) (h0 : 0 ≤ i.toInt) (h1 : i.toInt ≤ T) (e : z = kn i.toNatClampNeg) : (z.toInt = 1 ↔ kd i.toInt = 27) ∧ (z.toInt = 3 ↔ kd i.toInt = 28) ∧ (z.toInt = 0 ↔ kd i.toInt = 0) ∧ (z.toInt = 5 ↔ kd i.toInt = -1) := by
  rw [e]
  exact tk_k (tk_at h h0 h1)
theorem tk1p (h : (z.toInt = 1 ↔ c = 27) ∧ (z.toInt = 3 ↔ c = 28) ∧ (z.toInt = 0 ↔ c = 0) ∧ (z.toInt = 5 ↔ c = -1)) (e : z.toInt = 1) : c = 27 := h.1.mp e
theorem tk1n (h : (z.toInt = 1 ↔ c = 27) ∧ (z.toInt = 3 ↔ c = 28) ∧ (z.toInt = 0 ↔ c = 0) ∧ (z.toInt = 5 ↔ c = -1)) (e : ¬ z.toInt = 1) : ¬ c = 27 := fun q => e (h.1.mpr q)
theorem tk3p (h : (z.toInt = 1 ↔ c = 27) ∧ (z.toInt = 3 ↔ c = 28) ∧ (z.toInt = 0 ↔ c = 0) ∧ (z.toInt = 5 ↔ c = -1)) (e : z.toInt = 3) : c = 28 := h.2.1.mp e
theorem tk3n (h : (z.toInt = 1 ↔ c = 27) ∧ (z.toInt = 3 ↔ c = 28) ∧ (z.toInt = 0 ↔ c = 0) ∧ (z.toInt = 5 ↔ c = -1)) (e : ¬ z.toInt = 3) : ¬ c = 28 := fun q => e (h.2.1.mpr q)
theorem tk0p (h : (z.toInt = 1 ↔ c = 27) ∧ (z.toInt = 3 ↔ c = 28) ∧ (z.toInt = 0 ↔ c = 0) ∧ (z.toInt = 5 ↔ c = -1)) (e : z.toInt = 0) : c = 0 := h.2.2.1.mp e
theorem tk0n (h : (z.toInt = 1 ↔ c = 27) ∧ (z.toInt = 3 ↔ c = 28) ∧ (z.toInt = 0 ↔ c = 0) ∧ (z.toInt = 5 ↔ c = -1)) (e : ¬ z.toInt = 0) : ¬ c = 0 := fun q => e (h.2.2.1.mpr q)
theorem tk5p (h : (z.toInt = 1 ↔ c = 27) ∧ (z.toInt = 3 ↔ c = 28) ∧ (z.toInt = 0 ↔ c = 0) ∧ (z.toInt = 5 ↔ c = -1)) (e : z.toInt = 5) : c = -1 := h.2.2.2.mp e
theorem tk5n (h : (z.toInt = 1 ↔ c = 27) ∧ (z.toInt = 3 ↔ c = 28) ∧ (z.toInt = 0 ↔ c = 0) ∧ (z.toInt = 5 ↔ c = -1)) (e : ¬ z.toInt = 5) : ¬ c = -1 := fun q => e (h.2.2.2.mpr q)
theorem ia_k (h : tk1 kd ky bt t k a b) (h2 : ¬ k = 2) (h4 : ¬ k = 4) (hc : okC c) : ¬ kd t = c := by
  intro e
  rcases h with ⟨h1, h2⟩ | ⟨h1, h2⟩ | ⟨h1, h2⟩ | ⟨h1, h2, -⟩ | ⟨⟨h1, -⟩ | ⟨h1, -⟩, -⟩ <;> omega
theorem ia_x (h : tk1 kd ky bt t k a b) (hk : k = 2 ∨ k = 4) : okC (kd t) ∧ tkX (kd t) bt a b := by
  rcases h with ⟨h1, h2⟩ | ⟨h1, h2⟩ | ⟨h1, h2⟩ | ⟨h1, h2, -⟩ | ⟨⟨h1, h2, h3⟩ | ⟨h1, h2, h3⟩, h4⟩
  · omega
  · omega
  · omega
  · omega
  · exact ⟨Or.inl ⟨h2, h3⟩, h4⟩
  · exact ⟨Or.inr ⟨h2, h3⟩, h4⟩
variable {n : Nat}
theorem ia_l (h : tk1 kd ky bt t k a b) (hk : k = 2 ∨ k = 4) (hi : n < 47) (h3 : 3 ≤ n) (hl : ¬ b - a = sN n) : ¬ kd t = cdS n := by
  intro e
  have q := (ia_x h hk).2.1
  rw [e, tx_l hi h3] at q
  exact hl q
theorem ia_m {v : Int} (h : tk1 kd ky bt t k a b) (hk : k = 2 ∨ k = 4) (hi : n < 47) (h3 : 3 ≤ n) (h0 : 0 ≤ v) (hv : v < sN n) (hl : ¬ bt (a + v) = sCh n v) : ¬ kd t = cdS n := by
  intro e
  have q := (ia_x h hk).2.2
  rw [e, tx_l hi h3] at q
  have q1 := q v.toNat (by omega)
  rw [tx_c hi h3 (by omega), show ((v.toNat : Nat) : Int) = v from by omega] at q1
  exact hl q1
theorem ia_t (h : tk1 kd ky bt t k a b) (hk : k = 2 ∨ k = 4) (hi : n < 47) (h3 : 3 ≤ n) (hl : b - a = sN n) (hv : ∀ j : Int, 0 ≤ j → j < sN n → bt (a + j) = sCh n j) : kd t = cdS n := by
  obtain ⟨q1, q2, q3⟩ := ia_x h hk
  refine txC_inj q1 (cdS_tx n hi h3).2 ?_
  have e : (txC (kd t)).length = (txC (cdS n)).length := by
    rw [tx_l hi h3]
    omega
  refine List.ext_getElem e (fun j h1 h2 => ?_)
  have z1 := q3 j h1
  have h2' : j < sN n := by rw [← tx_l hi h3]; exact h2
  have z2 := tx_c hi h3 h2'
  rw [gD_in h1] at z1
  rw [gD_in h2] at z2
  rw [← z1, z2]
  exact hv (j : Int) (by omega) (by omega)
end
section
variable {bt : Int → Int} {a b c d : Int}
theorem wKy_lo : ∀ (m : Nat) (q : Int), cOk bt q (q + (m : Int) + 1) → (37 : Int) ^ m ≤ wKy bt (m + 1) q 0 := by
  intro m
  induction m with
  | zero =>
    intro q h
    have z := cCd_b (h q (by omega) (by omega))
    rw [wKy_s]
    show (1 : Int) ≤ 0 * 37 + cCd (bt (q + ((0 : Nat) : Int)))
    rw [show q + ((0 : Nat) : Int) = q from by omega]
    omega
  | succ m ih =>
    intro q h
    have z := cCd_b (h (q + ((m + 1 : Nat) : Int)) (by omega) (by omega))
    have y := ih q (fun j h1 h2 => h j h1 (by omega))
    rw [wKy_s, Int.pow_succ]
    omega
theorem wKy_hi : ∀ (m : Nat) (q : Int), cOk bt q (q + (m : Int)) → 0 ≤ wKy bt m q 0 ∧ wKy bt m q 0 + 1 ≤ (37 : Int) ^ m := by
  intro m
  induction m with
  | zero => intro q _; exact ⟨Int.le_refl _, by show (0 : Int) + 1 ≤ 37 ^ 0; decide⟩
  | succ m ih =>
    intro q h
    have z := cCd_b (h (q + (m : Int)) (by omega) (by omega))
    have y := ih q (fun j h1 h2 => h j h1 (by omega))
    rw [wKy_s, Int.pow_succ]
    omega
theorem cCd_inj {x y : Int} (hx : cLe x ∨ cDi x) (hy : cLe y ∨ cDi y) (h : cCd x = cCd y) : x = y := by
  unfold cCd at h
  unfold cLe cDi at hx hy
  by_cases c1 : cLe x
  · rw [if_pos c1] at h
    by_cases c2 : cLe y
    · rw [if_pos c2] at h
      omega
    · rw [if_neg c2] at h
      unfold cLe at c1 c2
      omega
  · rw [if_neg c1] at h
    by_cases c2 : cLe y
    · rw [if_pos c2] at h
      unfold cLe at c1 c2
      omega
    · rw [if_neg c2] at h
      omega
theorem wKy_in : ∀ (m : Nat) (q r : Int), cOk bt q (q + (m : Int)) → cOk bt r (r + (m : Int)) → wKy bt m q 0 = wKy bt m r 0 → ∀ j : Int, 0 ≤ j → j < m → bt (q + j) = bt (r + j) := by
  intro m
  induction m with
  | zero => intro q r _ _ _ j h1 h2; omega
  | succ m ih =>
    intro q r hq hr h j h1 h2
    rw [wKy_s, wKy_s] at h
    have z1 := hq (q + (m : Int)) (by omega) (by omega)
    have z2 := hr (r + (m : Int)) (by omega) (by omega)
    have y1 := cCd_b z1
    have y2 := cCd_b z2
    have e1 : cCd (bt (q + (m : Int))) = cCd (bt (r + (m : Int))) := by omega
    by_cases hj : j < m
    · exact ih q r (fun k h3 h4 => hq k h3 (by omega)) (fun k h3 h4 => hr k h3 (by omega)) (by omega) j h1 hj
    · rw [show j = (m : Int) from by omega]
      exact cCd_inj z1 z2 e1
theorem wKy_cg : ∀ (m : Nat) (q r k : Int), (∀ j : Int, 0 ≤ j → j < m → bt (q + j) = bt (r + j)) → wKy bt m q k = wKy bt m r k := by
  intro m
  induction m with
  | zero => intro q r k _; rfl
  | succ m ih =>
    intro q r k h
    have e := h 0 (by omega) (by omega)
    rw [show q + 0 = q from by omega, show r + 0 = r from by omega] at e
    have e1 : wKy bt (m + 1) q k = wKy bt m (q + 1) (k * 37 + cCd (bt q)) := rfl
    have e2 : wKy bt (m + 1) r k = wKy bt m (r + 1) (k * 37 + cCd (bt r)) := rfl
    rw [e1, e2, e]
    refine ih (q + 1) (r + 1) _ (fun j h1 h2 => ?_)
    have z := h (j + 1) (by omega) (by omega)
    rw [show q + 1 + j = q + (j + 1) from by omega, show r + 1 + j = r + (j + 1) from by omega]
    exact z
variable {ky : Int → Int} {t u : Int}
theorem il_t (h : tkN ky bt t a b) (g : tkN ky bt u c d) (hl : b - a = d - c) (hv : ∀ j : Int, 0 ≤ j → j < b - a → bt (a + j) = bt (c + j)) : ky t = ky u := by
  rw [h.1, g.1, ← hl]
  exact wKy_cg _ _ _ _ (fun j h1 h2 => hv j h1 (by omega))
theorem il_m {v : Int} (h : tkN ky bt t a b) (g : tkN ky bt u c d) (hl : b - a = d - c) (h0 : 0 ≤ v) (h1 : v < b - a) (hv : ¬ bt (a + v) = bt (c + v)) : ¬ ky t = ky u := by
  intro e
  rw [h.1, g.1, ← hl] at e
  have p1 := h.2.1
  exact hv (wKy_in (b - a).toNat a c (fun j h3 h4 => h.2.2.2 j h3 (by omega)) (fun j h3 h4 => g.2.2.2 j h3 (by omega)) e v h0 (by omega))
theorem il_1 (h : tkN ky bt t a b) (g : tkN ky bt u c d) (hl : b - a < d - c) : ky t < ky u := by
  rw [h.1, g.1]
  have p1 := h.2.1
  have q1 := (wKy_hi (bt := bt) (b - a).toNat a (fun j h3 h4 => h.2.2.2 j h3 (by omega))).2
  have q2 := wKy_lo (bt := bt) ((d - c).toNat - 1) c (fun j h3 h4 => g.2.2.2 j h3 (by omega))
  rw [show (d - c).toNat - 1 + 1 = (d - c).toNat from by omega] at q2
  have q3 : (37 : Int) ^ (b - a).toNat ≤ 37 ^ ((d - c).toNat - 1) := pw_m (by omega)
  omega
theorem il_l (h : tkN ky bt t a b) (g : tkN ky bt u c d) (hl : ¬ b - a = d - c) : ¬ ky t = ky u := by
  by_cases z : b - a < d - c
  · have := il_1 h g z
    omega
  · have := il_1 g h (by omega)
    omega
end
section
variable {kd ky bt : Int → Int} {t k a b : Int}
theorem tk_n (h : tk1 kd ky bt t k a b) (hk : kd t = 27) : tkN ky bt t a b := by
  rcases h with ⟨h1, h2⟩ | ⟨h1, h2⟩ | ⟨h1, h2⟩ | ⟨h1, h2, h3⟩ | ⟨⟨h1, h2, h3⟩ | ⟨h1, h2, h3⟩, h4⟩
  · omega
  · omega
  · omega
  · exact h3
  · omega
  · omega
end
