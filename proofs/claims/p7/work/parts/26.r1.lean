section
variable {bt bu : Int → Int} {n p q e c : Int}
theorem wKy_in2 : ∀ (m : Nat) (q r : Int), cOk bt q (q + (m : Int)) → cOk bu r (r + (m : Int)) → wKy bt m q 0 = wKy bu m r 0 → ∀ j : Int, 0 ≤ j → j < m → bt (q + j) = bu (r + j) := by
  intro m
  induction m with
  | zero => intro q r _ _ _ j h1 h2; omega
  | succ m ih =>
    intro q r hq hr h j h1 h2
    rw [wKy_s, wKy_s] at h
    have z1 := hq (q + (m : Int)) (by omega) (by omega)
    have z2 := hr (r + (m : Int)) (by omega) (by omega)
    have y1 := cCd_b z1
    have y2 := cCd_b z2
    have e1 : cCd (bt (q + (m : Int))) = cCd (bu (r + (m : Int))) := by omega
    by_cases hj : j < m
    · exact ih q r (fun k h3 h4 => hq k h3 (by omega)) (fun k h3 h4 => hr k h3 (by omega)) (by omega) j h1 hj
    · rw [show j = (m : Int) from by omega]
      exact cCd_inj z1 z2 e1
theorem wKy_cg2 : ∀ (m : Nat) (q r k : Int), (∀ j : Int, 0 ≤ j → j < m → bt (q + j) = bu (r + j)) → wKy bt m q k = wKy bu m r k := by
  intro m
  induction m with
  | zero => intro q r k _; rfl
  | succ m ih =>
    intro q r k h
    have e := h 0 (by omega) (by omega)
    rw [show q + 0 = q from by omega, show r + 0 = r from by omega] at e
    have e1 : wKy bt (m + 1) q k = wKy bt m (q + 1) (k * 37 + cCd (bt q)) := rfl
    have e2 : wKy bu (m + 1) r k = wKy bu m (r + 1) (k * 37 + cCd (bu r)) := rfl
    rw [e1, e2, e]
    refine ih (q + 1) (r + 1) _ (fun j h1 h2 => ?_)
    have z := h (j + 1) (by omega) (by omega)
    rw [show q + 1 + j = q + (j + 1) from by omega, show r + 1 + j = r + (j + 1) from by omega]
    exact z
theorem wKy_len {m k : Nat} {q r : Int} (hm : 1 ≤ m) (hk : 1 ≤ k) (hq : cOk bt q (q + (m : Int))) (hr : cOk bu r (r + (k : Int))) (h : wKy bt m q 0 = wKy bu k r 0) : m = k := by
  have a1 := (wKy_hi (bt := bt) m q hq).2
  have b1 := (wKy_hi (bt := bu) k r hr).2
  have a2 := wKy_lo (bt := bt) (m - 1) q (fun j h3 h4 => hq j h3 (by omega))
  have b2 := wKy_lo (bt := bu) (k - 1) r (fun j h3 h4 => hr j h3 (by omega))
  rw [show m - 1 + 1 = m from by omega] at a2
  rw [show k - 1 + 1 = k from by omega] at b2
  apply Nat.le_antisymm
  · apply Nat.le_of_not_lt
    intro z
    have q3 : (37 : Int) ^ k ≤ 37 ^ (m - 1) := pw_m (by omega)
    omega
  · apply Nat.le_of_not_lt
    intro z
    have q3 : (37 : Int) ^ m ≤ 37 ^ (k - 1) := pw_m (by omega)
    omega
def btW (c : Int) (j : Int) : Int := (txC c).getD j.toNat 0
set_option maxRecDepth 100000 in
theorem wd_d : ∀ k : Fin 26, wKy (btW ((k.val : Int) + 1)) (txC ((k.val : Int) + 1)).length 0 0 = wTb.getD k.val 0 ∧ wFd (wTb.getD k.val 0) wTb 1 = (k.val : Int) + 1 ∧ 1 ≤ (txC ((k.val : Int) + 1)).length ∧ (txC ((k.val : Int) + 1)).length ≤ 9 ∧ ∀ x ∈ txC ((k.val : Int) + 1), 97 ≤ x ∧ x ≤ 122 := by decide +kernel
theorem wd_k (h1 : 1 ≤ c) (h2 : c ≤ 26) : wKy (btW c) (txC c).length 0 0 = wTb.getD (c - 1).toNat 0 ∧ wFd (wTb.getD (c - 1).toNat 0) wTb 1 = c ∧ 1 ≤ (txC c).length ∧ (txC c).length ≤ 9 ∧ cOk (btW c) 0 (0 + ((txC c).length : Int)) := by
  have z := wd_d ⟨(c - 1).toNat, by omega⟩
  have e : (((c - 1).toNat : Nat) : Int) + 1 = c := by omega
  have z : wKy (btW ((((c - 1).toNat : Nat) : Int) + 1)) (txC ((((c - 1).toNat : Nat) : Int) + 1)).length 0 0 = wTb.getD (c - 1).toNat 0 ∧ wFd (wTb.getD (c - 1).toNat 0) wTb 1 = (((c - 1).toNat : Nat) : Int) + 1 ∧ 1 ≤ (txC ((((c - 1).toNat : Nat) : Int) + 1)).length ∧ (txC ((((c - 1).toNat : Nat) : Int) + 1)).length ≤ 9 ∧ ∀ x ∈ txC ((((c - 1).toNat : Nat) : Int) + 1), 97 ≤ x ∧ x ≤ 122 := z
  rw [e] at z
  refine ⟨z.1, z.2.1, z.2.2.1, z.2.2.2.1, fun j a1 a2 => Or.inl ?_⟩
  have hl : j.toNat < (txC c).length := by omega
  have q := z.2.2.2.2 _ (List.getElem_mem hl)
  show 97 ≤ (txC c).getD j.toNat 0 ∧ (txC c).getD j.toNat 0 ≤ 122
  rw [gD_in hl]
  exact q
theorem wEn_ok : ∀ (m : Nat) (b : Int), cOk bt p b → cOk bt p (wEn bt n m b) := by
  intro m
  induction m with
  | zero => intro b h; exact h
  | succ m ih =>
    intro b h
    have e : wEn bt n (m + 1) b = if b < n ∧ (cLe (bt b) ∨ cDi (bt b)) then wEn bt n m (b + 1) else b := rfl
    rw [e]
    by_cases c : b < n ∧ (cLe (bt b) ∨ cDi (bt b))
    · rw [if_pos c]
      exact ih (b + 1) (fun j h1 h2 => by
        by_cases k : j = b
        · rw [k]; exact c.2
        · exact h j h1 (by omega))
    · rw [if_neg c]
      exact h
theorem wd_t (hl : cLe (bt p)) : tNx bt n p = (kWd (wKy bt (min 9 (wEn bt n (n - p).toNat p - p)).toNat p 0) (wEn bt n (n - p).toNat p - p), wKy bt (min 9 (wEn bt n (n - p).toNat p - p)).toNat p 0, wEn bt n (n - p).toNat p) := if_pos hl
theorem wd_y (hl : cLe (bt p)) (hp : p < n) (he : e = wEn bt n (n - p).toNat p) (h : rsv bt p (e - p)) : 1 ≤ (tNx bt n p).1 ∧ (tNx bt n p).1 ≤ 26 ∧ tkX (tNx bt n p).1 bt p e := by
  obtain ⟨c, c1, c2, c3, c4⟩ := h
  obtain ⟨z1, z2, z3, z4, z5⟩ := wd_k c1 c2
  rw [show p + (e - p) = e from by omega] at c3
  have es : e - p = ((txC c).length : Int) := c3
  have ek : wKy bt (txC c).length p 0 = wTb.getD (c - 1).toNat 0 := by
    rw [← z1]
    refine wKy_cg2 _ _ _ _ (fun j h1 h2 => ?_)
    have q := c4 j.toNat (by omega)
    rw [show ((j.toNat : Nat) : Int) = j from by omega] at q
    rw [q]
    show _ = (txC c).getD (0 + j).toNat 0
    rw [show (0 + j).toNat = j.toNat from by omega]
  have e1 : (tNx bt n p).1 = c := by
    rw [wd_t hl, ← he]
    show kWd (wKy bt (min 9 (e - p)).toNat p 0) (e - p) = c
    rw [show (min 9 (e - p)).toNat = (txC c).length from by omega, ek]
    exact kW_f (by omega) z2 c1
  rw [e1]
  exact ⟨c1, c2, c3, c4⟩
theorem wd_n (hl : cLe (bt p)) (hp : p < n) (he : e = wEn bt n (n - p).toNat p) (h : ¬ rsv bt p (e - p)) : (e - p ≤ 8 → (tNx bt n p).1 = 27 ∧ tkN (fun _ => (tNx bt n p).2.1) bt 0 p e) ∧ (¬ e - p ≤ 8 → (tNx bt n p).1 = -1) := by
  have ok : cOk bt p e := by
    rw [he]
    exact wEn_ok _ _ (fun j h1 h2 => by omega)
  have hb := tNx_b (bt := bt) hp
  rw [wd_t hl] at hb
  have hb : p < wEn bt n (n - p).toNat p ∧ wEn bt n (n - p).toNat p ≤ n := hb
  rw [← he] at hb
  have no : e - p ≤ 9 → wFd (wKy bt (e - p).toNat p 0) wTb 1 = 0 := fun h9 => by
    apply Classical.byContradiction
    intro z
    have fr : ∀ (L : List Int) (key w : Int), 1 ≤ w → 0 ≤ wFd key L w ∧ wFd key L w < w + (L.length : Int) := by
      intro L
      induction L with
      | nil => intro key w hw; exact ⟨Int.le_refl _, by show (0 : Int) < w + ((0 : Nat) : Int); omega⟩
      | cons t ts ih =>
        intro key w hw
        have e0 : wFd key (t :: ts) w = if t = key then w else wFd key ts (w + 1) := rfl
        rw [e0]
        by_cases c : t = key
        · rw [if_pos c, List.length_cons]; omega
        · rw [if_neg c, List.length_cons]
          have := ih key (w + 1) (by omega)
          omega
    have y := fr wTb (wKy bt (e - p).toNat p 0) 1 (by decide)
    have y2 : (wTb.length : Int) = 26 := by decide
    have y3 := wFd_k wTb 1 _ (rfl : wFd (wKy bt (e - p).toNat p 0) wTb 1 = _) (by decide) (by omega)
    generalize hc : wFd (wKy bt (e - p).toNat p 0) wTb 1 = c at z y y3
    obtain ⟨z1, z2, z3, z4, z5⟩ := wd_k (c := c) (by omega) (by omega)
    have ek : wKy bt (e - p).toNat p 0 = wKy (btW c) (txC c).length 0 0 := by rw [z1]; exact y3.2.symm
    have ok2 : cOk bt p (p + (((e - p).toNat : Nat) : Int)) := fun j h1 h2 => ok j h1 (by omega)
    have el := wKy_len (by omega) z3 ok2 z5 ek
    rw [el] at ek ok2
    have ei := wKy_in2 _ _ _ ok2 z5 ek
    refine h ⟨c, by omega, by omega, by omega, fun j hj => ?_⟩
    rw [ei (j : Int) (by omega) (by omega)]
    show (txC c).getD (0 + (j : Int)).toNat 0 = _
    rw [show (0 + (j : Int)).toNat = j from by omega]
  rw [wd_t hl, ← he]
  refine ⟨fun h8 => ?_, fun h8 => ?_⟩
  · show kWd (wKy bt (min 9 (e - p)).toNat p 0) (e - p) = 27 ∧ tkN (fun _ => wKy bt (min 9 (e - p)).toNat p 0) bt 0 p e
    rw [show (min 9 (e - p)).toNat = (e - p).toNat from by omega]
    exact ⟨kW_n (by omega) (no (by omega)) (by omega), rfl, by omega, h8, ok⟩
  · show kWd (wKy bt (min 9 (e - p)).toNat p 0) (e - p) = -1
    by_cases c9 : 9 < e - p
    · unfold kWd
      exact if_pos c9
    · rw [show (min 9 (e - p)).toNat = (e - p).toNat from by omega]
      exact kW_b c9 (no (by omega)) (by omega)
end
