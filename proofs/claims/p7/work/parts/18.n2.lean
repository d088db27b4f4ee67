section
variable {kd ky : Int → Int} {lo : gL} {w i : Int}
theorem chn_f {f : Int → gR} {t : Int → Bool} {ty : Int} : ∀ (k : Nat) (j : Int) (d : gD) (a : Int × gD), gChn kd f t ty k j d = some a → d.2.1 = false → a.2.2.1 = false := by
  intro k
  induction k with
  | zero => intro j d a h; cases h
  | succ k ih =>
    intro j d a h hd
    have e : gChn kd f t ty (k + 1) j d = if t (kd j) = true then (f (j + 1)).bind fun p => gChn kd f t ty k p.1 (gBo ty ty d p.2) else some (j, d) := rfl
    rw [e] at h
    by_cases c : t (kd j) = true
    · rw [if_pos c] at h
      obtain ⟨b, -, hb⟩ := bind_s h
      exact ih _ _ _ hb rfl
    · rw [if_neg c] at h
      cases h
      exact hd
theorem chn_t {f : Int → gR} {t : Int → Bool} {ty : Int} {k : Nat} {j : Int} {d : gD} {a : Int × gD} (h : gChn kd f t ty k j d = some a) (ha : a.2.2.1 = true) : a = (j, d) := by
  cases k with
  | zero => cases h
  | succ k =>
    have e : gChn kd f t ty (k + 1) j d = if t (kd j) = true then (f (j + 1)).bind fun p => gChn kd f t ty k p.1 (gBo ty ty d p.2) else some (j, d) := rfl
    rw [e] at h
    by_cases c : t (kd j) = true
    · rw [if_pos c] at h
      obtain ⟨b, -, hb⟩ := bind_s h
      rw [chn_f _ _ _ _ hb rfl] at ha
      cases ha
    · rw [if_neg c] at h
      cases h
      rfl
theorem row_t {f : Int → gR} {t : Int → Bool} {ty : Int} {a : Int × gD} (h : gRow kd f t ty i = some a) (ha : a.2.2.1 = true) : f i = some a := by
  obtain ⟨b, hb, hc⟩ := bind_s h
  have e := chn_t hc ha
  rw [hb, e]
theorem al_atm {a : Int × gD} (h : gAtm kd ky lo w i = some a) (ha : a.2.2.1 = true) : kd i = 27 ∧ a.1 = i + 1 := by
  unfold gAtm at h
  by_cases c1 : kd i = 28
  · rw [if_pos c1] at h
    cases h
    cases ha
  · rw [if_neg c1] at h
    by_cases c2 : kd i = 20 ∨ kd i = 21
    · rw [if_pos c2] at h
      cases h
      cases ha
    · rw [if_neg c2] at h
      by_cases c3 : kd i = 34
      · rw [if_pos c3] at h
        obtain ⟨b, hb, hc⟩ := bind_s h
        cases hc
        cases ha
      · rw [if_neg c3] at h
        by_cases c4 : kd i = 27
        · rw [if_pos c4] at h
          unfold gNam at h
          rw [tk_y c4] at h
          have h : (if kd (i + 1) = 36 then _ else _) = some a := h
          by_cases c5 : kd (i + 1) = 36
          · rw [if_pos c5] at h
            obtain ⟨b, hb, hc⟩ := bind_s h
            cases hc
            cases ha
          · rw [if_neg c5] at h
            by_cases c6 : kd (i + 1) = 34
            · rw [if_pos c6] at h
              obtain ⟨b, hb, hc⟩ := bind_s h
              cases hc
              cases ha
            · rw [if_neg c6] at h
              cases h
              exact ⟨c4, rfl⟩
        · rw [if_neg c4] at h
          cases h
theorem al_sum {a : Int × gD} (h : gSum kd ky lo w i = some a) (ha : a.2.2.1 = true) : kd i = 27 ∧ a.1 = i + 1 := by
  unfold gSum at h
  by_cases c : tSum (kd i) = true
  · rw [if_pos c] at h
    obtain ⟨b, hb, hc⟩ := bind_s h
    rw [chn_f _ _ _ _ hc rfl] at ha
    cases ha
  · rw [if_neg c] at h
    exact al_atm (row_t (row_t (row_t h ha) ha) ha) ha
theorem al_rel {a : Int × gD} (h : gRel kd ky lo w i = some a) (ha : a.2.2.1 = true) : kd i = 27 ∧ a.1 = i + 1 := by
  obtain ⟨b, hb, hc⟩ := bind_s h
  by_cases c : 41 ≤ kd b.1 ∧ kd b.1 ≤ 46
  · rw [if_pos c] at hc
    obtain ⟨b2, -, hc2⟩ := bind_s hc
    cases hc2
    cases ha
  · rw [if_neg c] at hc
    cases hc
    exact al_sum hb ha
theorem al_den {a : Int × gD} (h : gDen kd ky lo w i = some a) (ha : a.2.2.1 = true) : kd i = 27 ∧ a.1 = i + 1 := by
  unfold gDen at h
  by_cases c : kd i = 22
  · rw [if_pos c] at h
    obtain ⟨b, -, hc⟩ := bind_s h
    obtain ⟨b2, -, hc2⟩ := bind_s hc
    cases hc2
    cases ha
  · rw [if_neg c] at h
    exact al_rel h ha
theorem al_exp {a : Int × gD} (h : gExp kd ky lo w i = some a) (ha : a.2.2.1 = true) : kd i = 27 ∧ a.1 = i + 1 := by
  unfold gExp at h
  by_cases c : kd i = 11
  · rw [if_pos c] at h
    obtain ⟨b, -, h⟩ := bind_s h
    obtain ⟨b, -, h⟩ := bind_s h
    obtain ⟨b, -, h⟩ := bind_s h
    obtain ⟨b, -, h⟩ := bind_s h
    obtain ⟨b, -, h⟩ := bind_s h
    obtain ⟨b, -, h⟩ := bind_s h
    cases h
    cases ha
  · rw [if_neg c] at h
    exact al_den (row_t (row_t h ha) ha) ha
def gAc2 (kd ky : Int → Int) (i : Int) (d : gD) : gA := (d.2.1, ky i, decide (kd i = 11), d.2.2)
theorem gA_e {a : Int × gD} (h : gExp kd ky lo w i = some a) (hj : kd a.1 = 38 ∨ kd a.1 = 35) : gAc2 kd ky i a.2 = gAc1 kd ky i a.2 := by
  have e : a.2.2.1 = gAlo kd i := by
    cases c : gAlo kd i with
    | true =>
      rw [gExp_al c] at h
      cases h
      rfl
    | false =>
      cases c2 : a.2.2.1 with
      | false => rfl
      | true =>
        obtain ⟨z1, z2⟩ := al_exp h c2
        rw [z2] at hj
        have z : gAlo kd i = true := decide_eq_true ⟨z1, hj⟩
        rw [z] at c
        cases c
  unfold gAc2 gAc1
  rw [e]
end
def acI (kd : Int → Int) (X : Int → gR) (ky : Int → Int) (F : Option (Int × List (Int × Int) × List gA)) (i pos : Int) (so st on tw th nx wh : nA) (w p q h z : Int) : Prop := ∃ (us : List (Int × Int)) (as : List gA) (k : Nat), 3002 ≤ (k : Int) + (pos - i) ∧ F = gAct kd ky X k pos us as ∧ AZ so st on tw th nx wh kd ky w p q h z as
section
variable {kd ky : Int → Int} {lo lo' : gL} {F : Option (Int × List (Int × Int) × List gA)} {i pos pos2 w p q q' h z z2 : Int} {so st on tw th nx wh so' st' on' tw' th' nx' wh' : nA} {us : List (Int × Int)} {as : List gA} {k : Nat} {a : Int × gD} {X : Int → gR}
theorem acI_0 (h0 : kd i = 34) (hl : lo = gBun kd ky lo') (hp : pos = i + 1) (hz : z < 0) : acI kd (gExp kd ky lo' w) ky (gAcs kd ky lo w i) (i + 1) pos so st on tw th nx wh w p q h z := by
  refine ⟨[], [], 3002, by omega, ?_, Or.inl ⟨rfl, hz⟩⟩
  have e : gBun kd ky lo' 0 = gExp kd ky lo' := rfl
  unfold gAcs
  rw [tk_y h0, hl, hp]
  show gAct kd ky (gBun kd ky lo' 0 w) 3002 (i + 1) [] [] = _
  rw [e]
theorem acD_0 (h0 : kd i = 34) (hl : lo = fun _ _ _ => none) : gAcs kd ky lo w i = none := by
  unfold gAcs
  rw [tk_y h0, hl]
  rfl
theorem AZ_ne (H : AZ so st on tw th nx wh kd ky w p q h z as) (h0 : 0 ≤ z) : ¬ as = [] := by
  rcases H with ⟨-, H⟩ | ⟨H, -⟩
  · omega
  · exact H
theorem AZ_e (H : AZ so st on tw th nx wh kd ky w p q h z as) (h0 : z < 0) : as = [] := by
  rcases H with ⟨H, -⟩ | ⟨-, H1, H2, -⟩
  · exact H
  · omega
theorem acI_d (hk : 3002 ≤ (k : Int) + (pos - i)) (hF : F = gAct kd ky X k pos us as) (hi : pos - i ≤ 3001) (hX : X pos = none) : F = none := by
  obtain ⟨j, rfl⟩ : ∃ j : Nat, k = j + 1 := ⟨k - 1, by omega⟩
  rw [hF]
  exact bn hX
theorem acI_n (hk : 3002 ≤ (k : Int) + (pos - i)) (hF : F = gAct kd ky X k pos us as) (hi : pos - i ≤ 3001) (hX : X pos = some a) (h1 : ¬ kd a.1 = 38) (h2 : ¬ kd a.1 = 35) : F = none := by
  obtain ⟨j, rfl⟩ : ∃ j : Nat, k = j + 1 := ⟨k - 1, by omega⟩
  rw [hF]
  refine (bs hX).trans ?_
  unfold gAcE
  rw [if_neg h1]
  exact bn (tk_x h2)
theorem acI_s (hk : 3002 ≤ (k : Int) + (pos - i)) (hF : F = gAct kd ky (gExp kd ky lo' w) k pos us as) (hi : pos - i ≤ 3001) (hX : gExp kd ky lo' w pos = some a) (h1 : kd a.1 = 38) (hp : pos2 = a.1 + 1) (hy : pos + 1 ≤ pos2) (H : AZ so st on tw th nx wh kd ky w p q h z (as ++ [gAc2 kd ky pos a.2])) : acI kd (gExp kd ky lo' w) ky F i pos2 so st on tw th nx wh w p q h z := by
  obtain ⟨j, rfl⟩ : ∃ j : Nat, k = j + 1 := ⟨k - 1, by omega⟩
  rw [gA_e hX (Or.inl h1)] at H
  refine ⟨us ++ a.2.1, as ++ [gAc1 kd ky pos a.2], j, by omega, ?_, H⟩
  rw [hF]
  refine (bs hX).trans ?_
  unfold gAcE
  rw [if_pos h1, hp]
theorem acI_x {xa : Int} (hk : 3002 ≤ (k : Int) + (pos - i)) (hF : F = gAct kd ky (gExp kd ky lo' w) k pos us as) (hi : pos - i ≤ 3001) (hX : gExp kd ky lo' w pos = some a) (h1 : ¬ kd a.1 = 38) (h2 : kd a.1 = 35) (hp : xa = a.1 + 1) (H : AZ so st on tw th nx wh kd ky w p q h z (as ++ [gAc2 kd ky pos a.2])) : acR F xa so st on tw th nx wh kd ky w p q h := by
  obtain ⟨j, rfl⟩ : ∃ j : Nat, k = j + 1 := ⟨k - 1, by omega⟩
  rw [gA_e hX (Or.inr h2)] at H
  refine ⟨(a.1 + 1, us ++ a.2.1, as ++ [gAc1 kd ky pos a.2]), ?_, hp, AZ_T H (by simp)⟩
  rw [hF]
  refine (bs hX).trans ?_
  unfold gAcE
  rw [if_neg h1]
  exact bs (tk_y h2)
theorem aX1_y {e : Int} {lo : Int} (h1 : lo ≤ z) (h2 : z < q) (ho : rd on z = e) (hX : eX so st on tw th nx wh kd ky lo z e a.2 pos w) : aX1 so st on tw th nx wh kd ky w q lo z (gAc2 kd ky pos a.2) := by
  refine ⟨h1, h2, ?_, ?_, ?_⟩
  · rw [ho]; exact hX.1
  · rw [ho]; exact hX.2.1
  · rw [ho]
    intro z
    obtain ⟨y1, y2⟩ := hX.2.2 z
    exact ⟨congrArg ky y1, y2⟩
end
