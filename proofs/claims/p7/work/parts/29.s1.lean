section
variable {so st on tw th fo nx wh : nA} {kd ky : Int → Int} {lo : gL} {w i r q : Int} {X : Int → gR} {p p2 p3 p4 : Int × gD}
theorem Y_el : gEl1 kd X i = (X i).bind fun p =>
  if kd p.1 = 16 then (X (p.1 + 1)).bind fun r => (tkn kd 17 r.1).bind fun k => (X k).bind fun s => some (s.1, bSq (bSq (bEx 1 p.2) (bEx 1 r.2)) (bEx 1 s.2))
  else if kd p.1 = 18 then (X (p.1 + 1)).bind fun r => some (r.1, bSq (bEx 1 p.2) (bEx 2 r.2)) else some (p.1, bEx 1 p.2) := rfl
theorem nD_el0 (h0 : 0 ≤ r) (h1 : r < q) (hb : noB so (r + 1) q) (hs : rd so r = 29) (x : TX so st on tw th nx wh kd ky (r + 1) q (rd on r) p.2.2.2) (hf : rd fo r = 0) (ht : rd tw r < 0) (hh : rd th r < 0) : nD so st on tw th fo nx wh kd ky r q (fun e => ¬ (bEx 1 p.2).2.2.2 e = none) :=
  ⟨h0, h1, hb, Or.inr (Or.inr (Or.inr (Or.inr (Or.inr (Or.inr (Or.inl ⟨hs, _, x, Or.inl ⟨hf, ht, hh, funext fun e => propext bEx_n⟩⟩))))))⟩
theorem nD_el1 (h0 : 0 ≤ r) (h1 : r < q) (hb : noB so (r + 1) q) (hs : rd so r = 29) (x : TX so st on tw th nx wh kd ky (r + 1) q (rd on r) p.2.2.2) (hf : rd fo r = 1) (ht : 0 ≤ rd tw r) (hh : 0 ≤ rd th r) (y : TX so st on tw th nx wh kd ky (r + 1) q (rd tw r) p2.2.2.2) (z : TX so st on tw th nx wh kd ky (r + 1) q (rd th r) p3.2.2.2) : nD so st on tw th fo nx wh kd ky r q (fun e => ¬ (bSq (bSq (bEx 1 p.2) (bEx 1 p2.2)) (bEx 1 p3.2)).2.2.2 e = none) :=
  ⟨h0, h1, hb, Or.inr (Or.inr (Or.inr (Or.inr (Or.inr (Or.inr (Or.inl ⟨hs, _, x, Or.inr (Or.inl ⟨hf, ht, hh, _, _, y, z, funext fun e => propext (by rw [bSq_n, bSq_n, bEx_n, bEx_n, bEx_n, and_assoc])⟩)⟩))))))⟩
theorem nD_el2 (h0 : 0 ≤ r) (h1 : r < q) (hb : noB so (r + 1) q) (hs : rd so r = 29) (x : TX so st on tw th nx wh kd ky (r + 1) q (rd on r) p.2.2.2) (hf : rd fo r = 2) (ht : 0 ≤ rd tw r) (hh : rd th r < 0) (y : TX so st on tw th nx wh kd ky (r + 1) q (rd tw r) p2.2.2.2) : nD so st on tw th fo nx wh kd ky r q (fun e => ¬ (bSq (bEx 1 p.2) (bEx 2 p2.2)).2.2.2 e = none) :=
  ⟨h0, h1, hb, Or.inr (Or.inr (Or.inr (Or.inr (Or.inr (Or.inr (Or.inl ⟨hs, _, x, Or.inr (Or.inr ⟨hf, ht, hh, _, y, funext fun e => propext (by rw [bSq_n, bEx_n, bEx_n])⟩)⟩))))))⟩
theorem Y_bn : gBnd kd X i = (X i).bind fun p => (tkn kd 40 p.1).bind fun i => (X i).bind fun r => some (r.1, bSq (bEx 1 p.2) (bEx 1 r.2)) := rfl
theorem Y_bds : gBds kd X i = (tkn kd 36 i).bind fun i => (X i).bind fun p => (tkn kd 40 p.1).bind fun i => (X i).bind fun r =>
  if kd r.1 = 38 then (X (r.1 + 1)).bind fun p3 => (tkn kd 40 p3.1).bind fun i => (X i).bind fun p4 => (tkn kd 37 p4.1).bind fun j => some (j, bSq (bSq (bEx 1 p.2) (bEx 1 r.2)) (bSq (bEx 1 p3.2) (bEx 1 p4.2)), 2) else (tkn kd 37 r.1).bind fun j => some (j, bSq (bEx 1 p.2) (bEx 1 r.2), 1) := by
  unfold gBds gBnd
  cases tkn kd 36 i with
  | none => rfl
  | some i =>
    show ((X i).bind _).bind _ = (X i).bind _
    cases X i with
    | none => rfl
    | some p =>
      show ((tkn kd 40 p.1).bind _).bind _ = (tkn kd 40 p.1).bind _
      cases tkn kd 40 p.1 with
      | none => rfl
      | some i =>
        show ((X i).bind _).bind _ = (X i).bind _
        cases X i with
        | none => rfl
        | some s =>
          show (if kd s.1 = 38 then _ else _) = (if kd s.1 = 38 then _ else _)
          split
          · show ((X (s.1 + 1)).bind _).bind _ = (X (s.1 + 1)).bind _
            cases X (s.1 + 1) with
            | none => rfl
            | some p3 =>
              show ((tkn kd 40 p3.1).bind _).bind _ = (tkn kd 40 p3.1).bind _
              cases tkn kd 40 p3.1 with
              | none => rfl
              | some i =>
                show ((X i).bind _).bind _ = (X i).bind _
                cases X i with
                | none => rfl
                | some s => rfl
          · rfl
theorem nD_sg1 (h0 : 0 ≤ r) (h1 : r < q) (hb : noB so (r + 1) q) (hs : rd so r = 30) (x : TX so st on tw th nx wh kd ky (r + 1) q (rd on r) p.2.2.2) (y : TX so st on tw th nx wh kd ky (r + 1) q (rd tw r) p2.2.2.2) (hh : rd th r < 0) : nD so st on tw th fo nx wh kd ky r q (fun e => ¬ (bSq (bEx 1 p.2) (bEx 1 p2.2)).2.2.2 e = none) :=
  ⟨h0, h1, hb, Or.inr (Or.inr (Or.inr (Or.inr (Or.inr (Or.inr (Or.inr ⟨hs, _, _, x, y, Or.inl ⟨hh, funext fun e => propext (by rw [bSq_n, bEx_n, bEx_n])⟩⟩))))))⟩
theorem nD_sg2 (h0 : 0 ≤ r) (h1 : r < q) (hb : noB so (r + 1) q) (hs : rd so r = 30) (x : TX so st on tw th nx wh kd ky (r + 1) q (rd on r) p.2.2.2) (y : TX so st on tw th nx wh kd ky (r + 1) q (rd tw r) p2.2.2.2) (hh : 0 ≤ rd th r) (z : TX so st on tw th nx wh kd ky (r + 1) q (rd th r) p3.2.2.2) (u : TX so st on tw th nx wh kd ky (r + 1) q (rd fo r) p4.2.2.2) : nD so st on tw th fo nx wh kd ky r q (fun e => ¬ (bSq (bSq (bEx 1 p.2) (bEx 1 p2.2)) (bSq (bEx 1 p3.2) (bEx 1 p4.2))).2.2.2 e = none) :=
  ⟨h0, h1, hb, Or.inr (Or.inr (Or.inr (Or.inr (Or.inr (Or.inr (Or.inr ⟨hs, _, _, x, y, Or.inr ⟨hh, _, _, z, u, funext fun e => propext (by rw [bSq_n, bSq_n, bSq_n, bEx_n, bEx_n, bEx_n, bEx_n, and_assoc])⟩⟩))))))⟩
theorem Y_jn (h : kd i = 19) (h1 : ¬ kd (i + 1) = 27) : gJmp kd ky lo w i = none := by
  unfold gJmp gLaU
  rw [tk_y h]
  show (if kd (i + 1 + 1) = 36 then _ else _) = none
  rw [tk_x h1]
  split <;> rfl
theorem Y_j0 (h : kd i = 19) (h1 : kd (i + 1) = 27) (h2 : ¬ kd (i + 1 + 1) = 36) : gJmp kd ky lo w i = some (i + 1 + 1, bUs (i + 1) w (dLa w (ky (i + 1)))) := by
  unfold gJmp gLaU
  rw [tk_y h]
  show (if kd (i + 1 + 1) = 36 then _ else _) = _
  rw [if_neg h2, tk_y h1]
  rfl
theorem Y_j1 (h : kd i = 19) (h1 : kd (i + 1) = 27) (h2 : kd (i + 1 + 1) = 36) : gJmp kd ky lo w i = (gBr2 kd lo w (i + 1 + 1) 36 37).bind fun p => some (p.1, bSq (bUs (i + 1) w (fun e => xSw e (gMe e w (ky (i + 1))))) (bEx 1 p.2)) := by
  unfold gJmp gBr2
  rw [tk_y h]
  show (if kd (i + 1 + 1) = 36 then _ else _) = _
  rw [if_pos h2, tk_y h1]
  show (tkn kd 36 (i + 1 + 1)).bind _ = _
  rw [tk_y h2]
  show ((lo 0 w (i + 1 + 1 + 1)).bind _) = ((lo 0 w (i + 1 + 1 + 1)).bind _).bind _
  cases lo 0 w (i + 1 + 1 + 1) with
  | none => rfl
  | some p =>
    show (tkn kd 37 p.1).bind _ = ((tkn kd 37 p.1).bind _).bind _
    cases tkn kd 37 p.1 <;> rfl
theorem nD_j0 {t : Int} (h0 : 0 ≤ r) (h1 : r < q) (hb : noB so (r + 1) q) (hs : rd so r = 24) (ht : rd st r = t) (hw : rd wh r = w + 1) (hk : kd t = 27) (h2 : rd tw r < 0) : nD so st on tw th fo nx wh kd ky r q (fun e => ¬ (bUs t w (dLa w (ky t))).2.2.2 e = none) :=
  ⟨h0, h1, hb, Or.inr (Or.inr (Or.inl ⟨hs, by rw [ht]; exact hk, Or.inl ⟨h2, by rw [ht, hw, show w + 1 - 1 = w from by omega]; rfl⟩⟩))⟩
theorem nD_j1 {t : Int} (h0 : 0 ≤ r) (h1 : r < q) (hb : noB so (r + 1) q) (hs : rd so r = 24) (ht : rd st r = t) (hw : rd wh r = w + 1) (hk : kd t = 27) (h2 : 0 ≤ rd tw r) (x : TX so st on tw th nx wh kd ky (r + 1) q (rd tw r) p.2.2.2) : nD so st on tw th fo nx wh kd ky r q (fun e => ¬ (bSq (bUs t w (fun e => xSw e (gMe e w (ky t)))) (bEx 1 p.2)).2.2.2 e = none) :=
  ⟨h0, h1, hb, Or.inr (Or.inr (Or.inl ⟨hs, by rw [ht]; exact hk, Or.inr ⟨h2, _, x, by rw [ht, hw, show w + 1 - 1 = w from by omega]; exact funext fun e => propext (by rw [bSq_n, bEx_n]; rfl)⟩⟩))⟩
def gPri (kd : Int → Int) (lo : gL) (w i : Int) : Option (Int × gB) := (tkn kd 26 i).bind fun i => (gBr2 kd lo w i 34 35).bind fun p => some (p.1, bEx 1 p.2)
theorem Y_pr (h : kd i = 26) : gPri kd lo w i = (gBr2 kd lo w (i + 1) 34 35).bind fun p => some (p.1, bEx 1 p.2) := by
  unfold gPri
  rw [tk_y h]
  rfl
theorem nD_pr (h0 : 0 ≤ r) (h1 : r < q) (hb : noB so (r + 1) q) (hs : rd so r = 27) (x : TX so st on tw th nx wh kd ky (r + 1) q (rd on r) p.2.2.2) : nD so st on tw th fo nx wh kd ky r q (fun e => ¬ (bEx 1 p.2).2.2.2 e = none) :=
  ⟨h0, h1, hb, Or.inr (Or.inr (Or.inr (Or.inr (Or.inr (Or.inl ⟨hs, _, x, funext fun e => propext bEx_n⟩)))))⟩
theorem nD_if (h0 : 0 ≤ r) (h1 : r < q) (hb : noB so (r + 1) q) (hs : rd so r = 25) (x : TX so st on tw th nx wh kd ky (r + 1) q (rd on r) p.2.2.2) : nD so st on tw th fo nx wh kd ky r q (fun e => ¬ (bEx 2 p.2).2.2.2 e = none) :=
  ⟨h0, h1, hb, Or.inr (Or.inr (Or.inr (Or.inl ⟨hs, _, x, funext fun e => propext bEx_n⟩)))⟩
theorem Y_cl0 (h : kd i = 27) (h2 : ¬ kd (i + 1) = 34) : gCll kd ky lo w i = some (i + 1, bUs i w (fun e => xCl e (gMe e w (ky i)) 0)) := by
  unfold gCll
  rw [tk_y h]
  exact if_neg h2
theorem Y_cl1 (h : kd i = 27) (h2 : kd (i + 1) = 34) : gCll kd ky lo w i = (gAcs kd ky lo w (i + 1)).bind fun q => some (q.1, ((i, w) :: q.2.1, [], [], dCl w (ky i) q.2.2)) := by
  unfold gCll
  rw [tk_y h]
  exact if_pos h2
theorem nD_c0 {t : Int} (h0 : 0 ≤ r) (h1 : r < q) (hb : noB so (r + 1) q) (hs : rd so r = 23) (ht : rd st r = t) (hw : rd wh r = w + 1) (hk : kd t = 27) (h2 : rd on r < 0) : nD so st on tw th fo nx wh kd ky r q (fun e => ¬ (bUs t w (fun e => xCl e (gMe e w (ky t)) 0)).2.2.2 e = none) :=
  ⟨h0, h1, hb, Or.inr (Or.inl ⟨hs, by rw [ht]; exact hk, Or.inl ⟨h2, by rw [ht, hw, show w + 1 - 1 = w from by omega]; rfl⟩⟩)⟩
theorem nD_c1 {t : Int} {as : List gA} {us : List (Int × Int)} (h0 : 0 ≤ r) (h1 : r < q) (hb : noB so (r + 1) q) (hs : rd so r = 23) (ht : rd st r = t) (hw : rd wh r = w + 1) (hk : kd t = 27) (h2 : 0 ≤ rd on r) (x : TA so st on tw th nx wh kd ky w (r + 1) q as (rd on r)) : nD so st on tw th fo nx wh kd ky r q (fun e => ¬ ((us, [], [], dCl w (ky t) as) : gB).2.2.2 e = none) :=
  ⟨h0, h1, hb, Or.inr (Or.inl ⟨hs, by rw [ht]; exact hk, Or.inr ⟨h2, as, by rw [hw, show w + 1 - 1 = w from by omega]; exact x, by rw [ht, hw, show w + 1 - 1 = w from by omega]⟩⟩)⟩
theorem nm_a (h : kd (i + 1) = 47 ∨ kd (i + 1) = 36) : gNmS kd ky lo w i = gAsn kd ky lo w i := if_pos h
theorem nm_c (h : ¬ (kd (i + 1) = 47 ∨ kd (i + 1) = 36)) : gNmS kd ky lo w i = gCll kd ky lo w i := if_neg h
theorem Y_l1 (h : kd i = 27) (h2 : kd (i + 1) = 36) : gLf1 kd ky lo w i = (gSub kd lo w (i + 1)).bind fun q => (tkn kd 47 q.1).bind fun k => some (k, ((i, w) :: q.2.1, false, dEl w (ky i) q.2.2.2)) := by
  unfold gLf1
  rw [tk_y h]
  exact if_pos h2
theorem Y_l0 (h : kd i = 27) (h2 : ¬ kd (i + 1) = 36) : gLf1 kd ky lo w i = (tkn kd 47 (i + 1)).bind fun k => some (k, ([(i, w)], false, dTa w (ky i))) := by
  unfold gLf1
  rw [tk_y h]
  exact if_neg h2
end
def lfN (kd ky : Int → Int) (i : Int) : Prop := ¬ gLfT kd i = true ∨ (kd i = 27 ∧ kd (i + 1) = 36 ∧ ∀ n w, gSub kd (gLev kd ky n) w (i + 1) = none)
def asI (F : Option (Int × gB)) (i pos : Int) (so st on tw th nx wh : nA) (kd ky : Int → Int) (lo : gL) (w r q h z : Int) : Prop := ∃ (k : Nat) (acc : gD → gD), 3002 ≤ (k : Int) + (pos - i) ∧ F = ((gLf1 kd ky lo w pos).bind fun p => gLfs kd ky lo w k p.1 (acc p.2)) ∧ kd pos = 27 ∧ ((z < 0 ∧ ∀ p, (acc p).2.2 = p.2.2) ∨ (0 ≤ z ∧ rd nx z = -1 ∧ ∃ d ds, lfS so st on tw th nx wh kd ky w q (d :: ds) (r + 1) h z ∧ ∀ p, (acc p).2.2 = lfA (ds.foldl lfA d) p.2.2))
section
variable {so st on tw th fo nx wh : nA} {kd ky : Int → Int} {lo : gL} {w i pos r q h z : Int} {F : Option (Int × gB)} {p : Int × gD} {k : Nat} {acc : gD → gD}
theorem asI_0 (hk : kd i = 27) (hz : z < 0) (hp : pos = i) (hF : F = gAsn kd ky lo w i) : asI F i pos so st on tw th nx wh kd ky lo w r q h z := ⟨3002, id, by omega, by rw [hF, hp]; rfl, by rw [hp]; exact hk, Or.inl ⟨hz, fun _ => rfl⟩⟩
theorem lf_z {n : Nat} : ¬ gScn kd n 0 0 = true → True := fun _ => trivial
theorem lfT_k (h : gLfT kd i = true) : kd i = 27 := by
  unfold gLfT at h
  by_cases c : kd i = 27
  · exact c
  · rw [if_neg c] at h
    cases h
theorem gLfs_s (hk : 3002 ≤ (k : Int) + (pos - i)) (hp : pos - i ≤ 3001) : ∃ k' : Nat, k = k' + 1 := ⟨k - 1, by omega⟩
theorem asI_s {pos2 z2 h2 q2 : Int} {d : gV → Option Int} {ds : List (gV → Option Int)} (hk : 3002 ≤ (k : Int) + (pos - i)) (hF : F = ((gLf1 kd ky lo w pos).bind fun p => gLfs kd ky lo w k p.1 (acc p.2))) (hp : gLf1 kd ky lo w pos = some p) (hx : pos2 = p.1) (hlt : pos < pos2) (hle : pos2 - i ≤ 3001) (hT : gLfT kd pos2 = true) (hz : 0 ≤ z2) (hn : rd nx z2 = -1) (hl : lfS so st on tw th nx wh kd ky w q2 (d :: ds) (r + 1) h2 z2) (ha : (acc p.2).2.2 = ds.foldl lfA d) : asI F i pos2 so st on tw th nx wh kd ky lo w r q2 h2 z2 := by
  obtain ⟨k', rfl⟩ : ∃ k' : Nat, k = k' + 1 := ⟨k - 1, by omega⟩
  refine ⟨k', gLfS (acc p.2), by omega, ?_, lfT_k hT, Or.inr ⟨hz, hn, d, ds, hl, fun p' => ?_⟩⟩
  · rw [hF, bs hp, ← hx]
    show (if gLfT kd pos2 = true then _ else _) = _
    rw [if_pos hT]
  · show lfA (acc p.2).2.2 p'.2.2 = _
    rw [ha]
theorem asI_x {p2 : Int × gD} {pos2 : Int} (hk : 3002 ≤ (k : Int) + (pos - i)) (hF : F = ((gLf1 kd ky lo w pos).bind fun p => gLfs kd ky lo w k p.1 (acc p.2))) (hp : gLf1 kd ky lo w pos = some p) (hx : pos2 = p.1) (hle : pos - i ≤ 3001) (hT : lfN kd ky pos2) (hlo : ∃ n, lo = gLev kd ky n) (hE : gExp kd ky lo w pos2 = some p2) (hx36 : kd pos2 = 27 → kd (pos2 + 1) = 36 → gSub kd lo w (pos2 + 1) = none → gExp kd ky lo w pos2 = none) : F = some (p2.1, gAsE (acc p.2) p2.2) := by
  obtain ⟨k', rfl⟩ : ∃ k' : Nat, k = k' + 1 := ⟨k - 1, by omega⟩
  rw [hF, bs hp, ← hx]
  show (if gLfT kd pos2 = true then _ else _) = _
  rcases hT with hT | ⟨t1, t2, t3⟩
  · rw [if_neg hT, bs hE]
  · obtain ⟨n, rfl⟩ := hlo
    rw [hx36 t1 t2 (t3 n w)] at hE
    cases hE
theorem asI_n {pos2 : Int} (hk : 3002 ≤ (k : Int) + (pos - i)) (hF : F = ((gLf1 kd ky lo w pos).bind fun p => gLfs kd ky lo w k p.1 (acc p.2))) (hp : gLf1 kd ky lo w pos = some p) (hx : pos2 = p.1) (hle : pos - i ≤ 3001) (hT : lfN kd ky pos2) (hlo : ∃ n, lo = gLev kd ky n) (hE : gExp kd ky lo w pos2 = none) : F = none := by
  obtain ⟨k', rfl⟩ : ∃ k' : Nat, k = k' + 1 := ⟨k - 1, by omega⟩
  rw [hF, bs hp, ← hx]
  show (if gLfT kd pos2 = true then _ else _) = _
  by_cases c : gLfT kd pos2 = true
  · rw [if_pos c]
    rcases hT with hT | ⟨t1, t2, t3⟩
    · exact absurd c hT
    · obtain ⟨n, rfl⟩ := hlo
      rw [Y_l1 t1 t2, t3 n w]
      rfl
  · rw [if_neg c, hE]
    rfl
theorem asI_d (hF : F = ((gLf1 kd ky lo w pos).bind fun p => gLfs kd ky lo w k p.1 (acc p.2))) (hp : gLf1 kd ky lo w pos = none) : F = none := by
  rw [hF, hp]
  rfl
theorem ex_36 (h : kd i = 27) (h2 : kd (i + 1) = 36) (hs : gSub kd lo w (i + 1) = none) : gExp kd ky lo w i = none := by
  have a : gAtm kd ky lo w i = none := by rw [X_n36 h h2, hs]; rfl
  have b : ∀ {f : Int → gR} {t : Int → Bool} {ty : Int}, f i = none → gRow kd f t ty i = none := fun z => by unfold gRow; rw [z]; rfl
  have s : gSum kd ky lo w i = none := by
    unfold gSum
    rw [if_neg (by intro c; have := of_decide_eq_true c; omega)]
    exact b (b (b a))
  rw [X_e0 (by omega)]
  refine b (b ?_)
  rw [X_d0 (by omega), X_rn s]
theorem nD_as {d : gV → Option Int} {ds : List (gV → Option Int)} {a : gD} {p2 : Int × gD} (h0 : 0 ≤ r) (h1 : r < q) (hb : noB so (r + 1) q) (hs : rd so r = 22) (hw : rd wh r = w + 1) (hl : lfS so st on tw th nx wh kd ky w q (d :: ds) (r + 1) (rd on r) z) (hn : rd nx z = -1) (x : TX so st on tw th nx wh kd ky (r + 1) q (rd tw r) p2.2.2.2) (ha : a.2.2 = ds.foldl lfA d) : nD so st on tw th fo nx wh kd ky r q (fun e => ¬ (gAsE a p2.2).2.2.2 e = none) :=
  ⟨h0, h1, hb, Or.inl ⟨hs, d, ds, _, z, by rw [hw, show w + 1 - 1 = w from by omega]; exact hl, hn, x, by
    funext e
    show (¬ ((a.2.2 e).bind _) = none) = _
    rw [ha]
    rfl⟩⟩
theorem lfS_1 {d : gV → Option Int} {l : Int} (h1 : r < l) (h2 : l < q) (h : lf1 so st on tw th nx wh kd ky w q l d) : lfS so st on tw th nx wh kd ky w q [d] (r + 1) l l := ⟨rfl, by omega, h2, h⟩
theorem lf1_a {l t : Int} (hk : kd t = 27) (ht : rd st l = t) (hw : rd wh l = w + 1) (hs : rd so l = 3) : lf1 so st on tw th nx wh kd ky w q l (dTa w (ky t)) := ⟨by rw [ht]; exact hk, hw, Or.inl ⟨hs, by rw [ht]⟩⟩
theorem lf1_b {l t : Int} {c : gV → Option Int} (hk : kd t = 27) (ht : rd st l = t) (hw : rd wh l = w + 1) (hs : rd so l = 4) (x : TS so st on tw th nx wh kd ky (l + 1) q l c) : lf1 so st on tw th nx wh kd ky w q l (dEl w (ky t) c) := ⟨by rw [ht]; exact hk, hw, Or.inr ⟨hs, c, x, by rw [ht]⟩⟩
end
def slI (kd : Int → Int) (i t o : Int) : Prop := i < t ∧ kd i = 27 ∧ kd (i + 1) = 36 ∧ gLfT kd i = gScn kd (3003 + i - t).toNat t o ∧ o = sSm kd (t - (i + 1)).toNat (i + 1) ∧ ((t = i + 1 ∧ o = 0) ∨ 0 < o) ∧ ∀ s : Int, i + 1 < s → s ≤ t → 0 < sSm kd (s - (i + 1)).toNat (i + 1)
section
variable {kd ky : Int → Int} {i t t2 o o2 : Int}
theorem lfT_n (h : ¬ kd i = 27) : ¬ gLfT kd i = true := by
  unfold gLfT
  rw [if_neg h]
  exact Bool.false_ne_true
theorem lfT_1 (h : kd i = 27) (h2 : ¬ kd (i + 1) = 36) : gLfT kd i = decide (kd (i + 1) = 47) := by
  unfold gLfT
  rw [if_pos h, if_neg h2]
theorem slI_0 (h : kd i = 27) (h2 : kd (i + 1) = 36) (ht : t = i + 1) (ho : o = 0) : slI kd i t o := by
  refine ⟨by omega, h, h2, ?_, ?_, Or.inl ⟨ht, ho⟩, fun s a b => by omega⟩
  · unfold gLfT
    rw [if_pos h, if_pos h2, ho, sc_i ht]
  · rw [ho, ht, show (i + 1 - (i + 1)).toNat = 0 from by omega]
    rfl
theorem sSm_1 (h0 : i + 1 ≤ t) (h2 : t2 = t + 1) (ho : o = sSm kd (t - (i + 1)).toNat (i + 1)) (hb : (kd t = 36 ∧ o2 = o + 1) ∨ (¬ kd t = 36 ∧ kd t = 37 ∧ o2 = o - 1) ∨ (¬ kd t = 36 ∧ ¬ kd t = 37 ∧ o2 = o)) : o2 = sSm kd (t2 - (i + 1)).toNat (i + 1) := by
  rw [show (t2 - (i + 1)).toNat = (t - (i + 1)).toNat + 1 from by omega, sSm_a, ← ho, show i + 1 + (((t - (i + 1)).toNat : Nat) : Int) = t from by omega]
  show o2 = o + (sBt kd t + 0)
  unfold sBt
  rcases hb with h | h | h
  · rw [if_pos h.1]; omega
  · rw [if_neg h.1, if_pos h.2.1]; omega
  · rw [if_neg h.1, if_neg h.2.1]; omega
theorem slI_s (h : slI kd i t o) (h0 : 0 ≤ i) (h1 : t ≤ 3001) (h2 : t2 = t + 1) (hb : (kd t = 36 ∧ o2 = o + 1) ∨ (¬ kd t = 36 ∧ kd t = 37 ∧ o2 = o - 1) ∨ (¬ kd t = 36 ∧ ¬ kd t = 37 ∧ o2 = o)) (hp : 0 < o2) : slI kd i t2 o2 := by
  obtain ⟨a1, a2, a3, a4, a5, a6, a7⟩ := h
  have e := sSm_1 (by omega) h2 a5 hb
  refine ⟨by omega, a2, a3, a4.trans (sc_n h0 h1 h2 hb (by omega)), e, Or.inr hp, fun s b1 b2 => ?_⟩
  by_cases c : s = t2
  · rw [c, ← e]
    exact hp
  · exact a7 s b1 (by omega)
theorem slI_e (h : slI kd i t o) (h0 : 0 ≤ i) (h1 : t ≤ 3001) (h2 : t2 = t + 1) (hb : (kd t = 36 ∧ o2 = o + 1) ∨ (¬ kd t = 36 ∧ kd t = 37 ∧ o2 = o - 1) ∨ (¬ kd t = 36 ∧ ¬ kd t = 37 ∧ o2 = o)) (hp : o2 = 0) : gLfT kd i = decide (kd t2 = 47) := by
  rw [h.2.2.2.1, sc_e h0 h1 hb hp, h2]
theorem slI_p (h : slI kd i t o) (hb : (kd t = 36 ∧ o2 = o + 1) ∨ (¬ kd t = 36 ∧ kd t = 37 ∧ o2 = o - 1) ∨ (¬ kd t = 36 ∧ ¬ kd t = 37 ∧ o2 = o)) : 0 ≤ o2 := by
  obtain ⟨a1, a2, a3, a4, a5, a6, a7⟩ := h
  rcases a6 with ⟨c1, c2⟩ | c
  · rw [c1] at hb
    omega
  · omega
theorem slI_b (h : slI kd i t o) (h0 : 0 ≤ i) (h1 : t ≤ 3001) (h2 : t2 = t + 1) (hb : (kd t = 36 ∧ o2 = o + 1) ∨ (¬ kd t = 36 ∧ kd t = 37 ∧ o2 = o - 1) ∨ (¬ kd t = 36 ∧ ¬ kd t = 37 ∧ o2 = o)) (hp : 0 < o2) (hk : kd t2 ≤ 0) : lfN kd ky i := by
  have g := slI_s h h0 h1 h2 hb hp
  obtain ⟨a1, a2, a3, a4, a5, a6, a7⟩ := g
  refine Or.inr ⟨a2, a3, fun n w => ?_⟩
  cases hs : gSub kd (gLev kd ky n) w (i + 1) with
  | none => rfl
  | some p =>
    obtain ⟨⟨q1, q2, q3, q4⟩, q5, q6, q7⟩ := q_sub (q_lev n) hs
    have c1 : ¬ t2 < p.1 := fun c => by have := (q2 t2 (by omega) c).1; omega
    have c2 : i + 1 < p.1 := by
      by_cases c : i + 1 = p.1
      · exfalso
        have := q6.1
        omega
      · omega
    have := a7 p.1 c2 (by omega)
    omega
end
theorem noB_e {so : nA} {lo hi : Int} (h : hi ≤ lo) : noB so lo hi := fun e _ a b => by omega
theorem noB_l {so : nA} {lo lo2 hi : Int} (h : noB so lo hi) (e : lo ≤ lo2) : noB so lo2 hi := fun c a b d => h c a (by omega) d
theorem noB_nd {so : nA} {lo hi hi2 : Int} {i v : Int32} (h : noB so lo hi) (h0 : 0 ≤ i.toInt) (hi9 : i.toInt = hi) (h2 : hi2 = hi + 1) (hv : v.toInt ≤ 18) : noB (upd so i.toNatClampNeg v) lo hi2 := fun c a b d => by
  by_cases q : c = i.toInt
  · rw [q, rd_s h0]
    exact hv
  · rw [rd_n h0 a q]
    exact h c a b (by omega)
theorem noB_P {so so' : nA} {lo hi hi2 x : Int} (h : noB so lo hi) (g : ∀ c : Int, 0 ≤ c → c < hi → c ≠ x → rd so' c = rd so c) (k : noB so' hi hi2) (hx : rd so' x ≤ 18) : noB so' lo hi2 := fun c a b d => by
  by_cases q : c = x
  · rw [q]
    exact hx
  · by_cases p : c < hi
    · rw [g c a p q]
      exact h c a b p
    · exact k c a (by omega) d
section
variable {so st on tw th nx wh so' st' on' tw' th' nx' wh' so2 st2 on2 tw2 th2 nx2 wh2 : nA} {kd ky : Int → Int}
theorem aq_t {p q : Int} (h : aq p q so st on tw th nx wh so' st' on' tw' th' nx' wh') (g : aq p q so' st' on' tw' th' nx' wh' so2 st2 on2 tw2 th2 nx2 wh2) : aq p q so st on tw th nx wh so2 st2 on2 tw2 th2 nx2 wh2 := fun c a1 a2 a3 => by
  obtain ⟨e1, e2, e3, e4, e5, e6, e7⟩ := h c a1 a2 a3
  obtain ⟨f1, f2, f3, f4, f5, f6, f7⟩ := g c a1 a2 a3
  exact ⟨f1.trans e1, f2.trans e2, f3.trans e3, f4.trans e4, f5.trans e5, f6.trans e6, f7.trans e7⟩
theorem ls_h {w q lo a b z : Int} {ds : List (gV → Option Int)} (h : lfS so st on tw th nx wh kd ky w q ds lo a z) (e : b = a) : lfS so st on tw th nx wh kd ky w q ds lo b z := by
  rw [e]
  exact h
theorem fl_a {d a : gV → Option Int} {ds : List (gV → Option Int)} : (ds ++ [d]).foldl lfA a = lfA (ds.foldl lfA a) d := by
  rw [List.foldl_append]
  rfl
theorem lfS_w {w q q2 : Int} (hq : q ≤ q2) : ∀ (ds : List (gV → Option Int)) (lo a z : Int), lfS so st on tw th nx wh kd ky w q ds lo a z → lfS so st on tw th nx wh kd ky w q2 ds lo a z := by
  intro ds
  induction ds with
  | nil => intro lo a z h; exact h
  | cons d ds ih =>
    intro lo a z h
    cases ds with
    | nil =>
      obtain ⟨h1, h2, h3, h4⟩ := h
      exact ⟨h1, h2, by omega, lf1_w h4 hq⟩
    | cons d2 ds =>
      obtain ⟨h1, h2, k, k1, k2, k3, k4⟩ := h
      exact ⟨h1, h2, k, k1, by omega, k3, ih _ _ _ k4⟩
end
