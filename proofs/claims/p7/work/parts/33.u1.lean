def chW3 (so st nx wh : nA) (kd : Int → Int) (w a : Int) (n : Nat) : Prop := ∀ j : Nat, j < n → rd so (a + (j : Int)) = 3 ∧ kd (rd st (a + (j : Int))) = 27 ∧ rd wh (a + (j : Int)) = w + 1 ∧ rd nx (a + (j : Int)) = if j + 1 < n then a + (j : Int) + 1 else -1
def swI (kd ky : Int → Int) (F : Option (Int × gB)) (i pos n en : Int) (so st nx wh li : nA) (k a hi w : Int) (ev : List gE) : Prop := ∃ (f m : Nat) (x : Int × gB), (m : Int) = n ∧ 3002 ≤ (f : Int) + (pos + 1 - i) ∧ F = ((gLp kd 38 (sSw kd ky w) f (pos + 1) x).bind fun p => some (p.1, p.2.2)) ∧ x.1 = n ∧ x.2.2.1 = ev ∧ a + n = hi ∧ 0 ≤ a ∧ ((n = 0 ∧ en < 0) ∨ (0 < n ∧ en = hi - 1 ∧ rd li k = a)) ∧ chW3 so st nx wh kd w a m ∧ ∀ e, (¬ x.2.2.2.2 e = none ↔ ∀ j : Nat, j < m → ¬ dLa w (ky (rd st (a + (j : Int)))) e = none)
def swR (F : Option (Int × gB)) (xa : Int) (P : gV → Prop) (pl : Int → Int) (x0 : gW) (xw : Int) (so st on tw th fo nx wh wt li : nA) (kd ky : Int → Int) (lo hi klo khi : Int) : Prop := ∃ a, F = some a ∧ xa = a.1 ∧ RQ P (gRun pl a.2.2.1 x0) xw ∧ FLX so st on tw th fo nx wh wt li kd ky lo hi klo khi a.2.2.2.2
section
variable {so st on tw th fo nx wh so' st' nx' wh' li li' wt : nA} {kd ky pl : Int → Int} {F : Option (Int × gB)} {i pos pos2 n n2 en k a hi hi2 w : Int} {ev : List gE}
theorem Y_sw (h : kd i = 9) (h1 : kd (i + 1) = 27) (h2 : kd (i + 1 + 1) = 47) : gSwi kd ky w i = (gLp kd 38 (sSw kd ky w) 3002 (i + 1 + 1 + 1) (0, bEv (vD ky (i + 1) 4 0 w))).bind fun p => some (p.1, p.2.2) := by
  unfold gSwi
  rw [tk_y h]
  show (tkn kd 27 (i + 1)).bind _ = _
  rw [tk_y h1]
  show (tkn kd 47 (i + 1 + 1)).bind _ = _
  rw [tk_y h2]
  rfl
theorem Y_swn (h : kd i = 9) (h1 : ¬ kd (i + 1) = 27) : gSwi kd ky w i = none := by
  unfold gSwi
  rw [tk_y h]
  show (tkn kd 27 (i + 1)).bind _ = _
  rw [tk_x h1]
  rfl
theorem Y_swm (h : kd i = 9) (h1 : kd (i + 1) = 27) (h2 : ¬ kd (i + 1 + 1) = 47) : gSwi kd ky w i = none := by
  unfold gSwi
  rw [tk_y h]
  show (tkn kd 27 (i + 1)).bind _ = _
  rw [tk_y h1]
  show (tkn kd 47 (i + 1 + 1)).bind _ = _
  rw [tk_x h2]
  rfl
theorem sw_0 (h : kd i = 9) (h1 : kd (i + 1) = 27) (h2 : kd (i + 1 + 1) = 47) (hp : pos = i + 1 + 1) (ha : a = hi) (h0 : 0 ≤ a) (hn : n = 0) (he : en < 0) : swI kd ky (gSwi kd ky w i) i pos n en so st nx wh li k a hi w [vD ky (i + 1) 4 0 w] := by
  subst hp hn
  exact ⟨3002, 0, (0, bEv (vD ky (i + 1) 4 0 w)), rfl, by omega, Y_sw h h1 h2, rfl, rfl, by omega, h0, Or.inl ⟨rfl, he⟩, fun j hj => absurd hj (by omega), fun e => ⟨fun _ j hj => absurd hj (by omega), fun _ z => by cases z⟩⟩
theorem sSw_y {x : Int × gB} (hk : kd pos = 27) (hn : x.1 < 20) : sSw kd ky w x pos = some (pos + 1, x.1 + 1, bSq x.2 (bUs pos w (dLa w (ky pos)))) := by
  unfold sSw gLaU
  rw [if_pos hn, tk_y hk]
  rfl
theorem sSw_n {x : Int × gB} (h : ¬ (kd pos = 27 ∧ x.1 < 20)) : sSw kd ky w x pos = none := by
  unfold sSw gLaU
  by_cases hq : x.1 < 20
  · rw [if_pos hq, tk_x (fun z => h ⟨z, hq⟩)]
    rfl
  · rw [if_neg hq]
    rfl
theorem sw_d (h : swI kd ky F i pos n en so st nx wh li k a hi w ev) (hk : ¬ (kd (pos + 1) = 27 ∧ n < 20)) : F = none := by
  obtain ⟨f, m, x, h1, h2, h3, h4, -⟩ := h
  rw [h3, gLq_n (sSw_n (by rw [h4]; exact hk))]
  rfl
theorem sw_r (h : swI kd ky F i pos n en so st nx wh li k a hi w ev) (hk : kd (pos + 1) = 27) (hn : n < 20) (hle : pos + 1 - i ≤ 3001) (g : ∀ c : Int, a ≤ c → c < hi → 0 ≤ c → rd so' c = rd so c ∧ rd st' c = rd st c ∧ rd wh' c = rd wh c ∧ (¬ c = hi - 1 → rd nx' c = rd nx c)) (ge : 0 < n → rd nx' (hi - 1) = hi) (gl : rd li' k = a) (s1 : rd so' hi = 3) (s2 : rd st' hi = pos + 1) (s3 : rd wh' hi = w + 1) (s4 : rd nx' hi = -1) : ∃ (f m : Nat) (x : Int × gB), (m : Int) = n + 1 ∧ 3002 ≤ ((f + 1 : Nat) : Int) + (pos + 1 - i) ∧ F = ((if kd (pos + 1 + 1) = 38 then gLp kd 38 (sSw kd ky w) f (pos + 1 + 1 + 1) x else some (pos + 1 + 1, x)).bind fun p => some (p.1, p.2.2)) ∧ x.1 = n + 1 ∧ x.2.2.1 = ev ∧ a + n = hi ∧ 0 ≤ a ∧ chW3 so' st' nx' wh' kd w a m ∧ ∀ e, (¬ x.2.2.2.2 e = none ↔ ∀ j : Nat, j < m → ¬ dLa w (ky (rd st' (a + (j : Int)))) e = none) := by
  obtain ⟨f, m, x, h1, h2, h3, h4, h5, h6, h7, h8, h9, h10⟩ := h
  obtain ⟨f', rfl⟩ : ∃ f' : Nat, f = f' + 1 := ⟨f - 1, by omega⟩
  have em : a + (m : Int) = hi := by omega
  refine ⟨f', m + 1, _, by omega, h2, h3.trans (by rw [gLq_s (sSw_y hk (by omega))]), by show x.1 + 1 = n + 1; omega, ?_, h6, h7, fun j hj => ?_, fun e => ?_⟩
  · show x.2.2.1 ++ [] = ev
    rw [List.append_nil]
    exact h5
  · by_cases c : j = m
    · rw [c, em, s1, s2, s3, s4, if_neg (by omega)]
      exact ⟨rfl, hk, rfl, rfl⟩
    · obtain ⟨g1, g2, g3, g4⟩ := g (a + (j : Int)) (by omega) (by omega) (by omega)
      obtain ⟨q1, q2, q3, q4⟩ := h9 j (by omega)
      rw [g1, g2, g3]
      refine ⟨q1, q2, q3, ?_⟩
      rw [if_pos (by omega)]
      by_cases c2 : j + 1 = m
      · have e2 : a + (j : Int) = hi - 1 := by omega
        rw [e2, ge (by omega)]
        omega
      · rw [g4 (by omega), q4, if_pos (by omega)]
  · rw [bSq_n, h10 e]
    refine ⟨fun z j hj => ?_, fun z => ⟨fun j hj => ?_, ?_⟩⟩
    · by_cases c : j = m
      · rw [c, em, s2]
        exact z.2
      · rw [(g (a + (j : Int)) (by omega) (by omega) (by omega)).2.1]
        exact z.1 j (by omega)
    · have := z j (by omega)
      rw [(g (a + (j : Int)) (by omega) (by omega) (by omega)).2.1] at this
      exact this
    · have := z m (by omega)
      rw [em, s2] at this
      exact this
theorem sw_s (h : swI kd ky F i pos n en so st nx wh li k a hi w ev) (hk : kd (pos + 1) = 27) (hn : n < 20) (hle : pos + 1 - i ≤ 3001) (g : ∀ c : Int, a ≤ c → c < hi → 0 ≤ c → rd so' c = rd so c ∧ rd st' c = rd st c ∧ rd wh' c = rd wh c ∧ (¬ c = hi - 1 → rd nx' c = rd nx c)) (ge : 0 < n → rd nx' (hi - 1) = hi) (gl : rd li' k = a) (s1 : rd so' hi = 3) (s2 : rd st' hi = pos + 1) (s3 : rd wh' hi = w + 1) (s4 : rd nx' hi = -1) (hc : kd (pos + 1 + 1) = 38) (hp : pos2 = pos + 1 + 1) (hn2 : n2 = n + 1) (hh : hi2 = hi + 1) {en2 : Int} (he : en2 = hi) (hn0 : 0 ≤ n) : swI kd ky F i pos2 n2 en2 so' st' nx' wh' li' k a hi2 w ev := by
  obtain ⟨f, m, x, h1, h2, h3, h4, h5, h6, h7, h8, h9⟩ := sw_r h hk hn hle g ge gl s1 s2 s3 s4
  rw [if_pos hc] at h3
  exact ⟨f, m, x, by omega, by omega, by rw [hp]; exact h3, by omega, h5, by omega, h7, Or.inr ⟨by omega, by omega, gl⟩, h8, h9⟩
theorem sw_y (h : swI kd ky F i pos n en so st nx wh li k a hi w ev) (hk : kd (pos + 1) = 27) (hn : n < 20) (hle : pos + 1 - i ≤ 3001) (g : ∀ c : Int, a ≤ c → c < hi → 0 ≤ c → rd so' c = rd so c ∧ rd st' c = rd st c ∧ rd wh' c = rd wh c ∧ (¬ c = hi - 1 → rd nx' c = rd nx c)) (ge : 0 < n → rd nx' (hi - 1) = hi) (gl : rd li' k = a) (s1 : rd so' hi = 3) (s2 : rd st' hi = pos + 1) (s3 : rd wh' hi = w + 1) (s4 : rd nx' hi = -1) (hc : ¬ kd (pos + 1 + 1) = 38) (hp : pos2 = pos + 1 + 1) : ∃ a, F = some a ∧ pos2 = a.1 := by
  obtain ⟨f, m, x, h1, h2, h3, h4, h5, h6, h7, h8, h9⟩ := sw_r h hk hn hle g ge gl s1 s2 s3 s4
  rw [if_neg hc] at h3
  exact ⟨_, h3, hp⟩
theorem sw_x {P : gV → Prop} {x0 : gW} {xw klo khi : Int} (h : swI kd ky F i pos n en so st nx wh li k a hi w ev) (hk : kd (pos + 1) = 27) (hn : n < 20) (hle : pos + 1 - i ≤ 3001) (g : ∀ c : Int, a ≤ c → c < hi → 0 ≤ c → rd so' c = rd so c ∧ rd st' c = rd st c ∧ rd wh' c = rd wh c ∧ (¬ c = hi - 1 → rd nx' c = rd nx c)) (ge : 0 < n → rd nx' (hi - 1) = hi) (gl : rd li' k = a) (s1 : rd so' hi = 3) (s2 : rd st' hi = pos + 1) (s3 : rd wh' hi = w + 1) (s4 : rd nx' hi = -1) (hc : ¬ kd (pos + 1 + 1) = 38) (hp : pos2 = pos + 1 + 1) (hh : hi2 = hi + 1) (hn0 : 0 ≤ n) (hR : RQ P (gRun pl ev x0) xw) (hb : noB so' a hi2) (hk1 : klo = k) (hk2 : khi = k + 1) (hw : rd wt k = 3) : swR F pos2 P pl x0 xw so' st' on tw th fo nx' wh' wt li' kd ky a hi2 klo khi := by
  obtain ⟨f, m, x, h1, h2, h3, h4, h5, h6, h7, h8, h9⟩ := sw_r h hk hn hle g ge gl s1 s2 s3 s4
  rw [if_neg hc] at h3
  refine ⟨_, h3, hp, by show RQ P (gRun pl x.2.2.1 x0) xw; rw [h5]; exact hR, ?_⟩
  have E : ∀ r : Int, a ≤ r → r < hi2 → ¬ stN (rd so' r) := fun r r0 r1 => noB_t hb h7 r0 r1
  refine ⟨fun _ _ => True, fun _ e => ∀ j : Nat, j < m → ¬ dLa (rd wh' (a + (j : Int)) - 1) (ky (rd st' (a + (j : Int)))) e = none, fun r r0 r1 r2 => absurd r2 (E r r0 r1), fun q q0 q1 q2 => ?_, fun e he => ?_⟩
  · rw [show q = k from by omega]
    exact ⟨a, m, gl, Int.le_refl _, h7, by omega, fun j hj => ⟨(h8 j hj).1, (h8 j hj).2.1, (h8 j hj).2.2.2⟩, by omega, rfl⟩
  · refine (h9 e).trans ⟨fun z => ⟨fun r r0 r1 r2 => trivial, fun q q0 q1 q2 j hj => ?_⟩, fun z j hj => ?_⟩
    · rw [(h8 j hj).2.2.1, show w + 1 - 1 = w from by omega]
      exact z j hj
    · have y := z.2 k (by omega) (by omega) hw j hj
      rw [(h8 j hj).2.2.1, show w + 1 - 1 = w from by omega] at y
      exact y
end
section
variable {so st nx wh li : nA} {kd ky : Int → Int} {F : Option (Int × gB)} {i pos n en k a hi w : Int} {ev : List gE}
theorem sw_e (h : swI kd ky F i pos n en so st nx wh li k a hi w ev) : ((n = 0 ∧ en < 0) ∨ (0 < n ∧ en = hi - 1)) ∧ a + n = hi := by
  obtain ⟨f, m, x, h1, h2, h3, h4, h5, h6, h7, h8, h9, h10⟩ := h
  omega
theorem sw_l (h : swI kd ky F i pos n en so st nx wh li k a hi w ev) (hn : 0 < n) : rd li k = a := by
  obtain ⟨f, m, x, h1, h2, h3, h4, h5, h6, h7, h8, h9, h10⟩ := h
  rcases h8 with z | z
  · omega
  · exact z.2.2
end
