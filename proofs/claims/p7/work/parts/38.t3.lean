section
variable {T : gV} {ky : Int → Int} {wd ho ar ins wt ty li mo fi sl io bv sp : nA} {xk xs k xc cn key w p : Int} {i t s v1 v2 v3 v4 v5 : Int32}
theorem rPar_e {a : Int} (h : rBs T ky wd ho ar ins wt ty li mo fi sl io bv xk xs a) (hb : xk ≤ 1501) (w0 : 1 ≤ xc) (w1 : xc < xs) : rPar T key (xc - 1) = rF ho wd ky xc key xk.toNat 0 := by
  have ex := h.2.1.1
  have e := rF_tF (key := key) h.1 h.2.2.1 hb (w := xc - 1) (by omega) (by omega)
  rw [show xc - 1 + 1 = xc from by omega] at e
  rw [← e]
  unfold rPar vF gG
  rw [if_pos ⟨by omega, by omega⟩]
theorem rPs_at (h : rPs T ky wd ho ar ins wt ty li mo fi sl io bv sp xk xs k xc cn) (hp : p = rF ho wd ky xc key xk.toNat 0) (h0 : 0 ≤ p) : k < p ∧ p < xk := by
  obtain ⟨⟨g1, g2⟩, g3, g4, g5, g6, g7⟩ := h
  have r := rF_r (ky := ky) (wd := wd) (ho := ho) (s := xc) (key := key) xk.toNat 0 (by rw [← hp]; exact h0) (by omega)
  rw [← hp] at r
  have ek := g1.1.1
  have q := (g1.1.2 p.toNat (by omega)).2
  rw [show ((p.toNat : Nat) : Int) = p from by omega] at q
  have := (g6 p h0 (by omega)).mp (by omega)
  omega
theorem RQ_vw {x : gW} {q : Int → Int} {xw xw' j : Int} (h : RQ (fun T => rPs T ky wd ho ar ins wt ty li mo fi sl io bv sp xk xs k xc cn) x xw) (hp : p = rF ho wd ky xc (ky j) xk.toNat 0) (hb : xk ≤ 1501) (w0 : 1 ≤ xc) (w1 : xc < xs) (hpl : ∀ t, 0 ≤ q t ∧ q t ≤ 3000) (hc : p < 0 ∨ ¬ rd bv p = 0) (hw : 0 ≤ xw') : RQ (fun T => rPs T ky wd ho ar ins wt ty li mo fi sl io bv sp xk xs k xc cn) (gRn1 q x (vVal ky j (xc - 1))) xw' := by
  refine RQ_s h (fun _ => hw) (gRn1_w _ _) (fun c1 c2 c3 => Or.inl ⟨hw, ?_⟩)
  have e : rPar x.1 (ky j) (xc - 1) = p := (rPar_e c3.1.1 hb w0 w1).trans hp.symm
  have d : rPar x.1 (ky j) (xc - 1) < 0 ∨ 0 ≤ gG (x.1 13) (x.1 10 0) (-1) (rPar x.1 (ky j) (xc - 1)) := by
    rw [e]
    by_cases z : p < 0
    · exact Or.inl z
    · have r := rPs_at c3 hp (by omega)
      have g := c3.2.2.2.2.2 p r.1 r.2
      have ek := c3.1.1.1.1
      refine Or.inr ?_
      unfold gG
      rw [if_pos ⟨by omega, by omega⟩]
      rcases g.2.2 with y | y
      · exact absurd y.1 (hc.resolve_left z)
      · exact y.2.1
  show (if _ then _ else _ : gW).2 ≤ 3000
  rw [if_pos d]
  show min x.2 (q j) ≤ 3000
  have := hpl j
  omega
theorem RQ_vo {x : gW} {q : Int → Int} {xw j : Int} (h : RQ (fun T => rPs T ky wd ho ar ins wt ty li mo fi sl io bv sp xk xs k xc cn) x xw) (hp : i.toInt = rF ho wd ky xc (ky j) xk.toNat 0) (hb : xk ≤ 1501) (w0 : 1 ≤ xc) (w1 : xc < xs) (hpl : ∀ t, 0 ≤ q t ∧ q t ≤ 3000) (h0 : 0 ≤ i.toInt) (hc : rd bv i.toInt = 0) (hv : ¬ v1.toInt = 0) : RQ (fun T => rPs T ky wd ho ar ins wt ty li mo fi sl io (upd bv i.toNatClampNeg v1) sp xk xs k xc cn) (gRn1 q x (vVal ky j (xc - 1))) xw := by
  refine RQ_s h id (gRn1_w _ _) (fun c1 c2 c3 => Or.inr ⟨c1, ?_⟩)
  have e : rPar x.1 (ky j) (xc - 1) = i.toInt := (rPar_e c3.1.1 hb w0 w1).trans hp.symm
  have r := rPs_at c3 hp h0
  have g := c3.2.2.2.2.2 i.toInt r.1 r.2
  have ek := c3.1.1.1.1
  have g13 : x.1 13 i.toInt.toNat < 0 := by
    rcases g.2.2 with y | y
    · exact y.2
    · exact absurd hc y.1
  have d : ¬ (rPar x.1 (ky j) (xc - 1) < 0 ∨ 0 ≤ gG (x.1 13) (x.1 10 0) (-1) (rPar x.1 (ky j) (xc - 1))) := by
    rw [e]
    unfold gG
    rw [if_pos ⟨by omega, by omega⟩]
    omega
  have e2 : gRn1 q x (vVal ky j (xc - 1)) = (gst x.1 13 i.toInt.toNat (q j), x.2) := by
    show (if _ then _ else _ : gW) = _
    rw [if_neg d, e]
  rw [e2]
  refine ⟨c2, ?_⟩
  obtain ⟨⟨g1, g2⟩, g3, g4, g5, g6, g7⟩ := c3
  show rPs (gst x.1 13 i.toInt.toNat (q j)) ky wd ho ar ins wt ty li mo fi sl io (upd bv i.toNatClampNeg v1) sp xk xs k xc cn
  generalize x.1 = T at *
  refine ⟨⟨rBs_g g1 (by omega) (by omega) (by omega) (fun _ _ _ => rfl) (fun z => by omega) (fun y y0 _ y2 => rd_n h0 y0 (by omega)) (fun _ y => xTk_13 y (by rw [show ((i.toInt.toNat : Nat) : Int) = i.toInt from by omega, rd_s h0]; exact hv) (hpl j).1), (sPr_g (by omega)).trans g2⟩, g3, g4, ?_, ?_, fun z z0 z1 => ?_⟩
  · unfold pPt at g5 ⊢
    rw [gst_f (d := 1) (by decide), gst_f (d := 2) (by decide), gst_f (d := 6) (by decide), gst_f (d := 9) (by decide), gst_f (d := 11) (by decide), gst_f (d := 3) (by decide)]
    exact g5
  · rw [gst_f (d := 4) (by decide)]
    exact g6
  · have y := g7 z z0 z1
    unfold pJt kM6 at y ⊢
    rw [gst_f (d := 1) (by decide), gst_f (d := 2) (by decide)]
    refine ⟨y.1, y.2.1, ?_⟩
    by_cases c : z = i.toInt
    · rw [c, gst_s, rd_s h0]
      exact Or.inr ⟨hv, hpl j⟩
    · rw [gst_k (by omega), rd_n h0 (by omega) c]
      exact y.2.2
theorem RV_0 {P : gV → Prop} {x : gW} {xw : Int} (h : RQ P x xw) (hp : ∀ j : Int, k < j → j < xk → rd sp j = 0) : RV P (pnd bv sp ty k xk) x xw := ⟨h.1, fun z => Or.inl ⟨(h.2 z).1, (h.2 z).2, fun ⟨j, j0, j1, j2, j3, j4⟩ => j3 (hp j j0 j1)⟩⟩
theorem RV_w {x : gW} {q : Int → Int} {xw xw' j kind tp : Int} (h : RV (fun T => rPs T ky wd ho ar ins wt ty li mo fi sl io bv sp xk xs k xc cn) (pnd bv sp ty k xk) x xw) (hp : p = rF ho wd ky xc (ky j) xk.toNat 0) (hb : xk ≤ 1501) (w0 : 1 ≤ xc) (w1 : xc < xs) (hpl : ∀ t, 0 ≤ q t ∧ q t ≤ 3000) (hc : p < 0 ∨ ¬ rd sp p = 0) (hw : 0 ≤ xw') : RV (fun T => rPs T ky wd ho ar ins wt ty li mo fi sl io bv sp xk xs k xc cn) (pnd bv sp ty k xk) (gRn1 q x (vSpc ky j kind tp (xc - 1))) xw' := by
  refine ⟨fun _ => ?_, fun z => by omega⟩
  have mw := gRn1_w (pl := q) x (vSpc ky j kind tp (xc - 1))
  by_cases c0 : 0 ≤ xw
  · have := h.1 c0
    omega
  · rcases h.2 (by omega) with ⟨c2, c3, c4⟩ | ⟨c2, c3⟩
    · have e : rPar x.1 (ky j) (xc - 1) = p := (rPar_e c3.1.1 hb w0 w1).trans hp.symm
      have d : rPar x.1 (ky j) (xc - 1) < 0 ∨ ¬ nK x.1 (rPar x.1 (ky j) (xc - 1)) = 0 := by
        rw [e]
        by_cases z : p < 0
        · exact Or.inl z
        · have r := rPs_at c3 hp (by omega)
          have g := c3.2.2.2.2.2 p r.1 r.2
          have ek := c3.1.1.1.1
          refine Or.inr ?_
          unfold nK gG
          rw [if_pos ⟨by omega, by omega⟩]
          rcases g.2.1 with y | y
          · exact absurd y.1 (hc.resolve_left z)
          · have := y.2
            unfold kM6 at this
            omega
      show (if _ then _ else _ : gW).2 ≤ 3000
      rw [if_pos d]
      show min x.2 (q j) ≤ 3000
      have := hpl j
      omega
    · omega
theorem RV_o {x : gW} {q : Int → Int} {xw j kind tp : Int} (h : RV (fun T => rPs T ky wd ho ar ins wt ty li mo fi sl io bv sp xk xs k xc cn) (pnd bv sp ty k xk) x xw) (hp : i.toInt = rF ho wd ky xc (ky j) xk.toNat 0) (hb : xk ≤ 1501) (w0 : 1 ≤ xc) (w1 : xc < xs) (h0 : 0 ≤ i.toInt) (hk0 : 0 ≤ k) (hc : rd sp i.toInt = 0) (hv : ¬ v1.toInt = 0) (hk : (kind = 6 ∧ v2.toInt = tp ∧ (tp = 1 ∨ tp = 2)) ∨ (kind = 7 ∧ v2.toInt = tp + 4 ∧ (tp = 1 ∨ tp = 2)) ∨ (kind = 8 ∧ v2.toInt = 8 ∧ tp = 0)) : RV (fun T => rPs T ky wd ho ar ins wt (upd ty i.toNatClampNeg v2) li mo fi sl io bv (upd sp i.toNatClampNeg v1) xk xs k xc cn) (pnd bv (upd sp i.toNatClampNeg v1) (upd ty i.toNatClampNeg v2) k xk) (gRn1 q x (vSpc ky j kind tp (xc - 1))) xw := by
  have mw := gRn1_w (pl := q) x (vSpc ky j kind tp (xc - 1))
  refine ⟨fun z => by have := h.1 z; omega, fun z => ?_⟩
  rcases h.2 z with ⟨c2, c3, c4⟩ | ⟨c2, z1, z2, z3, z4, z5, z6⟩
  · have e : rPar x.1 (ky j) (xc - 1) = i.toInt := (rPar_e c3.1.1 hb w0 w1).trans hp.symm
    have r := rPs_at c3 hp h0
    have g := c3.2.2.2.2.2 i.toInt r.1 r.2
    have ek := c3.1.1.1.1
    have g1 : x.1 1 i.toInt.toNat = 0 := by
      rcases g.2.1 with y | y
      · exact y.2.1
      · exact absurd hc y.1
    have d : ¬ (rPar x.1 (ky j) (xc - 1) < 0 ∨ ¬ nK x.1 (rPar x.1 (ky j) (xc - 1)) = 0) := by
      rw [e]
      unfold nK gG
      rw [if_pos ⟨by omega, by omega⟩]
      omega
    have e13 : gG (x.1 13) (x.1 10 0) (-1) i.toInt = x.1 13 i.toInt.toNat := if_pos ⟨by omega, by omega⟩
    have e2 : gRn1 q x (vSpc ky j kind tp (xc - 1)) = (gst (gst x.1 1 i.toInt.toNat kind) 2 i.toInt.toNat tp, if ¬ kind = 6 ∧ 0 ≤ x.1 13 i.toInt.toNat then min x.2 (x.1 13 i.toInt.toNat) else x.2) := by
      show (if _ then _ else _ : gW) = _
      rw [if_neg d, e, e13]
    rw [e2]
    by_cases cp : ¬ kind = 6 ∧ 0 ≤ x.1 13 i.toInt.toNat
    · rw [if_pos cp]
      refine Or.inr ⟨?_, i.toInt, r.1, r.2, ?_, by rw [rd_s h0]; exact hv, by rw [rd_s h0]; omega⟩
      · show min x.2 (x.1 13 i.toInt.toNat) ≤ 3000
        rcases g.2.2 with y | y
        · omega
        · omega
      · rcases g.2.2 with y | y
        · omega
        · exact y.1
    · rw [if_neg cp]
      refine Or.inl ⟨c2, ?_, fun ⟨y, y0, y1, y2, y3, y4⟩ => ?_⟩
      · obtain ⟨⟨b1, b2⟩, b3, b4, b5, b6, b7⟩ := c3
        show rPs (gst (gst x.1 1 i.toInt.toNat kind) 2 i.toInt.toNat tp) ky wd ho ar ins wt (upd ty i.toNatClampNeg v2) li mo fi sl io bv (upd sp i.toNatClampNeg v1) xk xs k xc cn
        generalize x.1 = T at *
        refine ⟨⟨rBs_g (ty := upd ty i.toNatClampNeg v2) (rBs_g (bv' := bv) b1 (by omega) (by omega) (by omega) (fun y y0 y1 => rd_n h0 y0 (by omega)) (fun _ => by omega) (fun _ _ _ _ => rfl) (fun _ y => xTk_1 y g1 (by omega))) (by omega) (by omega) (by omega) (fun _ _ _ => rfl) (fun z => by omega) (fun _ _ _ _ => rfl) (fun _ y => xTk_2 y (by rw [gst_s]; omega)), (sPr_g (by omega)).trans ((sPr_g (by omega)).trans b2)⟩, b3, b4, ?_, ?_, fun y y0 y1 => ?_⟩
        · unfold pPt at b5 ⊢
          rw [gst_k (c := 2) (by omega), gst_c (d := 1) (by decide), gst_k (c := 1) (by omega), gst_c (d := 2) (by decide), gst_f (d := 6) (by decide), gst_f (d := 6) (by decide), gst_f (d := 9) (by decide), gst_f (d := 9) (by decide), gst_f (d := 11) (by decide), gst_f (d := 11) (by decide), gst_f (d := 3) (by decide), gst_f (d := 3) (by decide), rd_n h0 b3 (by omega)]
          exact b5
        · rw [gst_f (d := 4) (by decide), gst_f (d := 4) (by decide)]
          exact b6
        · have u := b7 y y0 y1
          unfold pJt kM6 at u ⊢
          rw [gst_f (d := 13) (by decide), gst_f (d := 13) (by decide)]
          by_cases c : y = i.toInt
          · rw [c, gst_c (d := 1) (by decide), gst_s, gst_s, rd_s h0, rd_s h0]
            refine ⟨by rw [← c]; exact u.1, Or.inr ⟨hv, by omega⟩, by rw [← c]; exact u.2.2⟩
          · rw [gst_c (d := 1) (by decide), gst_k (by omega), gst_k (by omega), gst_c (d := 2) (by decide), rd_n h0 (by omega) c, rd_n h0 (by omega) c]
            exact u
      · by_cases c : y = i.toInt
        · subst c
          rw [rd_s h0] at y4
          refine cp ⟨by omega, ?_⟩
          rcases g.2.2 with u | u
          · exact absurd u.1 y2
          · exact u.2.1
        · rw [rd_n h0 (by omega) c] at y3 y4
          exact c4 ⟨y, y0, y1, y2, y3, y4⟩
  · refine Or.inr ⟨by omega, z1, z2, z3, z4, ?_, ?_⟩
    · by_cases c : z1 = i.toInt
      · rw [c, rd_s h0]; exact hv
      · rw [rd_n h0 (by omega) c]; exact z5
    · by_cases c : z1 = i.toInt
      · rw [c] at z5
        exact absurd hc z5
      · rw [rd_n h0 (by omega) c]; exact z6
theorem rAll_1 (h : cI T) {w : Int} (hn : ∀ j : Nat, (j : Int) < T 10 0 → T 4 j = w → ¬ T 1 j = 0) : ∀ (f : Nat) (j sw : Int), (j = -1 ∨ (0 ≤ j ∧ j < T 10 0 ∧ T 4 j.toNat = w)) → rAll T f j sw = sw := by
  intro f
  induction f with
  | zero => intro j sw _; rfl
  | succ f ih =>
    intro j sw hj
    show (if 0 ≤ j then rAll T f (nX T j) (if nK T j = 0 then min sw (gG (T 12) (T 10 0) 0 j) else sw) else sw) = sw
    rcases hj with hj | ⟨j0, j1, j2⟩
    · rw [if_neg (by omega)]
    · rw [if_pos j0]
      have k1 : nK T j = T 1 j.toNat := if_pos ⟨j0, j1⟩
      have k2 : nX T j = T 5 j.toNat := if_pos ⟨j0, j1⟩
      rw [k1, if_neg (hn j.toNat (by omega) j2), k2]
      refine ih _ _ ?_
      rcases h.2.2.2.2.2 j.toNat (by omega) with z | ⟨y, z1, z2, z3, z4, z5⟩
      · exact Or.inl z.1
      · refine Or.inr ⟨by omega, by omega, ?_⟩
        rw [z1, show ((y : Nat) : Int).toNat = y from by omega, z4, j2]
theorem rAll_0 (h : cI T) {w : Int} {u : Nat} (hu : (u : Int) < T 10 0) (hw : T 4 u = w) (h1 : T 1 u = 0) (h12 : T 12 u ≤ 3000) : ∀ (f : Nat) (j sw : Int), 0 ≤ j → j ≤ (u : Int) → T 4 j.toNat = w → (u : Int) - j < (f : Int) → rAll T f j sw ≤ 3000 := by
  intro f
  induction f with
  | zero => intro j sw _ _ _ hf; omega
  | succ f ih =>
    intro j sw j0 j1 j2 hf
    show (if 0 ≤ j then rAll T f (nX T j) (if nK T j = 0 then min sw (gG (T 12) (T 10 0) 0 j) else sw) else sw) ≤ 3000
    rw [if_pos j0]
    have k1 : nK T j = T 1 j.toNat := if_pos ⟨j0, by omega⟩
    have k2 : nX T j = T 5 j.toNat := if_pos ⟨j0, by omega⟩
    have k3 : gG (T 12) (T 10 0) 0 j = T 12 j.toNat := if_pos ⟨j0, by omega⟩
    by_cases c : j = (u : Int)
    · rw [k1, k3, show j.toNat = u from by omega, if_pos h1]
      have := rAll_w (T := T) f (nX T j) (min sw (T 12 u))
      omega
    · rw [k2]
      rcases h.2.2.2.2.2 j.toNat (by omega) with z | ⟨y, z1, z2, z3, z4, z5⟩
      · exact absurd (hw.trans j2.symm) (z.2 u (by omega) hu)
      · have yu : y ≤ u := by
          by_cases q : u < y
          · exact absurd (hw.trans j2.symm) (z5 u (by omega) q)
          · omega
        refine ih _ _ (by omega) (by omega) ?_ (by omega)
        rw [z1, show ((y : Nat) : Int).toNat = y from by omega, z4, j2]
theorem RV_all {x : gW} {q : Int → Int} {xw xw' : Int} (h : RV (fun T => rPs T ky wd ho ar ins wt ty li mo fi sl io bv sp xk xs k xc cn) (pnd bv sp ty k xk) x xw) (hb : xk ≤ 1501) (w0 : 1 ≤ xc) (w1 : xc < xs) (hm : 0 ≤ xw → 0 ≤ xw') (hx : xw < 0 → (xw' < 0 ↔ ∀ j : Int, k < j → j < xk → ¬ (rd ho j = xc ∧ rd sp j = 0) ∧ ¬ (¬ rd bv j = 0 ∧ ¬ rd sp j = 0 ∧ 2 < rd ty j))) (hmo : rd mo k = cn) (hcn : cn = xk - 1 - k) (hfi : cn = 0 ∨ rd fi k = k + 1) : RQ (fun T => rCs T ky wd ho ar ins wt ty li mo fi sl io bv xk xs xk xc k) (gRn1 q x (vAll (xc - 1))) xw' := by
  have mw := gRn1_w (pl := q) x (vAll (xc - 1))
  by_cases c0 : 0 ≤ xw
  · have := h.1 c0
    exact ⟨fun _ => by omega, fun z => by have := hm c0; omega⟩
  · have hx := hx (by omega)
    rcases h.2 (by omega) with ⟨c2, c3, c4⟩ | ⟨c2, z1, z2, z3, z4, z5, z6⟩
    · have e2 : gRn1 q x (vAll (xc - 1)) = (x.1, rAll x.1 1501 (vF x.1 (xc - 1)) x.2) := rfl
      rw [e2, c2]
      obtain ⟨⟨b1, b2⟩, b3, b4, b5, b6, b7⟩ := c3
      show RQ _ (x.1, rAll x.1 1501 (vF x.1 (xc - 1)) 3001) xw'
      generalize x.1 = T at *
      have ek := b1.1.1
      have ex := b1.2.1.1
      have ef : vF T (xc - 1) = T 8 (xc - 1).toNat := if_pos ⟨by omega, by omega⟩
      have fs := b1.2.2.1.2.2.2.1 (xc - 1).toNat (by omega)
      rw [ef]
      have hoj : ∀ j : Int, k < j → j < xk → rd ho j = xc := fun j j0 j1 => by
        have y := (b1.1.2 j.toNat (by omega)).2
        rw [show ((j.toNat : Nat) : Int) = j from by omega] at y
        have := (b6 j (by omega) j1).mpr j0
        omega
      by_cases ca : ∀ j : Int, k < j → j < xk → ¬ rd sp j = 0
      · have xl : xw' < 0 := hx.mpr (fun j j0 j1 => ⟨fun z => ca j j0 j1 z.2, fun z => c4 ⟨j, j0, j1, z⟩⟩)
        have K : ∀ j : Int, k < j → j < xk → kM6 T ty j := fun j j0 j1 => by
          rcases (b7 j j0 j1).2.1 with z | z
          · exact absurd z.1 (ca j j0 j1)
          · exact z.2
        have r1 : rAll T 1501 (T 8 (xc - 1).toNat) 3001 = 3001 := by
          refine rAll_1 b1.2.2.1 (w := xc - 1) (fun j hj h4 => ?_) _ _ _ ?_
          · have jj := (b6 (j : Int) (by omega) (by omega)).mp (by rw [show ((j : Nat) : Int).toNat = j from by omega]; exact h4)
            have := K (j : Int) jj (by omega)
            unfold kM6 at this
            rw [show ((j : Nat) : Int).toNat = j from by omega] at this
            omega
          · rcases fs with z | ⟨y, z1, z2, z3, z4⟩
            · exact Or.inl z.1
            · refine Or.inr ⟨by omega, by omega, ?_⟩
              rw [z1, show ((y : Nat) : Int).toNat = y from by omega, z3]
              omega
        rw [r1]
        refine ⟨fun z => by omega, fun _ => ⟨rfl, rBs_x b1 (fun j j0 j1 j2 => ?_), b2⟩⟩
        show kFl T wt ty li mo fi sl xk j
        by_cases cj : j = k
        · rw [cj]
          obtain ⟨p1, p2, p3, p4, p5, p6, p7, p8, p9, p10⟩ := b5
          refine Or.inr (Or.inr (Or.inl ⟨p1, p2, p3, p4, by rw [p10]; exact hmo, ?_⟩))
          unfold pF
          rw [p10, p6]
          refine ⟨by omega, by omega, by omega, p8, p9, hfi, p7, fun z z0 z1 => ⟨fun y => ⟨(b6 z z0 z1).mp y, by omega⟩, fun y => (b6 z z0 z1).mpr y.1⟩, fun z z0 z1 => (b7 z z0 (by omega)).1⟩
        · exact Or.inr (Or.inr (Or.inr (Or.inr (Or.inr ⟨(b7 j (by omega) j2).1, K j (by omega) j2⟩))))
      · have nx : ¬ xw' < 0 := fun z => by
          have y := hx.mp z
          exact ca (fun j j0 j1 s0 => (y j j0 j1).1 ⟨hoj j j0 j1, s0⟩)
        refine ⟨fun _ => ?_, fun z => absurd z nx⟩
        obtain ⟨j, ca⟩ := Classical.not_forall.mp ca
        obtain ⟨j0, ca⟩ := Classical.not_forall.mp ca
        obtain ⟨j1, ca⟩ := Classical.not_forall.mp ca
        have s0 : rd sp j = 0 := Classical.not_not.mp ca
        have g : T 1 j.toNat = 0 := by
          rcases (b7 j j0 j1).2.1 with z | z
          · exact z.2.1
          · exact absurd s0 z.1
        have h4 := (b6 j (by omega) j1).mpr j0
        have h12 := (b1.2.2.2.2.2.1 j (by omega) j1).1
        show rAll T 1501 (T 8 (xc - 1).toNat) 3001 ≤ 3000
        rcases fs with z | ⟨y, z1, z2, z3, z4⟩
        · exact absurd (by omega) (z.2 j.toNat (by omega))
        · have yj : (y : Int) ≤ j := by
            by_cases qq : j < (y : Int)
            · exact absurd (by omega) (z4 j.toNat (by omega))
            · omega
          refine rAll_0 b1.2.2.1 (w := xc - 1) (u := j.toNat) (by omega) h4 g h12 _ _ _ (by omega) (by omega) ?_ (by omega)
          rw [z1, show ((y : Nat) : Int).toNat = y from by omega, z3]
          omega
    · have nx : ¬ xw' < 0 := fun z => (hx.mp z z1 z2 z3).2 ⟨z4, z5, z6⟩
      exact ⟨fun _ => by omega, fun z => absurd z nx⟩
end
