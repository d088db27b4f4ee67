def pP0 (T : gV) (wt ty : nA) (k : Int) : Prop := rd wt k = 2 ∧ T 1 k.toNat = 3 ∧ rd ty k = T 2 k.toNat ∧ (T 2 k.toNat = 0 ∨ T 2 k.toNat = 1 ∨ T 2 k.toNat = 2) ∧ T 3 k.toNat = 0 ∧ T 6 k.toNat = -1
section
variable {T : gV} {ky : Int → Int} {wd ho ar ins wt ty li mo fi sl io bv sp : nA} {xk xs a key pl kind tp w p xc xp k : Int} {i t s v1 v2 v3 v4 v6 : Int32}
theorem rO_at : rOpn T w p 11 0 = T 11 0 + 1 ∧ (∀ j : Nat, j ≠ (T 11 0).toNat → rOpn T w p 7 j = T 7 j ∧ rOpn T w p 9 j = T 9 j) ∧ rOpn T w p 7 (T 11 0).toNat = w ∧ rOpn T w p 9 (T 11 0).toNat = p := by
  have e : ∀ c j, rOpn T w p c j = gsc (gst (gst (gst (gst T 7 (T 11 0).toNat w) 8 (T 11 0).toNat (-1)) 15 (T 11 0).toNat (-1)) 9 (T 11 0).toNat p) 11 (T 11 0 + 1) c j := fun _ _ => rfl
  refine ⟨rfl, fun j hj => ⟨?_, ?_⟩, ?_, ?_⟩
  · rw [e, gsc_c (by decide), gst_c (by decide), gst_c (by decide), gst_c (by decide), gst_k hj]
  · rw [e, gsc_c (by decide), gst_k hj, gst_c (by decide), gst_c (by decide), gst_c (by decide)]
  · rw [e, gsc_c (by decide), gst_c (by decide), gst_c (by decide), gst_c (by decide), gst_s]
  · rw [e, gsc_c (by decide), gst_s]
theorem rBs_O {sl' : nA} (h : rBs T ky wd ho ar ins wt ty li mo fi sl io bv xk xs a) (ha : a ≤ xk) (w0 : -1 ≤ w) (w1 : w + 1 < xs) (hi0 : 0 ≤ i.toInt) (hi : i.toInt = xs) (hs : s.toInt = w + 1) (ht : t.toInt = p) (hsl : ∀ j : Int, 0 ≤ j → j < a → rd sl' j = rd sl j) (hp : (0 ≤ p ∧ p < T 10 0 ∧ T 6 p.toNat = T 11 0 ∧ T 1 p.toNat = 3) ∨ (w < 0 ∧ p = -1) ∨ (0 ≤ w ∧ p = T 9 w.toNat)) : rBs (rOpn T w p) ky wd ho (upd ar i.toNatClampNeg s) (upd ins i.toNatClampNeg t) wt ty li mo fi sl' io bv xk (xs + 1) a := by
  obtain ⟨b1, b2, b3, b4, b5, b6, b7⟩ := h
  obtain ⟨o11, o79, o7, o9⟩ := rO_at (T := T) (w := w) (p := p)
  have ex := b2.1
  have b0 := b3.2.1
  have F : ∀ c : Nat, c ≠ 7 → c ≠ 8 → c ≠ 15 → c ≠ 9 → c ≠ 11 → rOpn T w p c = T c := fun c h7 h8 h15 h9 h11 => funext fun j => rOpn_o c h7 h8 h15 h9 h11 j
  refine ⟨nR_O b1, sR_O b2 b3 hi0 hi rfl hs w0 (by omega), cI_O b3, fun z hz => ?_, fun z hz => ?_, ?_, fun z z0 z1 => ?_⟩
  · by_cases c : z = (T 11 0).toNat
    · rw [c, o9, show (((T 11 0).toNat : Nat) : Int) + 1 = i.toInt from by omega, rd_s hi0]
      exact ht
    · rw [(o79 z c).2, rd_n hi0 (by omega) (by omega)]
      exact b4 z (by omega)
  · by_cases c : z = (T 11 0).toNat
    · rw [c, o9, o7, F 6 (by decide) (by decide) (by decide) (by decide) (by decide), F 1 (by decide) (by decide) (by decide) (by decide) (by decide), F 10 (by decide) (by decide) (by decide) (by decide) (by decide)]
      rcases hp with y | y | y
      · exact Or.inl ⟨y.1, y.2.1, by rw [y.2.2.1]; omega, y.2.2.2⟩
      · exact Or.inr (Or.inl y)
      · refine Or.inr (Or.inr ⟨y.1, ?_⟩)
        rw [(o79 w.toNat (by omega)).2]
        exact y.2
    · obtain ⟨q7, q9⟩ := o79 z c
      rw [q7, q9, F 6 (by decide) (by decide) (by decide) (by decide) (by decide), F 1 (by decide) (by decide) (by decide) (by decide) (by decide), F 10 (by decide) (by decide) (by decide) (by decide) (by decide)]
      rcases b5 z (by omega) with y | y | y
      · exact Or.inl y
      · exact Or.inr (Or.inl y)
      · refine Or.inr (Or.inr ⟨y.1, ?_⟩)
        have g := b2.2.2 z (by omega)
        rw [(o79 (T 7 z).toNat (by omega)).2]
        exact y.2
  · intro z z0 z1
    have g := b6 z z0 z1
    rw [F 12 (by decide) (by decide) (by decide) (by decide) (by decide), F 6 (by decide) (by decide) (by decide) (by decide) (by decide), F 1 (by decide) (by decide) (by decide) (by decide) (by decide)]
    exact ⟨g.1, g.2.1, xTk_e g.2.2 rfl rfl (fun c hc => by rw [F c (by omega) (by omega) (by omega) (by omega) (by omega)])⟩
  · exact kFl_E (b7 z z0 z1) z0 (by omega) (fun c j hc _ => by rw [F c (by omega) (by omega) (by omega) (by omega) (by omega)]) (by rw [F 3 (by decide) (by decide) (by decide) (by decide) (by decide)]) (fun y hy => (o79 y (by omega)).2) (by omega) (fun _ _ _ => rfl) ⟨rfl, fun _ => rfl, rfl, rfl, hsl z z0 z1⟩
theorem RQ_OB {x : gW} {q : Int → Int} {xw : Int} (h : RQ (fun T => rCs T ky wd ho ar ins wt ty li mo fi sl io bv xk xs xk xc xp) x xw) (w0 : 0 ≤ xc) (w1 : xc < xs) (hi0 : 0 ≤ i.toInt) (hi : i.toInt = xs) (hs : s.toInt = xc) (ht : t.toInt = xp) {xs2 : Int} (h2 : xs2 = xs + 1) : RQ (fun T => rCs T ky wd ho (upd ar i.toNatClampNeg s) (upd ins i.toNatClampNeg t) wt ty li mo fi sl io bv xk xs2 xk i.toInt xp) (gRn1 q x (vOpB (xc - 1))) xw := by
  subst h2
  refine ⟨h.1, fun z => ⟨(h.2 z).1, ?_⟩⟩
  obtain ⟨c1, c2⟩ := (h.2 z).2
  show rCs (rOpn x.1 (xc - 1) (sPr x.1 (xc - 1))) ky wd ho (upd ar i.toNatClampNeg s) (upd ins i.toNatClampNeg t) wt ty li mo fi sl io bv xk (xs + 1) xk i.toInt xp
  rw [c2]
  generalize x.1 = T at *
  have ex := c1.2.1.1
  obtain ⟨o11, o79, o7, o9⟩ := rO_at (T := T) (w := xc - 1) (p := xp)
  refine ⟨rBs_O c1 (Int.le_refl _) (by omega) (by omega) hi0 hi (by omega) ht (fun _ _ _ => rfl) ?_, ?_⟩
  · by_cases c : xc = 0
    · have : sPr T (xc - 1) = -1 := if_neg (by omega)
      exact Or.inr (Or.inl ⟨by omega, by omega⟩)
    · have : sPr T (xc - 1) = T 9 (xc - 1).toNat := if_pos ⟨by omega, by omega⟩
      exact Or.inr (Or.inr ⟨by omega, by omega⟩)
  · unfold sPr gG
    rw [o11, if_pos ⟨by omega, by omega⟩, show (i.toInt - 1).toNat = (T 11 0).toNat from by omega, o9]
theorem RQ_pd {x : gW} {q : Int → Int} {j xw xw' xk2 : Int} {ho' : nA} (h : RQ (fun T => rCs T ky wd ho ar ins wt ty li mo fi sl io bv xk xs xk xc xp) x xw) (hd : dcP ho' ho wd ky s (ky j) xk xw xw' i) (hw : s.toInt = xc) (w0 : 1 ≤ xc) (w1 : xc < xs) (hb : xk ≤ 1501) (hpl : ∀ t, 0 ≤ q t ∧ q t ≤ 3000) (hnh : xp < 0 ∨ ¬ rd sl xp = xc) (hi0 : 0 ≤ i.toInt) (hi : i.toInt = xk) (hj : t.toInt = j) (h2 : xk2 = xk + 1) (hv1 : v1.toInt = 2) (hv2 : v2.toInt = tp) (htp : tp = 0 ∨ tp = 1 ∨ tp = 2) (hv4 : v4.toInt = 0) (hv6 : v6.toInt = 0) : RQ (fun T => rCs T ky (upd wd i.toNatClampNeg t) ho' ar ins (upd wt i.toNatClampNeg v1) (upd ty i.toNatClampNeg v2) (upd li i.toNatClampNeg v3) mo fi sl (upd io i.toNatClampNeg v6) (upd bv i.toNatClampNeg v4) xk2 xs xk xc xp ∧ pP0 T (upd wt i.toNatClampNeg v1) (upd ty i.toNatClampNeg v2) xk) (gRn1 q x (vD ky j 3 tp (xc - 1))) xw' := by
  subst h2
  refine RQ_D h (fun T c => ⟨c.1, nHd_n c.1 c.2 (by rw [show xc - 1 + 1 = xc from by omega]; exact hnh)⟩) hd (by omega) (by omega) (by omega) hb hpl (fun T c c1 c2 e => ?_)
  obtain ⟨d10, d11, dk, d1, d2, d3, d4, d6, d13, d12, d7, d9⟩ := rD_at (T := T) (key := ky j) (pl := q j) (kind := 3) (tp := tp) (w := xc - 1)
  have ek := c1.1.1
  have ex := c1.2.1.1
  refine ⟨⟨?_, (sPr_e d9 d11).trans c.2⟩, ?_⟩
  · rw [e]
    exact rBs_D (s := s) c1 (by omega) (by omega) (Int.le_refl _) hi0 hi (by rw [hj]) (by omega) (hpl j).2 c2 hv4 hv6 (by omega)
  · unfold pP0
    rw [show xk.toNat = (T 10 0).toNat from by omega, d1, d2, d3, d6, ← hi, rd_s hi0, rd_s hi0]
    exact ⟨hv1, rfl, hv2, htp, rfl, rfl⟩
theorem RQ_OP {x : gW} {q : Int → Int} {xw : Int} (h : RQ (fun T => rCs T ky wd ho ar ins wt ty li mo fi sl io bv xk xs k xc xp ∧ pP0 T wt ty k) x xw) (hk : xk = k + 1) (k0 : 0 ≤ k) (w0 : 0 ≤ xc) (w1 : xc < xs) (hi0 : 0 ≤ i.toInt) (hi : i.toInt = xs) (hs : s.toInt = xc) (ht0 : 0 ≤ t.toInt) (ht : t.toInt = k) {xs2 : Int} (h2 : xs2 = xs + 1) : RQ (fun T => rPs T ky wd ho (upd ar i.toNatClampNeg s) (upd ins i.toNatClampNeg t) wt ty li mo fi (upd sl t.toNatClampNeg i) io bv sp xk xs2 k i.toInt 0) (gRn1 q x (vOpP (xc - 1))) xw := by
  subst h2
  refine RQ_P0 ?_ hk k0
  refine ⟨h.1, fun z => ⟨(h.2 z).1, ?_⟩⟩
  obtain ⟨⟨c1, c2⟩, c3⟩ := (h.2 z).2
  show rCs (rOpn (gst x.1 6 (x.1 10 0 - 1).toNat (x.1 11 0)) (xc - 1) (x.1 10 0 - 1)) ky wd ho (upd ar i.toNatClampNeg s) (upd ins i.toNatClampNeg t) wt ty li mo fi (upd sl t.toNatClampNeg i) io bv xk (xs + 1) k i.toInt k ∧ pPt (rOpn (gst x.1 6 (x.1 10 0 - 1).toNat (x.1 11 0)) (xc - 1) (x.1 10 0 - 1)) wt ty (upd sl t.toNatClampNeg i) k i.toInt 0 ∧ ∀ j : Int, 0 ≤ j → j < xk → ¬ rOpn (gst x.1 6 (x.1 10 0 - 1).toNat (x.1 11 0)) (xc - 1) (x.1 10 0 - 1) 4 j.toNat = i.toInt - 1
  generalize x.1 = T at *
  have ek := c1.1.1
  have ex := c1.2.1.1
  have b0 := c1.2.2.1.2.1
  have F : ∀ c : Nat, c ≠ 6 → gst T 6 (T 10 0 - 1).toNat (T 11 0) c = T c := fun c hc => gst_f hc
  have e10 : T 10 0 - 1 = k := by omega
  have c1' : rBs (gst T 6 (T 10 0 - 1).toNat (T 11 0)) ky wd ho ar ins wt ty li mo fi sl io bv xk xs k := by
    obtain ⟨b1, b2, b3, b4, b5, b6, b7⟩ := c1
    refine ⟨?_, ?_, cI_c b3 (fun j => by rw [F 4 (by decide)]) (fun j => by rw [F 5 (by decide)]) (fun j => by rw [F 8 (by decide)]) (fun j => by rw [F 15 (by decide)]) (by rw [F 10 (by decide)]) (by rw [F 11 (by decide)]), ?_, fun y hy => ?_, ?_, fun y y0 y1 => ?_⟩
    · unfold nRl2
      rw [F 10 (by decide), F 0 (by decide), F 4 (by decide)]
      exact b1
    · unfold sRl2
      rw [F 11 (by decide), F 7 (by decide)]
      exact b2
    · rw [F 11 (by decide), F 9 (by decide)]
      exact b4
    · rw [F 11 (by decide)] at hy
      rw [F 9 (by decide), F 10 (by decide), F 7 (by decide)]
      rcases b5 y hy with u | u | u
      · by_cases cu : T 9 y = k
        · exfalso
          have g6 : T 6 k.toNat = y := by rw [← cu]; exact u.2.2.1
          have := c3.2.2.2.2.2
          omega
        · refine Or.inl ⟨u.1, u.2.1, ?_, ?_⟩
          · rw [gst_k (by omega)]
            exact u.2.2.1
          · rw [F 1 (by decide)]
            exact u.2.2.2
      · exact Or.inr (Or.inl u)
      · exact Or.inr (Or.inr u)
    · intro z z0 z1
      rw [F 12 (by decide), F 1 (by decide)]
      refine ⟨(b6 z z0 z1).1, fun y => ?_, xTk_e (b6 z z0 z1).2.2 rfl rfl (fun c hc => by rw [F c (by omega)])⟩
      by_cases e : z.toNat = (T 10 0 - 1).toNat
      · rw [e, show (T 10 0 - 1).toNat = k.toNat from by omega]
        exact c3.2.1
      · rw [gst_k e] at y
        exact (b6 z z0 z1).2.1 y
    · have q := b7 y y0 y1
      unfold kFl kM6 pF at q ⊢
      rw [F 1 (by decide), F 2 (by decide), F 3 (by decide), F 4 (by decide), F 9 (by decide), F 11 (by decide), gst_k (show y.toNat ≠ (T 10 0 - 1).toNat from by omega)]
      exact q
  obtain ⟨o11, o79, o7, o9⟩ := rO_at (T := gst T 6 (T 10 0 - 1).toNat (T 11 0)) (w := xc - 1) (p := T 10 0 - 1)
  have G11 : gst T 6 (T 10 0 - 1).toNat (T 11 0) 11 0 = T 11 0 := by rw [F 11 (by decide)]
  rw [G11] at o11 o79 o7 o9
  have R : ∀ c : Nat, c ≠ 7 → c ≠ 8 → c ≠ 15 → c ≠ 9 → c ≠ 11 → rOpn (gst T 6 (T 10 0 - 1).toNat (T 11 0)) (xc - 1) (T 10 0 - 1) c = gst T 6 (T 10 0 - 1).toNat (T 11 0) c := fun c h7 h8 h15 h9 h11 => funext fun j => rOpn_o c h7 h8 h15 h9 h11 j
  obtain ⟨p1, p2, p3, p4, p5, p6⟩ := c3
  refine ⟨⟨rBs_O c1' (by omega) (by omega) (by omega) hi0 hi (by omega) (by omega) (fun j j0 j1 => rd_n ht0 j0 (by omega)) (Or.inl ⟨by omega, by rw [F 10 (by decide)]; omega, by rw [G11, gst_s], by rw [F 1 (by decide), e10]; exact p2⟩), ?_⟩, ?_, fun j j0 j1 => ?_⟩
  · unfold sPr gG
    rw [o11, if_pos ⟨by omega, by omega⟩, show (i.toInt - 1).toNat = (T 11 0).toNat from by omega, o9]
    omega
  · unfold pPt
    rw [R 1 (by decide) (by decide) (by decide) (by decide) (by decide), R 2 (by decide) (by decide) (by decide) (by decide) (by decide), R 3 (by decide) (by decide) (by decide) (by decide) (by decide), R 6 (by decide) (by decide) (by decide) (by decide) (by decide), F 1 (by decide), F 2 (by decide), F 3 (by decide), o11, show (i.toInt - 1).toNat = (T 11 0).toNat from by omega, o9, show k.toNat = (T 10 0 - 1).toNat from by omega, gst_s, ← ht, rd_s ht0, show (T 10 0 - 1).toNat = t.toInt.toNat from by omega, ht]
    exact ⟨p1, p2, p3, p4, rfl, by omega, by omega, by omega, by omega, p5⟩
  · rw [R 4 (by decide) (by decide) (by decide) (by decide) (by decide), F 4 (by decide)]
    have := c1.2.2.1.2.2.1 j.toNat (by omega)
    omega
theorem RQ_Pn {x : gW} {xw : Int} (h : RQ (fun T => rPs T ky wd ho ar ins wt ty li mo fi sl io bv sp xk xs k xc 0) x xw) (hk : xk = k + 1) (hm : rd mo k = 0) : RQ (fun T => rCs T ky wd ho ar ins wt ty li mo fi sl io bv xk xs xk xc k) x xw := by
  refine RQ_i h (fun T c => ?_)
  obtain ⟨⟨b1, b2⟩, b3, b4, b5, b6, b7⟩ := c
  refine ⟨rBs_x b1 (fun j j0 j1 j2 => ?_), b2⟩
  rw [show j = k from by omega]
  obtain ⟨p1, p2, p3, p4, p5, p6, p7, p8, p9, p10⟩ := b5
  refine Or.inr (Or.inr (Or.inl ⟨p1, p2, p3, p4, by rw [p10]; exact hm, ?_⟩))
  unfold pF
  rw [p10, p6]
  exact ⟨by omega, by omega, by omega, p8, p9, Or.inl rfl, p7, fun z z0 z1 => ⟨fun y => ⟨(b6 z z0 z1).mp y, by have := (b6 z z0 z1).mp y; omega⟩, fun y => (b6 z z0 z1).mpr y.1⟩, fun z z0 z1 => by omega⟩
theorem rCs_x {xc2 xp2 : Int} (h : rCs T ky wd ho ar ins wt ty li mo fi sl io bv xk xs a xc xp) (h0 : 0 ≤ xc2) (h1 : xc2 < xs) (hi : rd ins xc2 = xp2) (hz : xc2 = 0 → xp2 = -1) : rCs T ky wd ho ar ins wt ty li mo fi sl io bv xk xs a xc2 xp2 := by
  refine ⟨h.1, ?_⟩
  have ex := h.1.2.1.1
  unfold sPr gG
  by_cases c : xc2 = 0
  · rw [if_neg (by omega), hz c]
  · rw [if_pos ⟨by omega, by omega⟩, ← h.1.2.2.2.1 (xc2 - 1).toNat (by omega), show (((xc2 - 1).toNat : Nat) : Int) + 1 = xc2 from by omega]
    exact hi
theorem rCs_i (h : rCs T ky wd ho ar ins wt ty li mo fi sl io bv xk xs a xc xp) (h0 : 0 ≤ xc) (h1 : xc < xs) : (1 ≤ xc → rd ins xc = xp) ∧ (xc = 0 → xp = -1) := by
  have ex := h.1.2.1.1
  have e := h.2
  unfold sPr gG at e
  refine ⟨fun c => ?_, fun c => ?_⟩
  · rw [if_pos ⟨by omega, by omega⟩, ← h.1.2.2.2.1 (xc - 1).toNat (by omega), show (((xc - 1).toNat : Nat) : Int) + 1 = xc from by omega] at e
    exact e
  · rw [if_neg (by omega)] at e
    exact e.symm
end
