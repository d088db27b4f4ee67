def kAr (T : gV) (wt ty : nA) (k : Int) : Prop := rd wt k = 1 ∧ T 1 k.toNat = 2 ∧ rd ty k = T 2 k.toNat ∧ (T 2 k.toNat = 1 ∨ T 2 k.toNat = 2)
def rAs (T : gV) (ky : Int → Int) (wd ho ar ins wt ty li mo fi sl io bv : nA) (xk xs a xc xp : Int) : Prop := rCs T ky wd ho ar ins wt ty li mo fi sl io bv xk xs a xc xp ∧ a ≤ xk ∧ ∀ k : Int, 0 ≤ k → a ≤ k → k < xk → kAr T wt ty k
section
variable {T : gV} {ky : Int → Int} {wd ho ar ins wt ty li mo fi sl io bv : nA} {xk xs a key pl kind tp w p xc xp : Int} {i t s v1 v2 v3 v4 v6 : Int32}
theorem kFl_E {U : gV} {wt' ty' li' mo' fi' sl' : nA} {k : Int} (h : kFl T wt ty li mo fi sl xk k) (k0 : 0 ≤ k) (hk : k < xk) (e : ∀ c j : Nat, (c = 1 ∨ c = 2 ∨ c = 4 ∨ c = 6) → (j : Int) < xk → U c j = T c j) (e3 : U 3 k.toNat = T 3 k.toNat) (e9 : ∀ s : Nat, (s : Int) < T 11 0 → U 9 s = T 9 s) (e11 : T 11 0 ≤ U 11 0) (ew : ∀ j : Int, 0 ≤ j → j < xk → rd wt' j = rd wt j) (ek : rd ty' k = rd ty k ∧ (rd wt k = 1 → rd li' k = rd li k) ∧ rd mo' k = rd mo k ∧ rd fi' k = rd fi k ∧ rd sl' k = rd sl k) : kFl U wt' ty' li' mo' fi' sl' xk k := by
  have q := ew k k0 hk
  obtain ⟨q1, q2, q3, q4, q5⟩ := ek
  unfold kFl kM6
  rw [q, q1, q3, e 1 k.toNat (by omega) (by omega), e 2 k.toNat (by omega) (by omega), e3]
  rcases h with h | h | h | h | h | h
  · exact Or.inl h
  · refine Or.inr (Or.inl ⟨h.1, h.2.1, h.2.2.1, h.2.2.2.1, ?_⟩)
    rw [q2 h.1]
    exact h.2.2.2.2
  · obtain ⟨h1, h2, h3, h4, h5, g1, g2, g3, g4, g5, g6, g9, g7, g8⟩ := h
    refine Or.inr (Or.inr (Or.inl ⟨h1, h2, h3, h4, h5, ?_⟩))
    unfold pF
    rw [e3, e 6 k.toNat (by omega) (by omega), q4, q5]
    refine ⟨g1, g2, g3, g4, by omega, g6, by rw [e9 _ (by omega)]; exact g9, fun j j0 j1 => ?_, fun j j0 j1 => ?_⟩
    · rw [e 4 j.toNat (by omega) (by omega)]
      exact g7 j j0 j1
    · rw [ew j (by omega) (by omega)]
      exact g8 j j0 j1
  · exact Or.inr (Or.inr (Or.inr (Or.inl h)))
  · exact Or.inr (Or.inr (Or.inr (Or.inr (Or.inl h))))
  · exact Or.inr (Or.inr (Or.inr (Or.inr (Or.inr h))))
theorem RQ_i {P P' : gV → Prop} {x : gW} {xw : Int} (h : RQ P x xw) (g : ∀ T, P T → P' T) : RQ P' x xw := ⟨h.1, fun z => ⟨(h.2 z).1, g _ (h.2 z).2⟩⟩
theorem rBs_li (h : rBs T ky wd ho ar ins wt ty li mo fi sl io bv xk xs a) (ha : a ≤ xk) (hi : 0 ≤ i.toInt) (hw : ¬ rd wt i.toInt = 1) : rBs T ky wd ho ar ins wt ty (upd li i.toNatClampNeg v3) mo fi sl io bv xk xs a := by
  refine ⟨h.1, h.2.1, h.2.2.1, h.2.2.2.1, h.2.2.2.2.1, h.2.2.2.2.2.1, fun k k0 k1 => kFl_E (h.2.2.2.2.2.2 k k0 k1) k0 (by omega) (fun _ _ _ _ => rfl) rfl (fun _ _ => rfl) (Int.le_refl _) (fun _ _ _ => rfl) ⟨rfl, fun q => rd_n hi k0 (fun z => hw (by rw [← z]; exact q)), rfl, rfl, rfl⟩⟩
theorem RQ_li {x : gW} {xw : Int} (h : RQ (fun T => rCs T ky wd ho ar ins wt ty li mo fi sl io bv xk xs xk xc xp) x xw) (hi : 0 ≤ i.toInt) (hw : ¬ rd wt i.toInt = 1) : RQ (fun T => rCs T ky wd ho ar ins wt ty (upd li i.toNatClampNeg v3) mo fi sl io bv xk xs xk xc xp) x xw := RQ_i h (fun _ c => ⟨rBs_li c.1 (Int.le_refl _) hi hw, c.2⟩)
theorem RQ_A0 {x : gW} {xw : Int} (h : RQ (fun T => rCs T ky wd ho ar ins wt ty li mo fi sl io bv xk xs xk xc xp) x xw) : RQ (fun T => rAs T ky wd ho ar ins wt ty li mo fi sl io bv xk xs xk xc xp) x xw := RQ_i h (fun _ c => ⟨c, Int.le_refl _, fun k a b c => by omega⟩)
theorem RQ_A {x : gW} {q : Int → Int} {j xw xw' xk2 : Int} {ho' : nA} (h : RQ (fun T => rAs T ky wd ho ar ins wt ty li mo fi sl io bv xk xs a xc xp) x xw) (hd : dcP ho' ho wd ky s (ky j) xk xw xw' i) (hw : s.toInt = xc) (w0 : 1 ≤ xc) (w1 : xc < xs) (hb : xk ≤ 1501) (hpl : ∀ t, 0 ≤ q t ∧ q t ≤ 3000) (hnh : xp < 0 ∨ ¬ rd sl xp = xc) (hi0 : 0 ≤ i.toInt) (hi : i.toInt = xk) (hj : t.toInt = j) (h2 : xk2 = xk + 1) (hv1 : v1.toInt = 1) (hv2 : v2.toInt = tp) (htp : tp = 1 ∨ tp = 2) (hv4 : v4.toInt = 0) (hv6 : v6.toInt = 0) : RQ (fun T => rAs T ky (upd wd i.toNatClampNeg t) ho' ar ins (upd wt i.toNatClampNeg v1) (upd ty i.toNatClampNeg v2) (upd li i.toNatClampNeg v3) mo fi sl (upd io i.toNatClampNeg v6) (upd bv i.toNatClampNeg v4) xk2 xs a xc xp) (gRn1 q x (vD ky j 2 tp (xc - 1))) xw' := by
  subst h2
  refine RQ_D h (fun T c => ⟨c.1.1, nHd_n c.1.1 c.1.2 (by rw [show xc - 1 + 1 = xc from by omega]; exact hnh)⟩) hd (by omega) (by omega) (by omega) hb hpl (fun T c c1 c2 e => ?_)
  obtain ⟨d10, d11, dk, d1, d2, d3, d4, d6, d13, d12, d7, d9⟩ := rD_at (T := T) (key := ky j) (pl := q j) (kind := 2) (tp := tp) (w := xc - 1)
  have ek := c1.1.1
  have ex := c1.2.1.1
  refine ⟨⟨?_, (sPr_e d9 d11).trans c.1.2⟩, by have := c.2.1; omega, fun k k0 k1 k2 => ?_⟩
  · rw [e]
    exact rBs_D c1 (by omega) (by omega) c.2.1 hi0 hi (by rw [hj]) (by omega) (hpl j).2 c2 hv4 hv6 (by omega)
  · unfold kAr
    by_cases z : k = i.toInt
    · rw [show k.toNat = (T 10 0).toNat from by omega, d1, d2, z, rd_s hi0, rd_s hi0]
      exact ⟨hv1, rfl, hv2, htp⟩
    · rw [dk 1 _ (by decide) (by decide) (by decide) (by decide) (by omega), dk 2 _ (by decide) (by decide) (by decide) (by decide) (by omega), rd_n hi0 k0 z, rd_n hi0 k0 z]
      exact c.2.2 k k0 k1 (by omega)
theorem rDim_o {n d : Int} {c k : Nat} (h : ¬ c = 3) : rDim T n d c k = T c k := if_neg (fun z => h z.1)
theorem rDim_f {n d : Int} {c : Nat} (h : ¬ c = 3) : rDim T n d c = T c := funext fun k => rDim_o h
theorem RQ_dim {x : gW} {q : Int → Int} {xw n d : Int} {li' : nA} (h : RQ (fun T => rAs T ky wd ho ar ins wt ty li mo fi sl io bv xk xs a xc xp) x xw) (hn : n = xk - a) (h0 : 0 ≤ a) (hl : ∀ k : Int, a ≤ k → k < xk → rd li' k = d) (hk : ∀ k : Int, 0 ≤ k → k < a → rd li' k = rd li k) : RQ (fun T => rCs T ky wd ho ar ins wt ty li' mo fi sl io bv xk xs xk xc xp) (gRn1 q x (vDim n d)) xw := by
  refine ⟨h.1, fun z => ⟨(h.2 z).1, ?_⟩⟩
  obtain ⟨⟨c1, c2⟩, c3, c4⟩ := (h.2 z).2
  show rCs (rDim x.1 n d) ky wd ho ar ins wt ty li' mo fi sl io bv xk xs xk xc xp
  generalize x.1 = T at *
  have F : ∀ c : Nat, ¬ c = 3 → rDim T n d c = T c := fun c hc => rDim_f hc
  have ek := c1.1.1
  obtain ⟨b1, b2, b3, b4, b5, b6, b7⟩ := c1
  have E : rBs (rDim T n d) ky wd ho ar ins wt ty li' mo fi sl io bv xk xs a := by
    refine ⟨?_, ?_, ?_, ?_, ?_, ?_, fun k k0 k1 => kFl_E (b7 k k0 k1) k0 (by omega) (fun c j hc _ => rDim_o (by omega)) ?_ (fun s _ => rDim_o (by decide)) (by rw [F 11 (by decide)]; exact Int.le_refl _) (fun _ _ _ => rfl) ⟨rfl, fun _ => hk k k0 k1, rfl, rfl, rfl⟩⟩
    · unfold nRl2
      rw [F 10 (by decide), F 0 (by decide), F 4 (by decide)]
      exact b1
    · unfold sRl2
      rw [F 11 (by decide), F 7 (by decide)]
      exact b2
    · exact cI_c b3 (fun k => rDim_o (by decide)) (fun k => rDim_o (by decide)) (fun k => rDim_o (by decide)) (fun k => rDim_o (by decide)) (rDim_o (by decide)) (rDim_o (by decide))
    · rw [F 11 (by decide), F 9 (by decide)]
      exact b4
    · unfold pI
      rw [F 11 (by decide), F 9 (by decide), F 10 (by decide), F 6 (by decide), F 1 (by decide), F 7 (by decide)]
      exact b5
    · intro k k0 k1
      have g := b6 k k0 k1
      rw [F 12 (by decide), F 6 (by decide), F 1 (by decide)]
      refine ⟨g.1, g.2.1, ?_, ?_, mkK_e g.2.2.2.2 rfl rfl (rDim_o (by decide)) (rDim_o (by decide))⟩
      · rw [F 1 (by decide)]
        by_cases c : a ≤ k
        · exact Or.inl (c4 k k0 c k1).2.1
        · have e3 : rDim T n d 3 k.toNat = T 3 k.toNat := if_neg (fun y => by have := y.2.1; omega)
          rw [e3]
          exact g.2.2.1
      · rw [F 1 (by decide), F 2 (by decide)]
        exact g.2.2.2.1
    · exact if_neg (fun y => by have := y.2.1; omega)
  refine ⟨rBs_x E (fun k k0 k1 k2 => ?_), ?_⟩
  · obtain ⟨g1, g2, g3, g4⟩ := c4 k k0 k1 k2
    have e3 : rDim T n d 3 k.toNat = d := if_pos ⟨rfl, by omega, by omega⟩
    unfold kFl
    rw [e3, F 1 (by decide), F 2 (by decide)]
    exact Or.inr (Or.inl ⟨g1, g2, g3, g4, hl k k1 k2⟩)
  · unfold sPr
    rw [F 9 (by decide), F 11 (by decide)]
    exact c2
end
