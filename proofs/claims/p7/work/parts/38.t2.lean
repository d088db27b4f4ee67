def pPt (T : gV) (wt ty sl : nA) (k xc cn : Int) : Prop := rd wt k = 2 ∧ T 1 k.toNat = 3 ∧ rd ty k = T 2 k.toNat ∧ (T 2 k.toNat = 0 ∨ T 2 k.toNat = 1 ∨ T 2 k.toNat = 2) ∧ rd sl k = xc ∧ T 6 k.toNat = xc - 1 ∧ T 9 (xc - 1).toNat = k ∧ 0 ≤ xc - 1 ∧ xc - 1 < T 11 0 ∧ T 3 k.toNat = cn
def pJt (T : gV) (wt ty bv sp : nA) (j : Int) : Prop := rd wt j = 5 ∧ ((rd sp j = 0 ∧ T 1 j.toNat = 0 ∧ rd ty j = 0) ∨ (¬ rd sp j = 0 ∧ kM6 T ty j)) ∧ ((rd bv j = 0 ∧ T 13 j.toNat < 0) ∨ (¬ rd bv j = 0 ∧ 0 ≤ T 13 j.toNat ∧ T 13 j.toNat ≤ 3000))
def rPs (T : gV) (ky : Int → Int) (wd ho ar ins wt ty li mo fi sl io bv sp : nA) (xk xs k xc cn : Int) : Prop := rCs T ky wd ho ar ins wt ty li mo fi sl io bv xk xs k xc k ∧ 0 ≤ k ∧ k < xk ∧ pPt T wt ty sl k xc cn ∧ (∀ j : Int, 0 ≤ j → j < xk → (T 4 j.toNat = xc - 1 ↔ k < j)) ∧ ∀ j : Int, k < j → j < xk → pJt T wt ty bv sp j
def pnd (bv sp ty : nA) (k xk : Int) : Prop := ∃ j, k < j ∧ j < xk ∧ ¬ rd bv j = 0 ∧ ¬ rd sp j = 0 ∧ 2 < rd ty j
def RV (P : gV → Prop) (pd : Prop) (x : gW) (xw : Int) : Prop := (0 ≤ xw → x.2 ≤ 3000) ∧ (xw < 0 → (x.2 = 3001 ∧ P x.1 ∧ ¬ pd) ∨ (x.2 ≤ 3000 ∧ pd))
section
variable {T : gV} {ky : Int → Int} {wd ho ar ins wt ty li mo fi sl io bv sp : nA} {xk xs k xc cn key w p : Int} {i t s v1 v2 v3 v4 v5 v6 : Int32}
theorem rF_r {wd ho : nA} {s key : Int} : ∀ (f : Nat) (j : Int), 0 ≤ rF ho wd ky s key f j → 0 ≤ j → j ≤ rF ho wd ky s key f j ∧ rF ho wd ky s key f j < j + (f : Int) ∧ rd ho (rF ho wd ky s key f j) = s := by
  intro f
  induction f with
  | zero => intro j h _; have h : 0 ≤ (-1 : Int) := h; omega
  | succ f ih =>
    intro j h h0
    have e : rF ho wd ky s key (f + 1) j = if rd ho j = s ∧ ky (rd wd j) = key then j else rF ho wd ky s key f (j + 1) := rfl
    rw [e] at h ⊢
    by_cases c : rd ho j = s ∧ ky (rd wd j) = key
    · rw [if_pos c]
      exact ⟨Int.le_refl _, by omega, c.1⟩
    · rw [if_neg c] at h ⊢
      have := ih (j + 1) h (by omega)
      omega
theorem RQ_P0 {x : gW} {xw : Int} (h : RQ (fun T => rCs T ky wd ho ar ins wt ty li mo fi sl io bv xk xs k xc k ∧ pPt T wt ty sl k xc 0 ∧ ∀ j : Int, 0 ≤ j → j < xk → ¬ T 4 j.toNat = xc - 1) x xw) (h1 : xk = k + 1) (h0 : 0 ≤ k) : RQ (fun T => rPs T ky wd ho ar ins wt ty li mo fi sl io bv sp xk xs k xc 0) x xw := RQ_i h (fun T ⟨c1, c2, c3⟩ => ⟨c1, h0, by omega, c2, fun j j0 j1 => ⟨fun z => absurd z (c3 j j0 j1), fun z => by omega⟩, fun j j0 j1 => by omega⟩)
theorem RQ_M {x : gW} {q : Int → Int} {j xw xw' xk2 : Int} {ho' mo' : nA} (h : RQ (fun T => rPs T ky wd ho ar ins wt ty li mo fi sl io bv sp xk xs k xc 0) x xw) (hd : dcP ho' ho wd ky s (ky j) xk xw xw' i) (hw : s.toInt = xc) (w0 : 1 ≤ xc) (w1 : xc < xs) (hb : xk ≤ 1501) (hpl : ∀ t, 0 ≤ q t ∧ q t ≤ 3000) (hi0 : 0 ≤ i.toInt) (hi : i.toInt = xk) (hj : t.toInt = j) (h2 : xk2 = xk + 1) (hv1 : v1.toInt = 5) (hv2 : v2.toInt = 0) (hv4 : v4.toInt = 0) (hv5 : v5.toInt = 0) (hv6 : v6.toInt = 0) (hmo : ∀ j : Int, 0 ≤ j → j < k → rd mo' j = rd mo j) : RQ (fun T => rPs T ky (upd wd i.toNatClampNeg t) ho' ar ins (upd wt i.toNatClampNeg v1) (upd ty i.toNatClampNeg v2) (upd li i.toNatClampNeg v3) mo' fi sl (upd io i.toNatClampNeg v6) (upd bv i.toNatClampNeg v4) (upd sp i.toNatClampNeg v5) xk2 xs k xc 0) (gRn1 q x (vD ky j 0 0 (xc - 1))) xw' := by
  subst h2
  refine RQ_D h (fun T c => ⟨c.1.1, nHd_m c.1.1 c.1.2⟩) hd (by omega) (by omega) (by omega) hb hpl (fun T c c1 c2 e => ?_)
  obtain ⟨d10, d11, dk, d1, d2, d3, d4, d6, d13, d12, d7, d9⟩ := rD_at (T := T) (key := ky j) (pl := q j) (kind := 0) (tp := 0) (w := xc - 1)
  obtain ⟨⟨g1, g2⟩, g3, g4, g5, g6, g7⟩ := c
  have ek := g1.1.1
  have ex := g1.2.1.1
  have b := rBs_D (s := s) (v1 := v1) (v2 := v2) (v3 := v3) (kind := 0) (tp := 0) c1 (by omega) (by omega) (by omega) hi0 hi (show ky t.toInt = ky j by rw [hj]) (by omega) (hpl j).2 c2 hv4 hv6 (fun _ => rfl)
  have b' : rBs (rDcl T (ky j) (q j) 0 0 (xc - 1)) ky (upd wd i.toNatClampNeg t) (upd ho i.toNatClampNeg s) ar ins (upd wt i.toNatClampNeg v1) (upd ty i.toNatClampNeg v2) (upd li i.toNatClampNeg v3) mo' fi sl (upd io i.toNatClampNeg v6) (upd bv i.toNatClampNeg v4) (xk + 1) xs k := ⟨b.1, b.2.1, b.2.2.1, b.2.2.2.1, b.2.2.2.2.1, b.2.2.2.2.2.1, fun z z0 z1 => kFl_E (b.2.2.2.2.2.2 z z0 z1) z0 (by omega) (fun _ _ _ _ => rfl) rfl (fun _ _ => rfl) (Int.le_refl _) (fun _ _ _ => rfl) ⟨rfl, fun _ => rfl, hmo z z0 z1, rfl, rfl⟩⟩
  rw [e]
  refine ⟨⟨b', (sPr_e d9 d11).trans g2⟩, g3, by omega, ?_, fun z z0 z1 => ?_, fun z z0 z1 => ?_⟩
  · unfold pPt at g5 ⊢
    rw [dk 1 _ (by decide) (by decide) (by decide) (by decide) (by omega), dk 2 _ (by decide) (by decide) (by decide) (by decide) (by omega), dk 6 _ (by decide) (by decide) (by decide) (by decide) (by omega), dk 3 _ (by decide) (by decide) (by decide) (by decide) (by omega), d9, d11, rd_n hi0 g3 (by omega), rd_n hi0 g3 (by omega)]
    exact g5
  · by_cases c : z = xk
    · rw [c, ek, d4]
      exact ⟨fun _ => by omega, fun _ => rfl⟩
    · rw [dk 4 _ (by decide) (by decide) (by decide) (by decide) (by omega)]
      exact g6 z z0 (by omega)
  · unfold pJt kM6
    by_cases c : z = i.toInt
    · rw [show z.toNat = (T 10 0).toNat from by omega, d1, d2, d13, c, rd_s hi0, rd_s hi0, rd_s hi0, rd_s hi0]
      exact ⟨hv1, Or.inl ⟨hv5, rfl, hv2⟩, Or.inl ⟨hv4, by decide⟩⟩
    · rw [dk 1 _ (by decide) (by decide) (by decide) (by decide) (by omega), dk 2 _ (by decide) (by decide) (by decide) (by decide) (by omega), dk 13 _ (by decide) (by decide) (by decide) (by decide) (by omega), rd_n hi0 (by omega) c, rd_n hi0 (by omega) c, rd_n hi0 (by omega) c, rd_n hi0 (by omega) c]
      exact g7 z z0 (by omega)
theorem gst_f {c d n : Nat} {v : Int} (h : d ≠ c) : gst T c n v d = T d := funext fun j => gst_c h
theorem xTk_3 {n : Nat} {v : Int} (h : xTk T io bv (n : Int)) (h1 : T 1 ((n : Nat) : Int).toNat = 3) : xTk (gst T 3 n v) io bv (n : Int) := by
  refine ⟨Or.inr (Or.inl ?_), ?_, mkK_e h.2.2 rfl rfl (gst_c (by decide)) (gst_c (by decide))⟩
  · rw [gst_c (by decide)]
    exact h1
  · rw [gst_c (by decide), gst_c (by decide)]
    exact h.2.1
theorem xTk_13 {n : Nat} {v : Int} {bv' : nA} (h : xTk T io bv (n : Int)) (hb : ¬ rd bv' (n : Int) = 0) (hv : 0 ≤ v) : xTk (gst T 13 n v) io bv' (n : Int) := by
  refine ⟨?_, ?_, Or.inr ⟨Or.inr hb, Or.inr ?_⟩⟩
  · rw [gst_c (by decide), gst_c (by decide)]
    exact h.1
  · rw [gst_c (by decide), gst_c (by decide)]
    exact h.2.1
  · rw [show ((n : Nat) : Int).toNat = n from by omega, gst_s]
    exact hv
theorem xTk_1 {n : Nat} {v : Int} (h : xTk T io bv (n : Int)) (h0 : T 1 n = 0) (hv : v = 6 ∨ v = 7 ∨ v = 8) : xTk (gst T 1 n v) io bv (n : Int) := by
  have e : ((n : Nat) : Int).toNat = n := by omega
  have g1 := h.1
  have g2 := h.2.1
  rw [e] at g1 g2
  refine ⟨?_, ?_, mkK_e h.2.2 rfl rfl (gst_c (by decide)) (gst_c (by decide))⟩
  · rw [e, gst_c (c := 1) (d := 3) (by decide)]
    exact Or.inr (Or.inr (by omega))
  · rw [e, gst_s, gst_c (c := 1) (d := 2) (by decide)]
    intro _
    exact g2 (Or.inl h0)
theorem xTk_2 {n : Nat} {v : Int} (h : xTk T io bv (n : Int)) (hv : T 1 n = 0 ∨ T 1 n = 4 ∨ T 1 n = 5 ∨ T 1 n = 8 → v = 0) : xTk (gst T 2 n v) io bv (n : Int) := by
  have e : ((n : Nat) : Int).toNat = n := by omega
  refine ⟨?_, ?_, mkK_e h.2.2 rfl rfl (gst_c (by decide)) (gst_c (by decide))⟩
  · rw [gst_c (by decide), gst_c (by decide)]
    exact h.1
  · rw [e, gst_s, gst_c (c := 2) (d := 1) (by decide)]
    exact hv
theorem rBs_g {c n : Nat} {v : Int} {ty' bv' : nA} (h : rBs T ky wd ho ar ins wt ty li mo fi sl io bv xk xs k) (hk : k ≤ xk) (hc : c = 1 ∨ c = 2 ∨ c = 3 ∨ c = 13) (hn : k ≤ (n : Int)) (hty : ∀ j : Int, 0 ≤ j → j < k → rd ty' j = rd ty j) (h13 : c = 1 → ¬ T 1 n = 3) (hbv : ∀ j : Int, 0 ≤ j → j < xk → ¬ j = (n : Int) → rd bv' j = rd bv j) (hx : (n : Int) < xk → xTk T io bv (n : Int) → xTk (gst T c n v) io bv' (n : Int)) : rBs (gst T c n v) ky wd ho ar ins wt ty' li mo fi sl io bv' xk xs k := by
  obtain ⟨b1, b2, b3, b4, b5, b6, b7⟩ := h
  have F : ∀ d : Nat, d ≠ c → gst T c n v d = T d := fun d hd => gst_f hd
  have O : ∀ d j : Nat, (j : Int) < k → gst T c n v d j = T d j := fun d j hj => if_neg (fun z => by have := z.2; omega)
  refine ⟨?_, ?_, cI_c b3 (fun j => by rw [F 4 (by omega)]) (fun j => by rw [F 5 (by omega)]) (fun j => by rw [F 8 (by omega)]) (fun j => by rw [F 15 (by omega)]) (by rw [F 10 (by omega)]) (by rw [F 11 (by omega)]), ?_, ?_, ?_, fun z z0 z1 => ?_⟩
  · unfold nRl2
    rw [F 10 (by omega), F 0 (by omega), F 4 (by omega)]
    exact b1
  · unfold sRl2
    rw [F 11 (by omega), F 7 (by omega)]
    exact b2
  · rw [F 11 (by omega), F 9 (by omega)]
    exact b4
  · intro s hs
    rw [F 11 (by omega)] at hs
    rw [F 9 (by omega), F 10 (by omega), F 6 (by omega), F 7 (by omega)]
    rcases b5 s hs with u | u | u
    · refine Or.inl ⟨u.1, u.2.1, u.2.2.1, ?_⟩
      by_cases e1 : c = 1
      · subst e1
        rw [gst_k (fun z => h13 rfl (by rw [← z]; exact u.2.2.2))]
        exact u.2.2.2
      · rw [F 1 (fun z => e1 z.symm)]
        exact u.2.2.2
    · exact Or.inr (Or.inl u)
    · exact Or.inr (Or.inr u)
  · intro z z0 z1
    rw [F 12 (by omega), F 6 (by omega)]
    refine ⟨(b6 z z0 z1).1, fun y => ?_, ?_⟩
    rotate_left
    · by_cases e : z = (n : Int)
      · rw [e]
        exact hx (by omega) (by rw [← e]; exact (b6 z z0 z1).2.2)
      · exact xTk_e (b6 z z0 z1).2.2 rfl (hbv z z0 z1 e) (fun d _ => if_neg (fun q => by have := q.2; omega))
    have t1 := (b6 z z0 z1).2.1 y
    by_cases e1 : c = 1
    · subst e1
      rw [gst_k (fun q => h13 rfl (by rw [← q]; exact t1))]
      exact t1
    · rw [F 1 (fun q => e1 q.symm)]
      exact t1
  · have q := b7 z z0 z1
    have e1 := O 1 z.toNat (by omega)
    have e2 := O 2 z.toNat (by omega)
    have e3 := O 3 z.toNat (by omega)
    unfold kFl kM6 pF at q ⊢
    rw [e1, e2, e3, F 4 (by omega), F 6 (by omega), F 9 (by omega), F 11 (by omega), hty z z0 z1]
    exact q
theorem sPr_g {c n : Nat} {v : Int} (hc : c = 1 ∨ c = 2 ∨ c = 3 ∨ c = 13) : sPr (gst T c n v) w = sPr T w := sPr_e (fun j => by rw [gst_f (by omega)]) (by rw [gst_f (by omega)])
theorem RQ_cnt {x : gW} {q : Int → Int} {xw c : Int} (h : RQ (fun T => rPs T ky wd ho ar ins wt ty li mo fi sl io bv sp xk xs k xc 0) x xw) (hc : c = xk - 1 - k) : RQ (fun T => rPs T ky wd ho ar ins wt ty li mo fi sl io bv sp xk xs k xc c) (gRn1 q x (vCnt c)) xw := by
  refine ⟨h.1, fun z => ⟨(h.2 z).1, ?_⟩⟩
  obtain ⟨⟨g1, g2⟩, g3, g4, g5, g6, g7⟩ := (h.2 z).2
  show rPs (gst x.1 3 (x.1 10 0 - 1 - c).toNat c) ky wd ho ar ins wt ty li mo fi sl io bv sp xk xs k xc c
  generalize x.1 = T at *
  have ek := g1.1.1
  rw [show (T 10 0 - 1 - c).toNat = k.toNat from by omega]
  refine ⟨⟨rBs_g g1 (by omega) (by omega) (by omega) (fun _ _ _ => rfl) (fun z => by omega) (fun _ _ _ _ => rfl) (fun _ y => xTk_3 y (show T 1 ((k.toNat : Nat) : Int).toNat = 3 from by rw [show ((k.toNat : Nat) : Int).toNat = k.toNat from by omega]; exact g5.2.1)), (sPr_g (by omega)).trans g2⟩, g3, g4, ?_, ?_, ?_⟩
  · unfold pPt at g5 ⊢
    rw [gst_f (d := 1) (by decide), gst_f (d := 2) (by decide), gst_f (d := 6) (by decide), gst_f (d := 9) (by decide), gst_f (d := 11) (by decide), gst_s]
    exact ⟨g5.1, g5.2.1, g5.2.2.1, g5.2.2.2.1, g5.2.2.2.2.1, g5.2.2.2.2.2.1, g5.2.2.2.2.2.2.1, g5.2.2.2.2.2.2.2.1, g5.2.2.2.2.2.2.2.2.1, rfl⟩
  · rw [gst_f (d := 4) (by decide)]
    exact g6
  · unfold pJt kM6 at g7 ⊢
    rw [gst_f (d := 1) (by decide), gst_f (d := 2) (by decide), gst_f (d := 13) (by decide)]
    exact g7
end
