def stR (F : gS) (xa xs ow : Int) (P : gV → Prop) (pl : Int → Int) (x0 : gW) (xw : Int) (so st on tw th fo nx wh wt li mr : nA) (kd ky : Int → Int) (lo hi klo khi r : Int) : Prop := ∃ a, F = some a ∧ xa = a.1 ∧ xs = a.2.1 ∧ ow = a.2.2.1 ∧ RQ P (gRun pl a.2.2.2.2.1 x0) xw ∧ FLX so st on tw th fo nx wh wt li kd ky lo hi klo khi a.2.2.2.2.2.2 ∧ CV so on tw th nx wt mr lo hi klo khi (fun c => c = r)
def DCC (so on tw th nx wt mr : nA) (xn hi klo khi xg xl : Int) : Prop := CV so on tw th nx wt mr xn hi klo khi (fun c => 0 ≤ xl ∧ sgQ nx xn hi xg c) ∧ (xl < 0 ∨ (xn ≤ xl ∧ xl < hi ∧ rd nx xl = -1 ∧ 18 < rd so xl ∧ sgQ nx xn hi xg xl))
def dcR (F : gS) (xa xs ow : Int) (P : gV → Prop) (pl : Int → Int) (x0 : gW) (xw : Int) (so st on tw th fo nx wh wt li mr : nA) (kd ky : Int → Int) (lo hi klo khi xg xl : Int) : Prop := ∃ a, F = some a ∧ xa = a.1 ∧ xs = a.2.1 ∧ ow = a.2.2.1 ∧ RQ P (gRun pl a.2.2.2.2.1 x0) xw ∧ FLX so st on tw th fo nx wh wt li kd ky lo hi klo khi a.2.2.2.2.2.2 ∧ DCC so on tw th nx wt mr lo hi klo khi xg xl
section
variable {so st on tw th fo nx wh so' st' on' tw' th' fo' nx' wh' so2 st2 on2 tw2 th2 fo2 nx2 wh2 wt li mr wt' li' mr' : nA} {kd ky pl : Int → Int} {L w i o q : Int} {lo : gL} {lm : gM} {X : Int → gR} {P3 : Int → Int → Int → gS}
theorem sl_s {d d1 : Int} (h : d < 20) (e : d1 = d + 1) : gSL kd ky L (20 - d).toNat = gSB kd ky L (gLev kd ky (20 - d1).toNat) (gSL kd ky L (20 - d1).toNat) := by
  rw [show (20 - d).toNat = (20 - d1).toNat + 1 from by omega]
  rfl
theorem sl_z {d : Int} (h : ¬ d < 20) : gSL kd ky L (20 - d).toNat = fun _ _ _ _ _ _ => none := by
  rw [show (20 - d).toNat = 0 from by omega]
  rfl
theorem sl_0 {d d1 : Int} (h : d < 20) (e : d1 = d + 1) : gSL kd ky L (20 - d).toNat 0 0 w i o q = gPln kd ky L (gLev kd ky (20 - d1).toNat) (gSL kd ky L (20 - d1).toNat) w i o q := by
  rw [sl_s h e]
  rfl
theorem sl_1 {d d1 wo : Int} (h : d < 20) (e : d1 = d + 1) : gSL kd ky L (20 - d).toNat 1 wo w i o q = gDcl kd ky L (gExp kd ky (gLev kd ky (20 - d1).toNat)) (gSL kd ky L (20 - d1).toNat) wo w i o q := by
  rw [sl_s h e]
  rfl
theorem ax_t {p r : Int} (h : ax9 p r so st on tw th fo nx wh so' st' on' tw' th' fo' nx' wh') (g : ax9 p r so' st' on' tw' th' fo' nx' wh' so2 st2 on2 tw2 th2 fo2 nx2 wh2) : ax9 p r so st on tw th fo nx wh so2 st2 on2 tw2 th2 fo2 nx2 wh2 := fun c a1 a2 a3 => by
  obtain ⟨e1, e2, e3, e4, e5, e6, e7, e8⟩ := h c a1 a2 a3
  obtain ⟨f1, f2, f3, f4, f5, f6, f7, f8⟩ := g c a1 a2 a3
  refine ⟨f1.trans e1, f2.trans e2, f3.trans e3, f4.trans e4, f5.trans e5, f6.trans e6, f7.trans e7, ?_⟩
  rcases e8 with e8 | e8
  · rcases f8 with f8 | f8
    · exact Or.inl (f8.trans e8)
    · exact Or.inr ⟨by omega, by omega⟩
  · exact Or.inr e8
theorem RQ_c {P P' : gV → Prop} {x : gW} {xw : Int} (h : RQ P x xw) (g : xw < 0 → ∀ T, P T → P' T) : RQ P' x xw := ⟨h.1, fun z => ⟨(h.2 z).1, g z _ (h.2 z).2⟩⟩
theorem Y_pl1 (h : kd i = 1) : gPln kd ky L lo lm w i o q = gBlk kd ky L lm w i o q := if_pos h
theorem Y_plj (h : kd i = 19) : gPln kd ky L lo lm w i o q = (gJmp kd ky lo w i).bind fun p => some (p.1, o, q, p.2) := (if_neg (by omega)).trans ((if_neg (by omega)).trans (if_pos h))
theorem Y_plc (h : kd i = 11) : gPln kd ky L lo lm w i o q = gCho kd (gExp kd ky lo w) (lm 0 0 w) i o q := (if_neg (by omega)).trans ((if_neg (by omega)).trans ((if_neg (by omega)).trans (if_pos h)))
theorem Y_plf (h : kd i = 14) : gPln kd ky L lo lm w i o q = gFor kd ky (gExp kd ky lo w) (lm 0 0 w) w i o q := (if_neg (by omega)).trans ((if_neg (by omega)).trans ((if_neg (by omega)).trans ((if_neg (by omega)).trans (if_pos h))))
theorem Y_plp (h : kd i = 26) : gPln kd ky L lo lm w i o q = (gPri kd lo w i).bind fun p => some (p.1, o, q, p.2) := by
  refine ((if_neg (by omega)).trans ((if_neg (by omega)).trans ((if_neg (by omega)).trans ((if_neg (by omega)).trans ((if_neg (by omega)).trans (if_pos h)))))).trans ?_
  unfold gPri gBrk gBr2
  cases tkn kd 26 i with
  | none => rfl
  | some i =>
    show ((tkn kd 34 i).bind _).bind _ = (((tkn kd 34 i).bind _).bind _).bind _
    cases (tkn kd 34 i).bind fun i => (lo 0 w i).bind fun p => (tkn kd 35 p.1).bind fun j => some (j, p.2) <;> rfl
theorem Y_pln (h : kd i = 27) : gPln kd ky L lo lm w i o q = (gNmS kd ky lo w i).bind fun p => some (p.1, o, q, p.2) := by
  refine ((if_neg (by omega)).trans (if_pos h)).trans ?_
  unfold gNmS
  split <;> rfl
theorem Y_pl0 (h1 : ¬ kd i = 1) (h2 : ¬ kd i = 27) (h3 : ¬ kd i = 19) (h4 : ¬ kd i = 11) (h5 : ¬ kd i = 14) (h6 : ¬ kd i = 26) : gPln kd ky L lo lm w i o q = some (i, o, q, b0) := (if_neg h1).trans ((if_neg h2).trans ((if_neg h3).trans ((if_neg h4).trans ((if_neg h5).trans (if_neg h6)))))
theorem st_N {F : Option (Int × gB)} {xa xs ow xw xn xn2 klo khi : Int} {P : gV → Prop} {x0 : gW} (h : uR F xa so st on tw th fo nx wh kd ky xn xn2) (hx : xs = o) (hq : ow = q) (hR : RQ P x0 xw) (hk : khi = klo) : stR (F.bind fun p => some (p.1, o, q, p.2)) xa xs ow P pl x0 xw so st on tw th fo nx wh wt li mr kd ky xn xn2 klo khi xn := by
  obtain ⟨a, h1, h2, h3, h4⟩ := h
  subst hk
  have nb := h4.2.2.1
  have e : stN (rd so xn) := by
    obtain ⟨-, -, -, z⟩ := h4
    unfold stN
    rcases z with z | z | z | z | z | z | z | z <;> (have := z.1; omega)
  refine ⟨(a.1, o, q, a.2), by rw [h1]; rfl, h2, hx, hq, ?_, FLX_1 (q := xn2) h4 (Int.le_refl _) (fun r a b => by omega) (fun k a b => by omega) (fun e _ => Iff.rfl) e, CV_1 (fun r a b => noB_t nb (by have := h4.1; omega) (by omega) b)⟩
  show RQ P (gRun pl a.2.2.1 x0) xw
  rw [h3]
  exact hR
theorem st_E {xa xs ow xw xn xn2 klo khi : Int} {P : gV → Prop} {x0 : gW} (hp : xa = i) (hx : xs = o) (hq : ow = q) (hR : RQ P x0 xw) (hk : khi = klo) (h2 : xn2 = xn + 1) (hs : rd so xn = 20) : stR (some (i, o, q, b0)) xa xs ow P pl x0 xw so st on tw th fo nx wh wt li mr kd ky xn xn2 klo khi xn := by
  have E : ∀ r : Int, xn ≤ r → r < xn2 → ¬ stN (rd so r) := fun r a b => by rw [show r = xn from by omega, hs]; unfold stN; omega
  exact ⟨(i, o, q, b0), rfl, hp, hx, hq, hR, FLX_0 E (fun k a b => by omega) (fun e _ z => by cases z), CV_0 E⟩
theorem Y_ch0 (h : kd i = 11) (hX : X (i + 1) = none) : gCho kd X P3 i o q = none := by
  unfold gCho
  rw [tk_y h]
  show (X (i + 1)).bind _ = none
  rw [hX]
  rfl
theorem Y_ch {p : Int × gD} (h : kd i = 11) (hX : X (i + 1) = some p) : gCho kd X P3 i o q = (tkn kd 12 p.1).bind fun j => if kd j = 11 ∨ kd j = 14 then none else (P3 j o q).bind fun r => if kd r.1 = 13 then (tkn kd 13 r.1).bind fun k => (P3 k r.2.1 r.2.2.1).bind fun s => some (s.1, s.2.1, s.2.2.1, bSq (bSq (bEx 2 p.2) r.2.2.2) s.2.2.2) else some (r.1, r.2.1, r.2.2.1, bSq (bEx 2 p.2) r.2.2.2) := by
  unfold gCho
  rw [tk_y h]
  show (X (i + 1)).bind _ = _
  rw [hX]
  rfl
theorem st_if1 {p : Int × gD} {a : Int × Int × Int × gB} {F : gS} {xa xs ow xw xn n1 n2 klo khi r : Int} {P : gV → Prop} {x0 : gW} (hF : F = some (a.1, a.2.1, a.2.2.1, bSq (bEx 2 p.2) a.2.2.2)) (h1 : xa = a.1) (h2 : xs = a.2.1) (h3 : ow = a.2.2.1) (hR : RQ P (gRun pl a.2.2.2.2.1 x0) xw) (hn : nD so st on tw th fo nx wh kd ky xn n1 (fun e => ¬ (bEx 2 p.2).2.2.2 e = none)) (hs : rd so xn = 25) (hfx : FLX so st on tw th fo nx wh wt li kd ky n1 n2 klo khi a.2.2.2.2.2.2) (hcv : CV so on tw th nx wt mr n1 n2 klo khi (fun c => c = r)) (hr : rd tw xn = r) (hr2 : r < n2) (hn2 : n1 ≤ n2) (hk : klo ≤ khi) : stR F xa xs ow P pl x0 xw so st on tw th fo nx wh wt li mr kd ky xn n2 klo khi xn := by
  have b := hn.1
  have b2 := hn.2.1
  have nb := hn.2.2.1
  refine ⟨_, hF, h1, h2, h3, hR, FLX_2 (b1 := (bEx 2 p.2).2.2.2) (b2 := a.2.2.2.2.2.2) (FLX_1 (klo := klo) (khi := klo) hn (Int.le_refl _) (fun r a b => by omega) (fun k a b => by omega) (fun e _ => Iff.rfl) (by unfold stN; omega)) hfx (by omega) hn2 (Int.le_refl _) hk (fun e _ => bSq_n), ?_⟩
  refine CV_n (Q := fun c => c = r) (CV_2 (Q1 := fun c => c = r) (mid := n1) (kmid := klo) (CV_0 (fun x a1 a2 => noB_t nb (by omega) (by omega) a2)) hcv (by omega) (by omega) hn2 (Int.le_refl _) hk (fun c z => z) (fun c z => z)) (fun c c0 c1 cq => ⟨c0, c1, Or.inl ⟨hs, Or.inl (by rw [hr]; exact cq)⟩⟩) (fun c z => by rw [z]; exact hr2)
theorem st_if2 {p : Int × gD} {a a2 : Int × Int × Int × gB} {F : gS} {xa xs ow xw xn n1 n2 n3 klo kmid khi r r2 : Int} {P : gV → Prop} {x0 : gW} (hF : F = some (a2.1, a2.2.1, a2.2.2.1, bSq (bSq (bEx 2 p.2) a.2.2.2) a2.2.2.2)) (h1 : xa = a2.1) (h2 : xs = a2.2.1) (h3 : ow = a2.2.2.1) (hR : RQ P (gRun pl a2.2.2.2.2.1 (gRun pl a.2.2.2.2.1 x0)) xw) (hn : nD so st on tw th fo nx wh kd ky xn n1 (fun e => ¬ (bEx 2 p.2).2.2.2 e = none)) (hs : rd so xn = 25) (hfx : FLX so st on tw th fo nx wh wt li kd ky n1 n2 klo kmid a.2.2.2.2.2.2) (hcv : CV so on tw th nx wt mr n1 n2 klo kmid (fun c => c = r)) (hr : rd tw xn = r) (hr2 : r < n2) (hn2 : n1 ≤ n2) (hk : klo ≤ kmid) (hfx2 : FLX so st on tw th fo nx wh wt li kd ky n2 n3 kmid khi a2.2.2.2.2.2.2) (hcv2 : CV so on tw th nx wt mr n2 n3 kmid khi (fun c => c = r2)) (hq : rd th xn = r2) (hq2 : r2 < n3) (hn3 : n2 ≤ n3) (hk2 : kmid ≤ khi) : stR F xa xs ow P pl x0 xw so st on tw th fo nx wh wt li mr kd ky xn n3 klo khi xn := by
  have b := hn.1
  have b2 := hn.2.1
  have nb := hn.2.2.1
  refine ⟨_, hF, h1, h2, h3, ?_, FLX_2 (b1 := (bSq (bEx 2 p.2) a.2.2.2).2.2.2) (b2 := a2.2.2.2.2.2.2) (FLX_2 (b1 := (bEx 2 p.2).2.2.2) (b2 := a.2.2.2.2.2.2) (FLX_1 (klo := klo) (khi := klo) hn (Int.le_refl _) (fun r a b => by omega) (fun k a b => by omega) (fun e _ => Iff.rfl) (by unfold stN; omega)) hfx (by omega) hn2 (Int.le_refl _) hk (fun e _ => bSq_n)) hfx2 (by omega) hn3 hk hk2 (fun e _ => bSq_n), ?_⟩
  · show RQ P (gRun pl (([] ++ a.2.2.2.2.1) ++ a2.2.2.2.2.1) x0) xw
    rw [List.nil_append, gRun_a]
    exact hR
  · refine CV_n (Q := fun c => c = r ∨ c = r2) (CV_2 (Q1 := fun c => c = r) (mid := n2) (kmid := kmid) (CV_2 (Q1 := fun c => c = r) (Q := fun c => c = r) (mid := n1) (kmid := klo) (CV_0 (fun x a1 a2 => noB_t nb (by omega) (by omega) a2)) hcv (by omega) (by omega) hn2 (Int.le_refl _) hk (fun c z => z) (fun c z => z)) hcv2 (by omega) (by omega) hn3 hk hk2 (fun c z => Or.inl z) (fun c z => Or.inr z)) (fun c c0 c1 cq => ⟨c0, c1, Or.inl ⟨hs, cq.imp (fun z => by rw [hr]; exact z) (fun z => by rw [hq]; exact z)⟩⟩) (fun c z => by rcases z with z | z <;> omega)
theorem dc_ar {F : Option (Int × Int × gB)} {xa xs ow xw xn hi klo khi xg xl : Int} {P : gV → Prop} {x0 : gW} (h : arR F xa ow P pl x0 xw so st on tw th fo nx wh wt li mr kd ky xn hi klo khi xg xl) (hx : xs = o) (h0 : 0 ≤ xn) : dcR (F.bind fun p => some (p.1, o, p.2.1, p.2.2)) xa xs ow P pl x0 xw so st on tw th fo nx wh wt li mr kd ky xn hi klo khi xg xl := by
  obtain ⟨a, h1, h2, h3, h4, h5, h6, h7⟩ := h
  refine ⟨(a.1, o, a.2.1, a.2.2), by rw [h1]; rfl, h2, hx, h3, h4, h5, ?_, h7.imp (fun z => z.1) id⟩
  rcases h7 with z | z
  · exact CV_0 (fun r a b => by omega)
  · exact CV_q h6 (fun c _ q => ⟨by have := z.1; omega, q⟩)
theorem dc_va {F : Option (Int × Int × gB)} {xa xs ow xw xn klo khi xg xl : Int} {P : gV → Prop} {x0 : gW} (h : vaR F xa ow P pl x0 xw) (hx : xs = o) (hl : xl < 0) (hw : ∀ k : Int, klo ≤ k → k < khi → ¬ rd wt k = 3) : dcR (F.bind fun p => some (p.1, o, p.2.1, p.2.2)) xa xs ow P pl x0 xw so st on tw th fo nx wh wt li mr kd ky xn xn klo khi xg xl := by
  obtain ⟨a, h1, h2, h3, h4, h5⟩ := h
  exact ⟨(a.1, o, a.2.1, a.2.2), by rw [h1]; rfl, h2, hx, h3, h4, FLX_0 (fun r a b => by omega) hw (fun e _ => h5 e), CV_0 (fun r a b => by omega), Or.inl hl⟩
theorem dc_sw {F : Option (Int × gB)} {xa xs ow xw xn hi klo khi xg xl : Int} {P : gV → Prop} {x0 : gW} (h : swR F xa P pl x0 xw so st on tw th fo nx wh wt li kd ky xn hi klo khi) (hx : xs = o) (ho : ow = q) (hl : xl < 0) (hb : noB so xn hi) (h0 : 0 ≤ xn) : dcR (F.bind fun p => some (p.1, o, q, p.2)) xa xs ow P pl x0 xw so st on tw th fo nx wh wt li mr kd ky xn hi klo khi xg xl := by
  obtain ⟨a, h1, h2, h4, h5⟩ := h
  exact ⟨(a.1, o, q, a.2), by rw [h1]; rfl, h2, hx, ho, h4, h5, CV_0 (fun r a b => noB_t hb h0 a b), Or.inl hl⟩
end
