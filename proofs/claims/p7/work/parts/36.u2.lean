theorem bSq_as {a b c : gB} : bSq (bSq a b) c = bSq a (bSq b c) := by
  unfold bSq
  refine Prod.ext (List.append_assoc ..) (Prod.ext (List.append_assoc ..) (Prod.ext (List.append_assoc ..) (funext fun e => ?_)))
  show ((a.2.2.2 e).bind fun _ => b.2.2.2 e).bind _ = (a.2.2.2 e).bind _
  cases a.2.2.2 e <;> rfl
theorem Y_seg {kd ky : Int → Int} {X : Int → Int → gR} {ty wo w i q : Int} : gSeg kd ky X ty wo w i q = (gSgN kd ky ty w i q b0).bind fun p => (gBds kd (X wo) p.1).bind fun r => some (r.1, p.2.1, bSq (bSq p.2.2.1 r.2.1) (bEv (vDim p.2.2.2 r.2.2))) := by
  unfold gSeg gBds
  cases gSgN kd ky ty w i q b0 with
  | none => rfl
  | some p =>
    show (tkn kd 36 p.1).bind _ = ((tkn kd 36 p.1).bind _).bind _
    cases tkn kd 36 p.1 with
    | none => rfl
    | some i =>
      show (gBnd kd (X wo) i).bind _ = ((gBnd kd (X wo) i).bind _).bind _
      cases gBnd kd (X wo) i with
      | none => rfl
      | some r =>
        show (if kd r.1 = 38 then _ else _) = (if kd r.1 = 38 then _ else _ : Option _).bind _
        split
        · show (gBnd kd (X wo) (r.1 + 1)).bind _ = ((gBnd kd (X wo) (r.1 + 1)).bind _).bind _
          cases gBnd kd (X wo) (r.1 + 1) with
          | none => rfl
          | some s =>
            show (tkn kd 37 s.1).bind _ = ((tkn kd 37 s.1).bind _).bind _
            cases tkn kd 37 s.1 with
            | none => rfl
            | some j =>
              show some _ = some _
              rw [bSq_as (a := p.2.2.1)]
        · show (tkn kd 37 r.1).bind _ = ((tkn kd 37 r.1).bind _).bind _
          cases tkn kd 37 r.1 <;> rfl
def sgQ (nx : nA) (xn hi xg : Int) : Int → Prop := fun c => ∃ n, lR nx (xn - 1) hi n xg c
def SGC (so on tw th nx wt mr : nA) (xn hi klo khi xg xl : Int) : Prop := CV so on tw th nx wt mr xn hi klo khi (sgQ nx xn hi xg) ∧ ((xl < 0 ∧ hi = xn) ∨ (xn ≤ xl ∧ xl < hi ∧ rd nx xl = -1 ∧ 18 < rd so xl ∧ sgQ nx xn hi xg xl))
def nmI2 (kd ky : Int → Int) (G : Option (Int × Int × gB × Int)) (ty w i pos m ow : Int) (P : gV → Prop) (pl : Int → Int) (x0 : gW) (xw n : Int) : Prop := ∃ (k : Nat) (y : Int × gB × Int), 3002 ≤ (k : Int) + (pos - i) ∧ ((m = 1 ∧ G = gLp kd 38 (sSg kd ky ty w) k pos y) ∨ (m = 0 ∧ G = some (pos, y))) ∧ ow = y.1 ∧ RQ P (gRun pl y.2.1.2.1 x0) xw ∧ (∀ e, ¬ y.2.1.2.2.2 e = none) ∧ y.2.2 = n
def sgI (kd ky : Int → Int) (X : Int → Int → gR) (ty wo w : Int) (F : Option (Int × Int × gB)) (i pos ow : Int) (P : gV → Prop) (pl : Int → Int) (x0 : gW) (xw : Int) (so st on tw th fo nx wh wt li mr : nA) (xn hi klo khi xg xl : Int) (U : gB → Prop) : Prop := ∃ (k : Nat) (x : Int × gB), 3002 ≤ (k : Int) + (pos - i) ∧ F = gLp kd 38 (sSe kd ky X ty wo w) k (pos + 1) x ∧ ow = x.1 ∧ RQ P (gRun pl x.2.2.1 x0) xw ∧ FLX so st on tw th fo nx wh wt li kd ky xn hi klo khi x.2.2.2.2 ∧ SGC so on tw th nx wt mr xn hi klo khi xg xl ∧ U x.2
def arR (F : Option (Int × Int × gB)) (xa ow : Int) (P : gV → Prop) (pl : Int → Int) (x0 : gW) (xw : Int) (so st on tw th fo nx wh wt li mr : nA) (kd ky : Int → Int) (xn hi klo khi xg xl : Int) : Prop := ∃ a, F = some a ∧ xa = a.1 ∧ ow = a.2.1 ∧ RQ P (gRun pl a.2.2.2.1 x0) xw ∧ FLX so st on tw th fo nx wh wt li kd ky xn hi klo khi a.2.2.2.2.2 ∧ SGC so on tw th nx wt mr xn hi klo khi xg xl
section
variable {so st on tw th fo nx wh so' st' on' tw' th' fo' nx' wh' wt li mr wt' li' mr' : nA} {kd ky pl : Int → Int} {X : Int → Int → gR} {F : Option (Int × Int × gB)} {G : Option (Int × Int × gB × Int)} {i pos pos2 ty wo w q ow m n : Int} {P P' : gV → Prop} {x0 : gW} {xw xw' xn hi hi2 klo khi xg xl : Int} {k : Nat} {x : Int × gB} {y : Int × gB × Int}
theorem an_0 (hR : RQ P x0 xw) (hp : pos = i) (ho : ow = q) (hn : n = 0) : nmI2 kd ky (gSgN kd ky ty w i q b0) ty w i pos 1 ow P pl x0 xw n := by
  subst hp ho hn
  exact ⟨3002, (ow, b0, 0), by omega, Or.inl ⟨rfl, rfl⟩, rfl, hR, fun e z => (by cases z), rfl⟩
theorem sSg_y (hk : kd pos = 27) (hq : y.1 < 60) : sSg kd ky ty w y pos = some (pos + 1, y.1 + 1, bSq y.2.1 (bEv (vD ky pos 2 ty w)), y.2.2 + 1) := by
  unfold sSg gSto
  rw [if_pos hq, tk_y hk]
  rfl
theorem sSg_n (h : ¬ (kd pos = 27 ∧ y.1 < 60)) : sSg kd ky ty w y pos = none := by
  unfold sSg gSto
  by_cases hq : y.1 < 60
  · rw [if_pos hq, tk_x (fun z => h ⟨z, hq⟩)]
    rfl
  · rw [if_neg hq]
    rfl
theorem an_s {ow2 m2 n2 : Int} (h1 : 3002 ≤ (k : Int) + (pos - i)) (hG : G = gLp kd 38 (sSg kd ky ty w) k pos y) (hle : pos - i ≤ 3000) (hk : kd pos = 27) (hq : y.1 < 60) (ho : ow2 = y.1 + 1) (hR : RQ P' (gRn1 pl (gRun pl y.2.1.2.1 x0) (vD ky pos 2 ty w)) xw') (he : ∀ e, ¬ y.2.1.2.2.2 e = none) (hn : n2 = y.2.2 + 1) (hm : (kd (pos + 1) = 38 ∧ m2 = 1 ∧ pos2 = pos + 1 + 1) ∨ (¬ kd (pos + 1) = 38 ∧ m2 = 0 ∧ pos2 = pos + 1)) : nmI2 kd ky G ty w i pos2 m2 ow2 P' pl x0 xw' n2 := by
  obtain ⟨k', rfl⟩ : ∃ k' : Nat, k = k' + 1 := ⟨k - 1, by omega⟩
  have e := hG.trans (gLq_s (sSg_y hk hq))
  have r : RQ P' (gRun pl (bSq y.2.1 (bEv (vD ky pos 2 ty w))).2.1 x0) xw' := by
    show RQ P' (gRun pl (y.2.1.2.1 ++ [_]) x0) xw'
    rw [gRun_1]
    exact hR
  have s : ∀ e, ¬ (bSq y.2.1 (bEv (vD ky pos 2 ty w))).2.2.2 e = none := fun e => bSq_n.mpr ⟨he e, fun z => by cases z⟩
  rcases hm with ⟨m1, m2, m3⟩ | ⟨m1, m2, m3⟩
  · rw [if_pos m1] at e
    exact ⟨k', _, by omega, Or.inl ⟨m2, by rw [m3]; exact e⟩, ho, r, s, hn.symm⟩
  · rw [if_neg m1] at e
    exact ⟨k', (y.1 + 1, bSq y.2.1 (bEv (vD ky pos 2 ty w)), y.2.2 + 1), by omega, Or.inr ⟨m2, by rw [m3]; exact e⟩, ho, r, s, hn.symm⟩
theorem an_n (hG : G = gLp kd 38 (sSg kd ky ty w) k pos y) (h : ¬ (kd pos = 27 ∧ y.1 < 60)) : G = none := hG.trans (gLq_n (sSg_n h))
theorem ar_d (hF : F = gLp kd 38 (sSe kd ky X ty wo w) k (pos + 1) x) (hG : gSgN kd ky ty w (pos + 1) x.1 b0 = none) : F = none := by
  refine hF.trans (gLq_n ?_)
  unfold sSe
  rw [Y_seg, hG]
  rfl
theorem ar_b (hF : F = gLp kd 38 (sSe kd ky X ty wo w) k (pos + 1) x) (hG : gSgN kd ky ty w (pos + 1) x.1 b0 = some (pos2, y)) (hB : gBds kd (X wo) pos2 = none) : F = none := by
  refine hF.trans (gLq_n ?_)
  unfold sSe
  rw [Y_seg, hG]
  show ((gBds kd (X wo) pos2).bind _).bind _ = none
  rw [hB]
  rfl
theorem ar_0 (hF : F = gSgs kd ky X ty wo w (i + 1) ow b0) (hR : RQ P x0 xw) (h0 : xl < 0) (hn : hi = xn) (hk : khi = klo) {U : gB → Prop} (hU : U b0) : sgI kd ky X ty wo w F i i ow P pl x0 xw so st on tw th fo nx wh wt li mr xn hi klo khi xg xl U := ⟨3002, (ow, b0), by omega, hF, rfl, hR, FLX_0 (fun r a b => by omega) (fun k a b => by omega) (fun e _ z => by cases z), ⟨CV_0 (fun r a b => by omega), Or.inl ⟨h0, hn⟩⟩, hU⟩
theorem ar_seg {aB : Int × gB × Int} (hG : gSgN kd ky ty w (pos + 1) x.1 b0 = some (pos2, y)) (hB : gBds kd (X wo) pos2 = some aB) : sSe kd ky X ty wo w x (pos + 1) = some (aB.1, y.1, bSq x.2 (bSq (bSq y.2.1 aB.2.1) (bEv (vDim y.2.2 aB.2.2)))) := by
  unfold sSe
  rw [Y_seg, hG]
  show (((gBds kd (X wo) pos2).bind _).bind _) = _
  rw [hB]
  rfl
theorem ar_ev {aB : Int × gB × Int} (hv : aB.2.1.2.1 = []) (hR : RQ P (gRn1 pl (gRun pl y.2.1.2.1 (gRun pl x.2.2.1 x0)) (vDim y.2.2 aB.2.2)) xw) : RQ P (gRun pl (bSq x.2 (bSq (bSq y.2.1 aB.2.1) (bEv (vDim y.2.2 aB.2.2)))).2.1 x0) xw := by
  show RQ P (gRun pl (x.2.2.1 ++ ((y.2.1.2.1 ++ aB.2.1.2.1) ++ [_])) x0) xw
  rw [hv, List.append_nil, gRun_a, gRun_1]
  exact hR
theorem ar_sem {aB : Int × gB × Int} {e : gV} (he : ∀ e, ¬ y.2.1.2.2.2 e = none) : ¬ (bSq x.2 (bSq (bSq y.2.1 aB.2.1) (bEv (vDim y.2.2 aB.2.2)))).2.2.2 e = none ↔ ¬ x.2.2.2.2 e = none ∧ ¬ aB.2.1.2.2.2 e = none := by
  rw [bSq_n, bSq_n, bSq_n]
  exact ⟨fun z => ⟨z.1, z.2.1.2⟩, fun z => ⟨z.1, ⟨he e, z.2⟩, fun q => by cases q⟩⟩
theorem SGC_u (h : SGC so on tw th nx wt mr xn hi klo khi xg xl) (h0 : 1 ≤ xn) (g : ax9 xn hi so st on tw th fo nx wh so' st' on' tw' th' fo' nx' wh') (gx : xl < 0 ∨ rd nx' xl = rd nx xl) (gn : ∀ k : Int, klo ≤ k → k < khi → rd wt' k = rd wt k ∧ rd mr' k = rd mr k) : SGC so' on' tw' th' nx' wt' mr' xn hi klo khi xg xl := by
  have GX : ∀ c : Int, xn - 1 < c → c < hi → rd nx' c = rd nx c ∨ rd nx c < 0 := fun c a b => (g c (by omega) b (by omega)).2.2.2.2.2.2.2.imp id (fun z => z.2)
  have LQ : ∀ c, sgQ nx xn hi xg c → sgQ nx' xn hi xg c := fun c ⟨n, z⟩ => ⟨n, lR_u (by omega) (Int.le_refl _) GX n _ _ z⟩
  refine ⟨CV_q (CV_u h.1 (by omega) g gn) (fun c _ => LQ c), h.2.imp id (fun z => ?_)⟩
  obtain ⟨z1, z2, z3, z4, z5⟩ := z
  refine ⟨z1, z2, ?_, by rw [(g xl z1 z2 (by omega)).1]; exact z4, LQ _ z5⟩
  rcases gx with y | y
  · omega
  · rw [y]
    exact z3
theorem SGC_1 {s : Int} (h : SGC so on tw th nx wt mr xn hi klo khi xg xl) (hx : xl < 0) (hs : s = hi) (h2 : s < hi2) (hb : noB so (s + 1) hi2) (h0 : 1 ≤ xn) (hn : rd nx s = -1) (ho : 18 < rd so s) : SGC so on tw th nx wt mr xn hi2 klo khi s s := by
  have e : hi = xn := by
    rcases h.2 with z | z
    · exact z.2
    · omega
  subst hs
  subst e
  have c := CV_1 (so := so) (on := on) (tw := tw) (th := th) (nx := nx) (wt := wt) (mr := mr) (lo := s) (hi := hi2) (klo := klo) (khi := khi) (fun r a b => noB_t hb (by omega) (by omega) b)
  refine ⟨CV_q c (fun c _ q => ⟨0, q, by omega, by omega⟩), Or.inr ⟨Int.le_refl _, h2, hn, ho, 0, rfl, by omega, h2⟩⟩
theorem SGC_2 {s z : Int32} (h : SGC so on tw th nx wt mr xn hi klo khi xg z.toInt) (hx : 0 ≤ z.toInt) (hs : s.toInt = hi) (h2 : s.toInt < hi2) (hb : noB so (s.toInt + 1) hi2) (h0 : 1 ≤ xn) (hn : rd nx s.toInt = -1) (ho : 18 < rd so s.toInt) (hkk : klo ≤ khi) : SGC so on tw th (upd nx z.toNatClampNeg s) wt mr xn hi2 klo khi xg s.toInt := by
  obtain ⟨h1, hz⟩ := h
  rcases hz with hz | ⟨z1, z2, z3, z4, z5⟩
  · omega
  · have hh : xn ≤ hi := by omega
    have ne : s.toInt ≠ z.toInt := by omega
    have ax : ax9 xn hi so so on tw th so nx so so so on tw th so (upd nx z.toNatClampNeg s) so := fun c a b d => ⟨rfl, rfl, rfl, rfl, rfl, rfl, rfl, by
      by_cases q : c = z.toInt
      · rw [q]; exact Or.inr ⟨z4, by omega⟩
      · exact Or.inl (rd_n hx d q)⟩
    have GX : ∀ c : Int, xn - 1 < c → c < hi → rd (upd nx z.toNatClampNeg s) c = rd nx c ∨ rd nx c < 0 := fun c a b => (ax c (by omega) b (by omega)).2.2.2.2.2.2.2.imp id (fun z => z.2)
    have LQ : ∀ c, sgQ nx xn hi xg c → sgQ (upd nx z.toNatClampNeg s) xn hi2 xg c := fun c ⟨n, q⟩ => ⟨n, lR_u (by omega) (by omega) GX n _ _ q⟩
    have SQ : sgQ (upd nx z.toNatClampNeg s) xn hi2 xg s.toInt := by
      obtain ⟨n, q⟩ := z5
      exact ⟨n + 1, lR_s (by omega) hx (by omega) (by omega) h2 (by omega) n _ q⟩
    have c1 := CV_u (wt' := wt) (mr' := mr) h1 (by omega) ax (fun _ _ _ => ⟨rfl, rfl⟩)
    have c2 := CV_1 (so := so) (on := on) (tw := tw) (th := th) (nx := upd nx z.toNatClampNeg s) (wt := wt) (mr := mr) (lo := hi) (hi := hi2) (klo := khi) (khi := khi) (fun r a b => noB_t hb (by omega) (by omega) b)
    refine ⟨CV_2 c1 c2 (by omega) hh (by omega) hkk (Int.le_refl _) (fun c q => LQ c q) (fun c q => by rw [show c = s.toInt from by omega]; exact SQ), Or.inr ⟨by omega, h2, ?_, ho, SQ⟩⟩
    rw [rd_n hx (by omega) ne]
    exact hn
theorem SGC_k {khi2 : Int} (h : SGC so on tw th nx wt mr xn hi klo khi xg xl) (hk : khi ≤ khi2) : SGC so on tw th nx wt mr xn hi klo khi2 xg xl := ⟨fun r r0 r1 r2 => (h.1 r r0 r1 r2).imp id (fun ⟨k, k0, k1, k2⟩ => ⟨k, k0, by omega, k2⟩), h.2⟩
theorem FLX_k {khi2 : Int} {b : gV → Option Int} (h : FLX so st on tw th fo nx wh wt li kd ky xn hi klo khi b) (hk : klo ≤ khi) (hk2 : khi ≤ khi2) (hn : ∀ k : Int, khi ≤ k → k < khi2 → ¬ rd wt k = 3) : FLX so st on tw th fo nx wh wt li kd ky xn hi klo khi2 b := by
  obtain ⟨M, N, h1, h2, h3⟩ := h
  have E : ∀ k : Int, k < khi2 → rd wt k = 3 → k < khi := fun k a b => by
    by_cases c : k < khi
    · exact c
    · exact absurd b (hn k (by omega) a)
  exact ⟨M, N, h1, fun k k0 k1 k2 => h2 k k0 (E k k1 k2) k2, fun e he => (h3 e he).trans ⟨fun z => ⟨z.1, fun k k0 k1 k2 => z.2 k k0 (E k k1 k2) k2⟩, fun z => ⟨z.1, fun k k0 k1 k2 => z.2 k k0 (by omega) k2⟩⟩⟩
theorem ar_fx {aB : Int × gB × Int} (h : FLX so st on tw th fo nx wh wt li kd ky xn hi klo khi x.2.2.2.2) (hn : nD so st on tw th fo nx wh kd ky hi hi2 (fun e => ¬ aB.2.1.2.2.2 e = none)) (ht : rd so hi = 30) (h1 : xn ≤ hi) (hk : klo ≤ khi) (he : ∀ e, ¬ y.2.1.2.2.2 e = none) : FLX so st on tw th fo nx wh wt li kd ky xn hi2 klo khi (bSq x.2 (bSq (bSq y.2.1 aB.2.1) (bEv (vDim y.2.2 aB.2.2)))).2.2.2 :=
  FLX_2 (b2 := aB.2.1.2.2.2) h (FLX_1 (klo := khi) (khi := khi) hn (Int.le_refl _) (fun r a b => by omega) (fun k a b => by omega) (fun e _ => Iff.rfl) (by unfold stN; omega)) h1 (by have := hn.2.1; omega) hk (Int.le_refl _) (fun e _ => ar_sem he)
theorem ar_s {aB : Int × gB × Int} (h1 : 3002 ≤ (k : Int) + (pos - i)) (hF : F = gLp kd 38 (sSe kd ky X ty wo w) k (pos + 1) x) (hle : pos - i ≤ 3000) (hG : gSgN kd ky ty w (pos + 1) x.1 b0 = some (pos2, y)) (hB : gBds kd (X wo) pos2 = some aB) (hp : pos < aB.1) (hc : kd aB.1 = 38) (hR : RQ P (gRun pl (bSq x.2 (bSq (bSq y.2.1 aB.2.1) (bEv (vDim y.2.2 aB.2.2)))).2.1 x0) xw) (ho : ow = y.1) {pos3 : Int} (hp3 : pos3 = aB.1) (hX : FLX so st on tw th fo nx wh wt li kd ky xn hi klo khi (bSq x.2 (bSq (bSq y.2.1 aB.2.1) (bEv (vDim y.2.2 aB.2.2)))).2.2.2) (hS : SGC so on tw th nx wt mr xn hi klo khi xg xl) {U : gB → Prop} (hU : U (bSq x.2 (bSq (bSq y.2.1 aB.2.1) (bEv (vDim y.2.2 aB.2.2))))) : sgI kd ky X ty wo w F i pos3 ow P pl x0 xw so st on tw th fo nx wh wt li mr xn hi klo khi xg xl U := by
  obtain ⟨k', rfl⟩ : ∃ k' : Nat, k = k' + 1 := ⟨k - 1, by omega⟩
  have e := hF.trans (gLq_s (ar_seg hG hB))
  rw [if_pos hc] at e
  exact ⟨k', _, by omega, by rw [hp3]; exact e, ho, hR, hX, hS, hU⟩
theorem ar_x {aB : Int × gB × Int} (h1 : 3002 ≤ (k : Int) + (pos - i)) (hF : F = gLp kd 38 (sSe kd ky X ty wo w) k (pos + 1) x) (hle : pos - i ≤ 3000) (hG : gSgN kd ky ty w (pos + 1) x.1 b0 = some (pos2, y)) (hB : gBds kd (X wo) pos2 = some aB) (hc : ¬ kd aB.1 = 38) (hR : RQ P (gRun pl (bSq x.2 (bSq (bSq y.2.1 aB.2.1) (bEv (vDim y.2.2 aB.2.2)))).2.1 x0) xw) (ho : ow = y.1) {pos3 : Int} (hp3 : pos3 = aB.1) (hX : FLX so st on tw th fo nx wh wt li kd ky xn hi klo khi (bSq x.2 (bSq (bSq y.2.1 aB.2.1) (bEv (vDim y.2.2 aB.2.2)))).2.2.2) (hS : SGC so on tw th nx wt mr xn hi klo khi xg xl) : arR F pos3 ow P pl x0 xw so st on tw th fo nx wh wt li mr kd ky xn hi klo khi xg xl := by
  obtain ⟨k', rfl⟩ : ∃ k' : Nat, k = k' + 1 := ⟨k - 1, by omega⟩
  have e := hF.trans (gLq_s (ar_seg hG hB))
  rw [if_neg hc] at e
  exact ⟨_, e, hp3, ho, hR, hX, hS⟩
theorem ar_y {aB : Int × gB × Int} (h1 : 3002 ≤ (k : Int) + (pos - i)) (hF : F = gLp kd 38 (sSe kd ky X ty wo w) k (pos + 1) x) (hle : pos - i ≤ 3000) (hG : gSgN kd ky ty w (pos + 1) x.1 b0 = some (pos2, y)) (hB : gBds kd (X wo) pos2 = some aB) (hc : ¬ kd aB.1 = 38) : F = some (aB.1, y.1, bSq x.2 (bSq (bSq y.2.1 aB.2.1) (bEv (vDim y.2.2 aB.2.2)))) := by
  obtain ⟨k', rfl⟩ : ∃ k' : Nat, k = k' + 1 := ⟨k - 1, by omega⟩
  have e := hF.trans (gLq_s (ar_seg hG hB))
  rw [if_neg hc] at e
  exact e
theorem ar_u {aB : Int × gB × Int} {dc : nA} {j : Int} {q2 : Int} (hG : gSgN kd ky ty w (pos + 1) q2 b0 = some (pos2, y)) (h : sW kd st wh dc xn hi i j (x.2.1 ++ aB.2.1.1)) : sW kd st wh dc xn hi i j (bSq x.2 (bSq (bSq y.2.1 aB.2.1) (bEv (vDim y.2.2 aB.2.2)))).1 := by
  show sW kd st wh dc xn hi i j (x.2.1 ++ ((y.2.1.1 ++ aB.2.1.1) ++ []))
  have e : y.2.1.1 = [] := sgn_u hG
  rw [e, List.append_nil]
  exact h
theorem uP2_i {dc : nA} {j : Int} {z : Int × Int × gB} (h : F = some z) (g : sW kd st wh dc xn hi i j z.2.2.1) : uP2 F kd st wh dc xn hi i j := fun a ha => by
  rw [h] at ha
  cases ha
  exact g
end
