section
variable {kd ky pl : Int → Int} {L w i j o q ty : Int} {lm : gM} {b : gB}
theorem Y_hed1 (h : kd j = 34) : gHed kd ky w j b = (gPrm kd ky w j).bind fun p => some (p.1, bSq b p.2) := by
  unfold gHed gPrm
  rw [if_pos h]
  cases gPar kd ky w j with
  | none => rfl
  | some p =>
    show (tkn kd 39 p.1).bind _ = ((tkn kd 39 p.1).bind _).bind _
    cases tkn kd 39 p.1 with
    | none => rfl
    | some j =>
      show (gVls kd ky w j).bind _ = ((gVls kd ky w j).bind _).bind _
      cases gVls kd ky w j with
      | none => rfl
      | some v =>
        show (gSps kd ky w 3002 v.1 b0).bind _ = ((gSps kd ky w 3002 v.1 b0).bind _).bind _
        cases gSps kd ky w 3002 v.1 b0 with
        | none => rfl
        | some s =>
          show some (s.1, bSq (bSq (bSq (bSq (bSq b p.2.2) (bEv (vCnt p.2.1))) v.2) s.2) (bAl w)) = some (s.1, bSq b (bSq (bSq (bSq (bSq p.2.2 (bEv (vCnt p.2.1))) v.2) s.2) (bAl w)))
          rw [bSq_as, bSq_as, bSq_as, bSq_as, bSq_as, bSq_as, bSq_as]
theorem Y_hed0 (h : ¬ kd j = 34) (h2 : kd j = 39) : gHed kd ky w j b = some (j + 1, b) := by
  unfold gHed
  rw [if_neg h, tk_y h2]
  rfl
theorem Y_hedn (h : ¬ kd j = 34) (h2 : ¬ kd j = 39) : gHed kd ky w j b = none := by
  unfold gHed
  rw [if_neg h, tk_x h2]
  rfl
theorem Y_pro (h : kd i = 6) (h1 : kd (i + 1) = 27) (ho : o < L) : gPro kd ky L lm ty w i o q = (gHed kd ky o (i + 1 + 1) (bSq (bEv (vD ky (i + 1) 3 ty w)) (bOp (vOpP w) w))).bind fun p => (lm 0 0 o p.1 (o + 1) 0).bind fun r => some (r.1, r.2.1, q, bSq p.2 r.2.2.2) := by
  unfold gPro
  rw [tk_y h]
  show (tkn kd 27 (i + 1)).bind _ = _
  rw [tk_y h1]
  exact if_pos ho
theorem Y_pron (h : kd i = 6) (h1 : ¬ kd (i + 1) = 27) : gPro kd ky L lm ty w i o q = none := by
  unfold gPro
  rw [tk_y h]
  show (tkn kd 27 (i + 1)).bind _ = _
  rw [tk_x h1]
  rfl
theorem Y_prod (h : kd i = 6) (hl : lm = fun _ _ _ _ _ _ => none) : gPro kd ky L lm ty w i o q = none := by
  by_cases h1 : kd (i + 1) = 27
  · by_cases ho : o < L
    · rw [Y_pro h h1 ho, hl]
      cases gHed kd ky o (i + 1 + 1) (bSq (bEv (vD ky (i + 1) 3 ty w)) (bOp (vOpP w) w)) <;> rfl
    · unfold gPro
      rw [tk_y h]
      show (tkn kd 27 (i + 1)).bind _ = _
      rw [tk_y h1]
      exact if_neg ho
  · exact Y_pron h h1
end
section
variable {so st on tw th fo nx wh wt li mr : nA} {kd ky pl : Int → Int}
theorem CV_b {lo hi klo km khi k r : Int} {Q : Int → Prop} (h : CV so on tw th nx wt mr lo hi km khi (fun c => c = r)) (h1 : klo ≤ k) (h2 : k < khi) (h3 : rd wt k = 2) (h4 : rd mr k = r) (h5 : klo ≤ km) : CV so on tw th nx wt mr lo hi klo khi Q := fun x x0 x1 x2 => by
  rcases h x x0 x1 x2 with ⟨c, c0, c1, c2⟩ | ⟨z, z0, z1, z2, z3, z4⟩
  · exact Or.inr ⟨k, h1, h2, h3, by rw [h4, ← c1]; exact c0, by rw [h4, ← c1]; exact c2⟩
  · exact Or.inr ⟨z, by omega, z1, z2, z3, z4⟩
theorem pr_R {F : gS} {a : Int × Int × Int × gB} {B : gB} {q xa xs ow xw xn hi klo km khi xg xl k r : Int} {P : gV → Prop} {x0 : gW} (hF : F = some (a.1, a.2.1, q, bSq B a.2.2.2)) (h1 : xa = a.1) (h2 : xs = a.2.1) (h3 : ow = q) (hR : RQ P (gRun pl a.2.2.2.2.1 (gRun pl B.2.1 x0)) xw) (hB : ∀ e, clC e → ¬ B.2.2.2 e = none) (hfx : FLX so st on tw th fo nx wh wt li kd ky xn hi km khi a.2.2.2.2.2.2) (hcv : CV so on tw th nx wt mr xn hi km khi (fun c => c = r)) (hn : xn ≤ hi) (hk1 : klo ≤ k) (hk2 : k < khi) (hk3 : rd wt k = 2) (hk4 : rd mr k = r) (hk5 : klo ≤ km) (hk6 : km ≤ khi) (hw : ∀ z : Int, klo ≤ z → z < km → ¬ rd wt z = 3) (hl : xl < 0) : dcR F xa xs ow P pl x0 xw so st on tw th fo nx wh wt li mr kd ky xn hi klo khi xg xl := by
  refine ⟨_, hF, h1, h2, h3, ?_, ?_, CV_b hcv hk1 hk2 hk3 hk4 hk5, Or.inl hl⟩
  · show RQ P (gRun pl (B.2.1 ++ a.2.2.2.2.1) x0) xw
    rw [gRun_a]
    exact hR
  · exact FLX_2 (b1 := B.2.2.2) (b2 := a.2.2.2.2.2.2) (mid := xn) (kmid := km) (FLX_0 (fun x a b => by omega) hw hB) hfx (Int.le_refl _) hn hk5 hk6 (fun e _ => bSq_n)
theorem RQ_pe {wd ho ar ins ty mo fi sl io bv sp : nA} {xk xs k xc cn k2 xc2 xw : Int} {x : gW} (h : RQ (fun T => rPs T ky wd ho ar ins wt ty li mo fi sl io bv sp xk xs k xc cn) x xw) (e1 : k2 = k) (e2 : xc2 = xc) : RQ (fun T => rPs T ky wd ho ar ins wt ty li mo fi sl io bv sp xk xs k2 xc2 cn) x xw := by
  subst e1 e2
  exact h
theorem rCs_y {T : gV} {wd ho ar ins ty mo fi sl io bv : nA} {xk xs a xc xp xc2 xp2 : Int} (h : rCs T ky wd ho ar ins wt ty li mo fi sl io bv xk xs a xc xp) (h0 : 0 ≤ xc2) (h1 : xc2 < xs) (hi : 1 ≤ xc2 → rd ins xc2 = xp2) (hz : xc2 = 0 → xp2 = -1) : rCs T ky wd ho ar ins wt ty li mo fi sl io bv xk xs a xc2 xp2 := by
  refine ⟨h.1, ?_⟩
  have ex := h.1.2.1.1
  unfold sPr gG
  by_cases c : xc2 = 0
  · rw [if_neg (by omega), hz c]
  · rw [if_pos ⟨by omega, by omega⟩, ← h.1.2.2.2.1 (xc2 - 1).toNat (by omega), show (((xc2 - 1).toNat : Nat) : Int) + 1 = xc2 from by omega]
    exact hi (by omega)
theorem RQ_bk {wd ho ar ins ty mo fi sl io bv wd' ho' ar' ins' wt' ty' li' mo' fi' sl' io' bv' : nA} {xk xs xk' xs' xc xp xc' xp' xw xw' : Int} {x x' : gW} (h : RQ (fun T => rCs T ky wd' ho' ar' ins' wt' ty' li' mo' fi' sl' io' bv' xk' xs' xk' xc' xp') x' xw') (g : RQ (fun T => rCs T ky wd ho ar ins wt ty li mo fi sl io bv xk xs xk xc xp) x xw) (hm : x'.2 ≤ x.2) (h0 : 0 ≤ xc) (h1 : xc < xs) (h2 : xs ≤ xs') (hi : agv xs ins ins') : RQ (fun T => rCs T ky wd' ho' ar' ins' wt' ty' li' mo' fi' sl' io' bv' xk' xs' xk' xc xp) x' xw' := by
  refine RQ_c h (fun z T c => ?_)
  by_cases y : 0 ≤ xw
  · have := g.1 y
    have := (h.2 z).1
    omega
  · have e := rCs_i (g.2 (by omega)).2 h0 h1
    exact rCs_y c h0 (by omega) (fun q => by rw [hi xc h0 h1]; exact e.1 q) e.2
end
theorem prm_u {kd ky : Int → Int} {w i : Int} {p : Int × gB} (h : gPrm kd ky w i = some p) : p.2.1 = [] := by
  obtain ⟨u, hu, h⟩ := bind_s h
  obtain ⟨j, hj, h⟩ := bind_s h
  obtain ⟨v, hv, h⟩ := bind_s h
  obtain ⟨s, hs, h⟩ := bind_s h
  cases h
  have a := s_par hu
  have c := s_vls hv
  have d := s_sps _ _ _ _ (show b0.1 = [] from rfl) hs
  show (((u.2.2.1 ++ []) ++ v.2.1) ++ s.2.1) ++ [] = []
  rw [a.2, c.2, d.2]
  rfl
