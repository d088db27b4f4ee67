section
variable {kd ky pl : Int → Int} {L L' : Int} {lo : gL} {lm lm' : gM} {X : Int → Int → gR} {i i0 j k o o0 q w wo ty s n : Int} {b : gB}
theorem bG_al : bG kd 0 i i (bAl w) := ⟨gP_0, rfl, by show 2 * 0 ≤ i - i + 0; omega⟩
theorem i_hed {p : Int × gB} (hb : bG kd 0 i0 i b) (h : gHed kd ky w i b = some p) : bG kd 0 i0 p.1 p.2 := by
  unfold gHed at h
  by_cases hc : kd i = 34
  · rw [if_pos hc] at h
    obtain ⟨u, hu, h⟩ := bind_s h
    obtain ⟨j, hj, h⟩ := bind_s h
    obtain ⟨v, hv, h⟩ := bind_s h
    obtain ⟨s, hs, h⟩ := bind_s h
    cases h
    have z1 := bG_q (n := 0) hb (i_par hu) (by omega)
    have z2 := bG_w (d := 0) (bG_v (v := vCnt u.2.1) (n := 0) (d := -1) z1 (gP_k hj (by decide)) rfl rfl (by have := (tkn_j hj).2; omega)) (by decide)
    have z3 := bG_q (n := 0) z2 (i_vls hv) (by omega)
    have z4 := bG_q (n := 0) z3 (i_sps _ _ _ _ bG_0 hs) (by omega)
    exact bG_q (n := 0) z4 bG_al (by omega)
  · rw [if_neg hc] at h
    obtain ⟨j, hj, h⟩ := bind_s h
    cases h
    exact bG_p hb (gP_k hj (by decide))
theorem gF_pro (hk : plK kd pl) (hM : hMp kd pl L' lm lm') : gF kd pl L' (gPro kd ky L lm ty w i o q) (gPro kd ky L' lm' ty w i o q) i o := by
  intro a ha
  unfold gPro at ha ⊢
  obtain ⟨j, hj, ha⟩ := bind_s ha
  have ej := tkn_j hj
  obtain ⟨t, ht, ha⟩ := bind_s ha
  have et := tkn_j ht
  by_cases hL : o < L
  · rw [if_pos hL] at ha
    obtain ⟨p, hp, ha⟩ := bind_s ha
    obtain ⟨r, hr, ha⟩ := bind_s ha
    have ea : a = (r.1, r.2.1, q, bSq p.2 r.2.2.2) := by cases ha; rfl
    have s0 : bG kd 0 i t (bSq (bEv (vD ky j 3 ty w)) (bOp (vOpP w) w)) := ⟨gP_a (gP_k hj (by decide)) (gP_k ht (by decide)), rfl, by show 2 * 1 ≤ t - i + 0; omega⟩
    have hb := i_hed s0 hp
    have np : p.2.2.2.1 = [w] := np_hed hp
    have z := hM.1 o p.1 (o + 1) 0 r hr
    have hP := hk.2.2.2 i ej.1
    have h1 := hk.1 j (by omega)
    have gm := gP_m hk hb.1
    have gt : gP kd t p.1 := by
      have e1 : t ≤ p.1 := by
        unfold gHed at hp
        by_cases hc : kd t = 34
        · rw [if_pos hc] at hp
          obtain ⟨u1, hu1, hp⟩ := bind_s hp
          obtain ⟨u2, hu2, hp⟩ := bind_s hp
          obtain ⟨u3, hu3, hp⟩ := bind_s hp
          obtain ⟨u4, hu4, hp⟩ := bind_s hp
          cases hp
          have a1 := (i_par hu1).1.1
          have a2 := (tkn_j hu2).2
          have a3 := (i_vls hu3).1.1
          have a4 := (i_sps _ _ _ _ bG_0 hu4).1.1
          show t ≤ u4.1
          omega
        · rw [if_neg hc] at hp
          obtain ⟨u2, hu2, hp⟩ := bind_s hp
          cases hp
          have a2 := (tkn_j hu2).2
          show t ≤ u2
          omega
      exact ⟨e1, fun x h2 h3 => hb.1.2 x (by omega) h3⟩
    have gmt := gP_m hk gt
    have hy : bY kd pl 1 i p.1 := by
      have e2 : pl i + 11 ≤ pl t := by
        have := hP.2 (by rw [← ej.2, et.1]; exact ⟨by decide, by decide⟩)
        rw [← ej.2] at this
        have h1 : pl j + 1 ≤ pl (j + 1) := h1
        rw [← et.2] at h1
        omega
      have := gt.1
      exact ⟨by omega, fun _ _ => by omega⟩
    have e : (gPs a).length = 1 + (gPs r).length := by
      rw [ea]
      show (p.2.2.2.1 ++ gPs r).length = _
      rw [np, List.length_append]
      rfl
    have e2 : a.2.1 = r.2.1 := by rw [ea]
    have e3 : a.1 = r.1 := by rw [ea]
    have z1 := z.2.1
    refine ⟨?_, ?_, ?_, fun hl => ?_⟩
    · rw [ea]
      exact bG_q (n := 0) hb z.1 (by omega)
    · omega
    · rw [e, e3]
      exact bY_a hk (by decide) (by omega) hy z.2.2.1 z.1.1 (by omega)
    · rw [hj]
      show (tkn kd 27 j).bind _ = some a
      rw [ht]
      show (if o < L' then (gHed kd ky o t (bSq (bEv (vD ky j 3 ty w)) (bOp (vOpP w) w))).bind _ else none) = some a
      rw [if_pos (by omega), hp]
      show (lm' 0 0 o p.1 (o + 1) 0).bind _ = some a
      rw [z.2.2.2 (by omega)]
      exact ha
  · rw [if_neg hL] at ha
    cases ha
theorem i_vas0 {own ty q : Int} {p : Int × Int × gB} (hg : gP kd i j) (hl : i + 1 ≤ j) (h : gVas kd ky own ty w j q b0 = some p) : bG kd 0 i p.1 p.2.2 := by
  have z := i_vas h
  exact ⟨gP_a hg z.1, z.2.1, by have := z.2.2; omega⟩
theorem gF_dcl (hk : plK kd pl) (hX : ∀ w i p, X w i = some p → gP kd i p.1) (hM : hMp kd pl L' lm lm') (hd : isDc (kd i) = true) : gF kd pl L' (gDcl kd ky L X lm wo w i o q) (gDcl kd ky L' X lm' wo w i o q) i o := by
  unfold gDcl
  refine gF_i (fun _ => gF_l hk (fun p hp => ⟨i_swi hp, np_swi hp⟩)) (fun c9 => gF_i (fun c8 => ?_) (fun c8 => gF_i (fun c3 => ?_) (fun c3 => ?_)))
  · rw [tkn_p c8]
    show gF kd pl L' ((gTyp kd (i + 1)).bind _) ((gTyp kd (i + 1)).bind _) i o
    cases ht : gTyp kd (i + 1) with
    | none => exact gF_n
    | some t =>
      have y := i_typ ht
      have g := gP_a (gP_t (show 0 < kd i by omega)) y.1
      exact gF_v hk (fun p hp => ⟨i_vas0 g (by have := y.2; omega) hp, np_vas hp⟩)
  · cases ht : gTyp kd i with
    | none => exact gF_n
    | some t =>
      have y := i_typ ht
      show gF kd pl L' (gTyD kd ky L X lm wo t.2 w t.1 o q) (gTyD kd ky L' X lm' wo t.2 w t.1 o q) i o
      unfold gTyD
      refine gF_i (fun _ => gF_p hk y.1 (gF_pro hk hM)) (fun _ => gF_i (fun c5 => ?_) (fun _ => gF_v hk (fun p hp => ⟨i_vas0 y.1 (by have := y.2; omega) hp, np_vas hp⟩)))
      refine gF_p hk y.1 (gF_k hk (by decide) (fun _ => gF_v hk (fun p hp => ⟨i_sgs hX hp, np_sgs hp⟩)))
  · have h6 : kd i = 6 := by
      have := of_decide_eq_true hd
      omega
    unfold gTyD
    rw [if_pos h6, if_pos h6]
    exact gF_pro hk hM
theorem gF_pln (hk : plK kd pl) (hl : qL kd lo) (hM : hMp kd pl L' lm lm') : gF kd pl L' (gPln kd ky L lo lm w i o q) (gPln kd ky L' lo lm' w i o q) i o := by
  have hY : ∀ i p, gExp kd ky lo w i = some p → gP kd i p.1 := fun i p hp => gP_q (q_exp hl hp)
  unfold gPln
  refine gF_i (fun _ => gF_blk hk hM) (fun _ => gF_i (fun _ => gF_i (fun _ => gF_l hk (fun p hp => ⟨i_asn hl hp, np_asn hp⟩)) (fun _ => gF_l hk (fun p hp => ⟨i_cll hl hp, np_cll hp⟩))) (fun _ => gF_i (fun _ => gF_l hk (fun p hp => ⟨i_jmp hl hp, np_jmp hp⟩)) (fun _ => gF_i (fun _ => gF_cho hk hY (fun i o q => hM.1 w i o q)) (fun _ => gF_i (fun _ => gF_for hk hY (fun i o q => hM.1 w i o q)) (fun _ => gF_i (fun c => ?_) (fun _ => gF_r bG_0 (by show o = o + ((([] : List Int).length : Nat) : Int); simp) (bY_0 hk gP_0)))))))
  refine gF_k hk (by decide) (fun _ => ?_)
  cases hb : gBrk kd lo w (i + 1) with
  | none => exact gF_n
  | some p =>
    have g := gP_q (q_brk hl hb)
    exact gF_r (bG_e g rfl rfl) (by show o = o + ((([] : List Int).length : Nat) : Int); simp) (bY_0 hk g)
theorem gF_sl (hk : plK kd pl) : ∀ n : Nat, hMp kd pl L' (gSL kd ky L n) (gSL kd ky L' n) := by
  intro n
  induction n with
  | zero => exact ⟨fun _ _ _ _ => gF_n, fun _ _ _ _ _ _ => gF_n⟩
  | succ n ih =>
    refine ⟨fun w i o q => ?_, fun wo w i o q hd => ?_⟩
    · show gF kd pl L' (gSB kd ky L (gLev kd ky n) (gSL kd ky L n) 0 0 w i o q) (gSB kd ky L' (gLev kd ky n) (gSL kd ky L' n) 0 0 w i o q) i o
      unfold gSB
      rw [if_pos rfl, if_pos rfl]
      exact gF_pln hk (q_lev n) ih
    · show gF kd pl L' (gSB kd ky L (gLev kd ky n) (gSL kd ky L n) 1 wo w i o q) (gSB kd ky L' (gLev kd ky n) (gSL kd ky L' n) 1 wo w i o q) i o
      unfold gSB
      rw [if_neg (show ¬ (1 : Nat) = 0 by decide), if_neg (show ¬ (1 : Nat) = 0 by decide)]
      exact gF_dcl hk (fun w i p hp => gP_q (q_exp (q_lev n) hp)) ih hd
theorem gF_prg (hk : plK kd pl) {a : Int × Int × Int × gB} (h : gPrg kd ky L = some a) : kd a.1 = 0 ∧ bG kd 0 0 a.1 a.2.2.2 ∧ a.2.1 = ((gPs a).length : Int) ∧ pl 0 + 9 * ((gPs a).length : Int) ≤ pl a.1 ∧ (a.2.1 ≤ L' → gPrg kd ky L' = some a) := by
  obtain ⟨r, hr, h2⟩ := bind_s h
  by_cases hc : kd r.1 = 0
  · rw [if_pos hc] at h2
    have e : r = a := Option.some.inj h2
    rw [e] at hr hc
    have z := gF_blk (L := L) (L' := L') hk (gF_sl hk 20) a hr
    refine ⟨hc, z.1, by have := z.2.1; omega, z.2.2.1.1, fun hl => ?_⟩
    unfold gPrg
    rw [z.2.2.2 hl]
    exact if_pos hc
  · rw [if_neg hc] at h2
    cases h2
end
