section
variable {kd ky pl : Int → Int} {L L' : Int} {lo : gL} {lm lm' : gM} {X : Int → Int → gR} {P P' D D' : Int → Int → Int → gS} {i i0 j k o o0 q w wo ty s n : Int} {F F' : gS} {b : gB}
theorem gF1_i {c : Prop} [Decidable c] {F1 F1' F2 F2' : gS} (h : c → gF1 kd pl L' F1 F1' i o) (g : ¬ c → gF1 kd pl L' F2 F2' i o) : gF1 kd pl L' (if c then F1 else F2) (if c then F1' else F2') i o := by
  by_cases hc : c
  · rw [if_pos hc, if_pos hc]
    exact h hc
  · rw [if_neg hc, if_neg hc]
    exact g hc
theorem gF1_n : gF1 kd pl L' none F' i o := fun a ha => by cases ha
theorem gF1_sts (hk : plK kd pl) (hP : ∀ i o q, gF kd pl L' (P i o q) (P' i o q) i o) : ∀ (n : Nat) (i o q : Int) (b : gB), bG kd 0 i0 i b → o = o0 + (b.2.2.1.length : Int) → 1 ≤ (b.2.2.1.length : Int) → bY kd pl ((b.2.2.1.length : Int) - 1) i0 i → gF1 kd pl L' (gLp kd 39 (sSt kd ky w P) n i (o, q, b)) (gLp kd 39 (sSt kd ky w P') n i (o, q, b)) i0 o0 := by
  intro n
  induction n with
  | zero => intro i o q b _ _ _ _; exact gF1_n
  | succ n ih =>
    intro i o q b hb ho h1 hy
    have ihr : ∀ r : Int × Int × Int × gB, bG kd 0 i0 r.1 r.2.2.2 → r.2.1 = o0 + ((gPs r).length : Int) → 1 ≤ ((gPs r).length : Int) → bY kd pl (((gPs r).length : Int) - 1) i0 r.1 → kd r.1 = 39 → gF1 kd pl L' (gLp kd 39 (sSt kd ky w P) n (r.1 + 1) r.2) (gLp kd 39 (sSt kd ky w P') n (r.1 + 1) r.2) i0 o0 := fun r c1 c2 c3 c4 c5 => by
      have t1 : gP kd r.1 (r.1 + 1) := gP_t (by omega)
      exact ih (r.1 + 1) r.2.1 r.2.2.1 r.2.2.2 (bG_p c1 t1) c2 c3 (bY_a (n := ((gPs r).length : Int) - 1) hk (by omega) (by decide) c4 (bY_0 hk t1) t1 (by omega))
    have g1 : gF1 kd pl L' (sSt kd ky w P (o, q, b) i) (sSt kd ky w P' (o, q, b) i) i0 o0 := gF1_q hk hb ho h1 hy (gF_st1 hk hP)
    refine gF1_s (K := fun p => if kd p.1 = 39 then gLp kd 39 (sSt kd ky w P) n (p.1 + 1) p.2 else some p) (K' := fun p => if kd p.1 = 39 then gLp kd 39 (sSt kd ky w P') n (p.1 + 1) p.2 else some p) g1 (fun r hr c1 c2 c3 c4 => gF1_i (fun c5 => ihr r c1 c2 c3 c4 c5) (fun _ => gF1_r c1 c2 c3 c4)) (fun r a hr ha => ?_)
    have z := g1 r hr
    have ha : (if kd r.1 = 39 then gLp kd 39 (sSt kd ky w P) n (r.1 + 1) r.2 else some r) = some a := ha
    by_cases hc : kd r.1 = 39
    · rw [if_pos hc] at ha
      have y := ihr r z.1 z.2.1 z.2.2.1 z.2.2.2.1 hc a ha
      obtain ⟨ps, e⟩ := pf_sts ha
      have e2 : (gPs a).length = (gPs r).length + ps.length := by rw [e, List.length_append]
      have := y.2.1
      have := z.2.1
      omega
    · rw [if_neg hc] at ha
      cases ha
      exact Int.le_refl _
theorem gF1_dcs (hk : plK kd pl) (hD : ∀ i o q, isDc (kd i) = true → gF kd pl L' (D i o q) (D' i o q) i o) : ∀ (n : Nat) (i o q : Int) (b : gB), bG kd 0 i0 i b → o = o0 + (b.2.2.1.length : Int) → 1 ≤ (b.2.2.1.length : Int) → bY kd pl ((b.2.2.1.length : Int) - 1) i0 i → gF1 kd pl L' (gDcs kd D n i o q b) (gDcs kd D' n i o q b) i0 o0 := by
  intro n
  induction n with
  | zero => intro i o q b _ _ _ _; exact gF1_n
  | succ n ih =>
    intro i o q b hb ho h1 hy
    show gF1 kd pl L' (if isDc (kd i) = true then _ else some (i, o, q, b)) (if isDc (kd i) = true then _ else some (i, o, q, b)) i0 o0
    refine gF1_i (fun hd => ?_) (fun _ => gF1_r hb ho h1 hy)
    have ihr : ∀ r : Int × Int × Int × gB, bG kd 0 i0 r.1 r.2.2.2 → r.2.1 = o0 + ((gPs r).length : Int) → 1 ≤ ((gPs r).length : Int) → bY kd pl (((gPs r).length : Int) - 1) i0 r.1 → kd r.1 = 39 → gF1 kd pl L' (gDcs kd D n (r.1 + 1) r.2.1 r.2.2.1 r.2.2.2) (gDcs kd D' n (r.1 + 1) r.2.1 r.2.2.1 r.2.2.2) i0 o0 := fun r c1 c2 c3 c4 c5 => by
      have t1 : gP kd r.1 (r.1 + 1) := gP_t (by omega)
      exact ih (r.1 + 1) r.2.1 r.2.2.1 r.2.2.2 (bG_p c1 t1) c2 c3 (bY_a (n := ((gPs r).length : Int) - 1) hk (by omega) (by decide) c4 (bY_0 hk t1) t1 (by omega))
    have g1 := gF1_q hk hb ho h1 hy (hD i o q hd)
    have g2 := gF1_s (K := fun r => (tkn kd 39 r.1).bind fun j => gDcs kd D n j r.2.1 r.2.2.1 r.2.2.2) (K' := fun r => (tkn kd 39 r.1).bind fun j => gDcs kd D' n j r.2.1 r.2.2.1 r.2.2.2) g1 (fun r hr c1 c2 c3 c4 => ?_) (fun r a hr ha => ?_)
    · rw [bind_q, bind_q] at g2
      exact g2
    · by_cases hc : kd r.1 = 39
      · rw [tkn_p hc]
        exact ihr r c1 c2 c3 c4 hc
      · unfold tkn
        rw [if_neg hc]
        exact gF1_n
    · have z := g1 r hr
      obtain ⟨j, hj, ha⟩ := bind_s ha
      have ej := tkn_j hj
      rw [ej.2] at ha
      have y := ihr r z.1 z.2.1 z.2.2.1 z.2.2.2.1 ej.1 a ha
      obtain ⟨ps, e⟩ := pf_dcs _ _ _ _ _ _ ha
      have e2 : (gPs a).length = (gPs r).length + ps.length := by rw [e, List.length_append]
      have := y.2.1
      have := z.2.1
      omega
def hMp (kd pl : Int → Int) (L' : Int) (lm lm' : gM) : Prop := (∀ w i o q, gF kd pl L' (lm 0 0 w i o q) (lm' 0 0 w i o q) i o) ∧ (∀ wo w i o q, isDc (kd i) = true → gF kd pl L' (lm 1 wo w i o q) (lm' 1 wo w i o q) i o)
theorem gF1_bw (hk : plK kd pl) (hM : hMp kd pl L' lm lm') : gF1 kd pl L' (gBW kd ky lm w i o q) (gBW kd ky lm' w i o q) i o := by
  have g1 := gF1_dcs (i0 := i) (o0 := o) hk (fun i' o' q' => hM.2 w o i' o' q') 3002 i (o + 1) q (bOp (vOpB w) w) ⟨gP_0, rfl, by show 2 * 0 ≤ i - i + 0; omega⟩ (by show o + 1 = o + ((1 : Nat) : Int); omega) (by show (1 : Int) ≤ ((1 : Nat) : Int); omega) (by show bY kd pl (((1 : Nat) : Int) - 1) i i; exact bY_0 hk gP_0)
  refine gF1_s (K := fun p => gSts kd ky o (lm 0 0 o) p.1 p.2.1 p.2.2.1 p.2.2.2) (K' := fun p => gSts kd ky o (lm' 0 0 o) p.1 p.2.1 p.2.2.1 p.2.2.2) g1 (fun r hr c1 c2 c3 c4 => gF1_sts hk (fun i' o' q' => hM.1 o i' o' q') 3002 r.1 r.2.1 r.2.2.1 r.2.2.2 c1 c2 c3 c4) (fun r a hr ha => ?_)
  have z := g1 r hr
  have y := gF1_sts (ky := ky) (w := o) hk (fun i' o' q' => hM.1 o i' o' q') 3002 r.1 r.2.1 r.2.2.1 r.2.2.2 z.1 z.2.1 z.2.2.1 z.2.2.2.1 a ha
  obtain ⟨ps, e⟩ := pf_sts ha
  have e : gPs a = gPs r ++ ps := e
  have e2 : (gPs a).length = (gPs r).length + ps.length := by rw [e, List.length_append]
  have := y.2.1
  have := z.2.1
  omega
theorem gF_blk (hk : plK kd pl) (hM : hMp kd pl L' lm lm') : gF kd pl L' (gBlk kd ky L lm w i o q) (gBlk kd ky L' lm' w i o q) i o := by
  rw [gBlk_e, gBlk_e]
  intro a ha
  obtain ⟨j, hj, ha⟩ := bind_s ha
  have ej := tkn_j hj
  rw [hj]
  rw [ej.2] at ha ⊢
  have ha : (if o < L then _ else none) = some a := ha
  by_cases hL : o < L
  · rw [if_pos hL] at ha
    obtain ⟨r, hr, ha⟩ := bind_s ha
    obtain ⟨t, ht, ha⟩ := bind_s ha
    have et := tkn_j ht
    have z := gF1_bw (w := w) (ky := ky) (o := o) (q := q) hk hM r hr
    have ea : a = (t, r.2.1, r.2.2.1, r.2.2.2) := by cases ha; rfl
    have gi : gP kd i (i + 1) := gP_t (by omega)
    have gt : gP kd r.1 (r.1 + 1) := gP_t (by omega)
    have hB := hk.2.1 i ej.1
    have hE := hk.2.2.1 r.1 et.1
    have hm := gP_m hk z.1.1
    have hin := z.1.1.1
    have b1 := z.2.2.2.1.1
    have b2 := z.2.2.2.1.2
    have l1 := z.2.2.1
    rw [ea]
    refine ⟨?_, z.2.1, ?_, fun hl => ?_⟩
    · show bG kd 0 i t r.2.2.2
      rw [et.2]
      exact bG_p (bG_f gi z.1) gt
    · show bY kd pl ((gPs r).length : Int) i t
      rw [et.2]
      have w2 : isW (kd r.1) := by rw [et.1]; exact ⟨by decide, by decide⟩
      have key : pl i + 9 * ((gPs r).length : Int) ≤ pl r.1 + 3 := by
        by_cases c : 1 ≤ ((gPs r).length : Int) - 1
        · have := b2 c w2
          have := hB.1
          omega
        · by_cases d : r.1 = i + 1
          · have h6 := hB.2 (by rw [← d]; exact w2)
            rw [d]
            omega
          · have := hB.1
            omega
      refine ⟨by have := hE.1; omega, fun _ hw => ?_⟩
      have := hE.2 hw
      omega
    · have hl : r.2.1 ≤ L' := hl
      have := z.2.1
      have hr' := z.2.2.2.2 hl
      show (if o < L' then (gBW kd ky lm' w (i + 1) o q).bind _ else none) = _
      rw [if_pos (by omega), hr']
      show (tkn kd 2 r.1).bind _ = _
      rw [ht]
      rfl
  · rw [if_neg hL] at ha
    cases ha
end
