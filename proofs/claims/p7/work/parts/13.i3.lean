def gF1 (kd pl : Int → Int) (L' : Int) (F F' : gS) (i o : Int) : Prop := ∀ a, F = some a → bG kd 0 i a.1 a.2.2.2 ∧ a.2.1 = o + ((gPs a).length : Int) ∧ 1 ≤ ((gPs a).length : Int) ∧ bY kd pl (((gPs a).length : Int) - 1) i a.1 ∧ (a.2.1 ≤ L' → F' = some a)
section
variable {kd ky pl : Int → Int} {L L' : Int} {lo : gL} {lm lm' : gM} {X : Int → Int → gR} {Y : Int → gR} {P P' D D' : Int → Int → Int → gS} {i i0 j k o o0 q w wo ty s n : Int} {F F' : gS} {b : gB}
theorem gF_m (h : gF kd pl L' F F' i o) {a : Int × Int × Int × gB} (ha : F = some a) : o ≤ a.2.1 := by
  have := (h a ha).2.1
  omega
theorem gF_r {a : Int × Int × Int × gB} (h1 : bG kd 0 i a.1 a.2.2.2) (h2 : a.2.1 = o + ((gPs a).length : Int)) (h3 : bY kd pl ((gPs a).length : Int) i a.1) : gF kd pl L' (some a) (some a) i o := fun c hc => by
  cases hc
  exact ⟨h1, h2, h3, fun _ => rfl⟩
theorem gF_s {K K' : Int × Int × Int × gB → gS} (h : gF kd pl L' F F' i o) (hK : ∀ r, F = some r → bG kd 0 i r.1 r.2.2.2 → r.2.1 = o + ((gPs r).length : Int) → bY kd pl ((gPs r).length : Int) i r.1 → gF kd pl L' (K r) (K' r) i o) (hm : ∀ r a, F = some r → K r = some a → r.2.1 ≤ a.2.1) : gF kd pl L' (F.bind K) (F'.bind K') i o := by
  intro a ha
  obtain ⟨r, hr, h2⟩ := bind_s ha
  have z := h r hr
  have y := hK r hr z.1 z.2.1 z.2.2.1 a h2
  refine ⟨y.1, y.2.1, y.2.2.1, fun hl => ?_⟩
  rw [z.2.2.2 (by have := hm r a hr h2; omega)]
  exact y.2.2.2 hl
theorem gF1_s {K K' : Int × Int × Int × gB → gS} (h : gF1 kd pl L' F F' i o) (hK : ∀ r, F = some r → bG kd 0 i r.1 r.2.2.2 → r.2.1 = o + ((gPs r).length : Int) → 1 ≤ ((gPs r).length : Int) → bY kd pl (((gPs r).length : Int) - 1) i r.1 → gF1 kd pl L' (K r) (K' r) i o) (hm : ∀ r a, F = some r → K r = some a → r.2.1 ≤ a.2.1) : gF1 kd pl L' (F.bind K) (F'.bind K') i o := by
  intro a ha
  obtain ⟨r, hr, h2⟩ := bind_s ha
  have z := h r hr
  have y := hK r hr z.1 z.2.1 z.2.2.1 z.2.2.2.1 a h2
  refine ⟨y.1, y.2.1, y.2.2.1, y.2.2.2.1, fun hl => ?_⟩
  rw [z.2.2.2.2 (by have := hm r a hr h2; omega)]
  exact y.2.2.2.2 hl
theorem gF1_r {a : Int × Int × Int × gB} (h1 : bG kd 0 i a.1 a.2.2.2) (h2 : a.2.1 = o + ((gPs a).length : Int)) (h3 : 1 ≤ ((gPs a).length : Int)) (h4 : bY kd pl (((gPs a).length : Int) - 1) i a.1) : gF1 kd pl L' (some a) (some a) i o := fun c hc => by
  cases hc
  exact ⟨h1, h2, h3, h4, fun _ => rfl⟩
theorem gF1_q (hk : plK kd pl) (hb : bG kd 0 i0 i b) (ho : o = o0 + (b.2.2.1.length : Int)) (h1 : 1 ≤ (b.2.2.1.length : Int)) (hy : bY kd pl ((b.2.2.1.length : Int) - 1) i0 i) (h : gF kd pl L' F F' i o) : gF1 kd pl L' (F.bind fun r => some (r.1, r.2.1, r.2.2.1, bSq b r.2.2.2)) (F'.bind fun r => some (r.1, r.2.1, r.2.2.1, bSq b r.2.2.2)) i0 o0 := by
  intro a ha
  obtain ⟨r, hr, h2⟩ := bind_s ha
  have z := h r hr
  have e : (gPs a).length = b.2.2.1.length + (gPs r).length := by
    cases h2
    show (b.2.2.1 ++ gPs r).length = _
    rw [List.length_append]
  have e2 : a.2.1 = r.2.1 := by cases h2; rfl
  have e3 : a.1 = r.1 := by cases h2; rfl
  refine ⟨?_, ?_, ?_, ?_, fun hl => ?_⟩
  · cases h2
    exact bG_q (n := 0) hb z.1 (by omega)
  · have := z.2.1
    omega
  · omega
  · rw [e, e3]
    exact bY_a hk (by omega) (by omega) hy z.2.2.1 z.1.1 (by omega)
  · rw [z.2.2.2 (by omega)]
    exact h2
theorem bind_m {G : gS} {b : gB} {a : Int × Int × Int × gB} (h : (G.bind fun r => some (r.1, r.2.1, r.2.2.1, bSq b r.2.2.2)) = some a) : ∃ r, G = some r ∧ a = (r.1, r.2.1, r.2.2.1, bSq b r.2.2.2) := by
  obtain ⟨r, hr, h⟩ := bind_s h
  cases h
  exact ⟨r, hr, rfl⟩
theorem bind_q {G : gS} {b : gB} {K : Int × Int × Int × gB → gS} : ((G.bind fun r => some (r.1, r.2.1, r.2.2.1, bSq b r.2.2.2)).bind K) = G.bind fun r => K (r.1, r.2.1, r.2.2.1, bSq b r.2.2.2) := by
  cases G with
  | none => rfl
  | some r => rfl
theorem gF_cho (hk : plK kd pl) (hY : ∀ i p, Y i = some p → gP kd i p.1) (hP : ∀ i o q, gF kd pl L' (P i o q) (P' i o q) i o) : gF kd pl L' (gCho kd Y P i o q) (gCho kd Y P' i o q) i o := by
  refine gF_k hk (by decide) (fun _ => gF_x hk (po := fun p => p.1) (fun p hp => hY _ _ hp) (fun p hp => gF_k hk (by decide) (fun _ => ?_)))
  show gF kd pl L' (if _ then none else _) (if _ then none else _) _ _
  refine gF_i (fun _ => gF_n) (fun _ => ?_)
  have hb : bG kd 0 (p.1 + 1) (p.1 + 1) (bEx 2 p.2) := bG_e gP_0 rfl rfl
  have g1 := gF_q hk (b := bEx 2 p.2) (o0 := o) hb (by show o = o + ((([] : List Int).length : Nat) : Int); simp) (bY_0 hk gP_0) (hP (p.1 + 1) o q)
  have g2 := gF_s (K := fun r => if kd r.1 = 13 then (tkn kd 13 r.1).bind fun k => (P k r.2.1 r.2.2.1).bind fun s => some (s.1, s.2.1, s.2.2.1, bSq r.2.2.2 s.2.2.2) else some r) (K' := fun r => if kd r.1 = 13 then (tkn kd 13 r.1).bind fun k => (P' k r.2.1 r.2.2.1).bind fun s => some (s.1, s.2.1, s.2.2.1, bSq r.2.2.2 s.2.2.2) else some r) g1 (fun r hr h1 h2 h3 => ?_) (fun r a hr ha => ?_)
  · rw [bind_q, bind_q] at g2
    exact g2
  · refine gF_i (fun hc => ?_) (fun _ => gF_r h1 h2 h3)
    rw [tkn_p hc]
    have t1 : gP kd r.1 (r.1 + 1) := gP_t (by omega)
    exact gF_q hk (bG_p h1 t1) h2 (bY_a (n := ((gPs r).length : Int)) hk (by omega) (by decide) h3 (bY_0 hk t1) t1 (by omega)) (hP (r.1 + 1) r.2.1 r.2.2.1)
  · by_cases hc : kd r.1 = 13
    · have ha : (if kd r.1 = 13 then (tkn kd 13 r.1).bind fun k => (P k r.2.1 r.2.2.1).bind fun s => some (s.1, s.2.1, s.2.2.1, bSq r.2.2.2 s.2.2.2) else some r) = some a := ha
      rw [if_pos hc, tkn_p hc] at ha
      obtain ⟨t, ht, e⟩ := bind_m ha
      have q2 := gF_m (hP _ _ _) ht
      rw [e]
      exact q2
    · have ha : (if kd r.1 = 13 then (tkn kd 13 r.1).bind fun k => (P k r.2.1 r.2.2.1).bind fun s => some (s.1, s.2.1, s.2.2.1, bSq r.2.2.2 s.2.2.2) else some r) = some a := ha
      rw [if_neg hc] at ha
      cases ha
      exact Int.le_refl _
theorem gF_for (hk : plK kd pl) (hY : ∀ i p, Y i = some p → gP kd i p.1) (hP : ∀ i o q, gF kd pl L' (P i o q) (P' i o q) i o) : gF kd pl L' (gFor kd ky Y P w i o q) (gFor kd ky Y P' w i o q) i o := by
  refine gF_k hk (by decide) (fun _ => gF_k hk (by decide) (fun _ => gF_k hk (by decide) (fun _ => ?_)))
  show gF kd pl L' ((gEls kd Y (i + 1 + 1 + 1) (bUs (i + 1) w _)).bind _) ((gEls kd Y (i + 1 + 1 + 1) (bUs (i + 1) w _)).bind _) _ _
  intro a ha
  obtain ⟨p, hp, ha⟩ := bind_s ha
  have hb : bG kd 0 (i + 1 + 1 + 1) p.1 p.2 := i_els hY (bG_e gP_0 rfl rfl) hp
  have np : p.2.2.2.1 = [] := np_els rfl hp
  rw [hp]
  have g : gF kd pl L' ((tkn kd 15 p.1).bind fun j => (P j o q).bind fun r => some (r.1, r.2.1, r.2.2.1, bSq p.2 r.2.2.2)) ((tkn kd 15 p.1).bind fun j => (P' j o q).bind fun r => some (r.1, r.2.1, r.2.2.1, bSq p.2 r.2.2.2)) (i + 1 + 1 + 1) o := by
    unfold tkn
    by_cases hc : kd p.1 = 15
    · rw [if_pos hc]
      have t1 : gP kd p.1 (p.1 + 1) := gP_t (by omega)
      exact gF_q hk (bG_p hb t1) (by rw [np]; simp) (by rw [np]; exact bY_0 hk (gP_a hb.1 t1)) (hP _ _ _)
    · rw [if_neg hc]
      exact gF_n
  exact g a ha
theorem gF_st1 (hk : plK kd pl) (hP : ∀ i o q, gF kd pl L' (P i o q) (P' i o q) i o) : gF kd pl L' (gSt1 kd ky w P i o q) (gSt1 kd ky w P' i o q) i o := by
  intro a ha
  obtain ⟨p, hp, ha⟩ := bind_s ha
  have hb : bG kd 0 i p.1 p.2 := i_lbs _ _ _ _ bG_0 hp
  have np : p.2.2.2.1 = [] := np_lbs _ _ _ _ hp
  have g := gF_q hk (o0 := o) hb (by rw [np]; simp) (by rw [np]; exact bY_0 hk hb.1) (hP p.1 o q)
  have z := g a ha
  refine ⟨z.1, z.2.1, z.2.2.1, fun hl => ?_⟩
  unfold gSt1
  rw [hp]
  exact z.2.2.2 hl
end
