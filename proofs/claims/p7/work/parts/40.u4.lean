def gPrm (kd ky : Int → Int) (w i : Int) : Option (Int × gB) := (gPar kd ky w i).bind fun p => (tkn kd 39 p.1).bind fun j => (gVls kd ky w j).bind fun v => (gSps kd ky w 3002 v.1 b0).bind fun s => some (s.1, bSq (bSq (bSq (bSq p.2.2 (bEv (vCnt p.2.1))) v.2) s.2) (bAl w))
def pnI (kd ky : Int → Int) (w i pos n : Int) (R : gW → Prop) (pl : Int → Int) (x0 : gW) : Prop := ∃ (k : Nat) (x : Int × gB), 3002 ≤ (k : Int) + (pos - i) ∧ gLp kd 38 (sPn kd ky w) 3002 (i + 1) (0, b0) = gLp kd 38 (sPn kd ky w) k (pos + 1) x ∧ x.1 = n ∧ R (gRun pl x.2.2.1 x0) ∧ ∀ e, ¬ x.2.2.2.2 e = none
def prL (kd ky : Int → Int) (w : Int) (F : Option (Int × gB)) (i pos : Int) (R : gW → Prop) (pl : Int → Int) (x0 : gW) : Prop := ∃ (f : Nat) (B b : gB), 3002 ≤ (f : Int) + (pos - i) ∧ F = ((gSps kd ky w f pos b).bind fun s => some (s.1, bSq (bSq B s.2) (bAl w))) ∧ R (gRun pl b.2.1 (gRun pl B.2.1 x0)) ∧ (∀ e, ¬ B.2.2.2 e = none) ∧ ∀ e, ¬ b.2.2.2 e = none
def prR (F : Option (Int × gB)) (xa : Int) (R : gW → Prop) (pl : Int → Int) (x0 : gW) : Prop := ∃ a, F = some a ∧ xa = a.1 ∧ R (gRun pl a.2.2.1 x0) ∧ ∀ e, clC e → ¬ a.2.2.2.2 e = none
section
variable {kd ky pl : Int → Int} {F : Option (Int × gB)} {w i pos pos2 n n2 : Int} {R R' : gW → Prop} {x0 : gW} {k : Nat} {x : Int × gB}
theorem pn_0 (hR : R x0) (hp : pos = i) (hn : n = 0) : pnI kd ky w i pos n R pl x0 := by
  subst hp hn
  exact ⟨3002, (0, b0), by omega, rfl, rfl, hR, fun e z => by cases z⟩
theorem sPn_y (hk : kd pos = 27) (hn : x.1 < 6) : sPn kd ky w x pos = some (pos + 1, x.1 + 1, bSq x.2 (bEv (vD ky pos 0 0 w))) := by
  unfold sPn
  rw [if_pos hn, tk_y hk]
  rfl
theorem sPn_n (h : ¬ (kd pos = 27 ∧ x.1 < 6)) : sPn kd ky w x pos = none := by
  unfold sPn
  by_cases hq : x.1 < 6
  · rw [if_pos hq, tk_x (fun z => h ⟨z, hq⟩)]
    rfl
  · rw [if_neg hq]
    rfl
theorem pn_r (h1 : 3002 ≤ (k : Int) + (pos - i)) (hG : gLp kd 38 (sPn kd ky w) 3002 (i + 1) (0, b0) = gLp kd 38 (sPn kd ky w) k (pos + 1) x) (hle : pos - i ≤ 3000) (hk : kd (pos + 1) = 27) (hn : x.1 < 6) : ∃ k' : Nat, k = k' + 1 ∧ gLp kd 38 (sPn kd ky w) 3002 (i + 1) (0, b0) = if kd (pos + 1 + 1) = 38 then gLp kd 38 (sPn kd ky w) k' (pos + 1 + 1 + 1) (x.1 + 1, bSq x.2 (bEv (vD ky (pos + 1) 0 0 w))) else some (pos + 1 + 1, x.1 + 1, bSq x.2 (bEv (vD ky (pos + 1) 0 0 w))) := by
  obtain ⟨k', rfl⟩ : ∃ k' : Nat, k = k' + 1 := ⟨k - 1, by omega⟩
  exact ⟨k', rfl, hG.trans (gLq_s (sPn_y hk hn))⟩
theorem pn_s (h1 : 3002 ≤ (k : Int) + (pos - i)) (hG : gLp kd 38 (sPn kd ky w) 3002 (i + 1) (0, b0) = gLp kd 38 (sPn kd ky w) k (pos + 1) x) (hle : pos - i ≤ 3000) (hk : kd (pos + 1) = 27) (hn : x.1 < 6) (hc : kd (pos + 1 + 1) = 38) (hp : pos2 = pos + 1 + 1) (hR : R' (gRn1 pl (gRun pl x.2.2.1 x0) (vD ky (pos + 1) 0 0 w))) (he : ∀ e, ¬ x.2.2.2.2 e = none) (hn2 : n2 = x.1 + 1) : pnI kd ky w i pos2 n2 R' pl x0 := by
  obtain ⟨k', e1, e2⟩ := pn_r h1 hG hle hk hn
  rw [if_pos hc] at e2
  refine ⟨k', (x.1 + 1, bSq x.2 (bEv (vD ky (pos + 1) 0 0 w))), by omega, by rw [hp]; exact e2, hn2.symm, ?_, fun e => bSq_n.mpr ⟨he e, fun z => by cases z⟩⟩
  show R' (gRun pl (x.2.2.1 ++ [_]) x0)
  rw [gRun_1]
  exact hR
theorem pn_d (h34 : kd i = 34) (hG : gLp kd 38 (sPn kd ky w) 3002 (i + 1) (0, b0) = gLp kd 38 (sPn kd ky w) k (pos + 1) x) (h : ¬ (kd (pos + 1) = 27 ∧ x.1 < 6)) : gPrm kd ky w i = none := by
  unfold gPrm gPar
  rw [tk_y h34]
  show (((gLp kd 38 (sPn kd ky w) 3002 (i + 1) (0, b0)).bind _).bind _) = none
  rw [hG, gLq_n (sPn_n h)]
  rfl
theorem pn_e (h34 : kd i = 34) (h1 : 3002 ≤ (k : Int) + (pos - i)) (hG : gLp kd 38 (sPn kd ky w) 3002 (i + 1) (0, b0) = gLp kd 38 (sPn kd ky w) k (pos + 1) x) (hle : pos - i ≤ 3000) (hk : kd (pos + 1) = 27) (hn : x.1 < 6) (hc : ¬ kd (pos + 1 + 1) = 38) : gPrm kd ky w i = (tkn kd 35 (pos + 1 + 1)).bind fun j => (tkn kd 39 j).bind fun j => (gVls kd ky w j).bind fun v => (gSps kd ky w 3002 v.1 b0).bind fun s => some (s.1, bSq (bSq (bSq (bSq (bSq x.2 (bEv (vD ky (pos + 1) 0 0 w))) (bEv (vCnt (x.1 + 1)))) v.2) s.2) (bAl w)) := by
  obtain ⟨k', e1, e2⟩ := pn_r h1 hG hle hk hn
  rw [if_neg hc] at e2
  unfold gPrm gPar
  rw [tk_y h34]
  show (((gLp kd 38 (sPn kd ky w) 3002 (i + 1) (0, b0)).bind _).bind _) = _
  rw [e2]
  show ((tkn kd 35 (pos + 1 + 1)).bind _).bind _ = (tkn kd 35 (pos + 1 + 1)).bind _
  cases tkn kd 35 (pos + 1 + 1) <;> rfl
theorem pv_0 {B : gB} (hF : F = ((gVls kd ky w pos).bind fun v => (gSps kd ky w 3002 v.1 b0).bind fun s => some (s.1, bSq (bSq (bSq B v.2) s.2) (bAl w)))) (h7 : ¬ kd pos = 7) (hi : i ≤ pos) (hR : R (gRun pl B.2.1 x0)) (he : ∀ e, ¬ B.2.2.2 e = none) : prL kd ky w F i pos R pl x0 := by
  refine ⟨3002, bSq B b0, b0, by omega, ?_, ?_, fun e => bSq_n.mpr ⟨he e, fun z => by cases z⟩, fun e z => by cases z⟩
  · rw [hF]
    unfold gVls
    rw [if_neg h7]
    rfl
  · show R (gRun pl [] (gRun pl (B.2.1 ++ []) x0))
    rw [List.append_nil]
    exact hR
theorem pv_n {B : gB} (hF : F = ((gVls kd ky w pos).bind fun v => (gSps kd ky w 3002 v.1 b0).bind fun s => some (s.1, bSq (bSq (bSq B v.2) s.2) (bAl w)))) (h7 : kd pos = 7) (hG : gSpe kd (fun i => vVal ky i w) (pos + 1) = none) : F = none := by
  rw [hF]
  unfold gVls
  rw [if_pos h7, tk_y h7]
  unfold gSpe at hG
  show (((gLst kd (fun i => vVal ky i w) (pos + 1) b0).bind _).bind _) = none
  rw [hG]
  rfl
theorem pv_1 {B : gB} (hF : F = ((gVls kd ky w pos).bind fun v => (gSps kd ky w 3002 v.1 b0).bind fun s => some (s.1, bSq (bSq (bSq B v.2) s.2) (bAl w)))) (h7 : kd pos = 7) (hi : i ≤ pos) (hlt : pos < pos2) (hG : spR (gSpe kd (fun i => vVal ky i w) (pos + 1)) pos2 R pl (gRun pl B.2.1 x0)) (he : ∀ e, ¬ B.2.2.2 e = none) : prL kd ky w F i pos2 R pl x0 := by
  obtain ⟨a, g1, g2, g3, g4⟩ := hG
  refine ⟨3002, bSq B a.2, b0, by omega, ?_, ?_, fun e => bSq_n.mpr ⟨he e, g4 e⟩, fun e z => by cases z⟩
  · rw [hF]
    unfold gVls
    rw [if_pos h7, tk_y h7]
    unfold gSpe at g1
    show (((gLst kd (fun i => vVal ky i w) (pos + 1) b0).bind _).bind _) = _
    rw [g1, g2]
    rfl
  · show R (gRun pl (B.2.1 ++ a.2.2.1) x0)
    rw [gRun_a]
    exact g3
end
def spK (kd : Int → Int) (a now ty gk gt : Int) : Prop := (kd a = 10 ∧ now = a + 1 ∧ ty = 8 ∧ gk = 8 ∧ gt = 0) ∨ ((kd a = 3 ∨ kd a = 4) ∧ gt = (if kd a = 4 then 2 else 1) ∧ ((¬ kd (a + 1) = 5 ∧ now = a + 1 ∧ gk = 6 ∧ ty = gt) ∨ (kd (a + 1) = 5 ∧ now = a + 1 + 1 ∧ gk = 7 ∧ ty = gt + 4)))
section
variable {kd ky pl : Int → Int} {F : Option (Int × gB)} {w i pos pos2 now ty gk gt : Int} {R R' : gW → Prop} {x0 : gW}
theorem Y_spc (h : spK kd pos now ty gk gt) {K : Int → gB → Option (Int × gB)} : ((gSp1 kd ky w pos).bind fun p => (tkn kd 39 p.1).bind fun j => K j p.2) = (gSpe kd (fun i => vSpc ky i gk gt w) now).bind fun p => K p.1 p.2 := by
  have e : gSp1 kd ky w pos = gLst kd (fun i => vSpc ky i gk gt w) now b0 := by
    unfold gSp1
    rcases h with ⟨h1, h2, h3, h4, h5⟩ | ⟨h1, h2, h3⟩
    · rw [if_pos h1, tk_y h1, h2, h4, h5]
      rfl
    · rw [if_neg (by omega)]
      have t : gTyp kd pos = some (pos + 1, gt) := by
        unfold gTyp
        by_cases c : kd pos = 4
        · rw [if_pos c, h2, if_pos c]
        · rw [if_neg c, tk_y (by omega), h2, if_neg c]
          rfl
      rw [t]
      show (if kd (pos + 1) = 5 then _ else _) = _
      rcases h3 with ⟨c1, c2, c3, c4⟩ | ⟨c1, c2, c3, c4⟩
      · rw [if_neg c1, c2, c3]
      · rw [if_pos c1, c2, c3]
  rw [e]
  unfold gSpe
  cases gLst kd (fun i => vSpc ky i gk gt w) now b0 with
  | none => rfl
  | some p =>
    show (tkn kd 39 p.1).bind _ = ((tkn kd 39 p.1).bind _).bind _
    cases tkn kd 39 p.1 <;> rfl
theorem pl_d {f : Nat} {B b : gB} (hf : 3002 ≤ (f : Int) + (pos - i)) (hle : pos - i ≤ 3000) (hF : F = ((gSps kd ky w f pos b).bind fun s => some (s.1, bSq (bSq B s.2) (bAl w)))) (hk : kd pos = 3 ∨ kd pos = 4 ∨ kd pos = 10) (h : spK kd pos now ty gk gt) (hG : gSpe kd (fun i => vSpc ky i gk gt w) now = none) : F = none := by
  obtain ⟨f', rfl⟩ : ∃ f' : Nat, f = f' + 1 := ⟨f - 1, by omega⟩
  rw [hF]
  show (if _ then _ else _ : Option _).bind _ = none
  rw [if_pos hk, Y_spc (K := fun j c => gSps kd ky w f' j (bSq b c)) h, hG]
  rfl
theorem pl_s {f : Nat} {B b : gB} (hf : 3002 ≤ (f : Int) + (pos - i)) (hle : pos - i ≤ 3000) (hF : F = ((gSps kd ky w f pos b).bind fun s => some (s.1, bSq (bSq B s.2) (bAl w)))) (hk : kd pos = 3 ∨ kd pos = 4 ∨ kd pos = 10) (h : spK kd pos now ty gk gt) (hlt : pos < pos2) (hG : spR (gSpe kd (fun i => vSpc ky i gk gt w) now) pos2 R' pl (gRun pl b.2.1 (gRun pl B.2.1 x0))) (hB : ∀ e, ¬ B.2.2.2 e = none) (hb : ∀ e, ¬ b.2.2.2 e = none) : prL kd ky w F i pos2 R' pl x0 := by
  obtain ⟨f', rfl⟩ : ∃ f' : Nat, f = f' + 1 := ⟨f - 1, by omega⟩
  obtain ⟨a, g1, g2, g3, g4⟩ := hG
  refine ⟨f', B, bSq b a.2, by omega, ?_, ?_, hB, fun e => bSq_n.mpr ⟨hb e, g4 e⟩⟩
  · rw [hF]
    show (if _ then _ else _ : Option _).bind _ = _
    rw [if_pos hk, Y_spc (K := fun j c => gSps kd ky w f' j (bSq b c)) h, g1, g2]
    rfl
  · show R' (gRun pl (b.2.1 ++ a.2.2.1) (gRun pl B.2.1 x0))
    rw [gRun_a]
    exact g3
theorem pl_x {f : Nat} {B b : gB} (hf : 3002 ≤ (f : Int) + (pos - i)) (hle : pos - i ≤ 3000) (hF : F = ((gSps kd ky w f pos b).bind fun s => some (s.1, bSq (bSq B s.2) (bAl w)))) (hk : ¬ (kd pos = 3 ∨ kd pos = 4 ∨ kd pos = 10)) (hp : pos2 = pos) (hR : R (gRn1 pl (gRun pl b.2.1 (gRun pl B.2.1 x0)) (vAll w))) (hB : ∀ e, ¬ B.2.2.2 e = none) (hb : ∀ e, ¬ b.2.2.2 e = none) : prR F pos2 R pl x0 := by
  obtain ⟨f', rfl⟩ : ∃ f' : Nat, f = f' + 1 := ⟨f - 1, by omega⟩
  refine ⟨(pos, bSq (bSq B b) (bAl w)), ?_, hp, ?_, fun e he => bSq_n.mpr ⟨bSq_n.mpr ⟨hB e, hb e⟩, he w⟩⟩
  · rw [hF]
    show (if _ then _ else _ : Option _).bind _ = _
    rw [if_neg hk]
    rfl
  · show R (gRun pl ((B.2.1 ++ b.2.1) ++ [vAll w]) x0)
    rw [gRun_1, gRun_a]
    exact hR
end
section
variable {T : gV} {ky : Int → Int} {wd ho ar ins wt ty li mo fi sl io bv sp mo' fi' : nA} {xk xs k xc cn : Int}
theorem rPs_mf (h : rPs T ky wd ho ar ins wt ty li mo fi sl io bv sp xk xs k xc cn) (hm : ∀ j : Int, 0 ≤ j → j < k → rd mo' j = rd mo j ∧ rd fi' j = rd fi j) : rPs T ky wd ho ar ins wt ty li mo' fi' sl io bv sp xk xs k xc cn := by
  obtain ⟨⟨b, g2⟩, g3, g4, g5, g6, g7⟩ := h
  exact ⟨⟨⟨b.1, b.2.1, b.2.2.1, b.2.2.2.1, b.2.2.2.2.1, b.2.2.2.2.2.1, fun z z0 z1 => kFl_E (b.2.2.2.2.2.2 z z0 z1) z0 (by omega) (fun _ _ _ _ => rfl) rfl (fun _ _ => rfl) (Int.le_refl _) (fun _ _ _ => rfl) ⟨rfl, fun _ => rfl, (hm z z0 z1).1, (hm z z0 z1).2, rfl⟩⟩, g2⟩, g3, g4, g5, g6, g7⟩
end
theorem spR_i {F : Option (Int × gB)} {xa : Int} {R R' : gW → Prop} {pl : Int → Int} {x0 : gW} (h : spR F xa R pl x0) (g : ∀ x, R x → R' x) : spR F xa R' pl x0 := by
  obtain ⟨a, h1, h2, h3, h4⟩ := h
  exact ⟨a, h1, h2, g _ h3, h4⟩
theorem spK_p {kd : Int → Int} {a now ty gk gt : Int} (h : spK kd a now ty gk gt) : (gk = 6 ∧ ty = gt ∧ (gt = 1 ∨ gt = 2)) ∨ (gk = 7 ∧ ty = gt + 4 ∧ (gt = 1 ∨ gt = 2)) ∨ (gk = 8 ∧ ty = 8 ∧ gt = 0) := by
  rcases h with h | ⟨h1, h2, h3⟩
  · omega
  · have : gt = 1 ∨ gt = 2 := by
      by_cases c : kd a = 4
      · rw [if_pos c] at h2; omega
      · rw [if_neg c] at h2; omega
    omega
def wlI (ho bv sp ty : nA) (xc k p w0 w : Int) : Prop := (0 ≤ w0 → 0 ≤ w) ∧ (w0 < 0 → (w < 0 ↔ ∀ j : Int, k < j → j < p → ¬ (rd ho j = xc ∧ rd sp j = 0) ∧ ¬ (¬ rd bv j = 0 ∧ ¬ rd sp j = 0 ∧ 2 < rd ty j)))
section
variable {ho bv sp ty : nA} {xc k p p2 w0 w w' : Int}
theorem wl_0 (h : p ≤ k + 1) : wlI ho bv sp ty xc k p w w := ⟨id, fun z => ⟨fun _ j j0 j1 => by omega, fun _ => z⟩⟩
theorem wl_s (h : wlI ho bv sp ty xc k p w0 w) (hp : p2 = p + 1) (hk : k < p) (hc : ((¬ (rd ho p = xc ∧ rd sp p = 0) ∧ ¬ (¬ rd bv p = 0 ∧ ¬ rd sp p = 0 ∧ 2 < rd ty p)) ∧ w' = w) ∨ (¬ (¬ (rd ho p = xc ∧ rd sp p = 0) ∧ ¬ (¬ rd bv p = 0 ∧ ¬ rd sp p = 0 ∧ 2 < rd ty p)) ∧ 0 ≤ w')) : wlI ho bv sp ty xc k p2 w0 w' := by
  rcases hc with ⟨c1, c2⟩ | ⟨c1, c2⟩
  · rw [c2]
    refine ⟨h.1, fun z => (h.2 z).trans ⟨fun y j j0 j1 => ?_, fun y j j0 j1 => y j j0 (by omega)⟩⟩
    by_cases q : j = p
    · rw [q]; exact c1
    · exact y j j0 (by omega)
  · exact ⟨fun _ => c2, fun z => ⟨fun y => by omega, fun y => absurd (y p hk (by omega)) c1⟩⟩
end
