abbrev hmE (e : gE) : Int := e.2.2.2.2.2
abbrev kdE (e : gE) : Int := e.2.2.2.1
def lOr (E : List gE) : Prop := E.Pairwise (fun a b => a.1 = 0 → b.1 = 0 → hmE a = hmE b → kdE a = 5 → kdE b = 5)
def eNo (w : Int) (E : List gE) : Prop := ∀ e ∈ E, (e.1 = 0 → hmE e = w ∧ ¬ kdE e = 5) ∧ (e.1 = 7 → ¬ kdE e = 5)
def eIn (w lo hi : Int) (c : Prop) (E : List gE) : Prop := ∀ e ∈ E, (e.1 = 0 → (c ∧ hmE e = w ∧ ¬ kdE e = 5) ∨ (lo ≤ hmE e ∧ hmE e < hi)) ∧ (e.1 = 7 → ¬ kdE e = 5)
section
variable {kd ky : Int → Int} {A B : List gE} {w lo hi hi2 : Int} {c : Prop}
theorem lOr_0 : lOr [] := List.Pairwise.nil
theorem lOr_a (hA : lOr A) (hB : lOr B) (hx : ∀ a ∈ A, ∀ b ∈ B, a.1 = 0 → b.1 = 0 → hmE a = hmE b → kdE a = 5 → kdE b = 5) : lOr (A ++ B) := List.pairwise_append.mpr ⟨hA, hB, hx⟩
theorem lOr_n : ∀ {A : List gE}, (∀ e ∈ A, e.1 = 0 → ¬ kdE e = 5) → lOr A
  | [], _ => List.Pairwise.nil
  | a :: A, h => List.Pairwise.cons (fun _ _ z _ _ k => absurd k (h a List.mem_cons_self z)) (lOr_n (fun e he => h e (List.mem_cons_of_mem _ he)))
theorem lOr_5 : ∀ {A : List gE}, (∀ e ∈ A, kdE e = 5) → lOr A
  | [], _ => List.Pairwise.nil
  | a :: A, h => List.Pairwise.cons (fun b hb _ _ _ _ => h b (List.mem_cons_of_mem _ hb)) (lOr_5 (fun e he => h e (List.mem_cons_of_mem _ he)))
theorem eNo_0 : eNo w [] := fun e he => absurd he List.not_mem_nil
theorem eNo_1 {e : gE} (h0 : e.1 = 0 → hmE e = w ∧ ¬ kdE e = 5) (h7 : e.1 = 7 → ¬ kdE e = 5) : eNo w [e] := fun x hx => by
  rw [List.mem_singleton.mp hx]
  exact ⟨h0, h7⟩
theorem eNo_a (hA : eNo w A) (hB : eNo w B) : eNo w (A ++ B) := fun e he => (List.mem_append.mp he).elim (hA e) (hB e)
theorem eNo_D {i k t : Int} (h : ¬ k = 5) : eNo w [vD ky i k t w] := eNo_1 (fun _ => ⟨rfl, h⟩) (fun z => by cases z)
theorem eIn_0 : eIn w lo hi c [] := fun e he => absurd he List.not_mem_nil
theorem eIn_a (hA : eIn w lo hi c A) (hB : eIn w lo hi c B) : eIn w lo hi c (A ++ B) := fun e he => (List.mem_append.mp he).elim (hA e) (hB e)
theorem eIn_w {lo2 : Int} (hA : eIn w lo hi c A) (h1 : lo2 ≤ lo) (h2 : hi ≤ hi2) : eIn w lo2 hi2 c A := fun e he => ⟨fun z => ((hA e he).1 z).imp id (fun q => ⟨by omega, by omega⟩), (hA e he).2⟩
theorem eIn_n (hA : eNo w A) : eIn w lo hi True A := fun e he => ⟨fun z => Or.inl ⟨trivial, (hA e he).1 z⟩, (hA e he).2⟩
theorem ev_lau {i : Int} {p : Int × gB} (h : gLaU kd ky w i = some p) : p.2.2.1 = [] := by
  obtain ⟨j, _, h2⟩ := bind_s h
  cases h2
  rfl
theorem eN_swi {i : Int} {p : Int × gB} (h : gSwi kd ky w i = some p) : eNo w p.2.2.1 := by
  obtain ⟨j, _, h⟩ := bind_s h
  obtain ⟨k, _, h⟩ := bind_s h
  obtain ⟨l, _, h⟩ := bind_s h
  obtain ⟨r, hr, h⟩ := bind_s h
  cases h
  refine gLp_i (Q := fun x => eNo w x.2.2.1) (fun x i p hx hp => ?_) _ _ _ _ (eNo_D (by decide)) hr
  obtain ⟨u, hu, h⟩ := bind_s hp
  cases h
  show eNo w (x.2.2.1 ++ u.2.2.1)
  by_cases hq : x.1 < 20
  · rw [if_pos hq] at hu
    rw [ev_lau hu]
    exact eNo_a hx eNo_0
  · rw [if_neg hq] at hu
    cases hu
theorem eN_vas {own ty i q : Int} {p : Int × Int × gB} (h : gVas kd ky own ty w i q b0 = some p) : eNo w p.2.2.2.1 := by
  refine gLp_i (Q := fun x => eNo w x.2.2.1) (fun x i p hx hp => ?_) _ _ _ _ eNo_0 h
  obtain ⟨u, hu, h⟩ := bind_s hp
  cases h
  show eNo w (x.2.2.1 ++ (gVa1 own u.2.2).2.1)
  rw [(gSto_p hu).1]
  refine eNo_a hx ?_
  unfold gVa1
  by_cases ho : own = 0
  · rw [if_pos ho]
    exact eNo_D (by decide)
  · rw [if_neg ho]
    exact eNo_a (A := [_]) (B := [_]) (eNo_D (by decide)) (eNo_1 (fun z => by cases z) (fun z => by cases z))
theorem ev_bnd {X : Int → gR} {i : Int} {p : Int × gB} (h : gBnd kd X i = some p) : p.2.2.1 = [] := by
  obtain ⟨j, _, h⟩ := bind_s h
  obtain ⟨k, _, h⟩ := bind_s h
  obtain ⟨l, _, h⟩ := bind_s h
  cases h
  rfl
theorem eN_sgn {ty i q : Int} {p : Int × Int × gB × Int} (h : gSgN kd ky ty w i q b0 = some p) : eNo w p.2.2.1.2.1 := by
  refine gLp_i (Q := fun x => eNo w x.2.1.2.1) (fun x i p hx hp => ?_) _ _ _ _ eNo_0 h
  obtain ⟨u, hu, h⟩ := bind_s hp
  cases h
  show eNo w (x.2.1.2.1 ++ u.2.2.2.1)
  rw [(gSto_p hu).1]
  exact eNo_a hx (eNo_D (by decide))
theorem eN_seg {X : Int → Int → gR} {ty wo i q : Int} {p : Int × Int × gB} (h : gSeg kd ky X ty wo w i q = some p) : eNo w p.2.2.2.1 := by
  obtain ⟨u, hu, h⟩ := bind_s h
  obtain ⟨k, _, h⟩ := bind_s h
  obtain ⟨r, hr, h⟩ := bind_s h
  by_cases hc : kd r.1 = 38
  · rw [if_pos hc] at h
    obtain ⟨s, hs, h⟩ := bind_s h
    obtain ⟨l, _, h⟩ := bind_s h
    cases h
    show eNo w (((u.2.2.1.2.1 ++ r.2.2.1) ++ s.2.2.1) ++ [_])
    rw [ev_bnd hr, ev_bnd hs]
    exact eNo_a (eNo_a (eNo_a (eN_sgn hu) eNo_0) eNo_0) (eNo_1 (fun z => by cases z) (fun z => by cases z))
  · rw [if_neg hc] at h
    obtain ⟨l, _, h⟩ := bind_s h
    cases h
    show eNo w ((u.2.2.1.2.1 ++ r.2.2.1) ++ [_])
    rw [ev_bnd hr]
    exact eNo_a (eNo_a (eN_sgn hu) eNo_0) (eNo_1 (fun z => by cases z) (fun z => by cases z))
theorem eN_sgs {X : Int → Int → gR} {ty wo i q : Int} {p : Int × Int × gB} (h : gSgs kd ky X ty wo w i q b0 = some p) : eNo w p.2.2.2.1 := by
  refine gLp_i (Q := fun x => eNo w x.2.2.1) (fun x i p hx hp => ?_) _ _ _ _ eNo_0 h
  obtain ⟨u, hu, h⟩ := bind_s hp
  cases h
  exact eNo_a hx (eN_seg hu)
theorem ev_lfs {lo : gL} {w : Int} : ∀ (k : Nat) (i : Int) (a : gD) (p : Int × gB), gLfs kd ky lo w k i a = some p → p.2.2.1 = [] := by
  intro k
  induction k with
  | zero => intro i a p h; cases h
  | succ k ih =>
    intro i a p h
    have h : (if gLfT kd i = true then (gLf1 kd ky lo w i).bind fun p => gLfs kd ky lo w k p.1 (gLfS a p.2) else (gExp kd ky lo w i).bind fun r => some (r.1, gAsE a r.2)) = some p := h
    by_cases hc : gLfT kd i = true
    · rw [if_pos hc] at h
      obtain ⟨u, _, h⟩ := bind_s h
      exact ih _ _ _ h
    · rw [if_neg hc] at h
      obtain ⟨u, _, h⟩ := bind_s h
      cases h
      rfl
theorem ev_asn {lo : gL} {w i : Int} {p : Int × gB} (h : gAsn kd ky lo w i = some p) : p.2.2.1 = [] := by
  obtain ⟨u, _, h⟩ := bind_s h
  exact ev_lfs _ _ _ _ h
theorem ev_cll {lo : gL} {w i : Int} {p : Int × gB} (h : gCll kd ky lo w i = some p) : p.2.2.1 = [] := by
  obtain ⟨j, _, h⟩ := bind_s h
  by_cases hc : kd j = 34
  · rw [if_pos hc] at h
    obtain ⟨u, _, h⟩ := bind_s h
    cases h
    rfl
  · rw [if_neg hc] at h
    cases h
    rfl
theorem ev_jmp {lo : gL} {w i : Int} {p : Int × gB} (h : gJmp kd ky lo w i = some p) : p.2.2.1 = [] := by
  obtain ⟨j, _, h⟩ := bind_s h
  by_cases hc : kd (j + 1) = 36
  · rw [if_pos hc] at h
    obtain ⟨u, _, h⟩ := bind_s h
    obtain ⟨v, _, h⟩ := bind_s h
    obtain ⟨x, _, h⟩ := bind_s h
    obtain ⟨y, _, h⟩ := bind_s h
    cases h
    rfl
  · rw [if_neg hc] at h
    exact ev_lau h
theorem ev_el1 {X : Int → gR} {i : Int} {p : Int × gB} (h : gEl1 kd X i = some p) : p.2.2.1 = [] := by
  obtain ⟨j, _, h⟩ := bind_s h
  by_cases hc : kd j.1 = 16
  · rw [if_pos hc] at h
    obtain ⟨u, _, h⟩ := bind_s h
    obtain ⟨v, _, h⟩ := bind_s h
    obtain ⟨x, _, h⟩ := bind_s h
    cases h
    rfl
  · rw [if_neg hc] at h
    by_cases hd : kd j.1 = 18
    · rw [if_pos hd] at h
      obtain ⟨u, _, h⟩ := bind_s h
      cases h
      rfl
    · rw [if_neg hd] at h
      cases h
      rfl
theorem ev_els {X : Int → gR} {i : Int} {b : gB} {p : Int × gB} (hb : b.2.1 = []) (h : gEls kd X i b = some p) : p.2.2.1 = [] := by
  refine gLp_i (Q := fun x => x.2.1 = []) (fun x i p hx hp => ?_) _ _ _ _ hb h
  obtain ⟨u, hu, h⟩ := bind_s hp
  cases h
  show x.2.1 ++ u.2.2.1 = []
  rw [hx, ev_el1 hu]
  rfl
theorem eN_lst {v : Int → gE} {i : Int} {p : Int × gB} (hv : ∀ i, eNo w [v i]) (h : gLst kd v i b0 = some p) : eNo w p.2.2.1 := by
  refine gLp_i (Q := fun x => eNo w x.2.1) (fun x i p hx hp => ?_) _ _ _ _ eNo_0 h
  obtain ⟨u, hu, h⟩ := bind_s hp
  cases h
  exact eNo_a hx (hv i)
theorem eN_par {i : Int} {p : Int × Int × gB} (h : gPar kd ky w i = some p) : eNo w p.2.2.2.1 := by
  obtain ⟨j, _, h⟩ := bind_s h
  obtain ⟨r, hr, h⟩ := bind_s h
  obtain ⟨l, _, h⟩ := bind_s h
  cases h
  refine gLp_i (Q := fun x => eNo w x.2.2.1) (fun x i p hx hp => ?_) _ _ _ _ eNo_0 hr
  obtain ⟨u, hu, h⟩ := bind_s hp
  cases h
  exact eNo_a hx (eNo_D (by decide))
theorem eN_vls {i : Int} {p : Int × gB} (h : gVls kd ky w i = some p) : eNo w p.2.2.1 := by
  unfold gVls at h
  by_cases hc : kd i = 7
  · rw [if_pos hc] at h
    obtain ⟨j, _, h⟩ := bind_s h
    obtain ⟨r, hr, h⟩ := bind_s h
    obtain ⟨l, _, h⟩ := bind_s h
    cases h
    show eNo w r.2.2.1
    exact eN_lst (v := fun i => vVal ky i w) (fun i => eNo_1 (fun z => by cases z) (fun z => by cases z)) hr
  · rw [if_neg hc] at h
    cases h
    exact eNo_0
theorem eN_sp1 {i : Int} {p : Int × gB} (h : gSp1 kd ky w i = some p) : eNo w p.2.2.1 := by
  unfold gSp1 at h
  by_cases hc : kd i = 10
  · rw [if_pos hc] at h
    obtain ⟨j, _, h⟩ := bind_s h
    exact eN_lst (v := fun i => vSpc ky i 8 0 w) (fun i => eNo_1 (fun z => by cases z) (fun _ => (show ¬ (8 : Int) = 5 by decide))) h
  · rw [if_neg hc] at h
    obtain ⟨j, _, h⟩ := bind_s h
    by_cases hd : kd j.1 = 5
    · rw [if_pos hd] at h
      exact eN_lst (v := fun i => vSpc ky i 7 j.2 w) (fun i => eNo_1 (fun z => by cases z) (fun _ => (show ¬ (7 : Int) = 5 by decide))) h
    · rw [if_neg hd] at h
      exact eN_lst (v := fun i => vSpc ky i 6 j.2 w) (fun i => eNo_1 (fun z => by cases z) (fun _ => (show ¬ (6 : Int) = 5 by decide))) h
theorem eN_sps : ∀ (k : Nat) (i : Int) (b : gB) (p : Int × gB), eNo w b.2.1 → gSps kd ky w k i b = some p → eNo w p.2.2.1 := by
  intro k
  induction k with
  | zero => intro i b p _ h; cases h
  | succ k ih =>
    intro i b p hb h
    have h : (if kd i = 3 ∨ kd i = 4 ∨ kd i = 10 then (gSp1 kd ky w i).bind fun p => (tkn kd 39 p.1).bind fun j => gSps kd ky w k j (bSq b p.2) else some (i, b)) = some p := h
    by_cases hc : kd i = 3 ∨ kd i = 4 ∨ kd i = 10
    · rw [if_pos hc] at h
      obtain ⟨u, hu, h⟩ := bind_s h
      obtain ⟨v, _, h⟩ := bind_s h
      exact ih _ _ _ (eNo_a hb (eN_sp1 hu)) h
    · rw [if_neg hc] at h
      cases h
      exact hb
theorem eN_hed {i : Int} {b : gB} {p : Int × gB} (h : gHed kd ky w i b = some p) : ∃ E, p.2.2.1 = b.2.1 ++ E ∧ eNo w E := by
  unfold gHed at h
  by_cases hc : kd i = 34
  · rw [if_pos hc] at h
    obtain ⟨u, hu, h⟩ := bind_s h
    obtain ⟨j, _, h⟩ := bind_s h
    obtain ⟨v, hv, h⟩ := bind_s h
    obtain ⟨s, hs, h⟩ := bind_s h
    cases h
    refine ⟨u.2.2.2.1 ++ ([vCnt u.2.1] ++ (v.2.2.1 ++ (s.2.2.1 ++ [vAll w]))), ?_, eNo_a (eN_par hu) (eNo_a (eNo_1 (fun z => by cases z) (fun z => by cases z)) (eNo_a (eN_vls hv) (eNo_a (eN_sps _ _ _ _ eNo_0 hs) (eNo_1 (fun z => by cases z) (fun z => by cases z)))))⟩
    show ((((b.2.1 ++ u.2.2.2.1) ++ [vCnt u.2.1]) ++ v.2.2.1) ++ s.2.2.1) ++ [vAll w] = _
    simp only [List.append_assoc]
  · rw [if_neg hc] at h
    obtain ⟨j, _, h⟩ := bind_s h
    cases h
    exact ⟨[], (List.append_nil _).symm, eNo_0⟩
theorem eN_lbs : ∀ (k : Nat) (i : Int) (b : gB) (p : Int × gB), gLbs kd ky w k i b = some p → ∃ E, p.2.2.1 = b.2.1 ++ E ∧ ∀ e ∈ E, e.1 = 0 ∧ hmE e = w ∧ kdE e = 5 := by
  intro k
  induction k with
  | zero => intro i b p h; cases h
  | succ k ih =>
    intro i b p h
    have h : (if kd i = 27 ∧ kd (i + 1) = 40 then (tkn kd 27 i).bind fun j => (tkn kd 40 j).bind fun k' => gLbs kd ky w k k' (bSq b (bEv (vD ky i 5 0 w))) else some (i, b)) = some p := h
    by_cases hc : kd i = 27 ∧ kd (i + 1) = 40
    · rw [if_pos hc] at h
      obtain ⟨u, _, h⟩ := bind_s h
      obtain ⟨v, _, h⟩ := bind_s h
      obtain ⟨E, e1, e2⟩ := ih _ _ _ h
      refine ⟨[vD ky i 5 0 w] ++ E, ?_, fun e he => ?_⟩
      · rw [e1]
        show (b.2.1 ++ [vD ky i 5 0 w]) ++ E = _
        simp only [List.append_assoc]
      · rcases List.mem_append.mp he with z | z
        · rw [List.mem_singleton.mp z]
          exact ⟨rfl, rfl, rfl⟩
        · exact e2 e z
    · rw [if_neg hc] at h
      cases h
      exact ⟨[], (List.append_nil _).symm, fun e he => absurd he List.not_mem_nil⟩
end
def lSt (w o : Int) (c : Prop) (F : gS) : Prop := ∀ a, F = some a → o ≤ a.2.1 ∧ eIn w o a.2.1 c a.2.2.2.2.1 ∧ lOr a.2.2.2.2.1
def hMl (lm : gM) : Prop := (∀ w i o q, lSt 0 o False (lm 0 0 w i o q)) ∧ (∀ wo w i o q, w < o → lSt w o True (lm 1 wo w i o q))
section
variable {kd ky : Int → Int} {L : Int} {lo : gL} {lm : gM} {X : Int → Int → gR} {Y : Int → gR} {P D : Int → Int → Int → gS} {A B : List gE} {i j k o o1 o2 q w wo ty : Int} {F G : gS} {b : gB} {c : Prop}
theorem lSt_n : lSt w o c none := fun a ha => by cases ha
theorem lSt_i {d : Prop} [Decidable d] (h : d → lSt w o c F) (g : ¬ d → lSt w o c G) : lSt w o c (if d then F else G) := by
  by_cases hd : d
  · rw [if_pos hd]
    exact h hd
  · rw [if_neg hd]
    exact g hd
theorem lSt_b {α : Type} {H : Option α} {K : α → gS} (h : ∀ x, H = some x → lSt w o c (K x)) : lSt w o c (H.bind K) := fun a ha => by
  obtain ⟨x, hx, h2⟩ := bind_s ha
  exact h x hx a h2
theorem lSt_e {x y : Int} {b : gB} (h2 : b.2.1 = []) : lSt w o c (some (x, o, y, b)) := fun a ha => by
  cases ha
  show o ≤ o ∧ eIn w o o c b.2.1 ∧ lOr b.2.1
  rw [h2]
  exact ⟨Int.le_refl _, eIn_0, lOr_0⟩
theorem lSt_w {x y : Int} {b : gB} (h2 : eNo w b.2.1) : lSt w o True (some (x, o, y, b)) := fun a ha => by
  cases ha
  exact ⟨Int.le_refl _, eIn_n h2, lOr_n (fun e he z => ((h2 e he).1 z).2)⟩
theorem lc_2 (hA : eIn w o o1 False A) (hB : eIn k o1 o2 False B) : ∀ a ∈ A, ∀ b ∈ B, a.1 = 0 → b.1 = 0 → hmE a = hmE b → kdE a = 5 → kdE b = 5 := fun a ha b hb z y e _ => by
  rcases (hA a ha).1 z with q | q
  · exact absurd q.1 id
  · rcases (hB b hb).1 y with r | r
    · exact absurd r.1 id
    · exfalso; omega
theorem eIn_k (h : eIn w o o1 False A) : eIn k o o1 False A := fun e he => ⟨fun z => ((h e he).1 z).imp (fun q => absurd q.1 id) id, (h e he).2⟩
theorem lSt_cho (hP : ∀ i o q, lSt 0 o False (P i o q)) : lSt 0 o False (gCho kd Y P i o q) := by
  refine lSt_b (fun i1 _ => lSt_b (fun p _ => lSt_b (fun j _ => lSt_i (fun _ => lSt_n) (fun _ => ?_))))
  intro a ha
  obtain ⟨r, hr, ha⟩ := bind_s ha
  obtain ⟨g1, g2, g3⟩ := hP _ _ _ r hr
  by_cases hc : kd r.1 = 13
  · rw [if_pos hc] at ha
    obtain ⟨k, _, ha⟩ := bind_s ha
    obtain ⟨s, hs, ha⟩ := bind_s ha
    cases ha
    obtain ⟨k1, k2, k3⟩ := hP _ _ _ s hs
    show o ≤ s.2.1 ∧ eIn 0 o s.2.1 False (([] ++ r.2.2.2.2.1) ++ s.2.2.2.2.1) ∧ lOr (([] ++ r.2.2.2.2.1) ++ s.2.2.2.2.1)
    rw [List.nil_append]
    exact ⟨by omega, eIn_a (eIn_w g2 (Int.le_refl _) k1) (eIn_w k2 g1 (Int.le_refl _)), lOr_a g3 k3 (lc_2 g2 k2)⟩
  · rw [if_neg hc] at ha
    cases ha
    show o ≤ r.2.1 ∧ eIn 0 o r.2.1 False ([] ++ r.2.2.2.2.1) ∧ lOr ([] ++ r.2.2.2.2.1)
    rw [List.nil_append]
    exact ⟨g1, g2, g3⟩
theorem lSt_for (hP : ∀ i o q, lSt 0 o False (P i o q)) : lSt 0 o False (gFor kd ky Y P w i o q) := by
  refine lSt_b (fun i1 _ => lSt_b (fun i2 _ => lSt_b (fun i3 _ => lSt_b (fun p hp => lSt_b (fun j _ => ?_)))))
  intro a ha
  obtain ⟨r, hr, ha⟩ := bind_s ha
  obtain ⟨g1, g2, g3⟩ := hP _ _ _ r hr
  cases ha
  show o ≤ r.2.1 ∧ eIn 0 o r.2.1 False (p.2.2.1 ++ r.2.2.2.2.1) ∧ lOr (p.2.2.1 ++ r.2.2.2.2.1)
  rw [ev_els rfl hp, List.nil_append]
  exact ⟨g1, g2, g3⟩
theorem lSt_pro (hM : hMl lm) (hw : w < o) : lSt w o True (gPro kd ky L lm ty w i o q) := by
  refine lSt_b (fun i1 _ => lSt_b (fun j _ => lSt_i (fun _ => ?_) (fun _ => lSt_n)))
  intro a ha
  obtain ⟨p, hp, ha⟩ := bind_s ha
  obtain ⟨r, hr, ha⟩ := bind_s ha
  cases ha
  obtain ⟨g1, g2, g3⟩ := hM.1 _ _ _ _ r hr
  obtain ⟨E, e1, e2⟩ := eN_hed hp
  have e3 : p.2.2.1 = [vD ky i1 3 ty w, vOpP w] ++ E := e1
  show o ≤ r.2.1 ∧ eIn w o r.2.1 True (p.2.2.1 ++ r.2.2.2.2.1) ∧ lOr (p.2.2.1 ++ r.2.2.2.2.1)
  have hN : ∀ e ∈ p.2.2.1, e.1 = 0 → ¬ kdE e = 5 := by
    rw [e3]
    intro e he z
    rcases List.mem_append.mp he with y | y
    · rcases List.mem_cons.mp y with y | y
      · rw [y]
        exact (show ¬ (3 : Int) = 5 by decide)
      · rw [List.mem_singleton.mp y] at z
        cases z
    · exact ((e2 e y).1 z).2
  refine ⟨by omega, eIn_a ?_ (fun e he => ⟨fun z => Or.inr ?_, (g2 e he).2⟩), lOr_a (lOr_n hN) g3 (fun x hx y _ z _ _ k => absurd k (hN x hx z))⟩
  · rw [e3]
    intro e he
    rcases List.mem_append.mp he with y | y
    · rcases List.mem_cons.mp y with y | y
      · rw [y]
        exact ⟨fun _ => Or.inl ⟨trivial, rfl, (show ¬ (3 : Int) = 5 by decide)⟩, fun z => (by cases z)⟩
      · rw [List.mem_singleton.mp y]
        exact ⟨fun z => (by cases z), fun z => (by cases z)⟩
    · exact ⟨fun z => Or.inr (by have := ((e2 e y).1 z).1; omega), (e2 e y).2⟩
  · rcases (g2 e he).1 z with y | y
    · exact absurd y.1 id
    · omega
theorem lSt_tyd (hM : hMl lm) (hw : w < o) : lSt w o True (gTyD kd ky L X lm wo ty w i o q) := by
  unfold gTyD
  exact lSt_i (fun _ => lSt_pro hM hw) (fun _ => lSt_i (fun _ => lSt_b (fun i1 _ => lSt_b (fun p hp => lSt_w (eN_sgs hp)))) (fun _ => lSt_b (fun p hp => lSt_w (eN_vas hp))))
theorem lSt_dcl (hM : hMl lm) (hw : w < o) : lSt w o True (gDcl kd ky L X lm wo w i o q) := by
  unfold gDcl
  exact lSt_i (fun _ => lSt_b (fun p hp => lSt_w (eN_swi hp))) (fun _ => lSt_i (fun _ => lSt_b (fun i1 _ => lSt_b (fun t _ => lSt_b (fun p hp => lSt_w (eN_vas hp))))) (fun _ => lSt_i (fun _ => lSt_b (fun t _ => lSt_tyd hM hw)) (fun _ => lSt_tyd hM hw)))
theorem lSt_dcs (hD : ∀ i o q, w < o → lSt w o True (D i o q)) : ∀ (f : Nat) (i o q : Int) (b : gB), w < o → eIn w (w + 1) o True b.2.1 → lOr b.2.1 → ∀ a, gDcs kd D f i o q b = some a → o ≤ a.2.1 ∧ eIn w (w + 1) a.2.1 True a.2.2.2.2.1 ∧ lOr a.2.2.2.2.1 := by
  intro f
  induction f with
  | zero => intro i o q b _ _ _ a h; cases h
  | succ f ih =>
    intro i o q b ho hb hl a h
    have h : (if isDc (kd i) = true then (D i o q).bind fun p => (tkn kd 39 p.1).bind fun j => gDcs kd D f j p.2.1 p.2.2.1 (bSq b p.2.2.2) else some (i, o, q, b)) = some a := h
    by_cases hc : isDc (kd i) = true
    · rw [if_pos hc] at h
      obtain ⟨p, hp, h⟩ := bind_s h
      obtain ⟨j, _, h⟩ := bind_s h
      obtain ⟨g1, g2, g3⟩ := hD _ _ _ ho p hp
      have z := ih _ _ _ (bSq b p.2.2.2) (by omega) (eIn_a (eIn_w hb (Int.le_refl _) g1) (eIn_w g2 (by omega) (Int.le_refl _))) (lOr_a hl g3 (fun x hx y hy x0 y0 e k => by
        rcases (hb x hx).1 x0 with u | u
        · exact absurd k u.2.2
        · rcases (g2 y hy).1 y0 with v | v
          · exfalso; omega
          · exfalso; omega)) a h
      exact ⟨by omega, z.2⟩
    · rw [if_neg hc] at h
      cases h
      exact ⟨Int.le_refl _, hb, hl⟩
theorem lSt_sts (hP : ∀ i o q, lSt 0 o False (P i o q)) : ∀ (f : Nat) (i o q : Int) (b : gB), w < o → eIn w w o False b.2.1 → lOr b.2.1 → ∀ a, gLp kd 39 (sSt kd ky w P) f i (o, q, b) = some a → o ≤ a.2.1 ∧ eIn w w a.2.1 False a.2.2.2.2.1 ∧ lOr a.2.2.2.2.1 := by
  intro f
  induction f with
  | zero => intro i o q b _ _ _ a h; cases h
  | succ f ih =>
    intro i o q b ho hb hl a h
    obtain ⟨r, hr, h⟩ := bind_s (show (sSt kd ky w P (o, q, b) i).bind _ = some a from h)
    obtain ⟨u, hu, hr⟩ := bind_s hr
    obtain ⟨p, hp, hu⟩ := bind_s hu
    obtain ⟨s, hs, hu⟩ := bind_s hu
    cases hu
    obtain ⟨E, e1, e2⟩ := eN_lbs _ _ _ _ hp
    have e1 : p.2.2.1 = E := e1
    obtain ⟨g1, g2, g3⟩ := hP _ _ _ s hs
    have er : r = (s.1, s.2.1, s.2.2.1, bSq b (bSq p.2 s.2.2.2)) := by cases hr; rfl
    have g1 : o ≤ s.2.1 := g1
    have g2 : eIn 0 o s.2.1 False s.2.2.2.2.1 := g2
    have x1 : r.2.2.2.2.1 = b.2.1 ++ (E ++ s.2.2.2.2.1) := by rw [er, ← e1]; rfl
    have x2 : r.2.1 = s.2.1 := by rw [er]
    have hE : eIn w w s.2.1 False E := fun e he => ⟨fun _ => Or.inr (by have := (e2 e he).2.1; omega), fun z => by have := (e2 e he).1; omega⟩
    have y1 : eIn w w r.2.1 False r.2.2.2.2.1 := by
      rw [x1, x2]
      exact eIn_a (eIn_w hb (Int.le_refl _) g1) (eIn_a hE (eIn_w (eIn_k g2) (by omega) (Int.le_refl _)))
    have y2 : lOr r.2.2.2.2.1 := by
      rw [x1]
      refine lOr_a hl (lOr_a ?_ g3 (fun x hx y hy x0 y0 e k => ?_)) (fun x hx y hy x0 y0 e k => ?_)
      · exact lOr_5 (fun e he => (e2 e he).2.2)
      · rcases (g2 y hy).1 y0 with v | v
        · exact absurd v.1 id
        · have := (e2 x hx).2.1
          exfalso; omega
      · rcases List.mem_append.mp hy with v | v
        · exact (e2 y v).2.2
        · rcases (g2 y v).1 y0 with v | v
          · exact absurd v.1 id
          · rcases (hb x hx).1 x0 with t | t
            · exact absurd t.1 id
            · exfalso; omega
    by_cases hc : kd r.1 = 39
    · have h : gLp kd 39 (sSt kd ky w P) f (r.1 + 1) (r.2.1, r.2.2.1, r.2.2.2) = some a := by
        rw [if_pos hc] at h
        exact h
      have z := ih _ _ _ _ (by omega) y1 y2 a h
      exact ⟨by omega, z.2⟩
    · rw [if_neg hc] at h
      cases h
      exact ⟨by omega, y1, y2⟩
theorem lSt_blk (hM : hMl lm) : lSt 0 o False (gBlk kd ky L lm w i o q) := by
  refine lSt_b (fun i1 _ => lSt_i (fun _ => ?_) (fun _ => lSt_n))
  intro a ha
  obtain ⟨p, hp, ha⟩ := bind_s ha
  obtain ⟨r, hr, ha⟩ := bind_s ha
  obtain ⟨t, _, ha⟩ := bind_s ha
  cases ha
  have z1 := lSt_dcs (w := o) (kd := kd) (fun i o' q h => hM.2 w o i o' q h) 3002 _ _ _ _ (by omega) (show eIn o (o + 1) (o + 1) True [vOpB w] from fun e he => by rw [List.mem_singleton.mp he]; exact ⟨fun z => (by cases z), fun z => (by cases z)⟩) (show lOr [vOpB w] from lOr_n (fun e he z => by rw [List.mem_singleton.mp he] at z; cases z)) p hp
  obtain ⟨g1, g2, g3⟩ := z1
  have z2 := lSt_sts (w := o) (fun i o' q => hM.1 o i o' q) 3002 _ _ _ _ (by omega) (fun e he => ⟨fun z => Or.inr (by rcases (g2 e he).1 z with y | y <;> omega), (g2 e he).2⟩) g3 r hr
  obtain ⟨k1, k2, k3⟩ := z2
  exact ⟨show o ≤ r.2.1 by omega, eIn_k k2, k3⟩
theorem lSt_pln (hM : hMl lm) : lSt 0 o False (gPln kd ky L lo lm w i o q) := by
  unfold gPln
  refine lSt_i (fun _ => lSt_blk hM) (fun _ => lSt_i (fun _ => lSt_i (fun _ => lSt_b (fun p hp => lSt_e (ev_asn hp))) (fun _ => lSt_b (fun p hp => lSt_e (ev_cll hp)))) (fun _ => lSt_i (fun _ => lSt_b (fun p hp => lSt_e (ev_jmp hp))) (fun _ => lSt_i (fun _ => lSt_cho (fun i o q => hM.1 w i o q)) (fun _ => lSt_i (fun _ => lSt_for (fun i o q => hM.1 w i o q)) (fun _ => lSt_i (fun _ => lSt_b (fun i1 _ => lSt_b (fun p _ => lSt_e rfl))) (fun _ => lSt_e rfl))))))
theorem hMl_sl : ∀ n : Nat, hMl (gSL kd ky L n) := by
  intro n
  induction n with
  | zero => exact ⟨fun _ _ _ _ => lSt_n, fun _ _ _ _ _ _ => lSt_n⟩
  | succ n ih =>
    refine ⟨fun w i o q => ?_, fun wo w i o q hw => ?_⟩
    · show lSt 0 o False (gSB kd ky L (gLev kd ky n) (gSL kd ky L n) 0 0 w i o q)
      unfold gSB
      rw [if_pos rfl]
      exact lSt_pln ih
    · show lSt w o True (gSB kd ky L (gLev kd ky n) (gSL kd ky L n) 1 wo w i o q)
      unfold gSB
      rw [if_neg (show ¬ (1 : Nat) = 0 by decide)]
      exact lSt_dcl ih hw
theorem lSt_prg {a : Int × Int × Int × gB} (h : gPrg kd ky L = some a) : eIn 0 0 a.2.1 False a.2.2.2.2.1 ∧ lOr a.2.2.2.2.1 := by
  obtain ⟨r, hr, h2⟩ := bind_s h
  by_cases hc : kd r.1 = 0
  · rw [if_pos hc] at h2
    have e : r = a := Option.some.inj h2
    rw [e] at hr
    exact (lSt_blk (hMl_sl 20) a hr).2
  · rw [if_neg hc] at h2
    cases h2
end
