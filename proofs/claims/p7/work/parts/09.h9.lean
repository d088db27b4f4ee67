def okPar (T : gV) : List Int → Int → Prop
  | [], _ => True
  | p :: ps, o => o < T 11 0 ∧ T 7 o.toNat = p ∧ okPar T ps (o + 1)
theorem okPar_a {T : gV} : ∀ {a b : List Int} {o : Int}, okPar T (a ++ b) o → okPar T a o ∧ okPar T b (o + (a.length : Int)) := by
  intro a
  induction a with
  | nil => intro b o h; exact ⟨trivial, by rw [show o + (([] : List Int).length : Int) = o by simp]; exact h⟩
  | cons p ps ih =>
    intro b o h
    have h : o < T 11 0 ∧ T 7 o.toNat = p ∧ okPar T (ps ++ b) (o + 1) := h
    have q := ih h.2.2
    refine ⟨⟨h.1, h.2.1, q.1⟩, ?_⟩
    rw [show o + ((p :: ps).length : Int) = o + 1 + (ps.length : Int) by simp; omega]
    exact q.2
abbrev gPs (a : Int × Int × Int × gB) : List Int := a.2.2.2.2.2.1
def oK (F : gS) (T : gV) (sw o : Int) : Prop := sw ≤ 3001 ∧ ∃ a, F = some a ∧ okPar T (gPs a) o
theorem bind_s {α β : Type} {F : Option α} {K : α → Option β} {b : β} (h : F.bind K = some b) : ∃ a, F = some a ∧ K a = some b := by
  cases F with
  | none => cases h
  | some a => exact ⟨a, rfl, h⟩
section
variable {T : gV} {sw o : Int}
theorem oK_b {α : Type} {F : Option α} {K : α → gS} {a : α} (h : oK (F.bind K) T sw o) (hF : F = some a) : oK (K a) T sw o := by
  rw [hF] at h
  exact h
theorem oK_q {F : gS} {K : Int × Int × Int × gB → gS} (h : oK (F.bind K) T sw o) (hK : ∀ r a, K r = some a → ∃ ps, gPs a = gPs r ++ ps) : oK F T sw o := by
  obtain ⟨h0, a, ha, hp⟩ := h
  obtain ⟨r, hr, hs⟩ := bind_s ha
  obtain ⟨ps, e⟩ := hK r a hs
  rw [e] at hp
  exact ⟨h0, r, hr, (okPar_a hp).1⟩
theorem oK_r {F : gS} {K : Int × Int × Int × gB → gS} {us : List Int} (h : oK (F.bind K) T sw o) (hK : ∀ r a, K r = some a → ∃ ps, gPs a = us ++ gPs r ++ ps) : oK F T sw (o + (us.length : Int)) := by
  obtain ⟨h0, a, ha, hp⟩ := h
  obtain ⟨r, hr, hs⟩ := bind_s ha
  obtain ⟨ps, e⟩ := hK r a hs
  rw [e] at hp
  exact ⟨h0, r, hr, (okPar_a (okPar_a hp).1).2⟩
theorem oK_t {F : gS} {T1 : gV} {sw1 : Int} (h : oK F T sw o) (e : T1 = T) (hs : sw1 ≤ sw) : oK F T1 sw1 o := by
  rw [e]
  exact ⟨Int.le_trans hs h.1, h.2⟩
end
def rB (pl ky : Int → Int) (ss : Int) (T T' : gV) (sw sw' : Int) (m m' : Nat → Int32) (so so' ks' sc sc' ta' : Int) : Int × Int × Int × gB → Prop := fun a => ta' = a.1 ∧ so' = a.2.1 ∧ ks' = a.2.2.1 ∧ so' = so + ((gPs a).length : Int) ∧ sc' = sc ∧ bX pl ky ss T T' sw sw' m m' a.2.2.2
section
variable {f13 g13 : Nat → Int64} {f14 f15 f16 f17 f18 f19 f20 f21 f22 f23 f24 f25 f26 g14 g15 g16 g17 g18 g19 g20 g21 g22 g23 g24 g25 g26 : Nat → Int32} {bn sn bn' sn' : Int32} {s w : Int}
theorem pK_T (h0 : 0 ≤ s) (h : eT f13 f14 f15 f16 f17 f18 f19 f20 f21 f22 f23 f24 f25 f26 bn sn 7 s.toNat = w ∧ s < eT f13 f14 f15 f16 f17 f18 f19 f20 f21 f22 f23 f24 f25 f26 bn sn 11 0) (k : pKr f23 sn.toInt g23 sn'.toInt) : eT g13 g14 g15 g16 g17 g18 g19 g20 g21 g22 g23 g24 g25 g26 bn' sn' 7 s.toNat = w ∧ s < eT g13 g14 g15 g16 g17 g18 g19 g20 g21 g22 g23 g24 g25 g26 bn' sn' 11 0 := by
  have h1 : (f23 s.toNat).toInt = w := h.1
  have h2 : s < sn.toInt := h.2
  have e := k.2 s.toNat (by omega)
  refine ⟨?_, ?_⟩
  · show (g23 s.toNat).toInt = w
    rw [e, h1]
  · show s < sn'.toInt
    have := k.1
    omega
theorem pa_g (h0 : 0 ≤ s) (h : eT f13 f14 f15 f16 f17 f18 f19 f20 f21 f22 f23 f24 f25 f26 bn sn 7 s.toNat = w ∧ s < eT f13 f14 f15 f16 f17 f18 f19 f20 f21 f22 f23 f24 f25 f26 bn sn 11 0) : gG (rI f23) sn.toInt (-1) s = w := by
  unfold gG
  have h2 : s < sn.toInt := h.2
  rw [if_pos ⟨h0, h2⟩]
  exact h.1
end
section
variable {kd ky : Int → Int} {sep : Int}
theorem gLp_i {σ : Type} {S : σ → Int → Option (Int × σ)} {Q : σ → Prop} (hS : ∀ x i p, Q x → S x i = some p → Q p.2) : ∀ (k : Nat) (i : Int) (x : σ) (p : Int × σ), Q x → gLp kd sep S k i x = some p → Q p.2 := by
  intro k
  induction k with
  | zero => intro i x p _ h; cases h
  | succ k ih =>
    intro i x p hx h
    obtain ⟨r, hr, h2⟩ := bind_s (show (S x i).bind _ = some p from h)
    have q := hS x i r hx hr
    by_cases hk : kd r.1 = sep
    · rw [if_pos hk] at h2
      exact ih _ _ _ q h2
    · rw [if_neg hk] at h2
      cases h2
      exact q
theorem np_lau {w i : Int} {p : Int × gB} (h : gLaU kd ky w i = some p) : p.2.2.2.1 = [] := by
  obtain ⟨j, _, h2⟩ := bind_s h
  cases h2
  rfl
theorem np_swi {w i : Int} {p : Int × gB} (h : gSwi kd ky w i = some p) : p.2.2.2.1 = [] := by
  obtain ⟨j, _, h⟩ := bind_s h
  obtain ⟨k, _, h⟩ := bind_s h
  obtain ⟨l, _, h⟩ := bind_s h
  obtain ⟨r, hr, h⟩ := bind_s h
  cases h
  refine gLp_i (Q := fun x => x.2.2.2.1 = []) (fun x i p hx hp => ?_) _ _ _ _ (by rfl) hr
  obtain ⟨u, hu, h⟩ := bind_s hp
  cases h
  show x.2.2.2.1 ++ u.2.2.2.1 = []
  by_cases hq : x.1 < 20
  · rw [if_pos hq] at hu
    rw [hx, np_lau hu]
    rfl
  · rw [if_neg hq] at hu
    cases hu
theorem gSto_p {kind ty w i q : Int} {p : Int × Int × gB} (h : gSto kd ky kind ty w i q = some p) : p.2.2 = bEv (vD ky i kind ty w) ∧ p.2.1 = q + 1 := by
  obtain ⟨j, _, h⟩ := bind_s h
  cases h
  exact ⟨rfl, rfl⟩
theorem np_vas {own ty w i q : Int} {p : Int × Int × gB} (h : gVas kd ky own ty w i q b0 = some p) : p.2.2.2.2.1 = [] := by
  refine gLp_i (Q := fun x => x.2.2.2.1 = []) (fun x i p hx hp => ?_) _ _ _ _ (by rfl) h
  obtain ⟨u, hu, h⟩ := bind_s hp
  cases h
  show x.2.2.2.1 ++ (gVa1 own u.2.2).2.2.1 = []
  rw [hx, (gSto_p hu).1]
  unfold gVa1
  by_cases ho : own = 0
  · rw [if_pos ho]; rfl
  · rw [if_neg ho]; rfl
theorem np_bnd {X : Int → gR} {i : Int} {p : Int × gB} (h : gBnd kd X i = some p) : p.2.2.2.1 = [] := by
  obtain ⟨j, _, h⟩ := bind_s h
  obtain ⟨k, _, h⟩ := bind_s h
  obtain ⟨l, _, h⟩ := bind_s h
  cases h
  rfl
theorem np_sgn {ty w i q : Int} {p : Int × Int × gB × Int} (h : gSgN kd ky ty w i q b0 = some p) : p.2.2.1.2.2.1 = [] := by
  refine gLp_i (Q := fun x => x.2.1.2.2.1 = []) (fun x i p hx hp => ?_) _ _ _ _ (by rfl) h
  obtain ⟨u, hu, h⟩ := bind_s hp
  cases h
  show x.2.1.2.2.1 ++ u.2.2.2.2.1 = []
  rw [hx, (gSto_p hu).1]
  rfl
theorem np_seg {X : Int → Int → gR} {ty wo w i q : Int} {p : Int × Int × gB} (h : gSeg kd ky X ty wo w i q = some p) : p.2.2.2.2.1 = [] := by
  obtain ⟨u, hu, h⟩ := bind_s h
  obtain ⟨k, _, h⟩ := bind_s h
  obtain ⟨r, hr, h⟩ := bind_s h
  by_cases hc : kd r.1 = 38
  · rw [if_pos hc] at h
    obtain ⟨s, hs, h⟩ := bind_s h
    obtain ⟨l, _, h⟩ := bind_s h
    cases h
    show ((u.2.2.1.2.2.1 ++ r.2.2.2.1) ++ s.2.2.2.1) ++ [] = []
    rw [np_sgn hu, np_bnd hr, np_bnd hs]
    rfl
  · rw [if_neg hc] at h
    obtain ⟨l, _, h⟩ := bind_s h
    cases h
    show (u.2.2.1.2.2.1 ++ r.2.2.2.1) ++ [] = []
    rw [np_sgn hu, np_bnd hr]
    rfl
theorem np_sgs {X : Int → Int → gR} {ty wo w i q : Int} {p : Int × Int × gB} (h : gSgs kd ky X ty wo w i q b0 = some p) : p.2.2.2.2.1 = [] := by
  refine gLp_i (Q := fun x => x.2.2.2.1 = []) (fun x i p hx hp => ?_) _ _ _ _ (by rfl) h
  obtain ⟨u, hu, h⟩ := bind_s hp
  cases h
  show x.2.2.2.1 ++ u.2.2.2.2.1 = []
  rw [hx, np_seg hu]
  rfl
theorem np_lfs {lo : gL} {w : Int} : ∀ (k : Nat) (i : Int) (a : gD) (p : Int × gB), gLfs kd ky lo w k i a = some p → p.2.2.2.1 = [] := by
  intro k
  induction k with
  | zero => intro i a p h; cases h
  | succ k ih =>
    intro i a p h
    have h : (if gLfT kd i = true then (gLf1 kd ky lo w i).bind fun p => gLfs kd ky lo w k p.1 (gLfS a p.2) else (gExp kd ky lo w i).bind fun r => some (r.1, gAsE a r.2)) = some p := h
    by_cases hc : gLfT kd i = true
    · rw [if_pos hc] at h
      obtain ⟨u, _, h⟩ := bind_s h
      exact ih _ _ _ h
    · rw [if_neg hc] at h
      obtain ⟨u, _, h⟩ := bind_s h
      cases h
      rfl
theorem np_asn {lo : gL} {w i : Int} {p : Int × gB} (h : gAsn kd ky lo w i = some p) : p.2.2.2.1 = [] := by
  obtain ⟨u, _, h⟩ := bind_s h
  exact np_lfs _ _ _ _ h
theorem np_cll {lo : gL} {w i : Int} {p : Int × gB} (h : gCll kd ky lo w i = some p) : p.2.2.2.1 = [] := by
  obtain ⟨j, _, h⟩ := bind_s h
  by_cases hc : kd j = 34
  · rw [if_pos hc] at h
    obtain ⟨u, _, h⟩ := bind_s h
    cases h
    rfl
  · rw [if_neg hc] at h
    cases h
    rfl
theorem np_jmp {lo : gL} {w i : Int} {p : Int × gB} (h : gJmp kd ky lo w i = some p) : p.2.2.2.1 = [] := by
  obtain ⟨j, _, h⟩ := bind_s h
  by_cases hc : kd (j + 1) = 36
  · rw [if_pos hc] at h
    obtain ⟨u, _, h⟩ := bind_s h
    obtain ⟨v, _, h⟩ := bind_s h
    obtain ⟨x, _, h⟩ := bind_s h
    obtain ⟨y, _, h⟩ := bind_s h
    cases h
    rfl
  · rw [if_neg hc] at h
    exact np_lau h
theorem np_el1 {X : Int → gR} {i : Int} {p : Int × gB} (h : gEl1 kd X i = some p) : p.2.2.2.1 = [] := by
  obtain ⟨j, _, h⟩ := bind_s h
  by_cases hc : kd j.1 = 16
  · rw [if_pos hc] at h
    obtain ⟨u, _, h⟩ := bind_s h
    obtain ⟨v, _, h⟩ := bind_s h
    obtain ⟨x, _, h⟩ := bind_s h
    cases h
    rfl
  · rw [if_neg hc] at h
    by_cases hd : kd j.1 = 18
    · rw [if_pos hd] at h
      obtain ⟨u, _, h⟩ := bind_s h
      cases h
      rfl
    · rw [if_neg hd] at h
      cases h
      rfl
theorem np_els {X : Int → gR} {i : Int} {b : gB} {p : Int × gB} (hb : b.2.2.1 = []) (h : gEls kd X i b = some p) : p.2.2.2.1 = [] := by
  refine gLp_i (Q := fun x => x.2.2.1 = []) (fun x i p hx hp => ?_) _ _ _ _ hb h
  obtain ⟨u, hu, h⟩ := bind_s hp
  cases h
  show x.2.2.1 ++ u.2.2.2.1 = []
  rw [hx, np_el1 hu]
  rfl
theorem np_lst {v : Int → gE} {i : Int} {p : Int × gB} (h : gLst kd v i b0 = some p) : p.2.2.2.1 = [] := by
  refine gLp_i (Q := fun x => x.2.2.1 = []) (fun x i p hx hp => ?_) _ _ _ _ (by rfl) h
  obtain ⟨u, hu, h⟩ := bind_s hp
  cases h
  show x.2.2.1 ++ [] = []
  rw [hx]
  rfl
theorem np_par {w i : Int} {p : Int × Int × gB} (h : gPar kd ky w i = some p) : p.2.2.2.2.1 = [] ∧ nDe p.2.2.2.1 = p.2.1 := by
  obtain ⟨j, _, h⟩ := bind_s h
  obtain ⟨r, hr, h⟩ := bind_s h
  obtain ⟨l, _, h⟩ := bind_s h
  cases h
  refine gLp_i (Q := fun x => x.2.2.2.1 = [] ∧ nDe x.2.2.1 = x.1) (fun x i p hx hp => ?_) _ _ _ _ ⟨by rfl, by rfl⟩ hr
  obtain ⟨u, hu, h⟩ := bind_s hp
  cases h
  refine ⟨?_, ?_⟩
  · show x.2.2.2.1 ++ [] = []
    rw [hx.1]
    rfl
  · show nDe (x.2.2.1 ++ [vD ky i 0 0 w]) = x.1 + 1
    rw [nDe_a, hx.2]
    rfl
theorem np_vls {w i : Int} {p : Int × gB} (h : gVls kd ky w i = some p) : p.2.2.2.1 = [] := by
  unfold gVls at h
  by_cases hc : kd i = 7
  · rw [if_pos hc] at h
    obtain ⟨j, _, h⟩ := bind_s h
    obtain ⟨r, hr, h⟩ := bind_s h
    obtain ⟨l, _, h⟩ := bind_s h
    cases h
    show r.2.2.2.1 = []
    exact np_lst hr
  · rw [if_neg hc] at h
    cases h
    rfl
theorem np_sp1 {w i : Int} {p : Int × gB} (h : gSp1 kd ky w i = some p) : p.2.2.2.1 = [] := by
  unfold gSp1 at h
  by_cases hc : kd i = 10
  · rw [if_pos hc] at h
    obtain ⟨j, _, h⟩ := bind_s h
    exact np_lst h
  · rw [if_neg hc] at h
    obtain ⟨j, _, h⟩ := bind_s h
    by_cases hd : kd j.1 = 5
    · rw [if_pos hd] at h
      exact np_lst h
    · rw [if_neg hd] at h
      exact np_lst h
theorem np_sps {w : Int} : ∀ (k : Nat) (i : Int) (b : gB) (p : Int × gB), gSps kd ky w k i b = some p → p.2.2.2.1 = b.2.2.1 := by
  intro k
  induction k with
  | zero => intro i b p h; cases h
  | succ k ih =>
    intro i b p h
    have h : (if kd i = 3 ∨ kd i = 4 ∨ kd i = 10 then (gSp1 kd ky w i).bind fun p => (tkn kd 39 p.1).bind fun j => gSps kd ky w k j (bSq b p.2) else some (i, b)) = some p := h
    by_cases hc : kd i = 3 ∨ kd i = 4 ∨ kd i = 10
    · rw [if_pos hc] at h
      obtain ⟨u, hu, h⟩ := bind_s h
      obtain ⟨v, _, h⟩ := bind_s h
      rw [ih _ _ _ h]
      show b.2.2.1 ++ u.2.2.2.1 = b.2.2.1
      rw [np_sp1 hu, List.append_nil]
    · rw [if_neg hc] at h
      cases h
      rfl
theorem np_hed {w i : Int} {b : gB} {p : Int × gB} (h : gHed kd ky w i b = some p) : p.2.2.2.1 = b.2.2.1 := by
  unfold gHed at h
  by_cases hc : kd i = 34
  · rw [if_pos hc] at h
    obtain ⟨u, hu, h⟩ := bind_s h
    obtain ⟨j, _, h⟩ := bind_s h
    obtain ⟨v, hv, h⟩ := bind_s h
    obtain ⟨s, hs, h⟩ := bind_s h
    cases h
    show ((((b.2.2.1 ++ u.2.2.2.2.1) ++ []) ++ v.2.2.2.1) ++ s.2.2.2.1) ++ [] = b.2.2.1
    rw [(np_par hu).1, np_vls hv, np_sps _ _ _ _ hs]
    show ((((b.2.2.1 ++ []) ++ []) ++ []) ++ []) ++ [] = b.2.2.1
    simp only [List.append_nil]
  · rw [if_neg hc] at h
    obtain ⟨j, _, h⟩ := bind_s h
    cases h
    rfl
theorem np_lbs {w : Int} : ∀ (k : Nat) (i : Int) (b : gB) (p : Int × gB), gLbs kd ky w k i b = some p → p.2.2.2.1 = b.2.2.1 := by
  intro k
  induction k with
  | zero => intro i b p h; cases h
  | succ k ih =>
    intro i b p h
    have h : (if kd i = 27 ∧ kd (i + 1) = 40 then (tkn kd 27 i).bind fun j => (tkn kd 40 j).bind fun k' => gLbs kd ky w k k' (bSq b (bEv (vD ky i 5 0 w))) else some (i, b)) = some p := h
    by_cases hc : kd i = 27 ∧ kd (i + 1) = 40
    · rw [if_pos hc] at h
      obtain ⟨u, _, h⟩ := bind_s h
      obtain ⟨v, _, h⟩ := bind_s h
      rw [ih _ _ _ h]
      show b.2.2.1 ++ [] = b.2.2.1
      rw [List.append_nil]
    · rw [if_neg hc] at h
      cases h
      rfl
end
