def uS (kd : Int → Int) (i j : Int) (us : List (Int × Int)) : Prop := i ≤ j ∧ (∀ u ∈ us, i ≤ u.1 ∧ u.1 < j) ∧ (∀ u ∈ us, ∀ v ∈ us, u.1 = v.1 → u = v) ∧ ∀ u ∈ us, kd u.1 = 27
section
variable {kd ky : Int → Int} {i j k i2 j2 w : Int} {a b us : List (Int × Int)}
theorem uS_0 (h : i ≤ j) : uS kd i j [] := ⟨h, fun u hu => absurd hu List.not_mem_nil, fun u hu => absurd hu List.not_mem_nil, fun u hu => absurd hu List.not_mem_nil⟩
theorem uS_1 (h0 : i ≤ k) (h1 : k < j) (hk : kd k = 27) : uS kd i j [(k, w)] := ⟨by omega, fun u hu => by rw [List.mem_singleton.mp hu]; exact ⟨h0, h1⟩, fun u hu v hv _ => by rw [List.mem_singleton.mp hu, List.mem_singleton.mp hv], fun u hu => by rw [List.mem_singleton.mp hu]; exact hk⟩
theorem uS_a (h : uS kd i k a) (g : uS kd k j b) : uS kd i j (a ++ b) := by
  obtain ⟨a1, a2, a3, a4⟩ := h
  obtain ⟨b1, b2, b3, b4⟩ := g
  refine ⟨by omega, fun u hu => ?_, fun u hu v hv e => ?_, fun u hu => (List.mem_append.mp hu).elim (a4 u) (b4 u)⟩
  · rcases List.mem_append.mp hu with z | z
    · have := a2 u z; omega
    · have := b2 u z; omega
  · rcases List.mem_append.mp hu with z | z
    · rcases List.mem_append.mp hv with y | y
      · exact a3 u z v y e
      · have := a2 u z; have := b2 v y; exfalso; omega
    · rcases List.mem_append.mp hv with y | y
      · have := b2 u z; have := a2 v y; exfalso; omega
      · exact b3 u z v y e
theorem uS_w (h : uS kd i j us) (h1 : i2 ≤ i) (h2 : j ≤ j2) : uS kd i2 j2 us := ⟨by have := h.1; omega, fun u hu => by have := h.2.1 u hu; omega, h.2.2⟩
theorem uS_E (h : uE kd w i j us) : uS kd i j us := ⟨h.1, fun u hu => ⟨(h.2.1 u hu).2.1, (h.2.1 u hu).2.2.1⟩, fun u hu v hv e => Prod.ext e ((h.2.1 u hu).1.trans (h.2.1 v hv).1.symm), fun u hu => (h.2.1 u hu).2.2.2⟩
theorem uS_k {n : Int} (h : tkn kd n i = some j) (g : uS kd j k us) : uS kd i k us := uS_w g (by have := (tkn_j h).2; omega) (Int.le_refl _)
theorem uS_r {n : Int} (h : uS kd i j us) (g : tkn kd n j = some k) : uS kd i k us := uS_w h (Int.le_refl _) (by have := (tkn_j g).2; omega)
theorem gLp_q {σ : Type} {sep : Int} {S : σ → Int → Option (Int × σ)} {Q : Int → σ → Prop} (hS : ∀ x i p, Q i x → S x i = some p → Q p.1 p.2) (hw : ∀ x i, Q i x → Q (i + 1) x) : ∀ (k : Nat) (i : Int) (x : σ) (p : Int × σ), Q i x → gLp kd sep S k i x = some p → Q p.1 p.2 := by
  intro k
  induction k with
  | zero => intro i x p _ h; cases h
  | succ k ih =>
    intro i x p hx h
    obtain ⟨r, hr, h2⟩ := bind_s (show (S x i).bind _ = some p from h)
    have q := hS x i r hx hr
    by_cases hk : kd r.1 = sep
    · rw [if_pos hk] at h2
      exact ih _ _ _ (hw _ _ q) h2
    · rw [if_neg hk] at h2
      cases h2
      exact q
theorem uS_n (h : uS kd i j us) : uS kd i (j + 1) us := uS_w h (Int.le_refl _) (by omega)
theorem s_lau {p : Int × gB} (h : gLaU kd ky w i = some p) : uS kd i p.1 p.2.1 := by
  obtain ⟨j, hj, h2⟩ := bind_s h
  cases h2
  have := (tkn_j hj).2
  show uS kd i j [(i, w)]
  exact uS_1 (Int.le_refl _) (by omega) (tkn_j hj).1
theorem s_swi {p : Int × gB} (h : gSwi kd ky w i = some p) : uS kd i p.1 p.2.1 := by
  obtain ⟨a, ha, h⟩ := bind_s h
  obtain ⟨k, hk, h⟩ := bind_s h
  obtain ⟨l, hl, h⟩ := bind_s h
  obtain ⟨r, hr, h⟩ := bind_s h
  cases h
  refine uS_k ha (uS_k hk (uS_k hl ?_))
  refine gLp_q (Q := fun (p : Int) (x : Int × gB) => uS kd l p x.2.1) (fun x i p hx hp => ?_) (fun x i h => uS_n h) _ _ _ _ (uS_0 (Int.le_refl _)) hr
  obtain ⟨u, hu, h⟩ := bind_s hp
  cases h
  by_cases hq : x.1 < 20
  · rw [if_pos hq] at hu
    exact uS_a hx (s_lau hu)
  · rw [if_neg hq] at hu
    cases hu
theorem gSto_1 {kind ty q : Int} {p : Int × Int × gB} (h : gSto kd ky kind ty w i q = some p) : p.1 = i + 1 ∧ p.2.2.1 = [] := by
  obtain ⟨j, hj, h⟩ := bind_s h
  cases h
  by_cases hq : q < 60
  · rw [if_pos hq] at hj
    exact ⟨(tkn_j hj).2, rfl⟩
  · rw [if_neg hq] at hj
    cases hj
theorem s_vas {own ty q : Int} {p : Int × Int × gB} (h : gVas kd ky own ty w i q b0 = some p) : uS kd i p.1 p.2.2.1 := by
  refine gLp_q (Q := fun (p : Int) (x : Int × gB) => uS kd i p x.2.1) (fun x j p hx hp => ?_) (fun x i h => uS_n h) _ _ _ _ (uS_0 (Int.le_refl _)) h
  obtain ⟨u, hu, h⟩ := bind_s hp
  cases h
  have e := gSto_1 hu
  show uS kd i u.1 (x.2.1 ++ (gVa1 own u.2.2).1)
  have e2 : (gVa1 own u.2.2).1 = [] := by
    unfold gVa1
    by_cases ho : own = 0
    · rw [if_pos ho]; exact e.2
    · rw [if_neg ho]; show u.2.2.1 ++ [] = []; rw [e.2]; rfl
  rw [e2, List.append_nil, e.1]
  exact uS_n hx
theorem s_bnd {X : Int → gR} (hX : ∀ i p, X i = some p → uS kd i p.1 p.2.1) {p : Int × gB} (h : gBnd kd X i = some p) : uS kd i p.1 p.2.1 := by
  obtain ⟨a, ha, h⟩ := bind_s h
  obtain ⟨k, hk, h⟩ := bind_s h
  obtain ⟨l, hl, h⟩ := bind_s h
  cases h
  show uS kd i l.1 (a.2.1 ++ l.2.1)
  exact uS_a (hX _ _ ha) (uS_k hk (hX _ _ hl))
theorem s_sgn {ty q : Int} {p : Int × Int × gB × Int} (h : gSgN kd ky ty w i q b0 = some p) : uS kd i p.1 p.2.2.1.1 := by
  refine gLp_q (Q := fun (p : Int) (x : Int × gB × Int) => uS kd i p x.2.1.1) (fun x j p hx hp => ?_) (fun x i h => uS_n h) _ _ _ _ (uS_0 (Int.le_refl _)) h
  obtain ⟨u, hu, h⟩ := bind_s hp
  cases h
  have e := gSto_1 hu
  show uS kd i u.1 (x.2.1.1 ++ u.2.2.1)
  rw [e.2, List.append_nil, e.1]
  exact uS_n hx
theorem s_seg {X : Int → Int → gR} (hX : ∀ w i p, X w i = some p → uS kd i p.1 p.2.1) {ty wo q : Int} {p : Int × Int × gB} (h : gSeg kd ky X ty wo w i q = some p) : uS kd i p.1 p.2.2.1 := by
  obtain ⟨u, hu, h⟩ := bind_s h
  obtain ⟨k, hk, h⟩ := bind_s h
  obtain ⟨r, hr, h⟩ := bind_s h
  have z := uS_a (s_sgn hu) (uS_k hk (s_bnd (hX wo) hr))
  by_cases hc : kd r.1 = 38
  · rw [if_pos hc] at h
    obtain ⟨s, hs, h⟩ := bind_s h
    obtain ⟨l, hl, h⟩ := bind_s h
    cases h
    show uS kd i l (((u.2.2.1.1 ++ r.2.1) ++ s.2.1) ++ [])
    rw [List.append_nil]
    exact uS_r (uS_a (uS_n z) (s_bnd (hX wo) hs)) hl
  · rw [if_neg hc] at h
    obtain ⟨l, hl, h⟩ := bind_s h
    cases h
    show uS kd i l ((u.2.2.1.1 ++ r.2.1) ++ [])
    rw [List.append_nil]
    exact uS_r z hl
theorem s_sgs {X : Int → Int → gR} (hX : ∀ w i p, X w i = some p → uS kd i p.1 p.2.1) {ty wo q : Int} {p : Int × Int × gB} (h : gSgs kd ky X ty wo w i q b0 = some p) : uS kd i p.1 p.2.2.1 := by
  refine gLp_q (Q := fun (p : Int) (x : Int × gB) => uS kd i p x.2.1) (fun x j p hx hp => ?_) (fun x i h => uS_n h) _ _ _ _ (uS_0 (Int.le_refl _)) h
  obtain ⟨u, hu, h⟩ := bind_s hp
  cases h
  exact uS_a hx (s_seg hX hu)
theorem s_lf1 {lo : gL} (hl : uL kd lo) {p : Int × gD} (h : gLf1 kd ky lo w i = some p) : uS kd i p.1 p.2.1 := by
  obtain ⟨j, hj, h⟩ := bind_s h
  have e := (tkn_j hj).2
  by_cases hc : kd j = 36
  · rw [if_pos hc] at h
    obtain ⟨u, hu, h⟩ := bind_s h
    obtain ⟨k, hk, h⟩ := bind_s h
    cases h
    show uS kd i k ([(i, w)] ++ u.2.1)
    exact uS_a (uS_1 (j := j) (Int.le_refl _) (by omega) (tkn_j hj).1) (uS_r (uS_E (u_sub hl hu)) hk)
  · rw [if_neg hc] at h
    obtain ⟨k, hk, h⟩ := bind_s h
    cases h
    show uS kd i k [(i, w)]
    have := (tkn_j hk).2
    exact uS_1 (Int.le_refl _) (by omega) (tkn_j hj).1
theorem s_lfs {lo : gL} (hl : uL kd lo) (hX : ∀ i p, gExp kd ky lo w i = some p → uS kd i p.1 p.2.1) : ∀ (k : Nat) (i i0 : Int) (a : gD) (p : Int × gB), uS kd i0 i a.1 → gLfs kd ky lo w k i a = some p → uS kd i0 p.1 p.2.1 := by
  intro k
  induction k with
  | zero => intro i i0 a p _ h; cases h
  | succ k ih =>
    intro i i0 a p ha h
    have h : (if gLfT kd i = true then (gLf1 kd ky lo w i).bind fun p => gLfs kd ky lo w k p.1 (gLfS a p.2) else (gExp kd ky lo w i).bind fun r => some (r.1, gAsE a r.2)) = some p := h
    by_cases hc : gLfT kd i = true
    · rw [if_pos hc] at h
      obtain ⟨u, hu, h⟩ := bind_s h
      exact ih _ _ _ _ (show uS kd i0 u.1 (a.1 ++ u.2.1) from uS_a ha (s_lf1 hl hu)) h
    · rw [if_neg hc] at h
      obtain ⟨u, hu, h⟩ := bind_s h
      cases h
      show uS kd i0 u.1 (a.1 ++ u.2.1)
      exact uS_a ha (hX _ _ hu)
theorem s_asn {lo : gL} (hl : uL kd lo) (hX : ∀ i p, gExp kd ky lo w i = some p → uS kd i p.1 p.2.1) {p : Int × gB} (h : gAsn kd ky lo w i = some p) : uS kd i p.1 p.2.1 := by
  obtain ⟨u, hu, h⟩ := bind_s h
  exact s_lfs hl hX _ _ _ _ _ (s_lf1 hl hu) h
theorem s_cll {lo : gL} (hl : uL kd lo) {p : Int × gB} (h : gCll kd ky lo w i = some p) : uS kd i p.1 p.2.1 := by
  obtain ⟨j, hj, h⟩ := bind_s h
  have e := (tkn_j hj).2
  by_cases hc : kd j = 34
  · rw [if_pos hc] at h
    obtain ⟨u, hu, h⟩ := bind_s h
    cases h
    show uS kd i u.1 ([(i, w)] ++ u.2.1)
    exact uS_a (uS_1 (j := j) (Int.le_refl _) (by omega) (tkn_j hj).1) (uS_E (u_acs hl hu))
  · rw [if_neg hc] at h
    cases h
    show uS kd i j [(i, w)]
    exact uS_1 (Int.le_refl _) (by omega) (tkn_j hj).1
theorem s_jmp {lo : gL} (hl : uL kd lo) {p : Int × gB} (h : gJmp kd ky lo w i = some p) : uS kd i p.1 p.2.1 := by
  obtain ⟨j, hj, h⟩ := bind_s h
  refine uS_k hj ?_
  by_cases hc : kd (j + 1) = 36
  · rw [if_pos hc] at h
    obtain ⟨u, hu, h⟩ := bind_s h
    obtain ⟨v, hv, h⟩ := bind_s h
    obtain ⟨x, hx, h⟩ := bind_s h
    obtain ⟨y, hy, h⟩ := bind_s h
    cases h
    show uS kd j y ([(j, w)] ++ x.2.1)
    have e := (tkn_j hu).2
    exact uS_a (uS_1 (j := u) (Int.le_refl _) (by omega) (tkn_j hu).1) (uS_k hv (uS_r (uS_E (hl _ _ _ _ hx)) hy))
  · rw [if_neg hc] at h
    exact s_lau h
theorem s_el1 {X : Int → gR} (hX : ∀ i p, X i = some p → uS kd i p.1 p.2.1) {p : Int × gB} (h : gEl1 kd X i = some p) : uS kd i p.1 p.2.1 := by
  obtain ⟨j, hj, h⟩ := bind_s h
  have z := hX _ _ hj
  by_cases hc : kd j.1 = 16
  · rw [if_pos hc] at h
    obtain ⟨u, hu, h⟩ := bind_s h
    obtain ⟨v, hv, h⟩ := bind_s h
    obtain ⟨x, hx, h⟩ := bind_s h
    cases h
    show uS kd i x.1 ((j.2.1 ++ u.2.1) ++ x.2.1)
    exact uS_a (uS_a (uS_n z) (hX _ _ hu)) (uS_k hv (hX _ _ hx))
  · rw [if_neg hc] at h
    by_cases hd : kd j.1 = 18
    · rw [if_pos hd] at h
      obtain ⟨u, hu, h⟩ := bind_s h
      cases h
      show uS kd i u.1 (j.2.1 ++ u.2.1)
      exact uS_a (uS_n z) (hX _ _ hu)
    · rw [if_neg hd] at h
      cases h
      exact z
theorem s_els {X : Int → gR} (hX : ∀ i p, X i = some p → uS kd i p.1 p.2.1) {i0 : Int} {b : gB} {p : Int × gB} (hb : uS kd i0 i b.1) (h : gEls kd X i b = some p) : uS kd i0 p.1 p.2.1 := by
  refine gLp_q (Q := fun (p : Int) (x : gB) => uS kd i0 p x.1) (fun x j p hx hp => ?_) (fun x i h => uS_n h) _ _ _ _ hb h
  obtain ⟨u, hu, h⟩ := bind_s hp
  cases h
  exact uS_a hx (s_el1 hX hu)
theorem s_lst {v : Int → gE} {p : Int × gB} (h : gLst kd v i b0 = some p) : i ≤ p.1 ∧ p.2.1 = [] := by
  refine gLp_q (Q := fun (p : Int) (x : gB) => i ≤ p ∧ x.1 = []) (fun x j p hx hp => ?_) (fun x i h => ⟨by omega, h.2⟩) _ _ _ _ ⟨Int.le_refl _, rfl⟩ h
  obtain ⟨u, hu, h⟩ := bind_s hp
  cases h
  have := (tkn_j hu).2
  refine ⟨show i ≤ u by omega, ?_⟩
  show x.1 ++ [] = []
  rw [hx.2]
  rfl
theorem s_par {p : Int × Int × gB} (h : gPar kd ky w i = some p) : i ≤ p.1 ∧ p.2.2.1 = [] := by
  obtain ⟨j, hj, h⟩ := bind_s h
  obtain ⟨r, hr, h⟩ := bind_s h
  obtain ⟨l, hl, h⟩ := bind_s h
  cases h
  have ej := (tkn_j hj).2
  have el := (tkn_j hl).2
  have z := gLp_q (Q := fun (p : Int) (x : Int × gB) => j ≤ p ∧ x.2.1 = []) (fun x k p hx hp => by
    obtain ⟨u, hu, h⟩ := bind_s hp
    cases h
    by_cases hq : x.1 < 6
    · rw [if_pos hq] at hu
      have := (tkn_j hu).2
      refine ⟨show j ≤ u by have := hx.1; omega, ?_⟩
      show x.2.1 ++ [] = []
      rw [hx.2]
      rfl
    · rw [if_neg hq] at hu
      cases hu) (fun x i h => ⟨by have := h.1; omega, h.2⟩) _ _ _ _ ⟨Int.le_refl _, rfl⟩ hr
  exact ⟨show i ≤ l by have := z.1; omega, z.2⟩
theorem s_vls {p : Int × gB} (h : gVls kd ky w i = some p) : i ≤ p.1 ∧ p.2.1 = [] := by
  unfold gVls at h
  by_cases hc : kd i = 7
  · rw [if_pos hc] at h
    obtain ⟨j, hj, h⟩ := bind_s h
    obtain ⟨r, hr, h⟩ := bind_s h
    obtain ⟨l, hl, h⟩ := bind_s h
    cases h
    have z := s_lst hr
    have := (tkn_j hj).2
    have := (tkn_j hl).2
    exact ⟨show i ≤ l by omega, z.2⟩
  · rw [if_neg hc] at h
    cases h
    exact ⟨Int.le_refl _, rfl⟩
theorem s_typ {p : Int × Int} (h : gTyp kd i = some p) : i ≤ p.1 := by
  unfold gTyp at h
  by_cases hc : kd i = 4
  · rw [if_pos hc] at h
    cases h
    show i ≤ i + 1
    omega
  · rw [if_neg hc] at h
    obtain ⟨j, hj, h⟩ := bind_s h
    cases h
    have := (tkn_j hj).2
    show i ≤ j
    omega
theorem s_sp1 {p : Int × gB} (h : gSp1 kd ky w i = some p) : i ≤ p.1 ∧ p.2.1 = [] := by
  unfold gSp1 at h
  by_cases hc : kd i = 10
  · rw [if_pos hc] at h
    obtain ⟨j, hj, h⟩ := bind_s h
    have := (tkn_j hj).2
    have z := s_lst h
    exact ⟨by omega, z.2⟩
  · rw [if_neg hc] at h
    obtain ⟨j, hj, h⟩ := bind_s h
    have := s_typ hj
    by_cases hd : kd j.1 = 5
    · rw [if_pos hd] at h
      have z := s_lst h
      exact ⟨by omega, z.2⟩
    · rw [if_neg hd] at h
      have z := s_lst h
      exact ⟨by omega, z.2⟩
theorem s_sps : ∀ (k : Nat) (i : Int) (b : gB) (p : Int × gB), b.1 = [] → gSps kd ky w k i b = some p → i ≤ p.1 ∧ p.2.1 = [] := by
  intro k
  induction k with
  | zero => intro i b p _ h; cases h
  | succ k ih =>
    intro i b p hb h
    have h : (if kd i = 3 ∨ kd i = 4 ∨ kd i = 10 then (gSp1 kd ky w i).bind fun p => (tkn kd 39 p.1).bind fun j => gSps kd ky w k j (bSq b p.2) else some (i, b)) = some p := h
    by_cases hc : kd i = 3 ∨ kd i = 4 ∨ kd i = 10
    · rw [if_pos hc] at h
      obtain ⟨u, hu, h⟩ := bind_s h
      obtain ⟨v, hv, h⟩ := bind_s h
      have z := s_sp1 hu
      have := (tkn_j hv).2
      have y := ih _ _ _ (show b.1 ++ u.2.1 = [] by rw [hb, z.2]; rfl) h
      exact ⟨by omega, y.2⟩
    · rw [if_neg hc] at h
      cases h
      exact ⟨Int.le_refl _, hb⟩
theorem s_hed {b : gB} {p : Int × gB} (hb : b.1 = []) (h : gHed kd ky w i b = some p) : i ≤ p.1 ∧ p.2.1 = [] := by
  unfold gHed at h
  by_cases hc : kd i = 34
  · rw [if_pos hc] at h
    obtain ⟨u, hu, h⟩ := bind_s h
    obtain ⟨j, hj, h⟩ := bind_s h
    obtain ⟨v, hv, h⟩ := bind_s h
    obtain ⟨s, hs, h⟩ := bind_s h
    cases h
    have a := s_par hu
    have c := s_vls hv
    have d := s_sps _ _ _ _ (show b0.1 = [] from rfl) hs
    have := (tkn_j hj).2
    refine ⟨show i ≤ s.1 by omega, ?_⟩
    show ((((b.1 ++ u.2.2.1) ++ []) ++ v.2.1) ++ s.2.1) ++ [] = []
    rw [hb, a.2, c.2, d.2]
    rfl
  · rw [if_neg hc] at h
    obtain ⟨j, hj, h⟩ := bind_s h
    cases h
    have := (tkn_j hj).2
    exact ⟨show i ≤ j by omega, hb⟩
theorem s_lbs : ∀ (k : Nat) (i : Int) (b : gB) (p : Int × gB), b.1 = [] → gLbs kd ky w k i b = some p → i ≤ p.1 ∧ p.2.1 = [] := by
  intro k
  induction k with
  | zero => intro i b p _ h; cases h
  | succ k ih =>
    intro i b p hb h
    have h : (if kd i = 27 ∧ kd (i + 1) = 40 then (tkn kd 27 i).bind fun j => (tkn kd 40 j).bind fun k' => gLbs kd ky w k k' (bSq b (bEv (vD ky i 5 0 w))) else some (i, b)) = some p := h
    by_cases hc : kd i = 27 ∧ kd (i + 1) = 40
    · rw [if_pos hc] at h
      obtain ⟨u, hu, h⟩ := bind_s h
      obtain ⟨v, hv, h⟩ := bind_s h
      have := (tkn_j hu).2
      have := (tkn_j hv).2
      have y := ih _ _ _ (show b.1 ++ [] = [] by rw [hb]; rfl) h
      exact ⟨by omega, y.2⟩
    · rw [if_neg hc] at h
      cases h
      exact ⟨Int.le_refl _, hb⟩
end
