def gP (kd : Int → Int) (i j : Int) : Prop := i ≤ j ∧ ∀ t, i ≤ t → t < j → 0 < kd t
def opn (v : gE) : List Int := if v.1 = 2 ∨ v.1 = 3 then [v.2.1] else []
def opns (vs : List gE) : List Int := vs.flatMap opn
def bG (kd : Int → Int) (c i j : Int) (b : gB) : Prop := gP kd i j ∧ b.2.2.1 = opns b.2.1 ∧ 2 * nDe b.2.1 ≤ j - i + c
section
variable {kd ky : Int → Int} {c d i j k w n : Int} {b b' : gB} {v : gE}
theorem gP_0 : gP kd i i := ⟨Int.le_refl _, fun t h1 h2 => absurd h2 (by omega)⟩
theorem gP_a (h : gP kd i j) (g : gP kd j k) : gP kd i k := ⟨by have := h.1; have := g.1; omega, fun t a b => by
  by_cases ht : t < j
  · exact h.2 t a ht
  · exact g.2 t (by omega) b⟩
theorem gP_t (h : 0 < kd i) : gP kd i (i + 1) := ⟨by omega, fun t a b => by rw [show t = i by omega]; exact h⟩
theorem gP_k (h : tkn kd n i = some j) (h0 : 0 < n) : gP kd i j := by
  have e := tkn_j h
  rw [e.2]
  exact gP_t (by omega)
theorem gP_q (h : gQ kd i j) : gP kd i j := ⟨h.1, fun t a b => (h.2.1 t a b).1⟩
theorem opns_a {us vs : List gE} : opns (us ++ vs) = opns us ++ opns vs := List.flatMap_append
theorem bG_0 : bG kd 0 i i b0 := ⟨gP_0, rfl, by show 2 * 0 ≤ i - i + 0; omega⟩
theorem bG_p (h : bG kd c i j b) (g : gP kd j k) : bG kd c i k b := ⟨gP_a h.1 g, h.2.1, by have := h.2.2; have := g.1; omega⟩
theorem bG_k (h : bG kd c i j b) (g : tkn kd n j = some k) (h0 : 0 < n) (e : d = c - 1) : bG kd d i k b := ⟨gP_a h.1 (gP_k g h0), h.2.1, by have := h.2.2; have := (tkn_j g).2; omega⟩
theorem bG_w (h : bG kd c i j b) (e : c ≤ d) : bG kd d i j b := ⟨h.1, h.2.1, by have := h.2.2; omega⟩
theorem bG_q (h : bG kd c i j b) (g : bG kd d j k b') (e : n = c + d) : bG kd n i k (bSq b b') := by
  refine ⟨gP_a h.1 g.1, ?_, ?_⟩
  · show b.2.2.1 ++ b'.2.2.1 = opns (b.2.1 ++ b'.2.1)
    rw [opns_a, h.2.1, g.2.1]
  · show 2 * nDe (b.2.1 ++ b'.2.1) ≤ k - i + n
    rw [nDe_a]
    have := h.2.2
    have := g.2.2
    omega
theorem bG_e (h : gP kd i j) (h1 : b.2.1 = []) (h2 : b.2.2.1 = []) : bG kd 0 i j b := ⟨h, by rw [h1, h2]; rfl, by rw [h1]; show 2 * 0 ≤ j - i + 0; have := h.1; omega⟩
theorem bG_v (h : bG kd c i j b) (g : gP kd j k) (hv : opn v = []) (hn : nDe [v] = n) (e : d = c + 2 * n - (k - j)) : bG kd d i k (bSq b (bEv v)) := by
  refine ⟨gP_a h.1 g, ?_, ?_⟩
  · show b.2.2.1 ++ [] = opns (b.2.1 ++ [v])
    rw [opns_a, h.2.1]
    show _ = opns b.2.1 ++ (opn v ++ [])
    rw [hv]
    rfl
  · show 2 * nDe (b.2.1 ++ [v]) ≤ k - i + d
    rw [nDe_a, hn]
    have := h.2.2
    omega
theorem gLp_j {σ : Type} {sep : Int} {S : σ → Int → Option (Int × σ)} {Q R : Int → σ → Prop} (hS : ∀ x i p, Q i x → S x i = some p → R p.1 p.2) (hs : ∀ j x, R j x → kd j = sep → Q (j + 1) x) : ∀ (k : Nat) (i : Int) (x : σ) (p : Int × σ), Q i x → gLp kd sep S k i x = some p → R p.1 p.2 := by
  intro k
  induction k with
  | zero => intro i x p _ h; cases h
  | succ k ih =>
    intro i x p hx h
    obtain ⟨r, hr, h2⟩ := bind_s (show (S x i).bind _ = some p from h)
    have q := hS x i r hx hr
    by_cases hk : kd r.1 = sep
    · rw [if_pos hk] at h2
      exact ih _ _ _ (hs _ _ q hk) h2
    · rw [if_neg hk] at h2
      cases h2
      exact q
theorem i_sto {kind ty q : Int} {p : Int × Int × gB} (h : gSto kd ky kind ty w i q = some p) : tkn kd 27 i = some p.1 ∧ p.2.2 = bEv (vD ky i kind ty w) := by
  obtain ⟨j, hj, h⟩ := bind_s h
  cases h
  by_cases hq : q < 60
  · rw [if_pos hq] at hj
    exact ⟨hj, rfl⟩
  · rw [if_neg hq] at hj
    cases hj
theorem i_vas {own ty q : Int} {p : Int × Int × gB} (h : gVas kd ky own ty w i q b0 = some p) : bG kd 1 i p.1 p.2.2 := by
  refine gLp_j (Q := fun j x => bG kd 0 i j x.2) (R := fun j x => bG kd 1 i j x.2) (fun x j p hx hp => ?_) (fun j x hx hk => ⟨gP_a hx.1 (gP_t (by omega)), hx.2.1, by have := hx.2.2; omega⟩) _ _ _ _ bG_0 h
  obtain ⟨u, hu, hp⟩ := bind_s hp
  cases hp
  have e := i_sto hu
  show bG kd 1 i u.1 (bSq x.2 (gVa1 own u.2.2))
  have ej := (tkn_j e.1).2
  rw [e.2]
  unfold gVa1
  by_cases ho : own = 0
  · rw [if_pos ho]
    exact bG_v (n := 1) hx (gP_k e.1 (by decide)) rfl rfl (by omega)
  · rw [if_neg ho]
    have z := bG_v (v := vD ky j 1 ty w) (n := 1) (d := 1) hx (gP_k e.1 (by decide)) rfl rfl (by omega)
    have y := bG_v (v := vOwn) (n := 0) (d := 1) z gP_0 rfl rfl (by omega)
    exact ⟨y.1, by have := y.2.1; show x.2.2.2.1 ++ ([] ++ []) = opns (x.2.2.1 ++ ([vD ky j 1 ty w] ++ [vOwn])); rw [← List.append_assoc, ← List.append_assoc]; exact this, by have := y.2.2; show 2 * nDe (x.2.2.1 ++ ([vD ky j 1 ty w] ++ [vOwn])) ≤ _; rw [← List.append_assoc]; exact this⟩
theorem i_sgn {ty q : Int} {p : Int × Int × gB × Int} (h : gSgN kd ky ty w i q b0 = some p) : bG kd 1 i p.1 p.2.2.1 := by
  refine gLp_j (Q := fun j x => bG kd 0 i j x.2.1) (R := fun j x => bG kd 1 i j x.2.1) (fun x j p hx hp => ?_) (fun j x hx hk => ⟨gP_a hx.1 (gP_t (by omega)), hx.2.1, by have := hx.2.2; omega⟩) _ _ _ _ bG_0 h
  obtain ⟨u, hu, hp⟩ := bind_s hp
  cases hp
  have e := i_sto hu
  show bG kd 1 i u.1 (bSq x.2.1 u.2.2)
  have ej := (tkn_j e.1).2
  rw [e.2]
  exact bG_v (n := 1) hx (gP_k e.1 (by decide)) rfl rfl (by omega)
theorem i_bnd {X : Int → gR} (hX : ∀ i p, X i = some p → gP kd i p.1) {p : Int × gB} (h : gBnd kd X i = some p) : bG kd 0 i p.1 p.2 := by
  obtain ⟨a, ha, h⟩ := bind_s h
  obtain ⟨e, he, h⟩ := bind_s h
  obtain ⟨f, hf, h⟩ := bind_s h
  cases h
  have q := hX _ _ hf
  exact bG_e (gP_a (hX _ _ ha) (gP_a (gP_k he (by decide)) q)) rfl rfl
theorem i_seg {X : Int → Int → gR} (hX : ∀ w i p, X w i = some p → gP kd i p.1) {ty wo q : Int} {p : Int × Int × gB} (h : gSeg kd ky X ty wo w i q = some p) : bG kd 0 i p.1 p.2.2 := by
  obtain ⟨u, hu, h⟩ := bind_s h
  obtain ⟨e, he, h⟩ := bind_s h
  obtain ⟨r, hr, h⟩ := bind_s h
  have z := bG_k (d := 0) (i_sgn hu) he (by decide) (by omega)
  have y := bG_q (n := 0) z (i_bnd (hX wo) hr) (by omega)
  by_cases hc : kd r.1 = 38
  · rw [if_pos hc] at h
    obtain ⟨s, hs, h⟩ := bind_s h
    obtain ⟨l, hl, h⟩ := bind_s h
    cases h
    have x := bG_q (n := 0) (bG_p y (gP_t (by omega))) (i_bnd (hX wo) hs) (by omega)
    exact bG_w (bG_v (v := vDim u.2.2.2 2) (n := 0) (d := -1) x (gP_k hl (by decide)) rfl rfl (by have := (tkn_j hl).2; omega)) (by decide)
  · rw [if_neg hc] at h
    obtain ⟨l, hl, h⟩ := bind_s h
    cases h
    exact bG_w (bG_v (v := vDim u.2.2.2 1) (n := 0) (d := -1) y (gP_k hl (by decide)) rfl rfl (by have := (tkn_j hl).2; omega)) (by decide)
theorem i_sgs {X : Int → Int → gR} (hX : ∀ w i p, X w i = some p → gP kd i p.1) {ty wo q : Int} {p : Int × Int × gB} (h : gSgs kd ky X ty wo w i q b0 = some p) : bG kd 0 i p.1 p.2.2 := by
  refine gLp_j (Q := fun j x => bG kd 0 i j x.2) (R := fun j x => bG kd 0 i j x.2) (fun x j p hx hp => ?_) (fun j x hx hk => bG_p hx (gP_t (by omega))) _ _ _ _ bG_0 h
  obtain ⟨u, hu, hp⟩ := bind_s hp
  cases hp
  exact bG_q (n := 0) hx (i_seg hX hu) (by omega)
theorem i_lau {p : Int × gB} (h : gLaU kd ky w i = some p) : bG kd 0 i p.1 p.2 := by
  obtain ⟨j, hj, h⟩ := bind_s h
  cases h
  exact bG_e (gP_k hj (by decide)) rfl rfl
theorem i_swi {p : Int × gB} (h : gSwi kd ky w i = some p) : bG kd 0 i p.1 p.2 := by
  obtain ⟨a, ha, h⟩ := bind_s h
  obtain ⟨e, he, h⟩ := bind_s h
  obtain ⟨f, hf, h⟩ := bind_s h
  obtain ⟨r, hr, h⟩ := bind_s h
  cases h
  have s0 : bG kd 0 i f (bEv (vD ky a 4 0 w)) := ⟨gP_a (gP_k ha (by decide)) (gP_a (gP_k he (by decide)) (gP_k hf (by decide))), rfl, by show 2 * 1 ≤ f - i + 0; have := (tkn_j ha).2; have := (tkn_j he).2; have := (tkn_j hf).2; omega⟩
  refine gLp_j (Q := fun j x => bG kd 0 i j x.2) (R := fun j x => bG kd 0 i j x.2) (fun x j p hx hp => ?_) (fun j x hx hk => bG_p hx (gP_t (by omega))) _ _ _ _ s0 hr
  obtain ⟨u, hu, hp⟩ := bind_s hp
  cases hp
  by_cases hq : x.1 < 20
  · rw [if_pos hq] at hu
    exact bG_q (n := 0) hx (i_lau hu) (by omega)
  · rw [if_neg hq] at hu
    cases hu
theorem i_par {p : Int × Int × gB} (h : gPar kd ky w i = some p) : bG kd 0 i p.1 p.2.2 := by
  obtain ⟨a, ha, h⟩ := bind_s h
  obtain ⟨r, hr, h⟩ := bind_s h
  obtain ⟨l, hl, h⟩ := bind_s h
  cases h
  have s0 : bG kd (-1) i a b0 := bG_k bG_0 ha (by decide) (by decide)
  have z : bG kd 0 i r.1 r.2.2 := by
    refine gLp_j (Q := fun j x => bG kd (-1) i j x.2) (R := fun j x => bG kd 0 i j x.2) (fun x j p hx hp => ?_) (fun j x hx hk => ⟨gP_a hx.1 (gP_t (by omega)), hx.2.1, by have := hx.2.2; omega⟩) _ _ _ _ s0 hr
    obtain ⟨u, hu, hp⟩ := bind_s hp
    cases hp
    by_cases hq : x.1 < 6
    · rw [if_pos hq] at hu
      have ej := (tkn_j hu).2
      exact bG_v (n := 1) hx (gP_k hu (by decide)) rfl rfl (by omega)
    · rw [if_neg hq] at hu
      cases hu
  exact bG_w (bG_k (d := -1) z hl (by decide) (by decide)) (by decide)
theorem i_lst {v : Int → gE} (hv : ∀ i, opn (v i) = [] ∧ nDe [v i] = 0) {p : Int × gB} (h : gLst kd v i b0 = some p) : bG kd 0 i p.1 p.2 := by
  refine gLp_j (Q := fun j x => bG kd 0 i j x) (R := fun j x => bG kd 0 i j x) (fun x j p hx hp => ?_) (fun j x hx hk => bG_p hx (gP_t (by omega))) _ _ _ _ bG_0 h
  obtain ⟨u, hu, hp⟩ := bind_s hp
  cases hp
  have ej := (tkn_j hu).2
  exact bG_w (bG_v (d := -1) hx (gP_k hu (by decide)) (hv j).1 (hv j).2 (by omega)) (by decide)
theorem i_vls {p : Int × gB} (h : gVls kd ky w i = some p) : bG kd 0 i p.1 p.2 := by
  unfold gVls at h
  by_cases hc : kd i = 7
  · rw [if_pos hc] at h
    obtain ⟨a, ha, h⟩ := bind_s h
    obtain ⟨r, hr, h⟩ := bind_s h
    obtain ⟨l, hl, h⟩ := bind_s h
    cases h
    have z := i_lst (fun i => ⟨rfl, rfl⟩) hr
    exact ⟨gP_a (gP_k ha (by decide)) (gP_a z.1 (gP_k hl (by decide))), z.2.1, by have := z.2.2; have := (tkn_j ha).2; have := (tkn_j hl).2; show 2 * nDe r.2.2.1 ≤ l - i + 0; omega⟩
  · rw [if_neg hc] at h
    cases h
    exact bG_0
theorem i_typ {p : Int × Int} (h : gTyp kd i = some p) : gP kd i p.1 ∧ p.1 = i + 1 := by
  unfold gTyp at h
  by_cases hc : kd i = 4
  · rw [if_pos hc] at h
    cases h
    exact ⟨gP_t (by omega), rfl⟩
  · rw [if_neg hc] at h
    obtain ⟨a, ha, h⟩ := bind_s h
    cases h
    exact ⟨gP_k ha (by decide), (tkn_j ha).2⟩
theorem bG_f (h : gP kd i j) (g : bG kd c j k b) : bG kd c i k b := ⟨gP_a h g.1, g.2.1, by have := g.2.2; have := h.1; omega⟩
theorem i_sp1 {p : Int × gB} (h : gSp1 kd ky w i = some p) : bG kd 0 i p.1 p.2 := by
  unfold gSp1 at h
  by_cases hc : kd i = 10
  · rw [if_pos hc] at h
    obtain ⟨j, hj, h⟩ := bind_s h
    exact bG_f (gP_k hj (by decide)) (i_lst (fun i => ⟨rfl, rfl⟩) h)
  · rw [if_neg hc] at h
    obtain ⟨j, hj, h⟩ := bind_s h
    by_cases hd : kd j.1 = 5
    · rw [if_pos hd] at h
      exact bG_f (gP_a (i_typ hj).1 (gP_t (by omega))) (i_lst (fun i => ⟨rfl, rfl⟩) h)
    · rw [if_neg hd] at h
      exact bG_f (i_typ hj).1 (i_lst (fun i => ⟨rfl, rfl⟩) h)
theorem i_sps {i0 : Int} : ∀ (k : Nat) (i : Int) (b : gB) (p : Int × gB), bG kd 0 i0 i b → gSps kd ky w k i b = some p → bG kd 0 i0 p.1 p.2 := by
  intro k
  induction k with
  | zero => intro i b p _ h; cases h
  | succ k ih =>
    intro i b p hb h
    have h : (if kd i = 3 ∨ kd i = 4 ∨ kd i = 10 then (gSp1 kd ky w i).bind fun p => (tkn kd 39 p.1).bind fun j => gSps kd ky w k j (bSq b p.2) else some (i, b)) = some p := h
    by_cases hc : kd i = 3 ∨ kd i = 4 ∨ kd i = 10
    · rw [if_pos hc] at h
      obtain ⟨u, hu, h⟩ := bind_s h
      obtain ⟨v, hv, h⟩ := bind_s h
      exact ih _ _ _ (bG_p (bG_q (n := 0) hb (i_sp1 hu) (by omega)) (gP_k hv (by decide))) h
    · rw [if_neg hc] at h
      cases h
      exact hb
theorem i_lbs {i0 : Int} : ∀ (k : Nat) (i : Int) (b : gB) (p : Int × gB), bG kd 0 i0 i b → gLbs kd ky w k i b = some p → bG kd 0 i0 p.1 p.2 := by
  intro k
  induction k with
  | zero => intro i b p _ h; cases h
  | succ k ih =>
    intro i b p hb h
    have h : (if kd i = 27 ∧ kd (i + 1) = 40 then (tkn kd 27 i).bind fun j => (tkn kd 40 j).bind fun k' => gLbs kd ky w k k' (bSq b (bEv (vD ky i 5 0 w))) else some (i, b)) = some p := h
    by_cases hc : kd i = 27 ∧ kd (i + 1) = 40
    · rw [if_pos hc] at h
      obtain ⟨u, hu, h⟩ := bind_s h
      obtain ⟨v, hv, h⟩ := bind_s h
      have e1 := (tkn_j hu).2
      have e2 := (tkn_j hv).2
      exact ih _ _ _ (bG_v (v := vD ky i 5 0 w) (n := 1) hb (gP_a (gP_k hu (by decide)) (gP_k hv (by decide))) rfl rfl (by omega)) h
    · rw [if_neg hc] at h
      cases h
      exact hb
end
