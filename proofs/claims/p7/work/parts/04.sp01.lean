def cQ {α : Type} (F : Option α) (tf tf' : Int) (R : α → Prop) : Prop := (tf' = -2 → tf = -2) ∧ (tf = -2 → (∀ a, F = some a → tf' = -2 ∧ R a) ∧ (F = none → ¬ tf' = -2))
def aQ (kd : Int → Int) (k tf ta ta' r : Int) : Prop := (r = 1 ∧ tf = -2 ∧ kd ta = k ∧ ta' = ta + 1) ∨ (r = 0 ∧ (tf = -2 → ¬ kd ta = k) ∧ ta' = ta)
theorem cQ_b {α β : Type} {F : Option α} {K : α → Option β} {tf tf1 tf2 : Int} {R1 : α → Prop} {R2 : β → Prop} (h : cQ F tf tf1 R1) (hd : tf2 = -2 → tf1 = -2) (g : ∀ a, tf = -2 → tf1 = -2 → R1 a → cQ (K a) tf1 tf2 R2) : cQ (F.bind K) tf tf2 R2 := by
  refine ⟨fun h2 => h.1 (hd h2), fun h0 => ?_⟩
  cases hF : F with
  | none => exact ⟨fun a ha => absurd ha (by simp), fun _ h2 => (h.2 h0).2 hF (hd h2)⟩
  | some a =>
    have h1 := (h.2 h0).1 a hF
    exact (g a h0 h1.1 h1.2).2 h1.1
theorem cQ_e {α : Type} {a : α} {tf : Int} {R : α → Prop} (h : tf = -2 → R a) : cQ (some a) tf tf R :=
  ⟨fun h2 => h2, fun h0 => ⟨fun b hb => ⟨h0, by cases hb; exact h h0⟩, fun hb => absurd hb (by simp)⟩⟩
theorem cQ_n {α : Type} {tf tf' : Int} {R : α → Prop} (h : ¬ tf' = -2) : cQ (none : Option α) tf tf' R :=
  ⟨fun h2 => absurd h2 h, fun _ => ⟨fun a ha => absurd ha (by simp), fun _ => h⟩⟩
theorem cQ_w {α : Type} {F : Option α} {tf tf' : Int} {R R' : α → Prop} (h : cQ F tf tf' R) (g : ∀ a, tf = -2 → tf' = -2 → R a → R' a) : cQ F tf tf' R' :=
  ⟨h.1, fun h0 => ⟨fun a ha => ⟨((h.2 h0).1 a ha).1, g a h0 ((h.2 h0).1 a ha).1 ((h.2 h0).1 a ha).2⟩, (h.2 h0).2⟩⟩
theorem cQ_p {α : Type} {F : Option α} {tf tf' : Int} {R : α → Prop} (h1 : tf' = -2 → tf = -2) (h : tf = -2 → cQ F tf tf' R) : cQ F tf tf' R :=
  ⟨h1, fun h0 => (h h0).2 h0⟩
theorem cQ_it {α : Type} {c : Prop} [Decidable c] {F G : Option α} {tf tf' : Int} {R : α → Prop} (hc : tf = -2 → c) (h : cQ F tf tf' R) : cQ (if c then F else G) tf tf' R :=
  cQ_p h.1 (fun h0 => by rw [if_pos (hc h0)]; exact h)
theorem cQ_if {α : Type} {c : Prop} [Decidable c] {F G : Option α} {tf tf' : Int} {R : α → Prop} (hc : tf = -2 → ¬ c) (h : cQ G tf tf' R) : cQ (if c then F else G) tf tf' R :=
  cQ_p h.1 (fun h0 => by rw [if_neg (hc h0)]; exact h)
def dQ (kd : Int → Int) (k tf tf' ta ta' td td' : Int) : Prop := cQ (if td < 20 then tkn kd k ta else none) tf tf' (fun j => ta' = j ∧ td' = td + 1)
theorem cQ_d {β : Type} {kd : Int → Int} {k tf tf1 tf2 ta ta1 td td1 : Int} {K : Int → Option β} {R2 : β → Prop} (h : dQ kd k tf tf1 ta ta1 td td1) (hd : tf2 = -2 → tf1 = -2) (hz : tf = -2 → ¬ td < 20 → ∀ a, K a = none)
    (g : tf = -2 → tf1 = -2 → td < 20 → td1 = td + 1 → ta1 = ta + 1 → cQ (K ta1) tf1 tf2 R2) : cQ ((tkn kd k ta).bind K) tf tf2 R2 := by
  refine ⟨fun h2 => h.1 (hd h2), fun h0 => ?_⟩
  unfold dQ at h
  by_cases ht : td < 20
  · rw [if_pos ht] at h
    cases hF : tkn kd k ta with
    | none => exact ⟨fun a ha => absurd ha (by simp), fun _ h2 => (h.2 h0).2 hF (hd h2)⟩
    | some a =>
      have h1 := (h.2 h0).1 a hF
      have h3 : a = ta + 1 := by
        unfold tkn at hF
        by_cases hk : kd ta = k
        · rw [if_pos hk] at hF; cases hF; rfl
        · rw [if_neg hk] at hF; cases hF
      have h4 := g h0 h1.1 ht h1.2.2 (by rw [h1.2.1, h3])
      rw [h1.2.1] at h4
      exact h4.2 h1.1
  · rw [if_neg ht] at h
    have h1 := (h.2 h0).2 rfl
    have h2 : ((tkn kd k ta).bind K) = none := by
      cases tkn kd k ta with
      | none => rfl
      | some a => exact hz h0 ht a
    rw [h2]
    exact ⟨fun a ha => absurd ha (by simp), fun _ h3 => h1 (hd h3)⟩
theorem tkn_j {kd : Int → Int} {k i j : Int} (h : tkn kd k i = some j) : kd i = k ∧ j = i + 1 := by
  unfold tkn at h
  by_cases hk : kd i = k
  · rw [if_pos hk] at h; cases h; exact ⟨hk, rfl⟩
  · rw [if_neg hk] at h; cases h
def gUse (e : gV) (pl ky : Int → Int) (us : List (Int × Int)) (m : Nat → Int32) : Nat → Int32 := us.foldl (fun m u => if pl u.1 < 3000 then upd m (pl u.1).toNat (Int32.ofInt (gMe e u.2 (ky u.1))) else m) m
theorem gUse_a {e : gV} {pl ky : Int → Int} {us vs : List (Int × Int)} {m : Nat → Int32} : gUse e pl ky (us ++ vs) m = gUse e pl ky vs (gUse e pl ky us m) := List.foldl_append
def vX (e : gV) (pl ky : Int → Int) (ss sw sw' : Int) (m m' : Nat → Int32) (us : List (Int × Int)) (X : Option Int) (r : Int) : Prop :=
  sw' ≤ sw ∧ (ss = 0 → sw' = sw ∧ m' = m) ∧ (¬ ss = 0 → (X = none → sw' ≤ 3000) ∧ ∀ t, X = some t → sw' = sw ∧ m' = gUse e pl ky us m ∧ r = t)
def bQ (ss sw sw' : Int) (X : Option Int) (r : Int) : Prop := sw' ≤ sw ∧ (ss = 0 → sw' = sw) ∧ (¬ ss = 0 → (X = none → sw' ≤ 3000) ∧ ∀ t, X = some t → sw' = sw ∧ r = t)
theorem bQ_n {sw sw' ss p r : Int} (h1 : sw' ≤ sw) (h2 : sw' ≤ p) (h3 : p ≤ 3000) (h4 : ss = 0 → sw' = sw) : bQ ss sw sw' none r :=
  ⟨h1, h4, fun _ => ⟨fun _ => by omega, fun t ht => absurd ht (by simp)⟩⟩
theorem bQ_s {sw ss r : Int} : bQ ss sw sw (some r) r := ⟨Int.le_refl _, fun _ => rfl, fun _ => ⟨fun h => absurd h (by simp), fun t ht => ⟨rfl, by cases ht; rfl⟩⟩⟩
def vE (e : gV) (pl ky : Int → Int) (ss sw sw' : Int) (m m' : Nat → Int32) (r : Int) (d : gD) : Prop := vX e pl ky ss sw sw' m m' d.1 (d.2.2 e) r
def rE (e : gV) (pl ky : Int → Int) (ss sw sw' : Int) (m m' : Nat → Int32) (ta' r : Int) : Int × gD → Prop := fun a => ta' = a.1 ∧ vE e pl ky ss sw sw' m m' r a.2
def rN (ty : Int) (e : gV) (pl ky : Int → Int) (ss sw sw' : Int) (m m' : Nat → Int32) (ta' r : Int) : Int × gD → Prop := fun a => ta' = a.1 ∧ vE e pl ky ss sw sw' m m' r (gNd ty a.2)
section
variable {e : gV} {pl ky : Int → Int} {ss sw sw1 sw2 sw3 sw4 r r1 r2 r3 ty : Int} {m m1 m2 m3 : Nat → Int32} {us vs : List (Int × Int)} {X Y : Option Int} {d d1 d2 d3 : gD}
theorem vX_b {Y : Int → Option Int} (h : vX e pl ky ss sw sw1 m m1 us X r1) (g1 : sw2 ≤ sw1) (g2 : ss = 0 → sw2 = sw1 ∧ m2 = m1) (g : ∀ t, X = some t → r1 = t → vX e pl ky ss sw1 sw2 m1 m2 vs (Y t) r2) : vX e pl ky ss sw sw2 m m2 (us ++ vs) (X.bind Y) r2 := by
  refine ⟨Int.le_trans g1 h.1, fun h0 => ?_, fun h0 => ?_⟩
  · have a := h.2.1 h0
    have b := g2 h0
    exact ⟨by omega, b.2.trans a.2⟩
  · have a := h.2.2 h0
    cases hX : X with
    | none => exact ⟨fun _ => Int.le_trans g1 (a.1 hX), fun t ht => absurd ht (by simp)⟩
    | some t =>
      have b := a.2 t hX
      have c := (g t hX b.2.2).2.2 h0
      refine ⟨c.1, fun u hu => ?_⟩
      have c2 := c.2 u hu
      exact ⟨by omega, by rw [c2.2.1, b.2.1, gUse_a], c2.2.2⟩
theorem vX_r (h : bQ ss sw sw1 X r) : vX e pl ky ss sw sw1 m m [] X r := ⟨h.1, fun h0 => ⟨h.2.1 h0, rfl⟩, fun h0 => ⟨(h.2.2 h0).1, fun t ht => ⟨((h.2.2 h0).2 t ht).1, rfl, ((h.2.2 h0).2 t ht).2⟩⟩⟩
theorem vX_e (h : X = some r) : vX e pl ky ss sw sw m m [] X r := ⟨Int.le_refl _, fun _ => ⟨rfl, rfl⟩, fun _ => ⟨fun hx => absurd hx (by rw [h]; simp), fun t ht => ⟨rfl, rfl, by rw [h] at ht; cases ht; rfl⟩⟩⟩
theorem vX_c (h : vX e pl ky ss sw sw1 m m1 us X r) (h1 : us = vs) (h2 : X = Y) : vX e pl ky ss sw sw1 m m1 vs Y r := by rw [← h1, ← h2]; exact h
theorem vX_n {ty : Int} (h : vX e pl ky ss sw sw1 m m1 us X r) (g : bQ ss sw1 sw2 (xNe r ty) r1) : vX e pl ky ss sw sw2 m m1 us (X.bind fun t => if okN t ty then some t else none) r := by
  refine vX_c (vX_b (vs := []) (Y := fun t => if okN t ty then some t else none) (r2 := r) h g.1 (fun h0 => ⟨g.2.1 h0, rfl⟩) (fun t ht hr => ?_)) (List.append_nil us) rfl
  subst hr
  by_cases ho : okN r ty
  · rw [if_pos ho]
    have g' := g
    unfold xNe at g'
    rw [if_pos ho] at g'
    exact vX_r ⟨g'.1, g'.2.1, fun h0 => ⟨fun hx => absurd hx (by simp), fun t2 ht2 => ⟨((g'.2.2 h0).2 _ rfl).1, by cases ht2; rfl⟩⟩⟩
  · rw [if_neg ho]
    have g' := g
    unfold xNe at g'
    rw [if_neg ho] at g'
    exact vX_r ⟨g'.1, g'.2.1, fun h0 => ⟨(g'.2.2 h0).1, fun t2 ht2 => absurd ht2 (by simp)⟩⟩
theorem vX_t {q : Int} (h : vX e pl ky ss sw sw1 m m1 us (X.bind fun t => if okN t ty then some t else none) r) : vX e pl ky ss sw sw1 m m1 us (X.bind fun t => if okN t ty then some q else none) q := by
  refine ⟨h.1, h.2.1, fun h0 => ?_⟩
  have a := h.2.2 h0
  cases hX : X with
  | none => rw [hX] at a; exact ⟨fun _ => a.1 rfl, fun t ht => absurd ht (by simp)⟩
  | some t =>
    rw [hX] at a
    have a' : ((if okN t ty then some t else none : Option Int) = none → sw1 ≤ 3000) ∧ ∀ t_1, (if okN t ty then some t else none : Option Int) = some t_1 → sw1 = sw ∧ m1 = gUse e pl ky us m ∧ r = t_1 := a
    show ((if okN t ty then some q else none : Option Int) = none → sw1 ≤ 3000) ∧ ∀ t_1, (if okN t ty then some q else none : Option Int) = some t_1 → sw1 = sw ∧ m1 = gUse e pl ky us m ∧ q = t_1
    by_cases ho : okN t ty
    · rw [if_pos ho] at a' ⊢
      have b := a'.2 t rfl
      exact ⟨fun hx => absurd hx (by simp), fun t2 ht2 => ⟨b.1, b.2.1, by cases ht2; rfl⟩⟩
    · rw [if_neg ho] at a' ⊢
      exact ⟨a'.1, fun t2 ht2 => absurd ht2 (by simp)⟩
theorem vX_v {q : Int} (h : vX e pl ky ss sw sw1 m m1 us X r) : vX e pl ky ss sw sw1 m m1 us (X.bind fun _ => some q) q := by
  refine ⟨h.1, h.2.1, fun h0 => ?_⟩
  have a := h.2.2 h0
  cases hX : X with
  | none => exact ⟨fun _ => a.1 hX, fun t ht => absurd ht (by simp)⟩
  | some t => exact ⟨fun hx => absurd hx (by simp), fun t2 ht2 => ⟨(a.2 t hX).1, (a.2 t hX).2.1, by cases ht2; rfl⟩⟩
theorem vX_o {q ra rb : Int} (h : vX e pl ky ss sw sw1 m m1 us X r) (g : bQ ss sw1 sw2 (xNe r ty) ra) (h2 : vX e pl ky ss sw2 sw3 m1 m2 vs Y r2) (g2 : bQ ss sw3 sw4 (xNe r2 ty) rb) :
    vX e pl ky ss sw sw4 m m2 (us ++ vs) (X.bind fun t => if okN t ty then (Y.bind fun t2 => if okN t2 ty then some q else none) else none) q := by
  have a := vX_n h g
  have b := vX_t (q := q) (vX_n h2 g2)
  have c := vX_b (Y := fun _ => Y.bind fun t2 => if okN t2 ty then some q else none) a b.1 b.2.1 (fun _ _ _ => b)
  refine vX_c c rfl ?_
  cases X with
  | none => rfl
  | some t =>
    show (if okN t ty then some t else none : Option Int).bind _ = _
    by_cases ho : okN t ty
    · rw [if_pos ho]; show _ = (if okN t ty then _ else none); rw [if_pos ho]; rfl
    · rw [if_neg ho]; show _ = (if okN t ty then _ else none); rw [if_neg ho]; rfl
end
