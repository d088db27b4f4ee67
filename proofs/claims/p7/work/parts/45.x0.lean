section
variable {T : gV} {k w : Int}
theorem sPa_v (h0 : 0 ≤ w) (h1 : w < T 11 0) : sPa T w = T 7 w.toNat := if_pos ⟨h0, h1⟩
theorem sPr_v (h0 : 0 ≤ w) (h1 : w < T 11 0) : sPr T w = T 9 w.toNat := if_pos ⟨h0, h1⟩
theorem sPr_m (h0 : w < 0) : sPr T w = -1 := if_neg (fun z => by omega)
theorem wn_z (f : Nat) (h0 : w < 0) : wIn T k f w = false := by
  cases f with
  | zero => rfl
  | succ f => exact if_neg (by omega)
theorem wn_1 (hp : ∀ s : Nat, (s : Int) < T 11 0 → -1 ≤ T 7 s ∧ T 7 s < (s : Int)) : ∀ (f g : Nat) (w : Int), w < T 11 0 → w + 1 ≤ (f : Int) → w + 1 ≤ (g : Int) → wIn T k f w = wIn T k g w := by
  intro f
  induction f with
  | zero =>
    intro g w _ h2 _
    rw [wn_z 0 (by omega), wn_z g (by omega)]
  | succ f ih =>
    intro g w h1 h2 h3
    by_cases c : w < 0
    · rw [wn_z _ c, wn_z _ c]
    · obtain ⟨g', rfl⟩ : ∃ g' : Nat, g = g' + 1 := ⟨g - 1, by omega⟩
      have q := hp w.toNat (by omega)
      show (if 0 ≤ w then (if sPr T w = k then true else wIn T k f (sPa T w)) else false) = (if 0 ≤ w then (if sPr T w = k then true else wIn T k g' (sPa T w)) else false)
      rw [if_pos (show 0 ≤ w by omega), if_pos (show 0 ≤ w by omega), sPa_v (by omega) h1, ih g' (T 7 w.toNat) (by omega) (by omega) (by omega)]
theorem wn_u (hp : ∀ s : Nat, (s : Int) < T 11 0 → -1 ≤ T 7 s ∧ T 7 s < (s : Int)) (h3 : T 11 0 ≤ 333) (h0 : 0 ≤ w) (h1 : w < T 11 0) (hk : ¬ T 9 w.toNat = k) : wIn T k 333 w = wIn T k 333 (T 7 w.toNat) := by
  have q := hp w.toNat (by omega)
  show (if 0 ≤ w then (if sPr T w = k then true else wIn T k 332 (sPa T w)) else false) = _
  rw [if_pos h0, sPr_v h0 h1, if_neg hk, sPa_v h0 h1]
  exact wn_1 hp 332 333 _ (by omega) (by omega) (by omega)
theorem wn_4 (h0 : 0 ≤ w) (h1 : w < T 11 0) (hk : T 9 w.toNat = k) : wIn T k 333 w = true := by
  show (if 0 ≤ w then (if sPr T w = k then true else wIn T k 332 (sPa T w)) else false) = _
  rw [if_pos h0, sPr_v h0 h1, if_pos hk]
theorem wn_2 (hI : pI T) (hp : ∀ s : Nat, (s : Int) < T 11 0 → -1 ≤ T 7 s ∧ T 7 s < (s : Int)) (h3 : T 11 0 ≤ 333) : ∀ (n : Nat) (w : Int), w ≤ (n : Int) → 0 ≤ w → w < T 11 0 → 0 ≤ T 9 w.toNat → ¬ T 9 w.toNat = k → 0 ≤ T 6 (T 9 w.toNat).toNat ∧ T 6 (T 9 w.toNat).toNat < T 11 0 ∧ T 1 (T 9 w.toNat).toNat = 3 ∧ T 9 w.toNat < T 10 0 ∧ wIn T k 333 w = wIn T k 333 (T 7 (T 6 (T 9 w.toNat).toNat).toNat) := by
  intro n
  induction n with
  | zero =>
    intro w a b c d e
    have q := hp w.toNat (by omega)
    rcases hI w.toNat (by omega) with u | u | u
    · have ew : T 6 (T 9 w.toNat).toNat = w := by have := u.2.2.1; omega
      exact ⟨by omega, by omega, u.2.2.2, u.2.1, by rw [ew]; exact wn_u hp h3 b c e⟩
    · omega
    · omega
  | succ n ih =>
    intro w a b c d e
    have q := hp w.toNat (by omega)
    rcases hI w.toNat (by omega) with u | u | u
    · have ew : T 6 (T 9 w.toNat).toNat = w := by have := u.2.2.1; omega
      exact ⟨by omega, by omega, u.2.2.2, u.2.1, by rw [ew]; exact wn_u hp h3 b c e⟩
    · omega
    · have z := ih (T 7 w.toNat) (by omega) u.1 (by omega) (by rw [← u.2]; exact d) (by rw [← u.2]; exact e)
      rw [← u.2] at z
      exact ⟨z.1, z.2.1, z.2.2.1, z.2.2.2.1, (wn_u hp h3 b c e).trans z.2.2.2.2⟩
theorem wn_3 (hI : pI T) (hp : ∀ s : Nat, (s : Int) < T 11 0 → -1 ≤ T 7 s ∧ T 7 s < (s : Int)) (h3 : T 11 0 ≤ 333) (hk : 0 ≤ k) : ∀ (n : Nat) (w : Int), w ≤ (n : Int) → w < T 11 0 → sPr T w < 0 → wIn T k 333 w = false := by
  intro n
  induction n with
  | zero =>
    intro w a b c
    by_cases h : w < 0
    · exact wn_z _ h
    · rw [sPr_v (by omega) b] at c
      have q := hp w.toNat (by omega)
      rw [wn_u hp h3 (by omega) b (by omega)]
      exact wn_z _ (by omega)
  | succ n ih =>
    intro w a b c
    by_cases h : w < 0
    · exact wn_z _ h
    · rw [sPr_v (by omega) b] at c
      have q := hp w.toNat (by omega)
      rw [wn_u hp h3 (by omega) b (by omega)]
      rcases hI w.toNat (by omega) with u | u | u
      · omega
      · exact wn_z _ u.1
      · exact ih (T 7 w.toNat) (by omega) (by omega) (by rw [sPr_v u.1 (by omega), ← u.2]; exact c)
end
def aRw (T : gV) (sl ar ins : nA) (xk xs : Int) : Prop := xs = T 11 0 + 1 ∧ T 11 0 ≤ 333 ∧ rd ins 0 = -1 ∧ (∀ s : Nat, (s : Int) < T 11 0 → rd ar ((s : Int) + 1) = T 7 s + 1 ∧ -1 ≤ T 7 s ∧ T 7 s < (s : Int)) ∧ (∀ s : Nat, (s : Int) < T 11 0 → rd ins ((s : Int) + 1) = T 9 s) ∧ pI T ∧ T 10 0 = xk ∧ ∀ k : Int, 0 ≤ k → k < xk → T 1 k.toNat = 3 → rd sl k = T 6 k.toNat + 1
def arJ (T : gV) (k W p : Int) : Prop := ∃ w : Int, -1 ≤ w ∧ w < T 11 0 ∧ p = sPr T w ∧ wIn T k 333 W = wIn T k 333 w
section
variable {T : gV} {sl ar ins : nA} {xk xs k W p p2 : Int}
theorem ins_v (h : aRw T sl ar ins xk xs) {w : Int} (h0 : -1 ≤ w) (h1 : w < T 11 0) : rd ins (w + 1) = sPr T w := by
  obtain ⟨a1, a2, a3, a4, a5, a6, a7, a8⟩ := h
  by_cases c : w = -1
  · rw [c, sPr_m (by omega)]
    exact a3
  · have q := a5 w.toNat (by omega)
    rw [show ((w.toNat : Nat) : Int) = w from by omega] at q
    rw [q, sPr_v (by omega) h1]
theorem aj_0 (h : aRw T sl ar ins xk xs) (h0 : 0 ≤ p2) (h1 : p2 < xs) (hp : p = rd ins p2) : arJ T k (p2 - 1) p := by
  have a1 := h.1
  refine ⟨p2 - 1, by omega, by omega, ?_, rfl⟩
  rw [hp, ← ins_v h (by omega) (by omega), show p2 - 1 + 1 = p2 from by omega]
theorem aj_s (h : aRw T sl ar ins xk xs) (g : arJ T k W p) (h0 : 0 ≤ p) (hk : ¬ p = k) {p' : Int} (hp : p' = rd ins (rd ar (rd sl p))) : arJ T k W p' := by
  obtain ⟨w, w0, w1, w2, w3⟩ := g
  have hh := h
  obtain ⟨a1, a2, a3, a4, a5, a6, a7, a8⟩ := h
  have wp : 0 ≤ w := by
    by_cases c : 0 ≤ w
    · exact c
    · rw [sPr_m (by omega)] at w2
      omega
  rw [sPr_v wp w1] at w2
  have z := wn_2 (k := k) a6 (fun s hs => (a4 s hs).2) a2 w.toNat w (by omega) wp w1 (by omega) (by omega)
  rw [← w2] at z
  obtain ⟨z1, z2, z3, z4, z5⟩ := z
  have e1 := a8 p h0 (by omega) z3
  have e2 := a4 (T 6 p.toNat).toNat (by omega)
  rw [show (((T 6 p.toNat).toNat : Nat) : Int) = T 6 p.toNat from by omega, ← e1] at e2
  refine ⟨T 7 (T 6 p.toNat).toNat, by omega, by omega, ?_, w3.trans z5⟩
  rw [hp, e2.1]
  exact ins_v hh (by omega) (by omega)
theorem aj_x (g : arJ T k W p) (hk : p = k) (h0 : 0 ≤ k) : wIn T k 333 W = true := by
  obtain ⟨w, w0, w1, w2, w3⟩ := g
  have wp : 0 ≤ w := by
    by_cases c : 0 ≤ w
    · exact c
    · rw [sPr_m (by omega)] at w2
      omega
  rw [sPr_v wp w1] at w2
  rw [w3]
  exact wn_4 wp w1 (by omega)
theorem aj_n (h : aRw T sl ar ins xk xs) (g : arJ T k W p) (hp : p < 0) (h0 : 0 ≤ k) : ¬ wIn T k 333 W = true := by
  obtain ⟨w, w0, w1, w2, w3⟩ := g
  obtain ⟨a1, a2, a3, a4, a5, a6, a7, a8⟩ := h
  rw [w3, wn_3 a6 (fun s hs => (a4 s hs).2) a2 h0 w.toNat w (by omega) w1 (by omega)]
  decide
end
section
variable {T : gV} {wt ty li mo : nA} {w k xw x1 r : Int}
theorem lt_v (h : kRel T wt ty li mo k) (h1 : rd wt k = 0 ∨ (rd wt k = 5 ∧ rd ty k ≤ 2)) (hr : r = rd ty k) : tQ xw xw r (xTa T w k) := by
  have e : isSi T k ∧ nT T k = r ∧ (nT T k = 1 ∨ nT T k = 2) := by
    unfold kRel at h
    unfold isSi
    omega
  refine tQ_k (t := r) ?_ (by omega) rfl
  unfold xTa
  rw [if_pos (Or.inl e.1), e.2.1]
theorem lt_p (h : kRel T wt ty li mo k) (h1 : rd wt k = 2) (h2 : 0 < rd ty k) (h3 : wIn T k 333 w = true) (hr : r = rd ty k) : tQ xw xw r (xTa T w k) := by
  have e : isFn T k ∧ nT T k = r ∧ (nT T k = 1 ∨ nT T k = 2) := by
    unfold kRel at h
    unfold isFn
    omega
  refine tQ_k (t := r) ?_ (by omega) rfl
  unfold xTa
  rw [if_pos (Or.inr ⟨e.1, h3⟩), e.2.1]
theorem lt_n (h : ¬ isSi T k) (h2 : ¬ (isFn T k ∧ wIn T k 333 w = true)) (h3 : 0 ≤ x1) : tQ xw x1 r (xTa T w k) := tQ_n (if_neg (fun z => z.elim h h2)) h3
theorem lt_k (h : kRel T wt ty li mo k) (h1 : ¬ rd wt k = 0) (h2 : ¬ (rd wt k = 5 ∧ rd ty k ≤ 2)) (h3 : ¬ (rd wt k = 2 ∧ 0 < rd ty k)) (hx : 0 ≤ x1) : tQ xw x1 r (xTa T w k) := by
  have e : ¬ isSi T k ∧ ¬ isFn T k := by
    unfold kRel at h
    unfold isSi isFn
    omega
  exact lt_n e.1 (fun z => e.2 z.1) hx
theorem lt_a (h : kRel T wt ty li mo k) (h1 : rd wt k = 2) (h3 : ¬ wIn T k 333 w = true) (hx : 0 ≤ x1) : tQ xw x1 r (xTa T w k) := by
  have e : ¬ isSi T k := by
    unfold kRel at h
    unfold isSi
    omega
  exact lt_n e (fun z => h3 z.2) hx
theorem ltz_0 (h : nK T k = 0) (hx : 0 ≤ x1) : tQ xw x1 r (xTa T w k) := lt_n (by unfold isSi; omega) (fun z => by have := z.1; unfold isFn at this; omega) hx
end
def ckQ (xw xw' : Int) (A B : Prop) : Prop := (0 ≤ xw → 0 ≤ xw') ∧ (xw' < 0 → A) ∧ (xw < 0 → B → xw' < 0)
def rcA (so on tw th nx : nA) (xn s : Int) (M : Int → gV → Prop) (T : gV) : Prop := ∀ r, RC so on tw th nx xn s r → stN (rd so r) → M r T
def alM (so : nA) (xn : Int) (M : Int → gV → Prop) (T : gV) : Prop := ∀ r, 0 ≤ r → r < xn → stN (rd so r) → M r T
def ndA (so st on tw th fo nx wh : nA) (kd ky : Int → Int) (xn : Int) (M : Int → gV → Prop) : Prop := ∀ r : Int, 0 ≤ r → r < xn → stN (rd so r) → ∃ q, q ≤ xn ∧ nD so st on tw th fo nx wh kd ky r q (M r)
def lsJ (so on tw th nx : nA) (xn s hd cur : Int) (M : Int → gV → Prop) (T : gV) : Prop := ∀ d, (∃ n, lR nx s xn n hd d) → rcA so on tw th nx xn d M T ∨ ∃ m, lR nx s xn m cur d
section
variable {so st on tw th fo nx wh : nA} {kd ky : Int → Int} {xn s r hd cur : Int} {M : Int → gV → Prop} {T : gV} {xw x1 x2 : Int} {A A1 A2 B B' : Prop} {o : Option Int}
theorem ckq_0 : ckQ xw xw True B := ⟨fun z => z, fun _ => trivial, fun z _ => z⟩
theorem ckq_s (h : ckQ xw x1 A1 B) (g : ckQ x1 x2 A2 B) : ckQ xw x2 (A1 ∧ A2) B := ⟨fun z => g.1 (h.1 z), fun z => ⟨h.2.1 (by have := g.1; omega), g.2.1 z⟩, fun z y => g.2.2 (h.2.2 z y) y⟩
theorem ckq_i (h : ckQ xw x1 A1 B) (g : A1 → A2) : ckQ xw x1 A2 B := ⟨h.1, fun z => g (h.2.1 z), h.2.2⟩
theorem ckq_b (h : ckQ xw x1 A B) (g : B' → B) : ckQ xw x1 A B' := ⟨h.1, h.2.1, fun z y => h.2.2 z (g y)⟩
theorem ckq_w (h : wQ xw x1 o) (e : A ↔ ¬ o = none) (g : B → A) : ckQ xw x1 A B := by
  refine ⟨h.1, fun z => ?_, fun z y => (h.2 z).2 (e.mp (g y))⟩
  have x0 : xw < 0 := by have := h.1; omega
  refine e.mpr (fun q => ?_)
  have := (h.2 x0).1 q
  omega
theorem ckq_y (h : A) : ckQ xw xw A B := ⟨fun z => z, fun _ => h, fun z _ => z⟩
theorem ckq_x (h : ¬ A) (hx : 0 ≤ x1) (g : B → A) : ckQ xw x1 A B := ⟨fun _ => hx, fun z => by omega, fun _ y => absurd (g y) h⟩
theorem lj_0 : lsJ so on tw th nx xn s hd hd M T := fun d h => Or.inr h
theorem lj_s (h : lsJ so on tw th nx xn s hd cur M T) (g : rcA so on tw th nx xn cur M T) : lsJ so on tw th nx xn s hd (rd nx cur) M T := fun d hd => by
  rcases h d hd with z | ⟨m, z⟩
  · exact Or.inl z
  · cases m with
    | zero => exact Or.inl (by rw [z.1]; exact g)
    | succ m => exact Or.inr ⟨m, z.2.2⟩
theorem lj_x (h : lsJ so on tw th nx xn s hd cur M T) (hc : cur < 0) (h0 : 0 ≤ s) : ∀ d, (∃ n, lR nx s xn n hd d) → rcA so on tw th nx xn d M T := fun d hd => by
  rcases h d hd with z | ⟨m, z⟩
  · exact z
  · have := (lR_h z).1
    omega
theorem rc_l (hs : ¬ rd so s = 25) (h2 : ¬ rd so s = 26) (h3 : ¬ rd so s = 21) (h : RC so on tw th nx xn s r) : r = s := by
  obtain ⟨n, h⟩ := h
  cases n with
  | zero => exact h.symm
  | succ n =>
    obtain ⟨d, ⟨-, -, c⟩, -⟩ := h
    rcases c with c | c | c
    · exact absurd c.1 hs
    · exact absurd c.1 h2
    · exact absurd c.1 h3
theorem ra_l (hs : ¬ rd so s = 25) (h2 : ¬ rd so s = 26) (h3 : ¬ rd so s = 21) (h : stN (rd so s) → M s T) : rcA so on tw th nx xn s M T := fun r hr hn => by
  have e := rc_l hs h2 h3 hr
  rw [e] at hn ⊢
  exact h hn
theorem ra_n (h0 : M s T ∨ ¬ stN (rd so s)) (h : ∀ d, chd so on tw th nx xn s d → rcA so on tw th nx xn d M T) : rcA so on tw th nx xn s M T := fun r ⟨n, hr⟩ hn => by
  cases n with
  | zero =>
    rw [← (show s = r from hr)] at hn ⊢
    rcases h0 with z | z
    · exact z
    · exact absurd hn z
  | succ n =>
    obtain ⟨d, c, q⟩ := hr
    exact h d c r ⟨n, q⟩ hn
theorem ra_25 (hs : rd so s = 25) (h0 : 0 ≤ s) (hm : M s T) (h1 : rcA so on tw th nx xn (rd tw s) M T) (h2 : 0 ≤ rd th s → rcA so on tw th nx xn (rd th s) M T) : rcA so on tw th nx xn s M T := ra_n (Or.inl hm) (fun d ⟨c1, c2, c3⟩ => by
  rcases c3 with ⟨-, c | c⟩ | c | c
  · rw [c]; exact h1
  · rw [c]; exact h2 (by omega)
  · omega
  · omega)
theorem ra_26 (hs : rd so s = 26) (h0 : 0 ≤ s) (hm : M s T) (h1 : rcA so on tw th nx xn (rd tw s) M T) (h2 : ∀ d, (∃ n, lR nx s xn n (rd on s) d) → rcA so on tw th nx xn d M T) : rcA so on tw th nx xn s M T := ra_n (Or.inl hm) (fun d ⟨c1, c2, c3⟩ => by
  rcases c3 with c | ⟨-, c | c⟩ | c
  · omega
  · rw [c]; exact h1
  · exact h2 d c
  · omega)
theorem ra_21 (hs : rd so s = 21) (h1 : ∀ d, (∃ n, lR nx s xn n (rd th s) d) → rcA so on tw th nx xn d M T) (h2 : ∀ d, (∃ n, lR nx s xn n (rd tw s) d) → rcA so on tw th nx xn d M T) : rcA so on tw th nx xn s M T := ra_n (Or.inr (by rw [hs]; unfold stN; omega)) (fun d ⟨c1, c2, c3⟩ => by
  rcases c3 with c | c | ⟨-, c | c⟩
  · omega
  · omega
  · exact h1 d c
  · exact h2 d c)
theorem E_22 (h : ndA so st on tw th fo nx wh kd ky xn M) (h0 : 0 ≤ s) (h1 : s < xn) (hs : rd so s = 22) : ∃ q d ds d2 z, lfS so st on tw th nx wh kd ky (rd wh s - 1) q (d :: ds) (s + 1) (rd on s) z ∧ rd nx z = -1 ∧ q ≤ xn ∧ TX so st on tw th nx wh kd ky (s + 1) q (rd tw s) d2 ∧ (M s T ↔ ¬ aSg d ds d2 T = none) := by
  obtain ⟨q, hq, -, -, -, z⟩ := h s h0 h1 (by unfold stN; omega)
  rcases z with z | z | z | z | z | z | z | z
  · obtain ⟨-, d, ds, d2, z, y1, y2, y3, y4⟩ := z
    exact ⟨q, d, ds, d2, z, y1, y2, hq, y3, by rw [y4]⟩
  all_goals (exfalso; have := z.1; omega)
theorem E_23 (h : ndA so st on tw th fo nx wh kd ky xn M) (h0 : 0 ≤ s) (h1 : s < xn) (hs : rd so s = 23) : kd (rd st s) = 27 ∧ ((rd on s < 0 ∧ (M s T ↔ ¬ xCl T (gMe T (rd wh s - 1) (ky (rd st s))) 0 = none)) ∨ (0 ≤ rd on s ∧ ∃ q as, TA so st on tw th nx wh kd ky (rd wh s - 1) (s + 1) q as (rd on s) ∧ (M s T ↔ ¬ dCl (rd wh s - 1) (ky (rd st s)) as T = none))) := by
  obtain ⟨q, hq, -, -, -, z⟩ := h s h0 h1 (by unfold stN; omega)
  rcases z with z | z | z | z | z | z | z | z
  · exfalso; have := z.1; omega
  · obtain ⟨-, y1, y2⟩ := z
    exact ⟨y1, y2.imp (fun y => ⟨y.1, by rw [y.2]⟩) (fun ⟨y3, as, y4, y5⟩ => ⟨y3, q, as, y4, by rw [y5]⟩)⟩
  all_goals (exfalso; have := z.1; omega)
theorem E_24 (h : ndA so st on tw th fo nx wh kd ky xn M) (h0 : 0 ≤ s) (h1 : s < xn) (hs : rd so s = 24) : kd (rd st s) = 27 ∧ ((rd tw s < 0 ∧ (M s T ↔ ¬ dLa (rd wh s - 1) (ky (rd st s)) T = none)) ∨ (0 ≤ rd tw s ∧ ∃ q d, TX so st on tw th nx wh kd ky (s + 1) q (rd tw s) d ∧ (M s T ↔ ¬ xSw T (gMe T (rd wh s - 1) (ky (rd st s))) = none ∧ ¬ dN 1 d T = none))) := by
  obtain ⟨q, hq, -, -, -, z⟩ := h s h0 h1 (by unfold stN; omega)
  rcases z with z | z | z | z | z | z | z | z
  · exfalso; have := z.1; omega
  · exfalso; have := z.1; omega
  · obtain ⟨-, y1, y2⟩ := z
    exact ⟨y1, y2.imp (fun y => ⟨y.1, by rw [y.2]⟩) (fun ⟨y3, d, y4, y5⟩ => ⟨y3, q, d, y4, by rw [y5]⟩)⟩
  all_goals (exfalso; have := z.1; omega)
theorem E_25 (h : ndA so st on tw th fo nx wh kd ky xn M) (h0 : 0 ≤ s) (h1 : s < xn) (hs : rd so s = 25) : ∃ q d, TX so st on tw th nx wh kd ky (s + 1) q (rd on s) d ∧ (M s T ↔ ¬ dN 2 d T = none) := by
  obtain ⟨q, hq, -, -, -, z⟩ := h s h0 h1 (by unfold stN; omega)
  rcases z with z | z | z | z | z | z | z | z
  · exfalso; have := z.1; omega
  · exfalso; have := z.1; omega
  · exfalso; have := z.1; omega
  · obtain ⟨-, d, y1, y2⟩ := z
    exact ⟨q, d, y1, by rw [y2]⟩
  all_goals (exfalso; have := z.1; omega)
theorem E_26 (h : ndA so st on tw th fo nx wh kd ky xn M) (h0 : 0 ≤ s) (h1 : s < xn) (hs : rd so s = 26) : kd (rd st s) = 27 ∧ (M s T ↔ ¬ xCt T (gMe T (rd wh s - 1) (ky (rd st s))) = none) := by
  obtain ⟨q, hq, -, -, -, z⟩ := h s h0 h1 (by unfold stN; omega)
  rcases z with z | z | z | z | z | z | z | z
  · exfalso; have := z.1; omega
  · exfalso; have := z.1; omega
  · exfalso; have := z.1; omega
  · exfalso; have := z.1; omega
  · exact ⟨z.2.1, by rw [z.2.2]⟩
  all_goals (exfalso; have := z.1; omega)
theorem E_27 (h : ndA so st on tw th fo nx wh kd ky xn M) (h0 : 0 ≤ s) (h1 : s < xn) (hs : rd so s = 27) : ∃ q d, TX so st on tw th nx wh kd ky (s + 1) q (rd on s) d ∧ (M s T ↔ ¬ dN 1 d T = none) := by
  obtain ⟨q, hq, -, -, -, z⟩ := h s h0 h1 (by unfold stN; omega)
  rcases z with z | z | z | z | z | z | z | z
  · exfalso; have := z.1; omega
  · exfalso; have := z.1; omega
  · exfalso; have := z.1; omega
  · exfalso; have := z.1; omega
  · exfalso; have := z.1; omega
  · obtain ⟨-, d, y1, y2⟩ := z
    exact ⟨q, d, y1, by rw [y2]⟩
  all_goals (exfalso; have := z.1; omega)
theorem E_29 (h : ndA so st on tw th fo nx wh kd ky xn M) (h0 : 0 ≤ s) (h1 : s < xn) (hs : rd so s = 29) : ∃ q d1 d2 d3, TX so st on tw th nx wh kd ky (s + 1) q (rd on s) d1 ∧ (0 ≤ rd tw s → TX so st on tw th nx wh kd ky (s + 1) q (rd tw s) d2) ∧ (0 ≤ rd th s → TX so st on tw th nx wh kd ky (s + 1) q (rd th s) d3) ∧ ((rd fo s = 0 ∧ rd tw s < 0 ∧ rd th s < 0 ∧ (M s T ↔ ¬ dN 1 d1 T = none)) ∨ (rd fo s = 1 ∧ 0 ≤ rd tw s ∧ 0 ≤ rd th s ∧ (M s T ↔ ¬ dN 1 d1 T = none ∧ ¬ dN 1 d2 T = none ∧ ¬ dN 1 d3 T = none)) ∨ (rd fo s = 2 ∧ 0 ≤ rd tw s ∧ rd th s < 0 ∧ (M s T ↔ ¬ dN 1 d1 T = none ∧ ¬ dN 2 d2 T = none))) := by
  obtain ⟨q, hq, -, -, -, z⟩ := h s h0 h1 (by unfold stN; omega)
  rcases z with z | z | z | z | z | z | z | z
  · exfalso; have := z.1; omega
  · exfalso; have := z.1; omega
  · exfalso; have := z.1; omega
  · exfalso; have := z.1; omega
  · exfalso; have := z.1; omega
  · exfalso; have := z.1; omega
  · obtain ⟨-, d1, y1, y2⟩ := z
    rcases y2 with ⟨u1, u2, u3, u4⟩ | ⟨u1, u2, u3, d2, d3, u4, u5, u6⟩ | ⟨u1, u2, u3, d2, u4, u5⟩
    · exact ⟨q, d1, d1, d1, y1, fun z => by omega, fun z => by omega, Or.inl ⟨u1, u2, u3, by rw [u4]⟩⟩
    · exact ⟨q, d1, d2, d3, y1, fun _ => u4, fun _ => u5, Or.inr (Or.inl ⟨u1, u2, u3, by rw [u6]⟩)⟩
    · exact ⟨q, d1, d2, d1, y1, fun _ => u4, fun z => by omega, Or.inr (Or.inr ⟨u1, u2, u3, by rw [u5]⟩)⟩
  · exfalso; have := z.1; omega
theorem E_30 (h : ndA so st on tw th fo nx wh kd ky xn M) (h0 : 0 ≤ s) (h1 : s < xn) (hs : rd so s = 30) : ∃ q d1 d2 d3 d4, TX so st on tw th nx wh kd ky (s + 1) q (rd on s) d1 ∧ TX so st on tw th nx wh kd ky (s + 1) q (rd tw s) d2 ∧ (0 ≤ rd th s → TX so st on tw th nx wh kd ky (s + 1) q (rd th s) d3) ∧ (0 ≤ rd th s → TX so st on tw th nx wh kd ky (s + 1) q (rd fo s) d4) ∧ ((rd th s < 0 ∧ (M s T ↔ ¬ dN 1 d1 T = none ∧ ¬ dN 1 d2 T = none)) ∨ (0 ≤ rd th s ∧ (M s T ↔ ¬ dN 1 d1 T = none ∧ ¬ dN 1 d2 T = none ∧ ¬ dN 1 d3 T = none ∧ ¬ dN 1 d4 T = none))) := by
  obtain ⟨q, hq, -, -, -, z⟩ := h s h0 h1 (by unfold stN; omega)
  rcases z with z | z | z | z | z | z | z | z
  · exfalso; have := z.1; omega
  · exfalso; have := z.1; omega
  · exfalso; have := z.1; omega
  · exfalso; have := z.1; omega
  · exfalso; have := z.1; omega
  · exfalso; have := z.1; omega
  · exfalso; have := z.1; omega
  · obtain ⟨-, d1, d2, y1, y2, y3⟩ := z
    rcases y3 with ⟨u1, u2⟩ | ⟨u1, d3, d4, u2, u3, u4⟩
    · exact ⟨q, d1, d2, d1, d1, y1, y2, fun z => by omega, fun z => by omega, Or.inl ⟨u1, by rw [u2]⟩⟩
    · exact ⟨q, d1, d2, d3, d4, y1, y2, fun _ => u2, fun _ => u3, Or.inr ⟨u1, by rw [u4]⟩⟩
theorem am_s (h : alM so xn M T) (h0 : 0 ≤ s) (h1 : s < xn) (hs : stN (rd so s)) : M s T := h s h0 h1 hs
theorem cn_1 {d : gV → Option Int} (h : nQ xw x1 1 d T) (g : B → ¬ dN 1 d T = none) : ckQ xw x1 (¬ dN 1 d T = none) B := ckq_w (h.2 (Or.inl rfl)) Iff.rfl g
theorem cn_2 {d : gV → Option Int} (h : nQ xw x1 2 d T) (g : B → ¬ dN 2 d T = none) : ckQ xw x1 (¬ dN 2 d T = none) B := ckq_w (h.2 (Or.inr rfl)) Iff.rfl g
end
