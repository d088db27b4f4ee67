section
variable {bt : Int → Int} {n p c : Int}
abbrev sgO (c : Int) : Prop := c = 43 ∨ c = 45 ∨ c = 42 ∨ c = 94 ∨ c = 40 ∨ c = 41 ∨ c = 91 ∨ c = 93 ∨ c = 44 ∨ c = 59 ∨ c = 58 ∨ c = 60 ∨ c = 61 ∨ c = 62 ∨ c = 35
theorem sIx_n : ∀ (L : List Int) (k : Int), (∀ x ∈ L, ¬ x = c) → sIx c L k = -1 := by
  intro L
  induction L with
  | nil => intro k _; rfl
  | cons t ts ih =>
    intro k h
    have e : sIx c (t :: ts) k = if t = c then k else sIx c ts (k + 1) := rfl
    rw [e, if_neg (h t (List.mem_cons_self))]
    exact ih _ (fun x hx => h x (List.mem_cons_of_mem _ hx))
theorem sg_no (h : ¬ sgO c) : kSg c = -1 := by
  refine sIx_n sTb 30 (fun x hx z => h ?_)
  rw [← z]
  have q : ∀ x ∈ sTb, sgO x := by decide
  exact q x hx
theorem sg_d : ∀ x ∈ sTb, 30 ≤ kSg x ∧ kSg x ≤ 44 ∧ txC (kSg x) = [x] ∧ ((x = 58 ∨ x = 60 ∨ x = 62) → 45 ≤ kPr (kSg x) ∧ kPr (kSg x) ≤ 47 ∧ txC (kPr (kSg x)) = [x, 61]) ∧ (¬ (x = 58 ∨ x = 60 ∨ x = 62) → kPr (kSg x) = -1) := by decide
theorem sg_m (h : sgO c) : c ∈ sTb := by
  have q : ∀ x ∈ [43, 45, 42, 94, 40, 41, 91, 93, 44, 59, 58, 60, 61, 62, 35], x ∈ sTb := by decide
  refine q c ?_
  unfold sgO at h
  simp only [List.mem_cons, List.not_mem_nil, or_false]
  omega
theorem sg_t (h1 : ¬ cLe (bt p)) (h2 : ¬ cDi (bt p)) : tNx bt n p = if p + 1 < n ∧ bt (p + 1) = 61 ∧ ¬ kPr (kSg (bt p)) = -1 then (kPr (kSg (bt p)), 0, p + 2) else (kSg (bt p), 0, p + 1) := (if_neg h1).trans (if_neg h2)
theorem sg_2 (h1 : ¬ cLe (bt p)) (h2 : ¬ cDi (bt p)) (h : p + 1 < n ∧ bt (p + 1) = 61 ∧ (bt p = 58 ∨ bt p = 60 ∨ bt p = 62)) : 30 ≤ (tNx bt n p).1 ∧ (tNx bt n p).1 ≤ 47 ∧ tkX (tNx bt n p).1 bt p (p + 2) ∧ (tNx bt n p).2.2 = p + 2 := by
  have z := sg_d (bt p) (sg_m (by unfold sgO; omega))
  obtain ⟨y1, y2, y3⟩ := z.2.2.2.1 h.2.2
  rw [sg_t h1 h2, if_pos ⟨h.1, h.2.1, by omega⟩]
  refine ⟨by show 30 ≤ kPr (kSg (bt p)); omega, by show kPr (kSg (bt p)) ≤ 47; omega, ?_, rfl⟩
  show tkX (kPr (kSg (bt p))) bt p (p + 2)
  unfold tkX
  rw [y3]
  refine ⟨by show p + 2 - p = 2; omega, fun j hj => ?_⟩
  have hj : j < 2 := hj
  match j, hj with
  | 0, _ => rw [show p + ((0 : Nat) : Int) = p from by omega]; rfl
  | 1, _ => exact h.2.1
theorem sg_1 (h1 : ¬ cLe (bt p)) (h2 : ¬ cDi (bt p)) (h3 : sgO (bt p)) (h : ¬ (p + 1 < n ∧ bt (p + 1) = 61 ∧ (bt p = 58 ∨ bt p = 60 ∨ bt p = 62))) : 30 ≤ (tNx bt n p).1 ∧ (tNx bt n p).1 ≤ 47 ∧ tkX (tNx bt n p).1 bt p (p + 1) ∧ (tNx bt n p).2.2 = p + 1 := by
  have z := sg_d (bt p) (sg_m h3)
  rw [sg_t h1 h2, if_neg (fun q => by
    by_cases c : bt p = 58 ∨ bt p = 60 ∨ bt p = 62
    · exact h ⟨q.1, q.2.1, c⟩
    · exact q.2.2 (z.2.2.2.2 c))]
  refine ⟨z.1, by show kSg (bt p) ≤ 47; omega, ?_, rfl⟩
  show tkX (kSg (bt p)) bt p (p + 1)
  unfold tkX
  rw [z.2.2.1]
  refine ⟨by show p + 1 - p = 1; omega, fun j hj => ?_⟩
  have hj : j < 1 := hj
  match j, hj with
  | 0, _ => rw [show p + ((0 : Nat) : Int) = p from by omega]; rfl
theorem sg_0 (h1 : ¬ cLe (bt p)) (h2 : ¬ cDi (bt p)) (h3 : ¬ sgO (bt p)) : (tNx bt n p).1 = -1 ∧ (tNx bt n p).2.2 = p + 1 := by
  have e := sg_no h3
  rw [sg_t h1 h2, if_neg (fun q => q.2.2 (by rw [e]; decide))]
  exact ⟨e, rfl⟩
def nRl (v u : Int) : Prop := 0 ≤ v ∧ v ≤ 1099511627776 ∧ ((v ≤ 34359738367 ∧ v = u) ∨ (34359738367 < v ∧ 34359738367 < u))
def dIv (bt : Int → Int) (n p b v : Int) : Prop := dEn bt n (n - p).toNat p = dEn bt n (n - b).toNat b ∧ nRl v (vNu bt (b - p).toNat p 0)
variable {b b' v v' : Int}
theorem dI_0 : dIv bt n p p 0 := by
  refine ⟨rfl, ?_⟩
  rw [show (p - p).toNat = 0 from by omega]
  exact ⟨by decide, by decide, Or.inl ⟨by decide, rfl⟩⟩
theorem dI_s (h : dIv bt n p b v) (hb : b < n) (hp : p ≤ b) (hc : cDi (bt b)) (e : b' = b + 1) (hv : v' = min 1099511627776 (10 * v + (bt b - 48))) : dIv bt n p b' v' := by
  obtain ⟨h1, h2, h3, h4⟩ := h
  have hd : 48 ≤ bt b ∧ bt b ≤ 57 := hc
  have hq : p + (((b - p).toNat : Nat) : Int) = b := by omega
  refine ⟨h1.trans (nV_e hb hc e), ?_⟩
  rw [show (b' - p).toNat = (b - p).toNat + 1 from by omega, vNu_s, hq]
  rcases h4 with ⟨h4, h5⟩ | ⟨h4, h5⟩
  · rw [← h5, if_pos h4]
    unfold nRl
    omega
  · rw [if_neg (by omega)]
    unfold nRl
    omega
theorem dI_x (h : dIv bt n p b v) (hx : ¬ (b < n ∧ cDi (bt b))) (hl : ¬ cLe (bt p)) (hd : cDi (bt p)) : (tNx bt n p).2.2 = b ∧ (v ≤ 34359738367 → (tNx bt n p).1 = 28) ∧ (¬ v ≤ 34359738367 → (tNx bt n p).1 = -1) := by
  have e : dEn bt n (n - p).toNat p = b := by
    rw [h.1]
    by_cases hb : b < n
    · obtain ⟨m, hm⟩ : ∃ m : Nat, (n - b).toNat = m + 1 := ⟨(n - b).toNat - 1, by omega⟩
      rw [hm]
      exact if_neg hx
    · rw [show (n - b).toNat = 0 from by omega]
      rfl
  have et : tNx bt n p = (if vNu bt (dEn bt n (n - p).toNat p - p).toNat p 0 ≤ 34359738367 then 28 else -1, 0, dEn bt n (n - p).toNat p) := (if_neg hl).trans (if_pos hd)
  rw [et, e]
  obtain ⟨-, h2, h3, h4⟩ := h
  refine ⟨rfl, fun z => if_pos (by omega), fun z => if_neg (by omega)⟩
end
