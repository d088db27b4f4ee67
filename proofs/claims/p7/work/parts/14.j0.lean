abbrev cBl (c : Int) : Prop := c = 32 ∨ c = 10
abbrev cLe (c : Int) : Prop := 97 ≤ c ∧ c ≤ 122
abbrev cDi (c : Int) : Prop := 48 ≤ c ∧ c ≤ 57
def cCd (c : Int) : Int := if cLe c then c - 96 else c - 21
def wEn (bt : Int → Int) (n : Int) : Nat → Int → Int
  | 0, p => p
  | f + 1, p => if p < n ∧ (cLe (bt p) ∨ cDi (bt p)) then wEn bt n f (p + 1) else p
def dEn (bt : Int → Int) (n : Int) : Nat → Int → Int
  | 0, p => p
  | f + 1, p => if p < n ∧ cDi (bt p) then dEn bt n f (p + 1) else p
def wKy (bt : Int → Int) : Nat → Int → Int → Int
  | 0, _, k => k
  | m + 1, p, k => wKy bt m (p + 1) (k * 37 + cCd (bt p))
def vNu (bt : Int → Int) : Nat → Int → Int → Int
  | 0, _, v => v
  | m + 1, p, v => vNu bt m (p + 1) (if v ≤ 34359738367 then v * 10 + (bt p - 48) else v)
def wTb : List Int := [4011517, 7367, 24100099350, 6200339320, 2810619, 57947148581973, 41299405, 21400, 1361124262, 22543520, 339, 1024211, 270401, 8787, 163, 989988, 40094248, 43523697, 375861, 1038484, 11312755, 19741, 1891, 573, 5831, 30911189]
def wFd (key : Int) : List Int → Int → Int
  | [], _ => 0
  | t :: ts, k => if t = key then k else wFd key ts (k + 1)
def kWd (key size : Int) : Int := if 9 < size then -1 else if ¬ wFd key wTb 1 = 0 then wFd key wTb 1 else if 8 < size then -1 else 27
def sTb : List Int := [43, 45, 42, 94, 40, 41, 91, 93, 44, 59, 58, 60, 61, 62, 35]
def sIx (c : Int) : List Int → Int → Int
  | [], _ => -1
  | t :: ts, k => if t = c then k else sIx c ts (k + 1)
def kSg (c : Int) : Int := sIx c sTb 30
def kPr (k : Int) : Int := if k = 40 then 47 else if k = 41 then 45 else if k = 43 then 46 else -1
def tNx (bt : Int → Int) (n p : Int) : Int × Int × Int :=
  if cLe (bt p) then (let e := wEn bt n (n - p).toNat p; let key := wKy bt (min 9 (e - p)).toNat p 0; (kWd key (e - p), key, e))
  else if cDi (bt p) then (let e := dEn bt n (n - p).toNat p; (if vNu bt (e - p).toNat p 0 ≤ 34359738367 then 28 else -1, 0, e))
  else if p + 1 < n ∧ bt (p + 1) = 61 ∧ ¬ kPr (kSg (bt p)) = -1 then (kPr (kSg (bt p)), 0, p + 2) else (kSg (bt p), 0, p + 1)
def gTk (bt : Int → Int) (n : Int) : Nat → Int → List (Int × Int × Int)
  | 0, _ => []
  | f + 1, p => if p < n then (if cBl (bt p) then gTk bt n f (p + 1) else ((tNx bt n p).1, p, (tNx bt n p).2.1) :: gTk bt n f (tNx bt n p).2.2) else []
section
variable {bt : Int → Int} {n : Int}
theorem wEn_b : ∀ (f : Nat) (p : Int), p ≤ wEn bt n f p ∧ (p ≤ n → wEn bt n f p ≤ n) ∧ wEn bt n f p ≤ p + f := by
  intro f
  induction f with
  | zero => intro p; exact ⟨Int.le_refl _, fun h => h, by show p ≤ p + ((0 : Nat) : Int); omega⟩
  | succ f ih =>
    intro p
    have e : wEn bt n (f + 1) p = if p < n ∧ (cLe (bt p) ∨ cDi (bt p)) then wEn bt n f (p + 1) else p := rfl
    rw [e]
    by_cases h : p < n ∧ (cLe (bt p) ∨ cDi (bt p))
    · rw [if_pos h]
      have z := ih (p + 1)
      exact ⟨by omega, fun _ => z.2.1 (by omega), by have := z.2.2; omega⟩
    · rw [if_neg h]
      exact ⟨Int.le_refl _, fun q => q, by omega⟩
theorem dEn_b : ∀ (f : Nat) (p : Int), p ≤ dEn bt n f p ∧ (p ≤ n → dEn bt n f p ≤ n) ∧ dEn bt n f p ≤ p + f := by
  intro f
  induction f with
  | zero => intro p; exact ⟨Int.le_refl _, fun h => h, by show p ≤ p + ((0 : Nat) : Int); omega⟩
  | succ f ih =>
    intro p
    have e : dEn bt n (f + 1) p = if p < n ∧ cDi (bt p) then dEn bt n f (p + 1) else p := rfl
    rw [e]
    by_cases h : p < n ∧ cDi (bt p)
    · rw [if_pos h]
      have z := ih (p + 1)
      exact ⟨by omega, fun _ => z.2.1 (by omega), by have := z.2.2; omega⟩
    · rw [if_neg h]
      exact ⟨Int.le_refl _, fun q => q, by omega⟩
theorem tNx_b {p : Int} (h : p < n) : p < (tNx bt n p).2.2 ∧ (tNx bt n p).2.2 ≤ n := by
  unfold tNx
  obtain ⟨f, hf⟩ : ∃ f : Nat, (n - p).toNat = f + 1 := ⟨(n - p).toNat - 1, by omega⟩
  by_cases c1 : cLe (bt p)
  · rw [if_pos c1]
    show p < wEn bt n (n - p).toNat p ∧ wEn bt n (n - p).toNat p ≤ n
    have z := (wEn_b (bt := bt) (n := n) (n - p).toNat p).2.1 (by omega)
    refine ⟨?_, z⟩
    rw [hf]
    have e : wEn bt n (f + 1) p = wEn bt n f (p + 1) := if_pos ⟨h, Or.inl c1⟩
    rw [e]
    have := (wEn_b (bt := bt) (n := n) f (p + 1)).1
    omega
  · rw [if_neg c1]
    by_cases c2 : cDi (bt p)
    · rw [if_pos c2]
      show p < dEn bt n (n - p).toNat p ∧ dEn bt n (n - p).toNat p ≤ n
      have z := (dEn_b (bt := bt) (n := n) (n - p).toNat p).2.1 (by omega)
      refine ⟨?_, z⟩
      rw [hf]
      have e : dEn bt n (f + 1) p = dEn bt n f (p + 1) := if_pos ⟨h, c2⟩
      rw [e]
      have := (dEn_b (bt := bt) (n := n) f (p + 1)).1
      omega
    · rw [if_neg c2]
      by_cases c3 : p + 1 < n ∧ bt (p + 1) = 61 ∧ ¬ kPr (kSg (bt p)) = -1
      · rw [if_pos c3]
        show p < p + 2 ∧ p + 2 ≤ n
        omega
      · rw [if_neg c3]
        show p < p + 1 ∧ p + 1 ≤ n
        omega
theorem gTk_l : ∀ (f : Nat) (p : Int), p ≤ n → ((gTk bt n f p).length : Int) ≤ n - p := by
  intro f
  induction f with
  | zero => intro p h; show ((0 : Nat) : Int) ≤ n - p; omega
  | succ f ih =>
    intro p h
    have e : gTk bt n (f + 1) p = if p < n then (if cBl (bt p) then gTk bt n f (p + 1) else ((tNx bt n p).1, p, (tNx bt n p).2.1) :: gTk bt n f (tNx bt n p).2.2) else [] := rfl
    rw [e]
    by_cases c1 : p < n
    · rw [if_pos c1]
      by_cases c2 : cBl (bt p)
      · rw [if_pos c2]
        have := ih (p + 1) (by omega)
        omega
      · rw [if_neg c2]
        have b := tNx_b (bt := bt) c1
        have := ih (tNx bt n p).2.2 b.2
        rw [List.length_cons]
        omega
    · rw [if_neg c1]
      show ((0 : Nat) : Int) ≤ n - p
      omega
end
