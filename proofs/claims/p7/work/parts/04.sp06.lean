abbrev gE := Nat × Int × Int × Int × Int × Int
abbrev gB := List (Int × Int) × List gE × List Int × (gV → Option Int)
abbrev gS := Option (Int × Int × Int × gB)
abbrev gM := Nat → Int → Int → Int → Int → Int → gS
def b0 : gB := ([], [], [], fun _ => some 0)
def bSq (a b : gB) : gB := (a.1 ++ b.1, a.2.1 ++ b.2.1, a.2.2.1 ++ b.2.2.1, fun e => (a.2.2.2 e).bind fun _ => b.2.2.2 e)
def bEv (v : gE) : gB := ([], [v], [], fun _ => some 0)
def bOp (v : gE) (p : Int) : gB := ([], [v], [p], fun _ => some 0)
def bEx (ty : Int) (d : gD) : gB := (d.1, [], [], fun e => (dN ty d.2.2 e).bind fun _ => some 0)
def bUs (i w : Int) (x : gV → Option Int) : gB := ([(i, w)], [], [], x)
def xLa (e : gV) (k : Int) : Option Int := if isLa e k then some 0 else none
def xSw (e : gV) (k : Int) : Option Int := if nK e k = 4 then some 0 else none
def xCt (e : gV) (k : Int) : Option Int := if isSi e k then (xNe (nT e k) 1) else none
def xCl (e : gV) (k c : Int) : Option Int := if nK e k = 3 ∧ nC e k = c then some 0 else none
def sPr (e : gV) (s : Int) : Int := gG (e 9) (e 11 0) (-1) s
def sPa (e : gV) (s : Int) : Int := gG (e 7) (e 11 0) (-1) s
def wIn (e : gV) (k : Int) : Nat → Int → Bool
  | 0, _ => false
  | f + 1, s => if 0 ≤ s then (if sPr e s = k then true else wIn e k f (sPa e s)) else false
def xTa (e : gV) (w k : Int) : Option Int := if isSi e k ∨ (isFn e k ∧ wIn e k 333 w = true) then some (nT e k) else none
section
variable {e : gV} {w k r p i i2 v : Int}
theorem ta_1 (h : isSi e k) (hr : nT e k = r) : xTa e w k = some r := by
  unfold xTa
  rw [if_pos (Or.inl h), hr]
theorem ta_2 (h : isFn e k) (hw : wIn e k 333 w = true) (hr : nT e k = r) : xTa e w k = some r := by
  unfold xTa
  rw [if_pos (Or.inr ⟨h, hw⟩), hr]
theorem ta_3 (h : ¬ isSi e k) (h2 : ¬ isFn e k) : xTa e w k = none := if_neg (fun q => q.elim h (fun z => h2 z.1))
theorem ta_4 (h : ¬ isSi e k) (h2 : ¬ wIn e k 333 w = true) : xTa e w k = none := if_neg (fun q => q.elim h (fun z => h2 z.2))
theorem wI_s (h0 : 0 ≤ v) (h : ¬ sPr e v = k) (h3 : 0 ≤ i) (h4 : i < 333) (h5 : i2 = i + 1) : wIn e k (333 - i).toNat v = wIn e k (333 - i2).toNat (sPa e v) := by
  rw [show (333 - i).toNat = (333 - i2).toNat + 1 by omega]
  show (if 0 ≤ v then _ else _) = _
  rw [if_pos h0, if_neg h]
theorem wI_t (h0 : 0 ≤ v) (h : sPr e v = k) (h3 : 0 ≤ i) (h4 : i < 333) : wIn e k (333 - i).toNat v = true := by
  obtain ⟨f, hf⟩ : ∃ f : Nat, (333 - i).toNat = f + 1 := ⟨(333 - i).toNat - 1, by omega⟩
  rw [hf]
  show (if 0 ≤ v then _ else _) = _
  rw [if_pos h0, if_pos h]
theorem wI_n (h : 333 ≤ i ∨ ¬ 0 ≤ v) : ¬ wIn e k (333 - i).toNat v = true := by
  by_cases hi : 333 ≤ i
  · rw [show (333 - i).toNat = 0 by omega]
    exact Bool.false_ne_true
  · obtain ⟨f, hf⟩ : ∃ f : Nat, (333 - i).toNat = f + 1 := ⟨(333 - i).toNat - 1, by omega⟩
    rw [hf]
    show ¬ (if 0 ≤ v then _ else _) = true
    rw [if_neg (by omega)]
    exact Bool.false_ne_true
end
abbrev isMk (T : gV) (k : Int) : Prop := 0 ≤ k ∧ k < T 10 0 ∧ (¬ T 14 k.toNat = 0 ∨ 0 ≤ T 13 k.toNat)
