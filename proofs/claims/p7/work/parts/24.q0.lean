def isFst (T : gV) (s : Nat) (x : Int) : Prop := (x = -1 ∧ ∀ k : Nat, (k : Int) < T 10 0 → ¬ T 4 k = s) ∨ ∃ j : Nat, x = j ∧ (j : Int) < T 10 0 ∧ T 4 j = s ∧ ∀ k : Nat, k < j → ¬ T 4 k = s
def isLst (T : gV) (s : Nat) (x : Int) : Prop := (x = -1 ∧ ∀ k : Nat, (k : Int) < T 10 0 → ¬ T 4 k = s) ∨ ∃ j : Nat, x = j ∧ (j : Int) < T 10 0 ∧ T 4 j = s ∧ ∀ k : Nat, j < k → (k : Int) < T 10 0 → ¬ T 4 k = s
def isNxt (T : gV) (k : Nat) (x : Int) : Prop := (x = -1 ∧ ∀ j : Nat, k < j → (j : Int) < T 10 0 → ¬ T 4 j = T 4 k) ∨ ∃ j : Nat, x = j ∧ k < j ∧ (j : Int) < T 10 0 ∧ T 4 j = T 4 k ∧ ∀ i : Nat, k < i → i < j → ¬ T 4 i = T 4 k
def cI (T : gV) : Prop := 0 ≤ T 10 0 ∧ 0 ≤ T 11 0 ∧ (∀ k : Nat, (k : Int) < T 10 0 → 0 ≤ T 4 k ∧ T 4 k < T 11 0) ∧ (∀ s : Nat, (s : Int) < T 11 0 → isFst T s (T 8 s)) ∧ (∀ s : Nat, (s : Int) < T 11 0 → isLst T s (T 15 s)) ∧ ∀ k : Nat, (k : Int) < T 10 0 → isNxt T k (T 5 k)
def fF (T : gV) (s key : Int) : Nat → Int → Int
  | 0, _ => -1
  | f + 1, k => if T 4 k.toNat = s ∧ T 0 k.toNat = key then k else fF T s key f (k + 1)
section
variable {T U : gV}
theorem cI_c (h : cI T) (e4 : ∀ k, U 4 k = T 4 k) (e5 : ∀ k, U 5 k = T 5 k) (e8 : ∀ k, U 8 k = T 8 k) (e15 : ∀ k, U 15 k = T 15 k) (e10 : U 10 0 = T 10 0) (e11 : U 11 0 = T 11 0) : cI U := by
  obtain ⟨h1, h2, h3, h4, h5, h6⟩ := h
  refine ⟨by omega, by omega, fun k hk => ?_, fun s hs => ?_, fun s hs => ?_, fun k hk => ?_⟩
  · rw [e4, e11]; exact h3 k (by omega)
  · rw [e8]
    unfold isFst
    rw [e10]
    simp only [e4]
    exact h4 s (by omega)
  · rw [e15]
    unfold isLst
    rw [e10]
    simp only [e4]
    exact h5 s (by omega)
  · rw [e5]
    unfold isNxt
    rw [e10]
    simp only [e4]
    exact h6 k (by omega)
theorem cI_0 (h : T 10 0 = 0) (g : T 11 0 = 0) : cI T := ⟨by omega, by omega, fun k hk => by omega, fun s hs => by omega, fun s hs => by omega, fun k hk => by omega⟩
theorem gst_s {T : gV} {c k : Nat} {v : Int} : gst T c k v c k = v := if_pos ⟨rfl, rfl⟩
theorem gst_k {T : gV} {c k j : Nat} {v : Int} (h : j ≠ k) : gst T c k v c j = T c j := if_neg (fun z => h z.2)
theorem gst_c {T : gV} {c d k j : Nat} {v : Int} (h : d ≠ c) : gst T c k v d j = T d j := if_neg (fun z => h z.1)
theorem gsc_c {T : gV} {c d j : Nat} {v : Int} (h : d ≠ c) : gsc T c v d j = T d j := if_neg h
theorem gsc_s {T : gV} {c j : Nat} {v : Int} : gsc T c v c j = v := if_pos rfl
theorem cI_O {w p : Int} (h : cI T) : cI (rOpn T w p) := by
  obtain ⟨h1, h2, h3, h4, h5, h6⟩ := h
  have e4 : ∀ k, rOpn T w p 4 k = T 4 k := fun k => rfl
  have e5 : ∀ k, rOpn T w p 5 k = T 5 k := fun k => rfl
  have e10 : rOpn T w p 10 0 = T 10 0 := rfl
  have e11 : rOpn T w p 11 0 = T 11 0 + 1 := rfl
  have e8 : ∀ k, rOpn T w p 8 k = if k = (T 11 0).toNat then -1 else T 8 k := fun k => by
    show gsc (gst (gst (gst (gst T 7 (T 11 0).toNat w) 8 (T 11 0).toNat (-1)) 15 (T 11 0).toNat (-1)) 9 (T 11 0).toNat p) 11 (T 11 0 + 1) 8 k = _
    rw [gsc_c (by decide), gst_c (by decide), gst_c (by decide)]
    by_cases c : k = (T 11 0).toNat
    · rw [if_pos c, c]; exact gst_s
    · rw [if_neg c, gst_k c, gst_c (by decide)]
  have e15 : ∀ k, rOpn T w p 15 k = if k = (T 11 0).toNat then -1 else T 15 k := fun k => by
    show gsc (gst (gst (gst (gst T 7 (T 11 0).toNat w) 8 (T 11 0).toNat (-1)) 15 (T 11 0).toNat (-1)) 9 (T 11 0).toNat p) 11 (T 11 0 + 1) 15 k = _
    rw [gsc_c (by decide), gst_c (by decide)]
    by_cases c : k = (T 11 0).toNat
    · rw [if_pos c, c]; exact gst_s
    · rw [if_neg c, gst_k c, gst_c (by decide), gst_c (by decide)]
  have no : ∀ k : Nat, (k : Int) < T 10 0 → ¬ T 4 k = ((T 11 0).toNat : Int) := fun k hk => by have := h3 k hk; omega
  refine ⟨by omega, by omega, fun k hk => ?_, fun s hs => ?_, fun s hs => ?_, fun k hk => ?_⟩
  · rw [e4, e11]; have := h3 k (by omega); omega
  · rw [e8]
    unfold isFst
    rw [e10]
    simp only [e4]
    by_cases c : s = (T 11 0).toNat
    · rw [if_pos c]
      refine Or.inl ⟨rfl, fun k hk => ?_⟩
      rw [c]
      exact no k hk
    · rw [if_neg c]
      exact h4 s (by omega)
  · rw [e15]
    unfold isLst
    rw [e10]
    simp only [e4]
    by_cases c : s = (T 11 0).toNat
    · rw [if_pos c]
      refine Or.inl ⟨rfl, fun k hk => ?_⟩
      rw [c]
      exact no k hk
    · rw [if_neg c]
      exact h5 s (by omega)
  · rw [e5]
    unfold isNxt
    rw [e10]
    simp only [e4]
    exact h6 k (by omega)
theorem rRow_r {key pl kind ty w : Int} : (∀ c k, c ≠ 0 → c ≠ 1 → c ≠ 2 → c ≠ 3 → c ≠ 12 → c ≠ 4 → c ≠ 5 → c ≠ 6 → c ≠ 13 → c ≠ 14 → c ≠ 10 → rRow T key pl kind ty w c k = T c k) ∧ (∀ k, k ≠ (T 10 0).toNat → ∀ c, c ≠ 10 → rRow T key pl kind ty w c k = T c k) ∧ rRow T key pl kind ty w 10 0 = T 10 0 + 1 ∧ rRow T key pl kind ty w 0 (T 10 0).toNat = key ∧ rRow T key pl kind ty w 1 (T 10 0).toNat = kind ∧ rRow T key pl kind ty w 2 (T 10 0).toNat = ty ∧ rRow T key pl kind ty w 3 (T 10 0).toNat = 0 ∧ rRow T key pl kind ty w 4 (T 10 0).toNat = w ∧ rRow T key pl kind ty w 5 (T 10 0).toNat = -1 ∧ rRow T key pl kind ty w 6 (T 10 0).toNat = -1 ∧ rRow T key pl kind ty w 13 (T 10 0).toNat = -1 ∧ rRow T key pl kind ty w 14 (T 10 0).toNat = 0 := by
  unfold rRow
  refine ⟨fun c k a0 a1 a2 a3 a12 a4 a5 a6 a13 a14 a10 => ?_, fun k hk c hc => ?_, gsc_s, ?_, ?_, ?_, ?_, ?_, ?_, ?_, ?_, ?_⟩
  · rw [gsc_c a10, gst_c a14, gst_c a13, gst_c a6, gst_c a5, gst_c a4, gst_c a12, gst_c a3, gst_c a2, gst_c a1, gst_c a0]
  · rw [gsc_c hc]
    unfold gst
    simp only [hk, and_false, if_false]
  all_goals (rw [gsc_c (by decide)]; simp [gst])
theorem cI_D {key pl kind ty w : Int} (h : cI T) (hw : 0 ≤ w) (hs : w < T 11 0) : cI (rDcl T key pl kind ty w) := by
  obtain ⟨h1, h2, h3, h4, h5, h6⟩ := h
  obtain ⟨r0, r1, r10, -, -, -, -, r4, r5, -⟩ := rRow_r (T := T) (key := key) (pl := pl) (kind := kind) (ty := ty) (w := w)
  have q8 : ∀ k, rRow T key pl kind ty w 8 k = T 8 k := fun k => r0 8 k (by decide) (by decide) (by decide) (by decide) (by decide) (by decide) (by decide) (by decide) (by decide) (by decide) (by decide)
  have q15 : ∀ k, rRow T key pl kind ty w 15 k = T 15 k := fun k => r0 15 k (by decide) (by decide) (by decide) (by decide) (by decide) (by decide) (by decide) (by decide) (by decide) (by decide) (by decide)
  have q11 : rRow T key pl kind ty w 11 0 = T 11 0 := r0 11 0 (by decide) (by decide) (by decide) (by decide) (by decide) (by decide) (by decide) (by decide) (by decide) (by decide) (by decide)
  have q4 : ∀ k : Nat, (k : Int) < T 10 0 → rRow T key pl kind ty w 4 k = T 4 k := fun k hk => r1 k (by omega) 4 (by decide)
  have q5 : ∀ k : Nat, (k : Int) < T 10 0 → rRow T key pl kind ty w 5 k = T 5 k := fun k hk => r1 k (by omega) 5 (by decide)
  have hws : ((w.toNat : Nat) : Int) = w := by omega
  have hf := h4 w.toNat (by omega)
  have hl := h5 w.toNat (by omega)
  have e4 : ∀ k, rDcl T key pl kind ty w 4 k = rRow T key pl kind ty w 4 k := fun k => by
    unfold rDcl rChn
    rw [gst_c (by decide)]
    split
    · exact gst_c (by decide)
    · split
      · exact gst_c (by decide)
      · rfl
  have e10 : rDcl T key pl kind ty w 10 0 = T 10 0 + 1 := by
    unfold rDcl rChn
    rw [gst_c (by decide)]
    split
    · rw [gst_c (by decide)]; exact r10
    · split
      · rw [gst_c (by decide)]; exact r10
      · exact r10
  have e11 : rDcl T key pl kind ty w 11 0 = T 11 0 := by
    unfold rDcl rChn
    rw [gst_c (by decide)]
    split
    · rw [gst_c (by decide)]; exact q11
    · split
      · rw [gst_c (by decide)]; exact q11
      · exact q11
  have e15 : ∀ k, rDcl T key pl kind ty w 15 k = if k = w.toNat then T 10 0 else T 15 k := fun k => by
    unfold rDcl
    by_cases c : k = w.toNat
    · rw [if_pos c, c]; exact gst_s
    · rw [if_neg c, gst_k c]
      unfold rChn
      split
      · rw [gst_c (by decide)]; exact q15 k
      · split
        · rw [gst_c (by decide)]; exact q15 k
        · exact q15 k
  have en : T 4 (T 10 0).toNat = T 4 (T 10 0).toNat := rfl
  have f4 : ∀ k : Nat, (k : Int) < T 10 0 → rDcl T key pl kind ty w 4 k = T 4 k := fun k hk => (e4 k).trans (q4 k hk)
  have f4n : rDcl T key pl kind ty w 4 (T 10 0).toNat = w := (e4 _).trans r4
  have f4w : ∀ k : Nat, (k : Int) < T 10 0 + 1 → rDcl T key pl kind ty w 4 k = w → k = (T 10 0).toNat ∨ ((k : Int) < T 10 0 ∧ T 4 k = w) := fun k hk e => by
    by_cases c : (k : Int) < T 10 0
    · exact Or.inr ⟨c, (f4 k c).symm.trans e⟩
    · exact Or.inl (by omega)
  by_cases cw : T 8 w.toNat < 0
  · have none : ∀ k : Nat, (k : Int) < T 10 0 → ¬ T 4 k = w := by
      rcases hf with ⟨-, hf⟩ | ⟨j, hj, -⟩
      · intro k hk; rw [hws] at hf; exact hf k hk
      · omega
    have e8 : ∀ k, rDcl T key pl kind ty w 8 k = if k = w.toNat then T 10 0 else T 8 k := fun k => by
      unfold rDcl rChn
      rw [gst_c (by decide), q8, if_pos cw]
      by_cases c : k = w.toNat
      · rw [if_pos c, c]; exact gst_s
      · rw [if_neg c, gst_k c]; exact q8 k
    have e5 : ∀ k, rDcl T key pl kind ty w 5 k = rRow T key pl kind ty w 5 k := fun k => by
      unfold rDcl rChn
      rw [gst_c (by decide), q8, if_pos cw, gst_c (by decide)]
    refine ⟨by omega, by omega, fun k hk => ?_, fun s hk => ?_, fun s hk => ?_, fun k hk => ?_⟩
    · rw [e11]
      by_cases c : (k : Int) < T 10 0
      · rw [f4 k c]; exact h3 k c
      · rw [show k = (T 10 0).toNat from by omega, f4n]; exact ⟨hw, hs⟩
    · rw [e8]
      by_cases c : s = w.toNat
      · rw [if_pos c]
        refine Or.inr ⟨(T 10 0).toNat, by omega, by omega, by rw [f4n]; omega, fun k hk2 e => ?_⟩
        rw [f4 k (by omega)] at e
        exact none k (by omega) (by omega)
      · rw [if_neg c]
        rcases h4 s (by omega) with ⟨a, b⟩ | ⟨j, a, b, c2, d⟩
        · refine Or.inl ⟨a, fun k hk2 e => ?_⟩
          rcases f4w k (by omega) with z
          by_cases c3 : (k : Int) < T 10 0
          · rw [f4 k c3] at e; exact b k c3 e
          · rw [show k = (T 10 0).toNat from by omega, f4n] at e; omega
        · exact Or.inr ⟨j, a, by omega, by rw [f4 j b]; exact c2, fun k hk2 e => d k hk2 (by rw [f4 k (by omega)] at e; exact e)⟩
    · rw [e15]
      by_cases c : s = w.toNat
      · rw [if_pos c]
        exact Or.inr ⟨(T 10 0).toNat, by omega, by omega, by rw [f4n]; omega, fun k hk2 hk3 => by omega⟩
      · rw [if_neg c]
        rcases h5 s (by omega) with ⟨a, b⟩ | ⟨j, a, b, c2, d⟩
        · refine Or.inl ⟨a, fun k hk2 e => ?_⟩
          by_cases c3 : (k : Int) < T 10 0
          · rw [f4 k c3] at e; exact b k c3 e
          · rw [show k = (T 10 0).toNat from by omega, f4n] at e; omega
        · refine Or.inr ⟨j, a, by omega, by rw [f4 j b]; exact c2, fun k hk2 hk3 e => ?_⟩
          by_cases c3 : (k : Int) < T 10 0
          · rw [f4 k c3] at e; exact d k hk2 c3 e
          · rw [show k = (T 10 0).toNat from by omega, f4n] at e; omega
    · rw [e5]
      by_cases c : (k : Int) < T 10 0
      · rw [q5 k c]
        rcases h6 k c with ⟨a, b⟩ | ⟨j, a, b, c2, d, g⟩
        · refine Or.inl ⟨a, fun j hj hj2 e => ?_⟩
          rw [f4 k c] at e
          by_cases c3 : (j : Int) < T 10 0
          · rw [f4 j c3] at e; exact b j hj c3 e
          · rw [show j = (T 10 0).toNat from by omega, f4n] at e; exact none k c e.symm
        · refine Or.inr ⟨j, a, b, by omega, by rw [f4 j c2, f4 k c]; exact d, fun i hi hi2 e => ?_⟩
          rw [f4 k c, f4 i (by omega)] at e
          exact g i hi hi2 e
      · rw [show k = (T 10 0).toNat from by omega, r5]
        exact Or.inl ⟨rfl, fun j hj hj2 => by omega⟩
  · obtain ⟨l, hl1, hl2, hl3, hl4⟩ : ∃ l : Nat, T 15 w.toNat = l ∧ (l : Int) < T 10 0 ∧ T 4 l = w ∧ ∀ k : Nat, l < k → (k : Int) < T 10 0 → ¬ T 4 k = w := by
      rcases hl with ⟨-, hl⟩ | ⟨j, a, b, c, d⟩
      · exfalso
        rcases hf with ⟨hf, -⟩ | ⟨j, -, b, c, -⟩
        · omega
        · exact hl j b c
      · rw [hws] at c d
        exact ⟨j, a, b, c, d⟩
    have cl : 0 ≤ rRow T key pl kind ty w 15 w.toNat ∧ rRow T key pl kind ty w 15 w.toNat < rRow T key pl kind ty w 10 0 := by rw [q15, r10]; omega
    have el : (rRow T key pl kind ty w 15 w.toNat).toNat = l := by rw [q15]; omega
    have cw2 : ¬ rRow T key pl kind ty w 8 w.toNat < 0 := by rw [q8]; exact cw
    have e8 : ∀ k, rDcl T key pl kind ty w 8 k = T 8 k := fun k => by
      unfold rDcl rChn
      rw [gst_c (by decide), if_neg cw2, if_pos cl, gst_c (by decide)]
      exact q8 k
    have e5 : ∀ k, rDcl T key pl kind ty w 5 k = if k = l then T 10 0 else rRow T key pl kind ty w 5 k := fun k => by
      unfold rDcl rChn
      rw [gst_c (by decide), if_neg cw2, if_pos cl, el]
      by_cases c : k = l
      · rw [if_pos c, c]; exact gst_s
      · rw [if_neg c, gst_k c]
    refine ⟨by omega, by omega, fun k hk => ?_, fun s hk => ?_, fun s hk => ?_, fun k hk => ?_⟩
    · rw [e11]
      by_cases c : (k : Int) < T 10 0
      · rw [f4 k c]; exact h3 k c
      · rw [show k = (T 10 0).toNat from by omega, f4n]; exact ⟨hw, hs⟩
    · rw [e8]
      rcases h4 s (by omega) with ⟨a, b⟩ | ⟨j, a, b, c2, d⟩
      · refine Or.inl ⟨a, fun k hk2 e => ?_⟩
        by_cases c3 : (k : Int) < T 10 0
        · rw [f4 k c3] at e; exact b k c3 e
        · rw [show k = (T 10 0).toNat from by omega, f4n] at e
          exact b l hl2 (hl3.trans e)
      · exact Or.inr ⟨j, a, by omega, by rw [f4 j b]; exact c2, fun k hk2 e => d k hk2 (by rw [f4 k (by omega)] at e; exact e)⟩
    · rw [e15]
      by_cases c : s = w.toNat
      · rw [if_pos c]
        exact Or.inr ⟨(T 10 0).toNat, by omega, by omega, by rw [f4n]; omega, fun k hk2 hk3 => by omega⟩
      · rw [if_neg c]
        rcases h5 s (by omega) with ⟨a, b⟩ | ⟨j, a, b, c2, d⟩
        · refine Or.inl ⟨a, fun k hk2 e => ?_⟩
          by_cases c3 : (k : Int) < T 10 0
          · rw [f4 k c3] at e; exact b k c3 e
          · rw [show k = (T 10 0).toNat from by omega, f4n] at e; omega
        · refine Or.inr ⟨j, a, by omega, by rw [f4 j b]; exact c2, fun k hk2 hk3 e => ?_⟩
          by_cases c3 : (k : Int) < T 10 0
          · rw [f4 k c3] at e; exact d k hk2 c3 e
          · rw [show k = (T 10 0).toNat from by omega, f4n] at e; omega
    · rw [e5]
      by_cases c : (k : Int) < T 10 0
      · by_cases ck : k = l
        · rw [if_pos ck]
          refine Or.inr ⟨(T 10 0).toNat, by omega, by omega, by omega, by rw [f4n, f4 k c, ck, hl3], fun i hi hi2 e => ?_⟩
          rw [f4 k c, f4 i (by omega), ck, hl3] at e
          exact hl4 i (by omega) (by omega) e
        · rw [if_neg ck, q5 k c]
          rcases h6 k c with ⟨a, b⟩ | ⟨j, a, b, c2, d, g⟩
          · refine Or.inl ⟨a, fun j hj hj2 e => ?_⟩
            rw [f4 k c] at e
            by_cases c3 : (j : Int) < T 10 0
            · rw [f4 j c3] at e; exact b j hj c3 e
            · rw [show j = (T 10 0).toNat from by omega, f4n] at e
              by_cases c5 : k < l
              · exact b l c5 hl2 (hl3.trans e)
              · exact hl4 k (by omega) c e.symm
          · refine Or.inr ⟨j, a, b, by omega, by rw [f4 j c2, f4 k c]; exact d, fun i hi hi2 e => ?_⟩
            rw [f4 k c, f4 i (by omega)] at e
            exact g i hi hi2 e
      · rw [if_neg (by omega), show k = (T 10 0).toNat from by omega, r5]
        exact Or.inl ⟨rfl, fun j hj hj2 => by omega⟩
theorem fF_no {s key : Int} : ∀ (f : Nat) (k : Int), 0 ≤ k → k + f ≤ T 10 0 → (∀ j : Nat, k ≤ j → (j : Int) < k + f → ¬ (T 4 j = s ∧ T 0 j = key)) → fF T s key f k = -1 := by
  intro f
  induction f with
  | zero => intro k _ _ _; rfl
  | succ f ih =>
    intro k h0 h1 h2
    have q := h2 k.toNat (by omega) (by omega)
    refine (if_neg q).trans (ih (k + 1) (by omega) (by omega) (fun j h3 h4 => h2 j (by omega) (by omega)))
theorem fF_sk {s key : Int} : ∀ (g f : Nat) (k : Int), 0 ≤ k → g ≤ f → (∀ j : Nat, k ≤ j → (j : Int) < k + g → ¬ (T 4 j = s ∧ T 0 j = key)) → fF T s key f k = fF T s key (f - g) (k + g) := by
  intro g
  induction g with
  | zero => intro f k _ _ _; rw [show k + ((0 : Nat) : Int) = k from by omega]; rfl
  | succ g ih =>
    intro f k h0 h1 h2
    obtain ⟨m, rfl⟩ : ∃ m : Nat, f = m + 1 := ⟨f - 1, by omega⟩
    have q := h2 k.toNat (by omega) (by omega)
    have z := ih m (k + 1) (by omega) (by omega) (fun j h3 h4 => h2 j (by omega) (by omega))
    refine (if_neg q).trans (z.trans ?_)
    rw [show m + 1 - (g + 1) = m - g from by omega, show k + 1 + (g : Int) = k + ((g + 1 : Nat) : Int) from by omega]
theorem tFc_k {s key : Int} (h : cI T) (hb : T 10 0 ≤ 1501) : ∀ (f : Nat) (k : Nat), (k : Int) < T 10 0 → T 4 k = s → T 10 0 - k ≤ (f : Int) → tFind (T 0) (T 5) (T 10 0) key f k = fF T s key (T 10 0 - k).toNat k := by
  intro f
  induction f with
  | zero => intro k h1 _ h3; omega
  | succ f ih =>
    intro k h1 h2 h3
    have e1 : tFind (T 0) (T 5) (T 10 0) key (f + 1) k = if 0 ≤ (k : Int) ∧ (k : Int) < T 10 0 then (if T 0 (k : Int).toNat = key then (k : Int) else tFind (T 0) (T 5) (T 10 0) key f (T 5 (k : Int).toNat)) else -1 := rfl
    rw [e1, if_pos ⟨by omega, h1⟩]
    have ek : (k : Int).toNat = k := by omega
    rw [ek]
    obtain ⟨m, hm⟩ : ∃ m : Nat, (T 10 0 - k).toNat = m + 1 := ⟨(T 10 0 - k).toNat - 1, by omega⟩
    have e2 : fF T s key (m + 1) k = if T 4 (k : Int).toNat = s ∧ T 0 (k : Int).toNat = key then (k : Int) else fF T s key m ((k : Int) + 1) := rfl
    rw [hm, e2, ek]
    by_cases c : T 0 k = key
    · rw [if_pos c, if_pos ⟨h2, c⟩]
    · rw [if_neg c, if_neg (fun z => c z.2)]
      rcases h.2.2.2.2.2 k h1 with ⟨a, b⟩ | ⟨j, a, b, c2, d, g⟩
      · rw [a, fF_no m _ (by omega) (by omega) (fun j h4 h5 h6 => b j (by omega) (by omega) (by rw [h2]; exact h6.1))]
        cases f with
        | zero => rfl
        | succ f => exact if_neg (fun z => by have := z.1; omega)
      · rw [a, ih j c2 (d.trans h2) (by omega)]
        have z := fF_sk (T := T) (s := s) (key := key) (j - k - 1) m ((k : Int) + 1) (by omega) (by omega) (fun i h4 h5 h6 => g i (by omega) (by omega) (by rw [h2]; exact h6.1))
        rw [z, show m - (j - k - 1) = (T 10 0 - (j : Int)).toNat from by omega, show (k : Int) + 1 + ((j - k - 1 : Nat) : Int) = (j : Int) from by omega]
theorem tFc_s {key : Int} {s : Nat} (h : cI T) (hb : T 10 0 ≤ 1501) (hs : (s : Int) < T 11 0) : tFind (T 0) (T 5) (T 10 0) key 1501 (T 8 s) = fF T s key (T 10 0).toNat 0 := by
  have h0 := h.1
  rcases h.2.2.2.1 s hs with ⟨a, b⟩ | ⟨j, a, b, c, d⟩
  · rw [a, fF_no _ _ (by omega) (by omega) (fun k h4 h5 h6 => b k (by omega) h6.1)]
    exact if_neg (fun z => by have := z.1; omega)
  · rw [a, tFc_k h hb 1501 j b c (by omega)]
    have z := fF_sk (T := T) (s := s) (key := key) j (T 10 0).toNat 0 (by omega) (by omega) (fun i h4 h5 h6 => d i (by omega) h6.1)
    rw [z, show (T 10 0).toNat - j = (T 10 0 - (j : Int)).toNat from by omega, show (0 : Int) + (j : Int) = j from by omega]
end
