section
variable {pl : Int → Int}
theorem gRn_c : ∀ (v : gE) (x : gW), opn v = [] → (gRn1 pl x v).1 11 0 = x.1 11 0 ∧ ∀ k, (gRn1 pl x v).1 7 k = x.1 7 k := by
  rintro ⟨c, a1, a2, a3, a4, a5⟩ ⟨T, sw⟩ h
  match c, h with
  | 0, _ =>
    have key : ∀ (n : Nat) (k : Nat), (n = 11 ∨ n = 7) → (gst (rChn (rRow T a1 (pl a2) a3 a4 a5) a5 (T 10 0)) 15 a5.toNat (T 10 0)) n k = T n k := by
      intro n k hn
      unfold rChn
      have e0 : ∀ (U : gV) (c j : Nat) (x : Int), (c = 15 ∨ c = 8 ∨ c = 5) → gst U c j x n k = U n k := fun U c j x hc => by
        unfold gst
        rw [if_neg (by omega)]
      have e1 : rRow T a1 (pl a2) a3 a4 a5 n k = T n k := by
        rcases hn with rfl | rfl <;> rfl
      rw [e0 _ 15 _ _ (by omega)]
      by_cases c1 : rRow T a1 (pl a2) a3 a4 a5 8 a5.toNat < 0
      · rw [if_pos c1, e0 _ 8 _ _ (by omega), e1]
      · rw [if_neg c1]
        by_cases c2 : 0 ≤ rRow T a1 (pl a2) a3 a4 a5 15 a5.toNat ∧ rRow T a1 (pl a2) a3 a4 a5 15 a5.toNat < rRow T a1 (pl a2) a3 a4 a5 10 0
        · rw [if_pos c2, e0 _ 5 _ _ (by omega), e1]
        · rw [if_neg c2, e1]
    exact ⟨key 11 0 (Or.inl rfl), fun k => key 7 k (Or.inr rfl)⟩
  | 1, _ => exact ⟨rfl, fun _ => rfl⟩
  | 2, h => exact absurd h (by show ¬ [a1] = []; simp)
  | 3, h => exact absurd h (by show ¬ [a1] = []; simp)
  | 4, _ =>
    have key : ∀ (n k : Nat), (n = 11 ∨ n = 7) → rDim T a1 a2 n k = T n k := fun n k hn => by
      unfold rDim
      rw [if_neg (by omega)]
    exact ⟨key 11 0 (Or.inl rfl), fun k => key 7 k (Or.inr rfl)⟩
  | 5, _ => exact ⟨rfl, fun _ => rfl⟩
  | 6, _ =>
    show (if rPar T a1 a3 < 0 ∨ 0 ≤ gG (T 13) (T 10 0) (-1) (rPar T a1 a3) then (T, min sw (pl a2)) else (gst T 13 (rPar T a1 a3).toNat (pl a2), sw)).1 11 0 = T 11 0 ∧ ∀ k, (if rPar T a1 a3 < 0 ∨ 0 ≤ gG (T 13) (T 10 0) (-1) (rPar T a1 a3) then (T, min sw (pl a2)) else (gst T 13 (rPar T a1 a3).toNat (pl a2), sw)).1 7 k = T 7 k
    by_cases c1 : rPar T a1 a3 < 0 ∨ 0 ≤ gG (T 13) (T 10 0) (-1) (rPar T a1 a3)
    · rw [if_pos c1]; exact ⟨rfl, fun _ => rfl⟩
    · rw [if_neg c1]; exact ⟨rfl, fun _ => rfl⟩
  | 7, _ =>
    show (if rPar T a1 a5 < 0 ∨ ¬ nK T (rPar T a1 a5) = 0 then (T, min sw (pl a2)) else (gst (gst T 1 (rPar T a1 a5).toNat a3) 2 (rPar T a1 a5).toNat a4, if ¬ a3 = 6 ∧ 0 ≤ gG (T 13) (T 10 0) (-1) (rPar T a1 a5) then min sw (gG (T 13) (T 10 0) (-1) (rPar T a1 a5)) else sw)).1 11 0 = T 11 0 ∧ ∀ k, (if rPar T a1 a5 < 0 ∨ ¬ nK T (rPar T a1 a5) = 0 then (T, min sw (pl a2)) else (gst (gst T 1 (rPar T a1 a5).toNat a3) 2 (rPar T a1 a5).toNat a4, if ¬ a3 = 6 ∧ 0 ≤ gG (T 13) (T 10 0) (-1) (rPar T a1 a5) then min sw (gG (T 13) (T 10 0) (-1) (rPar T a1 a5)) else sw)).1 7 k = T 7 k
    by_cases c1 : rPar T a1 a5 < 0 ∨ ¬ nK T (rPar T a1 a5) = 0
    · rw [if_pos c1]; exact ⟨rfl, fun _ => rfl⟩
    · rw [if_neg c1]; exact ⟨rfl, fun _ => rfl⟩
  | n + 8, _ => exact ⟨rfl, fun _ => rfl⟩
theorem gst_7 {T : gV} {c i k : Nat} {x : Int} (h : ¬ c = 7) : gst T c i x 7 k = T 7 k := by
  unfold gst
  rw [if_neg (by omega)]
theorem rOpn_7 {T : gV} {w p : Int} {k : Nat} : rOpn T w p 7 k = if k = (T 11 0).toNat then w else T 7 k := by
  have e : rOpn T w p 7 k = gst T 7 (T 11 0).toNat w 7 k := rfl
  rw [e]
  unfold gst
  by_cases h : k = (T 11 0).toNat
  · rw [if_pos ⟨rfl, h⟩, if_pos h]
  · rw [if_neg (fun q => h q.2), if_neg h]
theorem rOpn_11 {T : gV} {w p : Int} : rOpn T w p 11 0 = T 11 0 + 1 := rfl
theorem gRn_o : ∀ (v : gE) (x : gW) (w : Int), opn v = [w] → (gRn1 pl x v).1 11 0 = x.1 11 0 + 1 ∧ ∀ k, (gRn1 pl x v).1 7 k = if k = (x.1 11 0).toNat then w else x.1 7 k := by
  rintro ⟨c, a1, a2, a3, a4, a5⟩ ⟨T, sw⟩ w h
  have hc : c = 2 ∨ c = 3 := by
    by_cases hc : c = 2 ∨ c = 3
    · exact hc
    · have h : (if c = 2 ∨ c = 3 then [a1] else []) = [w] := h
      rw [if_neg hc] at h
      cases h
  have h : (if c = 2 ∨ c = 3 then [a1] else []) = [w] := h
  rw [if_pos hc] at h
  have e : a1 = w := by cases h; rfl
  subst e
  rcases hc with rfl | rfl
  · show rOpn T a1 (sPr T a1) 11 0 = T 11 0 + 1 ∧ ∀ k, rOpn T a1 (sPr T a1) 7 k = _
    exact ⟨rOpn_11, fun k => rOpn_7⟩
  · show rOpn (gst T 6 (T 10 0 - 1).toNat (T 11 0)) a1 (T 10 0 - 1) 11 0 = T 11 0 + 1 ∧ ∀ k, rOpn (gst T 6 (T 10 0 - 1).toNat (T 11 0)) a1 (T 10 0 - 1) 7 k = _
    exact ⟨rOpn_11, fun k => rOpn_7⟩
theorem opn_c (v : gE) : opn v = [] ∨ ∃ w, opn v = [w] := by
  unfold opn
  by_cases h : v.1 = 2 ∨ v.1 = 3
  · rw [if_pos h]; exact Or.inr ⟨v.2.1, rfl⟩
  · rw [if_neg h]; exact Or.inl rfl
theorem gRun_p : ∀ (vs : List gE) (x : gW), 0 ≤ x.1 11 0 → (gRun pl vs x).1 11 0 = x.1 11 0 + ((opns vs).length : Int) ∧ (∀ k : Nat, (k : Int) < x.1 11 0 → (gRun pl vs x).1 7 k = x.1 7 k) ∧ okPar (gRun pl vs x).1 (opns vs) (x.1 11 0) := by
  intro vs
  induction vs with
  | nil => intro x h; exact ⟨by show x.1 11 0 = x.1 11 0 + ((0 : Nat) : Int); omega, fun _ _ => rfl, trivial⟩
  | cons v vs ih =>
    intro x h
    have e : gRun pl (v :: vs) x = gRun pl vs (gRn1 pl x v) := rfl
    have eo : opns (v :: vs) = opn v ++ opns vs := rfl
    rw [e, eo]
    rcases opn_c v with hv | ⟨w, hv⟩
    · have z := gRn_c (pl := pl) v x hv
      have y := ih (gRn1 pl x v) (by rw [z.1]; exact h)
      rw [z.1] at y
      rw [hv]
      exact ⟨y.1, fun k hk => (y.2.1 k hk).trans (z.2 k), y.2.2⟩
    · have z := gRn_o (pl := pl) v x w hv
      have y := ih (gRn1 pl x v) (by rw [z.1]; omega)
      rw [z.1] at y
      rw [hv]
      refine ⟨?_, fun k hk => ?_, ?_, ?_, y.2.2⟩
      · show _ = x.1 11 0 + (((opns vs).length + 1 : Nat) : Int)
        rw [y.1]
        omega
      · rw [y.2.1 k (by omega), z.2 k, if_neg (by omega)]
      · rw [y.1]
        omega
      · rw [y.2.1 _ (by omega), z.2, if_pos rfl]
end
