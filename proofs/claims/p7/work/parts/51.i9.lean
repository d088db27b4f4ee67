def tAs (T : gV) (A : List gE) : Prop := T 10 0 = (A.length : Int) ∧ ∀ (k : Nat) (e : gE), A[k]? = some e → T 4 k = hmE e ∧ (T 1 k = 5 ↔ kdE e = 5)
section
variable {pl : Int → Int} {A : List gE} {T U : gV}
theorem tAs_e (h : tAs T A) (h10 : U 10 0 = T 10 0) (h4 : ∀ k, U 4 k = T 4 k) (h1 : ∀ k, U 1 k = T 1 k) : tAs U A := ⟨h10.trans h.1, fun k e he => by rw [h4, h1]; exact h.2 k e he⟩
theorem tAs_s : ∀ (v : gE) (x : gW) (A : List gE), tAs x.1 A → (v.1 = 7 → ¬ kdE v = 5) → tAs (gRn1 pl x v).1 (if v.1 = 0 then A ++ [v] else A) := by
  rintro ⟨c, a1, a2, a3, a4, a5⟩ ⟨T, sw⟩ A h h7
  match c, h7 with
  | 0, _ =>
    show tAs (rDcl T a1 (pl a2) a3 a4 a5) (A ++ [(0, a1, a2, a3, a4, a5)])
    obtain ⟨d10, d11, dk, d1, d2, d3, d4, d6, d13, d12, d7, d9⟩ := rD_at (T := T) (key := a1) (pl := pl a2) (kind := a3) (tp := a4) (w := a5)
    have h : tAs T A := h
    have e := h.1
    refine ⟨?_, fun k e he => ?_⟩
    · rw [d10, h.1, List.length_append]
      rfl
    · by_cases q : k < A.length
      · rw [List.getElem?_append_left q] at he
        rw [dk 4 k (by decide) (by decide) (by decide) (by decide) (by omega), dk 1 k (by decide) (by decide) (by decide) (by decide) (by omega)]
        exact h.2 k e he
      · rw [List.getElem?_append_right (by omega)] at he
        have k0 : k - A.length = 0 := by
          by_cases z : k - A.length = 0
          · exact z
          · obtain ⟨m, hm⟩ : ∃ m, k - A.length = m + 1 := ⟨k - A.length - 1, by omega⟩
            rw [hm] at he
            cases he
        rw [k0] at he
        cases he
        rw [show k = (T 10 0).toNat from by omega, d4, d1]
        exact ⟨rfl, Iff.rfl⟩
  | 1, _ => exact tAs_e (T := T) h rfl (fun _ => rfl) (fun _ => rfl)
  | 2, _ =>
    show tAs (rOpn T a1 (sPr T a1)) A
    exact tAs_e (T := T) h (rOpn_o 10 (by decide) (by decide) (by decide) (by decide) (by decide) 0) (fun k => rOpn_o 4 (by decide) (by decide) (by decide) (by decide) (by decide) k) (fun k => rOpn_o 1 (by decide) (by decide) (by decide) (by decide) (by decide) k)
  | 3, _ =>
    show tAs (rOpn (gst T 6 (T 10 0 - 1).toNat (T 11 0)) a1 (T 10 0 - 1)) A
    exact tAs_e (T := gst T 6 (T 10 0 - 1).toNat (T 11 0)) (tAs_e (T := T) h rfl (fun _ => rfl) (fun _ => rfl)) (rOpn_o 10 (by decide) (by decide) (by decide) (by decide) (by decide) 0) (fun k => rOpn_o 4 (by decide) (by decide) (by decide) (by decide) (by decide) k) (fun k => rOpn_o 1 (by decide) (by decide) (by decide) (by decide) (by decide) k)
  | 4, _ =>
    show tAs (rDim T a1 a2) A
    exact tAs_e (T := T) h (rDim_o (by decide)) (fun k => rDim_o (by decide)) (fun k => rDim_o (by decide))
  | 5, _ => exact tAs_e (T := T) h rfl (fun _ => rfl) (fun _ => rfl)
  | 6, _ =>
    show tAs (if rPar T a1 a3 < 0 ∨ 0 ≤ gG (T 13) (T 10 0) (-1) (rPar T a1 a3) then (T, min sw (pl a2)) else (gst T 13 (rPar T a1 a3).toNat (pl a2), sw)).1 A
    by_cases c1 : rPar T a1 a3 < 0 ∨ 0 ≤ gG (T 13) (T 10 0) (-1) (rPar T a1 a3)
    · rw [if_pos c1]
      exact h
    · rw [if_neg c1]
      exact tAs_e (T := T) h rfl (fun _ => rfl) (fun _ => rfl)
  | 7, h7 =>
    have h7 : ¬ a3 = 5 := h7 rfl
    show tAs (if rPar T a1 a5 < 0 ∨ ¬ nK T (rPar T a1 a5) = 0 then (T, min sw (pl a2)) else (gst (gst T 1 (rPar T a1 a5).toNat a3) 2 (rPar T a1 a5).toNat a4, _)).1 A
    have h : tAs T A := h
    by_cases c1 : rPar T a1 a5 < 0 ∨ ¬ nK T (rPar T a1 a5) = 0
    · rw [if_pos c1]
      exact h
    · rw [if_neg c1]
      refine tAs_e (T := gst T 1 (rPar T a1 a5).toNat a3) ?_ rfl (fun _ => rfl) (fun _ => rfl)
      refine ⟨h.1, fun k e he => ⟨(h.2 k e he).1, ?_⟩⟩
      by_cases q : k = (rPar T a1 a5).toNat
      · rw [q, gst_s]
        have g := h.2 k e he
        have hk : k < A.length := (List.getElem?_eq_some_iff.mp he).1
        have e10 := h.1
        have nk : nK T (rPar T a1 a5) = 0 := Classical.not_not.mp (fun z => c1 (Or.inr z))
        unfold nK at nk
        rw [gG_i (by omega) (by omega), ← q] at nk
        rw [nk] at g
        exact ⟨fun z => absurd z h7, fun z => absurd (g.2.mpr z) (by decide)⟩
      · rw [gst_k q]
        exact (h.2 k e he).2
  | n + 8, _ => exact h
theorem tAs_r : ∀ (vs : List gE) (x : gW) (A : List gE), tAs x.1 A → (∀ v ∈ vs, v.1 = 7 → ¬ kdE v = 5) → tAs (gRun pl vs x).1 (A ++ vs.filter (fun v => decide (v.1 = 0))) := by
  intro vs
  induction vs with
  | nil =>
    intro x A h _
    rw [List.filter_nil, List.append_nil]
    exact h
  | cons v vs ih =>
    intro x A h h7
    have z := tAs_s (pl := pl) v x A h (h7 v List.mem_cons_self)
    have y := ih (gRn1 pl x v) _ z (fun u hu => h7 u (List.mem_cons_of_mem _ hu))
    show tAs (gRun pl vs (gRn1 pl x v)).1 _
    by_cases c : v.1 = 0
    · rw [if_pos c, List.append_assoc] at y
      rw [List.filter_cons_of_pos (by exact decide_eq_true c)]
      exact y
    · rw [if_neg c] at y
      rw [List.filter_cons_of_neg (by exact fun q => c (of_decide_eq_true q))]
      exact y
def labO (T : gV) : Prop := ∀ k1 k2 : Nat, k1 < k2 → (k2 : Int) < T 10 0 → T 4 k1 = T 4 k2 → T 1 k1 = 5 → T 1 k2 = 5
theorem labO_of {E : List gE} {sw : Int} (hl : lOr E) (h7 : ∀ v ∈ E, v.1 = 7 → ¬ kdE v = 5) (h0 : T 10 0 = 0) : labO (gRun pl E (T, sw)).1 := by
  have z := tAs_r (pl := pl) E (T, sw) [] ⟨h0, fun k e he => by cases he⟩ h7
  rw [List.nil_append] at z
  have p : (E.filter (fun v => decide (v.1 = 0))).Pairwise _ := List.Pairwise.filter (fun v : gE => decide (v.1 = 0)) hl
  intro k1 k2 h1 h2 h3 h4
  have e := z.1
  have l2 : k2 < (E.filter (fun v => decide (v.1 = 0))).length := by omega
  have g1 := z.2 k1 _ (List.getElem?_eq_getElem (show k1 < (E.filter (fun v => decide (v.1 = 0))).length by omega))
  have g2 := z.2 k2 _ (List.getElem?_eq_getElem l2)
  have q := List.pairwise_iff_getElem.mp p k1 k2 (by omega) l2 h1
  have m1 := of_decide_eq_true (List.mem_filter.mp (List.getElem_mem (show k1 < (E.filter (fun v => decide (v.1 = 0))).length by omega))).2
  have m2 := of_decide_eq_true (List.mem_filter.mp (List.getElem_mem l2)).2
  exact g2.2.mpr (q m1 m2 (by rw [← g1.1, ← g2.1]; exact h3) (g1.2.mp h4))
theorem labO_p {kd ky : Int → Int} {L : Int} {a : Int × Int × Int × gB} {sw : Int} (h : gPrg kd ky L = some a) (h0 : T 10 0 = 0) : labO (gRun pl a.2.2.2.2.1 (T, sw)).1 := labO_of (lSt_prg h).2 (fun v hv => ((lSt_prg h).1 v hv).2) h0
end
