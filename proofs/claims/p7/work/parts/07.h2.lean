section
variable {f13 : Nat → Int64} {f14 f15 f16 f17 f18 f19 f20 f21 f22 f23 f24 f25 f26 : Nat → Int32} {bn sn bn' sn' v : Int32} {vl : Int64} {i : Nat} {x : Int}
theorem upd_t {f : Nat → Int32} {k : Nat} : (upd f i v k).toInt = if k = i then v.toInt else (f k).toInt := by
  unfold upd
  split <;> rfl
theorem upl_t {f : Nat → Int64} {k : Nat} : (vp_updL f i vl k).toInt = if k = i then vl.toInt else (f k).toInt := by
  unfold vp_updL
  split <;> rfl
theorem eT_m0 : ∀ c : Nat, ¬ c = 0 → eT (vp_updL f13 i vl) f14 f15 f16 f17 f18 f19 f20 f21 f22 f23 f24 f25 f26 bn sn c = eT f13 f14 f15 f16 f17 f18 f19 f20 f21 f22 f23 f24 f25 f26 bn sn c := by
  intro c h
  unfold eT
  split <;> first | rfl | exact absurd rfl h
theorem eT_u0 : eT (vp_updL f13 i vl) f14 f15 f16 f17 f18 f19 f20 f21 f22 f23 f24 f25 f26 bn sn = gst (eT f13 f14 f15 f16 f17 f18 f19 f20 f21 f22 f23 f24 f25 f26 bn sn) 0 i vl.toInt := by
  funext c k
  unfold gst
  by_cases hc : c = 0
  · subst hc
    show ((vp_updL f13 i vl) k).toInt = if 0 = 0 ∧ k = i then vl.toInt else (f13 k).toInt
    rw [upl_t]
    by_cases hk : k = i
    · rw [if_pos hk, if_pos ⟨rfl, hk⟩]
    · rw [if_neg hk, if_neg (fun q => hk q.2)]
  · rw [if_neg (fun q => hc q.1), eT_m0 c hc]
theorem eT_m1 : ∀ c : Nat, ¬ c = 1 → eT f13 (upd f14 i v) f15 f16 f17 f18 f19 f20 f21 f22 f23 f24 f25 f26 bn sn c = eT f13 f14 f15 f16 f17 f18 f19 f20 f21 f22 f23 f24 f25 f26 bn sn c := by
  intro c h
  unfold eT
  split <;> first | rfl | exact absurd rfl h
theorem eT_u1 : eT f13 (upd f14 i v) f15 f16 f17 f18 f19 f20 f21 f22 f23 f24 f25 f26 bn sn = gst (eT f13 f14 f15 f16 f17 f18 f19 f20 f21 f22 f23 f24 f25 f26 bn sn) 1 i v.toInt := by
  funext c k
  unfold gst
  by_cases hc : c = 1
  · subst hc
    show ((upd f14 i v) k).toInt = if 1 = 1 ∧ k = i then v.toInt else (f14 k).toInt
    rw [upd_t]
    by_cases hk : k = i
    · rw [if_pos hk, if_pos ⟨rfl, hk⟩]
    · rw [if_neg hk, if_neg (fun q => hk q.2)]
  · rw [if_neg (fun q => hc q.1), eT_m1 c hc]
theorem eT_m2 : ∀ c : Nat, ¬ c = 2 → eT f13 f14 (upd f15 i v) f16 f17 f18 f19 f20 f21 f22 f23 f24 f25 f26 bn sn c = eT f13 f14 f15 f16 f17 f18 f19 f20 f21 f22 f23 f24 f25 f26 bn sn c := by
  intro c h
  unfold eT
  split <;> first | rfl | exact absurd rfl h
theorem eT_u2 : eT f13 f14 (upd f15 i v) f16 f17 f18 f19 f20 f21 f22 f23 f24 f25 f26 bn sn = gst (eT f13 f14 f15 f16 f17 f18 f19 f20 f21 f22 f23 f24 f25 f26 bn sn) 2 i v.toInt := by
  funext c k
  unfold gst
  by_cases hc : c = 2
  · subst hc
    show ((upd f15 i v) k).toInt = if 2 = 2 ∧ k = i then v.toInt else (f15 k).toInt
    rw [upd_t]
    by_cases hk : k = i
    · rw [if_pos hk, if_pos ⟨rfl, hk⟩]
    · rw [if_neg hk, if_neg (fun q => hk q.2)]
  · rw [if_neg (fun q => hc q.1), eT_m2 c hc]
theorem eT_m3 : ∀ c : Nat, ¬ c = 3 → eT f13 f14 f15 (upd f16 i v) f17 f18 f19 f20 f21 f22 f23 f24 f25 f26 bn sn c = eT f13 f14 f15 f16 f17 f18 f19 f20 f21 f22 f23 f24 f25 f26 bn sn c := by
  intro c h
  unfold eT
  split <;> first | rfl | exact absurd rfl h
theorem eT_u3 : eT f13 f14 f15 (upd f16 i v) f17 f18 f19 f20 f21 f22 f23 f24 f25 f26 bn sn = gst (eT f13 f14 f15 f16 f17 f18 f19 f20 f21 f22 f23 f24 f25 f26 bn sn) 3 i v.toInt := by
  funext c k
  unfold gst
  by_cases hc : c = 3
  · subst hc
    show ((upd f16 i v) k).toInt = if 3 = 3 ∧ k = i then v.toInt else (f16 k).toInt
    rw [upd_t]
    by_cases hk : k = i
    · rw [if_pos hk, if_pos ⟨rfl, hk⟩]
    · rw [if_neg hk, if_neg (fun q => hk q.2)]
  · rw [if_neg (fun q => hc q.1), eT_m3 c hc]
theorem eT_m12 : ∀ c : Nat, ¬ c = 12 → eT f13 f14 f15 f16 (upd f17 i v) f18 f19 f20 f21 f22 f23 f24 f25 f26 bn sn c = eT f13 f14 f15 f16 f17 f18 f19 f20 f21 f22 f23 f24 f25 f26 bn sn c := by
  intro c h
  unfold eT
  split <;> first | rfl | exact absurd rfl h
theorem eT_u12 : eT f13 f14 f15 f16 (upd f17 i v) f18 f19 f20 f21 f22 f23 f24 f25 f26 bn sn = gst (eT f13 f14 f15 f16 f17 f18 f19 f20 f21 f22 f23 f24 f25 f26 bn sn) 12 i v.toInt := by
  funext c k
  unfold gst
  by_cases hc : c = 12
  · subst hc
    show ((upd f17 i v) k).toInt = if 12 = 12 ∧ k = i then v.toInt else (f17 k).toInt
    rw [upd_t]
    by_cases hk : k = i
    · rw [if_pos hk, if_pos ⟨rfl, hk⟩]
    · rw [if_neg hk, if_neg (fun q => hk q.2)]
  · rw [if_neg (fun q => hc q.1), eT_m12 c hc]
theorem eT_m4 : ∀ c : Nat, ¬ c = 4 → eT f13 f14 f15 f16 f17 (upd f18 i v) f19 f20 f21 f22 f23 f24 f25 f26 bn sn c = eT f13 f14 f15 f16 f17 f18 f19 f20 f21 f22 f23 f24 f25 f26 bn sn c := by
  intro c h
  unfold eT
  split <;> first | rfl | exact absurd rfl h
theorem eT_u4 : eT f13 f14 f15 f16 f17 (upd f18 i v) f19 f20 f21 f22 f23 f24 f25 f26 bn sn = gst (eT f13 f14 f15 f16 f17 f18 f19 f20 f21 f22 f23 f24 f25 f26 bn sn) 4 i v.toInt := by
  funext c k
  unfold gst
  by_cases hc : c = 4
  · subst hc
    show ((upd f18 i v) k).toInt = if 4 = 4 ∧ k = i then v.toInt else (f18 k).toInt
    rw [upd_t]
    by_cases hk : k = i
    · rw [if_pos hk, if_pos ⟨rfl, hk⟩]
    · rw [if_neg hk, if_neg (fun q => hk q.2)]
  · rw [if_neg (fun q => hc q.1), eT_m4 c hc]
theorem eT_m5 : ∀ c : Nat, ¬ c = 5 → eT f13 f14 f15 f16 f17 f18 (upd f19 i v) f20 f21 f22 f23 f24 f25 f26 bn sn c = eT f13 f14 f15 f16 f17 f18 f19 f20 f21 f22 f23 f24 f25 f26 bn sn c := by
  intro c h
  unfold eT
  split <;> first | rfl | exact absurd rfl h
theorem eT_u5 : eT f13 f14 f15 f16 f17 f18 (upd f19 i v) f20 f21 f22 f23 f24 f25 f26 bn sn = gst (eT f13 f14 f15 f16 f17 f18 f19 f20 f21 f22 f23 f24 f25 f26 bn sn) 5 i v.toInt := by
  funext c k
  unfold gst
  by_cases hc : c = 5
  · subst hc
    show ((upd f19 i v) k).toInt = if 5 = 5 ∧ k = i then v.toInt else (f19 k).toInt
    rw [upd_t]
    by_cases hk : k = i
    · rw [if_pos hk, if_pos ⟨rfl, hk⟩]
    · rw [if_neg hk, if_neg (fun q => hk q.2)]
  · rw [if_neg (fun q => hc q.1), eT_m5 c hc]
theorem eT_m6 : ∀ c : Nat, ¬ c = 6 → eT f13 f14 f15 f16 f17 f18 f19 (upd f20 i v) f21 f22 f23 f24 f25 f26 bn sn c = eT f13 f14 f15 f16 f17 f18 f19 f20 f21 f22 f23 f24 f25 f26 bn sn c := by
  intro c h
  unfold eT
  split <;> first | rfl | exact absurd rfl h
theorem eT_u6 : eT f13 f14 f15 f16 f17 f18 f19 (upd f20 i v) f21 f22 f23 f24 f25 f26 bn sn = gst (eT f13 f14 f15 f16 f17 f18 f19 f20 f21 f22 f23 f24 f25 f26 bn sn) 6 i v.toInt := by
  funext c k
  unfold gst
  by_cases hc : c = 6
  · subst hc
    show ((upd f20 i v) k).toInt = if 6 = 6 ∧ k = i then v.toInt else (f20 k).toInt
    rw [upd_t]
    by_cases hk : k = i
    · rw [if_pos hk, if_pos ⟨rfl, hk⟩]
    · rw [if_neg hk, if_neg (fun q => hk q.2)]
  · rw [if_neg (fun q => hc q.1), eT_m6 c hc]
theorem eT_m13 : ∀ c : Nat, ¬ c = 13 → eT f13 f14 f15 f16 f17 f18 f19 f20 (upd f21 i v) f22 f23 f24 f25 f26 bn sn c = eT f13 f14 f15 f16 f17 f18 f19 f20 f21 f22 f23 f24 f25 f26 bn sn c := by
  intro c h
  unfold eT
  split <;> first | rfl | exact absurd rfl h
theorem eT_u13 : eT f13 f14 f15 f16 f17 f18 f19 f20 (upd f21 i v) f22 f23 f24 f25 f26 bn sn = gst (eT f13 f14 f15 f16 f17 f18 f19 f20 f21 f22 f23 f24 f25 f26 bn sn) 13 i v.toInt := by
  funext c k
  unfold gst
  by_cases hc : c = 13
  · subst hc
    show ((upd f21 i v) k).toInt = if 13 = 13 ∧ k = i then v.toInt else (f21 k).toInt
    rw [upd_t]
    by_cases hk : k = i
    · rw [if_pos hk, if_pos ⟨rfl, hk⟩]
    · rw [if_neg hk, if_neg (fun q => hk q.2)]
  · rw [if_neg (fun q => hc q.1), eT_m13 c hc]
theorem eT_m14 : ∀ c : Nat, ¬ c = 14 → eT f13 f14 f15 f16 f17 f18 f19 f20 f21 (upd f22 i v) f23 f24 f25 f26 bn sn c = eT f13 f14 f15 f16 f17 f18 f19 f20 f21 f22 f23 f24 f25 f26 bn sn c := by
  intro c h
  unfold eT
  split <;> first | rfl | exact absurd rfl h
theorem eT_u14 : eT f13 f14 f15 f16 f17 f18 f19 f20 f21 (upd f22 i v) f23 f24 f25 f26 bn sn = gst (eT f13 f14 f15 f16 f17 f18 f19 f20 f21 f22 f23 f24 f25 f26 bn sn) 14 i v.toInt := by
  funext c k
  unfold gst
  by_cases hc : c = 14
  · subst hc
    show ((upd f22 i v) k).toInt = if 14 = 14 ∧ k = i then v.toInt else (f22 k).toInt
    rw [upd_t]
    by_cases hk : k = i
    · rw [if_pos hk, if_pos ⟨rfl, hk⟩]
    · rw [if_neg hk, if_neg (fun q => hk q.2)]
  · rw [if_neg (fun q => hc q.1), eT_m14 c hc]
theorem eT_m7 : ∀ c : Nat, ¬ c = 7 → eT f13 f14 f15 f16 f17 f18 f19 f20 f21 f22 (upd f23 i v) f24 f25 f26 bn sn c = eT f13 f14 f15 f16 f17 f18 f19 f20 f21 f22 f23 f24 f25 f26 bn sn c := by
  intro c h
  unfold eT
  split <;> first | rfl | exact absurd rfl h
theorem eT_u7 : eT f13 f14 f15 f16 f17 f18 f19 f20 f21 f22 (upd f23 i v) f24 f25 f26 bn sn = gst (eT f13 f14 f15 f16 f17 f18 f19 f20 f21 f22 f23 f24 f25 f26 bn sn) 7 i v.toInt := by
  funext c k
  unfold gst
  by_cases hc : c = 7
  · subst hc
    show ((upd f23 i v) k).toInt = if 7 = 7 ∧ k = i then v.toInt else (f23 k).toInt
    rw [upd_t]
    by_cases hk : k = i
    · rw [if_pos hk, if_pos ⟨rfl, hk⟩]
    · rw [if_neg hk, if_neg (fun q => hk q.2)]
  · rw [if_neg (fun q => hc q.1), eT_m7 c hc]
theorem eT_m8 : ∀ c : Nat, ¬ c = 8 → eT f13 f14 f15 f16 f17 f18 f19 f20 f21 f22 f23 (upd f24 i v) f25 f26 bn sn c = eT f13 f14 f15 f16 f17 f18 f19 f20 f21 f22 f23 f24 f25 f26 bn sn c := by
  intro c h
  unfold eT
  split <;> first | rfl | exact absurd rfl h
theorem eT_u8 : eT f13 f14 f15 f16 f17 f18 f19 f20 f21 f22 f23 (upd f24 i v) f25 f26 bn sn = gst (eT f13 f14 f15 f16 f17 f18 f19 f20 f21 f22 f23 f24 f25 f26 bn sn) 8 i v.toInt := by
  funext c k
  unfold gst
  by_cases hc : c = 8
  · subst hc
    show ((upd f24 i v) k).toInt = if 8 = 8 ∧ k = i then v.toInt else (f24 k).toInt
    rw [upd_t]
    by_cases hk : k = i
    · rw [if_pos hk, if_pos ⟨rfl, hk⟩]
    · rw [if_neg hk, if_neg (fun q => hk q.2)]
  · rw [if_neg (fun q => hc q.1), eT_m8 c hc]
theorem eT_m15 : ∀ c : Nat, ¬ c = 15 → eT f13 f14 f15 f16 f17 f18 f19 f20 f21 f22 f23 f24 (upd f25 i v) f26 bn sn c = eT f13 f14 f15 f16 f17 f18 f19 f20 f21 f22 f23 f24 f25 f26 bn sn c := by
  intro c h
  unfold eT
  split <;> first | rfl | exact absurd rfl h
theorem eT_u15 : eT f13 f14 f15 f16 f17 f18 f19 f20 f21 f22 f23 f24 (upd f25 i v) f26 bn sn = gst (eT f13 f14 f15 f16 f17 f18 f19 f20 f21 f22 f23 f24 f25 f26 bn sn) 15 i v.toInt := by
  funext c k
  unfold gst
  by_cases hc : c = 15
  · subst hc
    show ((upd f25 i v) k).toInt = if 15 = 15 ∧ k = i then v.toInt else (f25 k).toInt
    rw [upd_t]
    by_cases hk : k = i
    · rw [if_pos hk, if_pos ⟨rfl, hk⟩]
    · rw [if_neg hk, if_neg (fun q => hk q.2)]
  · rw [if_neg (fun q => hc q.1), eT_m15 c hc]
theorem eT_m9 : ∀ c : Nat, ¬ c = 9 → eT f13 f14 f15 f16 f17 f18 f19 f20 f21 f22 f23 f24 f25 (upd f26 i v) bn sn c = eT f13 f14 f15 f16 f17 f18 f19 f20 f21 f22 f23 f24 f25 f26 bn sn c := by
  intro c h
  unfold eT
  split <;> first | rfl | exact absurd rfl h
theorem eT_u9 : eT f13 f14 f15 f16 f17 f18 f19 f20 f21 f22 f23 f24 f25 (upd f26 i v) bn sn = gst (eT f13 f14 f15 f16 f17 f18 f19 f20 f21 f22 f23 f24 f25 f26 bn sn) 9 i v.toInt := by
  funext c k
  unfold gst
  by_cases hc : c = 9
  · subst hc
    show ((upd f26 i v) k).toInt = if 9 = 9 ∧ k = i then v.toInt else (f26 k).toInt
    rw [upd_t]
    by_cases hk : k = i
    · rw [if_pos hk, if_pos ⟨rfl, hk⟩]
    · rw [if_neg hk, if_neg (fun q => hk q.2)]
  · rw [if_neg (fun q => hc q.1), eT_m9 c hc]
theorem eT_m10 : ∀ c : Nat, ¬ c = 10 → eT f13 f14 f15 f16 f17 f18 f19 f20 f21 f22 f23 f24 f25 f26 bn' sn c = eT f13 f14 f15 f16 f17 f18 f19 f20 f21 f22 f23 f24 f25 f26 bn sn c := by
  intro c h
  unfold eT
  split <;> first | rfl | exact absurd rfl h
theorem eT_u10 (h : bn'.toInt = x) : eT f13 f14 f15 f16 f17 f18 f19 f20 f21 f22 f23 f24 f25 f26 bn' sn = gsc (eT f13 f14 f15 f16 f17 f18 f19 f20 f21 f22 f23 f24 f25 f26 bn sn) 10 x := by
  funext c k
  unfold gsc
  by_cases hc : c = 10
  · subst hc
    rw [if_pos rfl]
    exact h
  · rw [if_neg hc, eT_m10 c hc]
theorem eT_m11 : ∀ c : Nat, ¬ c = 11 → eT f13 f14 f15 f16 f17 f18 f19 f20 f21 f22 f23 f24 f25 f26 bn sn' c = eT f13 f14 f15 f16 f17 f18 f19 f20 f21 f22 f23 f24 f25 f26 bn sn c := by
  intro c h
  unfold eT
  split <;> first | rfl | exact absurd rfl h
theorem eT_u11 (h : sn'.toInt = x) : eT f13 f14 f15 f16 f17 f18 f19 f20 f21 f22 f23 f24 f25 f26 bn sn' = gsc (eT f13 f14 f15 f16 f17 f18 f19 f20 f21 f22 f23 f24 f25 f26 bn sn) 11 x := by
  funext c k
  unfold gsc
  by_cases hc : c = 11
  · subst hc
    rw [if_pos rfl]
    exact h
  · rw [if_neg hc, eT_m11 c hc]
end
