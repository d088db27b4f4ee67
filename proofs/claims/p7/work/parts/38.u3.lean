def gSpe (kd : Int → Int) (v : Int → gE) (i : Int) : Option (Int × gB) := (gLst kd v i b0).bind fun p => (tkn kd 39 p.1).bind fun j => some (j, p.2)
def spI (kd : Int → Int) (v : Int → gE) (G : Option (Int × gB)) (i pos m : Int) (R : gW → Prop) (pl : Int → Int) (x0 : gW) : Prop := ∃ (k : Nat) (b : gB), 3002 ≤ (k : Int) + (pos - i) ∧ ((m = 1 ∧ G = gLp kd 38 (sLs kd v) k pos b) ∨ (m = 0 ∧ G = some (pos, b))) ∧ R (gRun pl b.2.1 x0) ∧ ∀ e, ¬ b.2.2.2 e = none
def spR (F : Option (Int × gB)) (xa : Int) (R : gW → Prop) (pl : Int → Int) (x0 : gW) : Prop := ∃ a, F = some a ∧ xa = a.1 ∧ R (gRun pl a.2.2.1 x0) ∧ ∀ e, ¬ a.2.2.2.2 e = none
section
variable {kd ky pl : Int → Int} {v : Int → gE} {F G : Option (Int × gB)} {i pos pos2 m m2 : Int} {R R' : gW → Prop} {x0 : gW} {k : Nat} {b : gB}
theorem sp_0 (hR : R x0) (hp : pos = i) (hm : m = 1) : spI kd v (gLst kd v i b0) i pos m R pl x0 := by
  subst hp hm
  exact ⟨3002, b0, by omega, Or.inl ⟨rfl, rfl⟩, hR, fun e z => by cases z⟩
theorem sLs_y (hk : kd pos = 27) : sLs kd v b pos = some (pos + 1, bSq b (bEv (v pos))) := by
  unfold sLs
  rw [tk_y hk]
  rfl
theorem sLs_n (hk : ¬ kd pos = 27) : sLs kd v b pos = none := by
  unfold sLs
  rw [tk_x hk]
  rfl
theorem sp_s (h1 : 3002 ≤ (k : Int) + (pos - i)) (hG : G = gLp kd 38 (sLs kd v) k pos b) (hle : pos - i ≤ 3000) (hk : kd pos = 27) (hR : R' (gRn1 pl (gRun pl b.2.1 x0) (v pos))) (he : ∀ e, ¬ b.2.2.2 e = none) (hm : (kd (pos + 1) = 38 ∧ m2 = 1 ∧ pos2 = pos + 1 + 1) ∨ (¬ kd (pos + 1) = 38 ∧ m2 = 0 ∧ pos2 = pos + 1)) : spI kd v G i pos2 m2 R' pl x0 := by
  obtain ⟨k', rfl⟩ : ∃ k' : Nat, k = k' + 1 := ⟨k - 1, by omega⟩
  have e := hG.trans (gLq_s (sLs_y hk))
  have r : R' (gRun pl (bSq b (bEv (v pos))).2.1 x0) := by
    show R' (gRun pl (b.2.1 ++ [_]) x0)
    rw [gRun_1]
    exact hR
  have s : ∀ e, ¬ (bSq b (bEv (v pos))).2.2.2 e = none := fun e => bSq_n.mpr ⟨he e, fun z => by cases z⟩
  rcases hm with ⟨m1, m2, m3⟩ | ⟨m1, m2, m3⟩
  · rw [if_pos m1] at e
    exact ⟨k', _, by omega, Or.inl ⟨m2, by rw [m3]; exact e⟩, r, s⟩
  · rw [if_neg m1] at e
    exact ⟨k', bSq b (bEv (v pos)), by omega, Or.inr ⟨m2, by rw [m3]; exact e⟩, r, s⟩
theorem sp_n (hG : G = gLp kd 38 (sLs kd v) k pos b) (hk : ¬ kd pos = 27) : G = none := hG.trans (gLq_n (sLs_n hk))
theorem sp_d (h : gLst kd v i b0 = none) : gSpe kd v i = none := by
  unfold gSpe
  rw [h]
  rfl
theorem sp_t (h : spI kd v (gLst kd v i b0) i pos m R pl x0) (hm : m = 0) (hk : ¬ kd pos = 39) : gSpe kd v i = none := by
  obtain ⟨k, b, h1, h2, h3, h4⟩ := h
  rcases h2 with h2 | h2
  · have := h2.1; omega
  · unfold gSpe
    rw [h2.2]
    show (tkn kd 39 pos).bind _ = none
    rw [tk_x hk]
    rfl
theorem sp_x (h : spI kd v (gLst kd v i b0) i pos m R pl x0) (hm : m = 0) (hk : kd pos = 39) (hp : pos2 = pos + 1) : spR (gSpe kd v i) pos2 R pl x0 := by
  obtain ⟨k, b, h1, h2, h3, h4⟩ := h
  rcases h2 with h2 | h2
  · have := h2.1; omega
  · refine ⟨(pos + 1, b), ?_, hp, h3, h4⟩
    unfold gSpe
    rw [h2.2]
    show (tkn kd 39 pos).bind _ = _
    rw [tk_y hk]
    rfl
end
