section
variable {T : gV} {ky : Int → Int} {wd ho ar : nA} {xk xs xk2 xs2 key pl kind ty w p : Int} {i t s : Int32}
theorem rDcl_o (c : Nat) (h5 : c ≠ 5) (h8 : c ≠ 8) (h15 : c ≠ 15) (k : Nat) : rDcl T key pl kind ty w c k = rRow T key pl kind ty w c k := by
  unfold rDcl rChn
  rw [gst_c h15]
  split
  · exact gst_c h8
  · split
    · exact gst_c h5
    · rfl
theorem nR_D (h : nRl2 T ky wd ho xk) (hc : cI T) (h0 : 0 ≤ i.toInt) (hi : i.toInt = xk) (h2 : xk2 = xk + 1) (hk : ky t.toInt = key) (hs : s.toInt = w + 1) : nRl2 (rDcl T key pl kind ty w) ky (upd wd i.toNatClampNeg t) (upd ho i.toNatClampNeg s) xk2 := by
  obtain ⟨r0, r1, r10, rk, -, -, -, r4, -⟩ := rRow_r (T := T) (key := key) (pl := pl) (kind := kind) (ty := ty) (w := w)
  have e10 : rDcl T key pl kind ty w 10 0 = T 10 0 + 1 := (rDcl_o 10 (by decide) (by decide) (by decide) 0).trans r10
  have b0 := hc.1
  have ek := h.1
  refine ⟨by omega, fun k hk2 => ?_⟩
  rw [rDcl_o 0 (by decide) (by decide) (by decide), rDcl_o 4 (by decide) (by decide) (by decide)]
  by_cases c : (k : Int) < T 10 0
  · have q := h.2 k c
    rw [r1 k (by omega) 0 (by decide), r1 k (by omega) 4 (by decide), rd_n h0 (by omega) (by omega), rd_n h0 (by omega) (by omega)]
    exact q
  · rw [show k = (T 10 0).toNat from by omega, rk, r4, show (((T 10 0).toNat : Nat) : Int) = i.toInt from by omega, rd_s h0, rd_s h0]
    exact ⟨hk, hs⟩
theorem sR_D (h : sRl2 T ar xs) : sRl2 (rDcl T key pl kind ty w) ar xs := by
  obtain ⟨r0, -⟩ := rRow_r (T := T) (key := key) (pl := pl) (kind := kind) (ty := ty) (w := w)
  have e11 : rDcl T key pl kind ty w 11 0 = T 11 0 := (rDcl_o 11 (by decide) (by decide) (by decide) 0).trans (r0 11 0 (by decide) (by decide) (by decide) (by decide) (by decide) (by decide) (by decide) (by decide) (by decide) (by decide) (by decide))
  have e7 : ∀ k, rDcl T key pl kind ty w 7 k = T 7 k := fun k => (rDcl_o 7 (by decide) (by decide) (by decide) k).trans (r0 7 k (by decide) (by decide) (by decide) (by decide) (by decide) (by decide) (by decide) (by decide) (by decide) (by decide) (by decide))
  unfold sRl2
  rw [e11]
  simp only [e7]
  exact h
theorem rOpn_o (c : Nat) (h7 : c ≠ 7) (h8 : c ≠ 8) (h15 : c ≠ 15) (h9 : c ≠ 9) (h11 : c ≠ 11) (k : Nat) : rOpn T w p c k = T c k := by
  show gsc (gst (gst (gst (gst T 7 (T 11 0).toNat w) 8 (T 11 0).toNat (-1)) 15 (T 11 0).toNat (-1)) 9 (T 11 0).toNat p) 11 (T 11 0 + 1) c k = _
  rw [gsc_c h11, gst_c h9, gst_c h15, gst_c h8, gst_c h7]
theorem nR_O (h : nRl2 T ky wd ho xk) : nRl2 (rOpn T w p) ky wd ho xk := by
  unfold nRl2
  simp only [rOpn_o 10 (by decide) (by decide) (by decide) (by decide) (by decide), rOpn_o 0 (by decide) (by decide) (by decide) (by decide) (by decide), rOpn_o 4 (by decide) (by decide) (by decide) (by decide) (by decide)]
  exact h
theorem sR_O (h : sRl2 T ar xs) (hc : cI T) (h0 : 0 ≤ i.toInt) (hi : i.toInt = xs) (h2 : xs2 = xs + 1) (hw : s.toInt = w + 1) (w0 : -1 ≤ w) (w1 : w < T 11 0) : sRl2 (rOpn T w p) (upd ar i.toNatClampNeg s) xs2 := by
  have b1 := hc.2.1
  have e11 : rOpn T w p 11 0 = T 11 0 + 1 := rfl
  have e7 : ∀ k, rOpn T w p 7 k = if k = (T 11 0).toNat then w else T 7 k := fun k => by
    show gsc (gst (gst (gst (gst T 7 (T 11 0).toNat w) 8 (T 11 0).toNat (-1)) 15 (T 11 0).toNat (-1)) 9 (T 11 0).toNat p) 11 (T 11 0 + 1) 7 k = _
    rw [gsc_c (by decide), gst_c (by decide), gst_c (by decide), gst_c (by decide)]
    by_cases c : k = (T 11 0).toNat
    · rw [if_pos c, c]; exact gst_s
    · rw [if_neg c, gst_k c]
  obtain ⟨g1, g2, g3⟩ := h
  refine ⟨by omega, ?_, fun k hk => ?_⟩
  · rw [rd_n h0 (by decide) (by omega)]
    exact g2
  · rw [e7]
    by_cases c : k = (T 11 0).toNat
    · rw [if_pos c, show (k : Int) + 1 = i.toInt from by omega, rd_s h0]
      exact ⟨hw, w0, by omega⟩
    · rw [if_neg c, rd_n h0 (by omega) (by omega)]
      exact g3 k (by omega)
end
