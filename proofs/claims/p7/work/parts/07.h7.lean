def rEv (pl ky : Int → Int) (ss : Int) (T T' : gV) (sw sw' : Int) (m m' : Nat → Int32) (v : gE) (ta' : Int) : Int → Prop := fun j => ta' = j ∧ bX pl ky ss T T' sw sw' m m' (bEv v)
theorem gRn_6 {pl ky : Int → Int} {T : gV} {sw ta w : Int} : gRn1 pl (T, sw) (vVal ky ta w) = if rPar T (ky ta) w < 0 ∨ 0 ≤ gG (T 13) (T 10 0) (-1) (rPar T (ky ta) w) then (T, min sw (pl ta)) else (gst T 13 (rPar T (ky ta) w).toNat (pl ta), sw) := rfl
theorem gRn_7 {pl ky : Int → Int} {T : gV} {sw ta kind ty w : Int} : gRn1 pl (T, sw) (vSpc ky ta kind ty w) = if rPar T (ky ta) w < 0 ∨ ¬ nK T (rPar T (ky ta) w) = 0 then (T, min sw (pl ta)) else (gst (gst T 1 (rPar T (ky ta) w).toNat kind) 2 (rPar T (ky ta) w).toNat ty, if ¬ kind = 6 ∧ 0 ≤ gG (T 13) (T 10 0) (-1) (rPar T (ky ta) w) then min sw (gG (T 13) (T 10 0) (-1) (rPar T (ky ta) w)) else sw) := rfl
section
variable {f13 : Nat → Int64} {f14 f15 f16 f17 f18 f19 f20 f21 f22 f23 f24 f25 f26 g14 g15 g21 : Nat → Int32} {bn sn c q x p kd_ ty_ : Int32} {key : Int64}
variable {pl ky : Int → Int} {ss sw sw' ta v : Int} {m : Nat → Int32}
theorem par_e (hx : x.toInt = gG (rI f24) sn.toInt (-1) c.toInt) (hq : q.toInt = tFind (rJ f13) (rI f19) bn.toInt key.toInt 1501 x.toInt) (hk : key.toInt = ky ta) : rPar (eT f13 f14 f15 f16 f17 f18 f19 f20 f21 f22 f23 f24 f25 f26 bn sn) (ky ta) c.toInt = q.toInt := by
  rw [hq, hk, hx]
  rfl
theorem val_w (h0 : ss = 0) (hx : x.toInt = gG (rI f24) sn.toInt (-1) c.toInt) (hq : q.toInt = tFind (rJ f13) (rI f19) bn.toInt key.toInt 1501 x.toInt) (hk : key.toInt = ky ta) (hp : p.toInt = pl ta) (hc : q.toInt < 0 ∨ 0 ≤ gG (rI f21) bn.toInt (-1) q.toInt) (hs : sw' ≤ sw ∧ sw' ≤ p.toInt ∧ (sw' = sw ∨ sw' = p.toInt)) :
    bX pl ky ss (eT f13 f14 f15 f16 f17 f18 f19 f20 f21 f22 f23 f24 f25 f26 bn sn) (eT f13 f14 f15 f16 f17 f18 f19 f20 f21 f22 f23 f24 f25 f26 bn sn) sw sw' m m (bEv (vVal ky ta c.toInt)) := by
  refine bX_v h0 (by first | (rw [eT_10, eT_10]; exact Int.le_refl _) | exact Int.le_refl _) (by first | (rw [eT_10, eT_10]; show bn.toInt ≤ bn.toInt + 0; omega) | (show bn.toInt ≤ bn.toInt + 0; omega)) (fun _ => ?_)
  have e := par_e (f14 := f14) (f15 := f15) (f16 := f16) (f17 := f17) (f18 := f18) (f20 := f20) (f21 := f21) (f22 := f22) (f23 := f23) (f25 := f25) (f26 := f26) hx hq hk
  refine gRn_6.trans ?_
  rw [e]
  refine (if_pos hc).trans ?_
  congr 1
  omega
theorem val_o (h0 : ss = 0) (hx : x.toInt = gG (rI f24) sn.toInt (-1) c.toInt) (hq : q.toInt = tFind (rJ f13) (rI f19) bn.toInt key.toInt 1501 x.toInt) (hk : key.toInt = ky ta) (hp : p.toInt = pl ta) (hc : ¬ (q.toInt < 0 ∨ 0 ≤ gG (rI f21) bn.toInt (-1) q.toInt)) (hl : q.toInt < bn.toInt) (hz : zCh bn f21 q p g21) :
    bX pl ky ss (eT f13 f14 f15 f16 f17 f18 f19 f20 f21 f22 f23 f24 f25 f26 bn sn) (eT f13 f14 f15 f16 f17 f18 f19 f20 g21 f22 f23 f24 f25 f26 bn sn) sw sw m m (bEv (vVal ky ta c.toInt)) := by
  refine bX_v h0 (by first | (rw [eT_10, eT_10]; exact Int.le_refl _) | exact Int.le_refl _) (by first | (rw [eT_10, eT_10]; show bn.toInt ≤ bn.toInt + 0; omega) | (show bn.toInt ≤ bn.toInt + 0; omega)) (fun _ => ?_)
  have e := par_e (f14 := f14) (f15 := f15) (f16 := f16) (f17 := f17) (f18 := f18) (f20 := f20) (f21 := f21) (f22 := f22) (f23 := f23) (f25 := f25) (f26 := f26) hx hq hk
  refine gRn_6.trans ?_
  rw [e]
  refine (if_neg hc).trans ?_
  rcases hz with ⟨h1, _⟩ | ⟨k, h1, h2, h3⟩
  · exact absurd ⟨by omega, hl⟩ h1
  · rw [h3, eT_u13, hp, show q.toInt.toNat = k by omega]
theorem spc_w (h0 : ss = 0) (hx : x.toInt = gG (rI f24) sn.toInt (-1) c.toInt) (hq : q.toInt = tFind (rJ f13) (rI f19) bn.toInt key.toInt 1501 x.toInt) (hk : key.toInt = ky ta) (hp : p.toInt = pl ta) (hc : q.toInt < 0 ∨ ¬ gG (rI f14) bn.toInt 0 q.toInt = 0) (hs : sw' ≤ sw ∧ sw' ≤ p.toInt ∧ (sw' = sw ∨ sw' = p.toInt)) :
    bX pl ky ss (eT f13 f14 f15 f16 f17 f18 f19 f20 f21 f22 f23 f24 f25 f26 bn sn) (eT f13 f14 f15 f16 f17 f18 f19 f20 f21 f22 f23 f24 f25 f26 bn sn) sw sw' m m (bEv (vSpc ky ta kd_.toInt ty_.toInt c.toInt)) := by
  refine bX_v h0 (by first | (rw [eT_10, eT_10]; exact Int.le_refl _) | exact Int.le_refl _) (by first | (rw [eT_10, eT_10]; show bn.toInt ≤ bn.toInt + 0; omega) | (show bn.toInt ≤ bn.toInt + 0; omega)) (fun _ => ?_)
  have e := par_e (f14 := f14) (f15 := f15) (f16 := f16) (f17 := f17) (f18 := f18) (f20 := f20) (f21 := f21) (f22 := f22) (f23 := f23) (f25 := f25) (f26 := f26) hx hq hk
  refine gRn_7.trans ?_
  rw [e]
  refine (if_pos hc).trans ?_
  congr 1
  omega
theorem spc_o (h0 : ss = 0) (hx : x.toInt = gG (rI f24) sn.toInt (-1) c.toInt) (hq : q.toInt = tFind (rJ f13) (rI f19) bn.toInt key.toInt 1501 x.toInt) (hk : key.toInt = ky ta) (hc : ¬ (q.toInt < 0 ∨ ¬ gG (rI f14) bn.toInt 0 q.toInt = 0)) (hl : q.toInt < bn.toInt) (hz : zCh bn f14 q kd_ g14 ∧ zCh bn f15 q ty_ g15)
    (hs : (¬ kd_.toInt = 6 ∧ 0 ≤ gG (rI f21) bn.toInt (-1) q.toInt ∧ sw' = min sw (gG (rI f21) bn.toInt (-1) q.toInt)) ∨ (¬ (¬ kd_.toInt = 6 ∧ 0 ≤ gG (rI f21) bn.toInt (-1) q.toInt) ∧ sw' = sw)) :
    bX pl ky ss (eT f13 f14 f15 f16 f17 f18 f19 f20 f21 f22 f23 f24 f25 f26 bn sn) (eT f13 g14 g15 f16 f17 f18 f19 f20 f21 f22 f23 f24 f25 f26 bn sn) sw sw' m m (bEv (vSpc ky ta kd_.toInt ty_.toInt c.toInt)) := by
  refine bX_v h0 (by first | (rw [eT_10, eT_10]; exact Int.le_refl _) | exact Int.le_refl _) (by first | (rw [eT_10, eT_10]; show bn.toInt ≤ bn.toInt + 0; omega) | (show bn.toInt ≤ bn.toInt + 0; omega)) (fun _ => ?_)
  have e := par_e (f14 := f14) (f15 := f15) (f16 := f16) (f17 := f17) (f18 := f18) (f20 := f20) (f21 := f21) (f22 := f22) (f23 := f23) (f25 := f25) (f26 := f26) hx hq hk
  have e14 : eT f13 g14 g15 f16 f17 f18 f19 f20 f21 f22 f23 f24 f25 f26 bn sn = gst (gst (eT f13 f14 f15 f16 f17 f18 f19 f20 f21 f22 f23 f24 f25 f26 bn sn) 1 q.toInt.toNat kd_.toInt) 2 q.toInt.toNat ty_.toInt := by
    rcases hz.1 with ⟨h1, _⟩ | ⟨k, h1, h2, h3⟩
    · exact absurd ⟨by omega, hl⟩ h1
    · rcases hz.2 with ⟨h4, _⟩ | ⟨k2, h4, h5, h6⟩
      · exact absurd ⟨by omega, hl⟩ h4
      · rw [h3, h6, eT_u2, eT_u1, show q.toInt.toNat = k by omega, show k2 = k by omega]
  refine gRn_7.trans ?_
  rw [e]
  refine (if_neg hc).trans ?_
  rw [e14]
  show (_, if ¬ kd_.toInt = 6 ∧ 0 ≤ gG (rI f21) bn.toInt (-1) q.toInt then min sw (gG (rI f21) bn.toInt (-1) q.toInt) else sw) = (_, sw')
  congr 1
  rcases hs with ⟨h1, h2, h3⟩ | ⟨h1, h2⟩
  · rw [if_pos ⟨h1, h2⟩, h3]
  · rw [if_neg h1, h2]
theorem tF_lt {ks nx : Nat → Int} {n key : Int} : ∀ (f : Nat) (k : Int), 0 ≤ tFind ks nx n key f k → tFind ks nx n key f k < n := by
  intro f
  induction f with
  | zero => intro k h; exact absurd h (by show ¬ (0 : Int) ≤ -1; omega)
  | succ f ih =>
    intro k h
    have e : tFind ks nx n key (f + 1) k = if 0 ≤ k ∧ k < n then (if ks k.toNat = key then k else tFind ks nx n key f (nx k.toNat)) else -1 := rfl
    rw [e] at h ⊢
    by_cases h1 : 0 ≤ k ∧ k < n
    · rw [if_pos h1] at h ⊢
      by_cases h2 : ks k.toNat = key
      · rw [if_pos h2]; exact h1.2
      · rw [if_neg h2] at h ⊢; exact ih _ h
    · rw [if_neg h1] at h
      omega
end
section
variable {pl ky kd : Int → Int} {ss sw sw1 sw2 sw3 w i k tf tf1 tf2 tf3 tf4 ta ta1 ta2 ta3 ta4 : Int} {T T1 T2 : gV} {m m1 m2 : Nat → Int32} {v : Int → gE} {b : gB}
theorem sLs_l {x : gB} {p : Int × gB} (h : sLs kd v x i = some p) : i < p.1 := by
  unfold sLs tkn at h
  by_cases hk : kd i = 27
  · rw [if_pos hk] at h; cases h; show i < i + 1; omega
  · rw [if_neg hk] at h; cases h
theorem P_ls1 {x : gB} (hx : bX pl ky ss T T1 sw sw1 m m1 x) (h : cQ (tkn kd 27 ta) tf tf1 (rEv pl ky ss T1 T2 sw1 sw2 m1 m2 (v ta) ta1)) : cQ (sLs kd v x ta) tf tf1 (fun p => ta1 = p.1 ∧ bX pl ky ss T T2 sw sw2 m m2 p.2) := by
  unfold sLs
  refine cQ_b h (fun h => h) ?_
  rintro j - _ ⟨hj, h1⟩
  exact cQ_e (fun _ => ⟨hj, bX_q hx h1⟩)
end
