def nDe (vs : List gE) : Int := ((vs.filter (fun v => decide (v.1 = 0))).length : Int)
theorem nDe_a {us vs : List gE} : nDe (us ++ vs) = nDe us + nDe vs := by
  unfold nDe
  rw [List.filter_append, List.length_append]
  omega
theorem nDe_0 {vs : List gE} : 0 ≤ nDe vs := by
  unfold nDe
  omega
def bX (pl ky : Int → Int) (ss : Int) (T T' : gV) (sw sw' : Int) (m m' : Nat → Int32) (b : gB) : Prop :=
  (ss = 0 → m' = m ∧ T 10 0 ≤ T' 10 0 ∧ T' 10 0 ≤ T 10 0 + nDe b.2.1 ∧ (T' 10 0 ≤ 1500 → gRun pl b.2.1 (T, sw) = (T', sw'))) ∧
  (¬ ss = 0 → sw ≤ 3001 → T' = T ∧ vX T pl ky ss sw sw' m m' b.1 (b.2.2.2 T) 0)
section
variable {pl ky : Int → Int} {ss sw sw1 sw2 r r1 w i ty : Int} {T T1 T2 : gV} {m m1 m2 : Nat → Int32} {a b : gB}
theorem bX_q (h : bX pl ky ss T T1 sw sw1 m m1 a) (g : bX pl ky ss T1 T2 sw1 sw2 m1 m2 b) : bX pl ky ss T T2 sw sw2 m m2 (bSq a b) := by
  refine ⟨fun h0 => ?_, fun h0 hw => ?_⟩
  · have p := h.1 h0
    have q := g.1 h0
    refine ⟨q.1.trans p.1, by omega, ?_, fun h5 => ?_⟩
    · show T2 10 0 ≤ T 10 0 + nDe (a.2.1 ++ b.2.1)
      rw [nDe_a]
      omega
    · show gRun pl (a.2.1 ++ b.2.1) (T, sw) = _
      rw [gRun_a, p.2.2.2 (by omega), q.2.2.2 h5]
  · have p := h.2 h0 hw
    have q := g.2 h0 (Int.le_trans p.2.1 hw)
    have e1 := p.1
    subst e1
    refine ⟨q.1, ?_⟩
    have z := q.2
    exact vX_b (Y := fun _ => b.2.2.2 T1) p.2 z.1 z.2.1 (fun _ _ _ => z)
theorem bX_0 : bX pl ky ss T T sw sw m m b0 := ⟨fun _ => ⟨rfl, Int.le_refl _, by show T 10 0 ≤ T 10 0 + 0; omega, fun _ => rfl⟩, fun _ _ => ⟨rfl, vX_e rfl⟩⟩
theorem bX_e {d : gD} (h : vE T pl ky ss sw sw1 m m1 r (gNd ty d)) : bX pl ky ss T T sw sw1 m m1 (bEx ty d) := by
  refine ⟨fun h0 => ?_, fun h0 _ => ⟨rfl, vX_v h⟩⟩
  have p := h.2.1 h0
  refine ⟨p.2, Int.le_refl _, by show T 10 0 ≤ T 10 0 + 0; omega, fun _ => ?_⟩
  rw [p.1]
  rfl
theorem bX_u {x : gV → Option Int} (h : vX T pl ky ss sw sw1 m m1 [(i, w)] (x T) 0) : bX pl ky ss T T sw sw1 m m1 (bUs i w x) := by
  refine ⟨fun h0 => ?_, fun h0 _ => ⟨rfl, h⟩⟩
  have p := h.2.1 h0
  refine ⟨p.2, Int.le_refl _, by show T 10 0 ≤ T 10 0 + 0; omega, fun _ => ?_⟩
  rw [p.1]
  rfl
theorem bX_s {v : gE} {ps : List Int} (h : ¬ ss = 0) : bX pl ky ss T T sw sw m m ([], [v], ps, fun _ => some 0) := ⟨fun h0 => absurd h0 h, fun _ _ => ⟨rfl, vX_e rfl⟩⟩
theorem bX_v {v : gE} {ps : List Int} (h0 : ss = 0) (h1 : T 10 0 ≤ T1 10 0) (h2 : T1 10 0 ≤ T 10 0 + nDe [v]) (h : T1 10 0 ≤ 1500 → gRn1 pl (T, sw) v = (T1, sw1)) : bX pl ky ss T T1 sw sw1 m m ([], [v], ps, fun _ => some 0) :=
  ⟨fun _ => ⟨rfl, h1, h2, h⟩, fun q => absurd h0 q⟩
end
section
variable {f13 f13' : Nat → Int64} {f14 f15 f16 f17 f18 f19 f20 f21 f22 f23 f24 f25 f26 f14' f15' f16' f17' f18' f19' f20' f21' f22' g19 : Nat → Int32} {bn sn bn' sn' p c kd_ ty_ r z so : Int32} {key : Int64}
def zRow (f13 : Nat → Int64) (f14 f15 f16 f17 f18 f19 f20 f21 f22 : Nat → Int32) (bn : Int32) (key : Int64) (p c kd_ ty_ : Int32) (f13' : Nat → Int64) (f14' f15' f16' f17' f18' f19' f20' f21' f22' : Nat → Int32) (bn' : Int32) : Prop :=
  bn.toInt ≤ bn'.toInt ∧ bn'.toInt ≤ bn.toInt + 1 ∧ (bn.toInt < 1501 → f13' = vp_updL f13 (Int32.toNatClampNeg bn) key ∧ f14' = upd f14 (Int32.toNatClampNeg bn) kd_ ∧ f15' = upd f15 (Int32.toNatClampNeg bn) ty_ ∧ f16' = upd f16 (Int32.toNatClampNeg bn) 0 ∧ f17' = upd f17 (Int32.toNatClampNeg bn) p ∧ f18' = upd f18 (Int32.toNatClampNeg bn) c ∧ f19' = upd f19 (Int32.toNatClampNeg bn) (-1) ∧ f20' = upd f20 (Int32.toNatClampNeg bn) (-1) ∧ f21' = upd f21 (Int32.toNatClampNeg bn) (-1) ∧ f22' = upd f22 (Int32.toNatClampNeg bn) (vp_nar .boolean 0) ∧ bn'.toInt = bn.toInt + 1)
theorem row_e (h : zRow f13 f14 f15 f16 f17 f18 f19 f20 f21 f22 bn key p c kd_ ty_ f13' f14' f15' f16' f17' f18' f19' f20' f21' f22' bn') (hb : bn.toInt < 1501) :
    eT f13' f14' f15' f16' f17' f18' f19' f20' f21' f22' f23 f24 f25 f26 bn' sn = rRow (eT f13 f14 f15 f16 f17 f18 f19 f20 f21 f22 f23 f24 f25 f26 bn sn) key.toInt p.toInt kd_.toInt ty_.toInt c.toInt := by
  obtain ⟨e1, e2, e3, e4, e5, e6, e7, e8, e9, e10, e11⟩ := h.2.2 hb
  subst e1 e2 e3 e4 e5 e6 e7 e8 e9 e10
  rw [eT_u10 e11, eT_u14, eT_u13, eT_u6, eT_u5, eT_u4, eT_u12, eT_u3, eT_u2, eT_u1, eT_u0]
  rfl
theorem rRow_8 {T : gV} {k1 k2 k3 k4 k5 : Int} {k : Nat} : rRow T k1 k2 k3 k4 k5 8 k = T 8 k := rfl
theorem rRow_15 {T : gV} {k1 k2 k3 k4 k5 : Int} {k : Nat} : rRow T k1 k2 k3 k4 k5 15 k = T 15 k := rfl
theorem rRow_10 {T : gV} {k1 k2 k3 k4 k5 : Int} {k : Nat} : rRow T k1 k2 k3 k4 k5 10 k = T 10 0 + 1 := rfl
theorem dcl_A (h : zRow f13 f14 f15 f16 f17 f18 f19 f20 f21 f22 bn key p c kd_ ty_ f13' f14' f15' f16' f17' f18' f19' f20' f21' f22' bn') (hb : bn.toInt < 1501) (hr : r.toInt = bn.toInt) (hf : (f24 (Int32.toNatClampNeg c)).toInt < 0) :
    eT f13' f14' f15' f16' f17' f18' f19' f20' f21' f22' f23 (upd f24 (Int32.toNatClampNeg c) r) (upd f25 (Int32.toNatClampNeg c) r) f26 bn' sn = rDcl (eT f13 f14 f15 f16 f17 f18 f19 f20 f21 f22 f23 f24 f25 f26 bn sn) key.toInt p.toInt kd_.toInt ty_.toInt c.toInt := by
  rw [eT_u15, eT_u8, row_e h hb]
  unfold rDcl rChn
  rw [rRow_8, if_pos (show eT f13 f14 f15 f16 f17 f18 f19 f20 f21 f22 f23 f24 f25 f26 bn sn 8 c.toInt.toNat < 0 from hf), hr]
  rfl
theorem dcl_B (h : zRow f13 f14 f15 f16 f17 f18 f19 f20 f21 f22 bn key p c kd_ ty_ f13' f14' f15' f16' f17' f18' f19' f20' f21' f22' bn') (hb : bn.toInt < 1501) (hr : r.toInt = bn.toInt) (hf : ¬ (f24 (Int32.toNatClampNeg c)).toInt < 0) (hz : z = f25 (Int32.toNatClampNeg c)) (hc : zCh bn' f19' z r g19) :
    eT f13' f14' f15' f16' f17' f18' g19 f20' f21' f22' f23 f24 (upd f25 (Int32.toNatClampNeg c) r) f26 bn' sn = rDcl (eT f13 f14 f15 f16 f17 f18 f19 f20 f21 f22 f23 f24 f25 f26 bn sn) key.toInt p.toInt kd_.toInt ty_.toInt c.toInt := by
  have hbn := (h.2.2 hb).2.2.2.2.2.2.2.2.2.2
  rw [eT_u15]
  unfold rDcl rChn
  rw [rRow_8, if_neg (show ¬ eT f13 f14 f15 f16 f17 f18 f19 f20 f21 f22 f23 f24 f25 f26 bn sn 8 c.toInt.toNat < 0 from hf), rRow_15, rRow_10]
  have e25 : eT f13 f14 f15 f16 f17 f18 f19 f20 f21 f22 f23 f24 f25 f26 bn sn 15 c.toInt.toNat = z.toInt := by rw [hz]; rfl
  have e10 : eT f13 f14 f15 f16 f17 f18 f19 f20 f21 f22 f23 f24 f25 f26 bn sn 10 0 = bn.toInt := rfl
  rw [e25, e10]
  rcases hc with ⟨h1, h2⟩ | ⟨k, h1, h2, h3⟩
  · rw [if_neg (by omega), h2, row_e h hb, hr]
    rfl
  · rw [if_pos (by omega), h3, eT_u5, row_e h hb, hr, show z.toInt.toNat = k by omega]
    rfl
end
