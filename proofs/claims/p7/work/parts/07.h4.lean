def rDc (pl ky : Int → Int) (ss : Int) (T T' : gV) (sw sw' : Int) (m m' : Nat → Int32) (v : gE) (bn bn' ta' r : Int) : Int → Prop := fun j => ta' = j ∧ bX pl ky ss T T' sw sw' m m' (bEv v) ∧ (ss = 0 → bn' ≤ 1500 → r = bn ∧ bn' = bn + 1) ∧ (¬ ss = 0 → r = -1)
section
variable {f13 f13' : Nat → Int64} {f14 f15 f16 f17 f18 f19 f20 f21 f22 f23 f24 f25 f26 f14' f15' f16' f17' f18' f19' f20' f21' f22' : Nat → Int32} {bn sn bn' sn' p c kd_ ty_ r z so : Int32} {key : Int64}
variable {pl ky : Int → Int} {ss sw sw' q ta : Int} {T' : gV} {m : Nat → Int32}
theorem dcl_m (h0 : ss = 0) (h : zRow f13 f14 f15 f16 f17 f18 f19 f20 f21 f22 bn key p c kd_ ty_ f13' f14' f15' f16' f17' f18' f19' f20' f21' f22' bn')
    (hb' : T' 10 0 = bn'.toInt) (hT : bn.toInt < 1501 → T' = rDcl (eT f13 f14 f15 f16 f17 f18 f19 f20 f21 f22 f23 f24 f25 f26 bn sn) key.toInt p.toInt kd_.toInt ty_.toInt c.toInt) (hk : key.toInt = ky ta) (hp : p.toInt = pl ta)
    (hf : q = tFind (rJ f13) (rI f19) bn.toInt key.toInt 1501 (f24 (Int32.toNatClampNeg c)).toInt) (hs : (0 ≤ q ∧ sw' ≤ sw ∧ sw' ≤ p.toInt ∧ (sw' = sw ∨ sw' = p.toInt)) ∨ (q < 0 ∧ sw' = sw)) :
    bX pl ky ss (eT f13 f14 f15 f16 f17 f18 f19 f20 f21 f22 f23 f24 f25 f26 bn sn) T' sw sw' m m (bEv (vD ky ta kd_.toInt ty_.toInt c.toInt)) := by
  refine bX_v h0 ?_ ?_ (fun h5 => ?_)
  · rw [hb']; exact h.1
  · rw [hb']; exact h.2.1
  · rw [hb'] at h5
    have hb : bn.toInt < 1501 := by have := h.1; omega
    show (rDcl _ (ky ta) (pl ta) kd_.toInt ty_.toInt c.toInt, if 0 ≤ tFind (rJ f13) (rI f19) bn.toInt (ky ta) 1501 (f24 (Int32.toNatClampNeg c)).toInt then min sw (pl ta) else sw) = (T', sw')
    rw [← hk, ← hp, ← hf, hT hb]
    congr 1
    by_cases h0 : 0 ≤ q
    · rw [if_pos h0]; omega
    · rw [if_neg h0]; omega
theorem dcl_r (h : zRow f13 f14 f15 f16 f17 f18 f19 f20 f21 f22 bn key p c kd_ ty_ f13' f14' f15' f16' f17' f18' f19' f20' f21' f22' bn') (hr : (r.toInt = -1 ∧ 1501 ≤ bn.toInt) ∨ (r.toInt = bn.toInt ∧ bn.toInt < 1501)) : ss = 0 → bn'.toInt ≤ 1500 → r.toInt = bn.toInt ∧ bn'.toInt = bn.toInt + 1 := by
  intro _ h5
  have hb : bn.toInt < 1501 := by have := h.1; omega
  have e := (h.2.2 hb).2.2.2.2.2.2.2.2.2.2
  omega
def oQ (so tf tf' ss so' sc' sl' : Int) (T T' : gV) (w p : Int) : Prop := (tf' = -2 → tf = -2) ∧ (tf = -2 → (so < 333 → tf' = -2 ∧ so' = so + 1 ∧ sc' = so ∧ sl' = so ∧ (ss = 0 → T' = rOpn T w p) ∧ (¬ ss = 0 → T' = T)) ∧ (¬ so < 333 → ¬ tf' = -2))
def oP (so tf tf' ss so' sc' sl' : Int) (T T' : gV) (w p bn : Int) : Prop := (tf' = -2 → tf = -2) ∧ (tf = -2 → (so < 333 → tf' = -2 ∧ so' = so + 1 ∧ sc' = so ∧ sl' = so ∧ (ss = 0 → 0 ≤ p ∧ p < bn → T' = rOpn (gst T 6 p.toNat so) w p) ∧ (¬ ss = 0 → T' = T)) ∧ (¬ so < 333 → ¬ tf' = -2))
theorem opn_e (hs : sn.toInt = so.toInt) (hn : sn'.toInt = so.toInt + 1) : eT f13 f14 f15 f16 f17 f18 f19 f20 f21 f22 (upd f23 (Int32.toNatClampNeg so) c) (upd f24 (Int32.toNatClampNeg so) (-1)) (upd f25 (Int32.toNatClampNeg so) (-1)) (upd f26 (Int32.toNatClampNeg so) p) bn sn' = rOpn (eT f13 f14 f15 f16 f17 f18 f19 f20 f21 f22 f23 f24 f25 f26 bn sn) c.toInt p.toInt := by
  rw [eT_u11 hn, eT_u9, eT_u15, eT_u8, eT_u7]
  unfold rOpn
  rw [show eT f13 f14 f15 f16 f17 f18 f19 f20 f21 f22 f23 f24 f25 f26 bn sn 11 0 = so.toInt from hs]
  rfl
theorem oQ_f {a b c d e f g : Int} {T T' : gV} {w p : Int} (h1 : ¬ a < 333) (h2 : ¬ c = -2) : oQ a b c d e f g T T' w p := ⟨fun q => absurd q h2, fun _ => ⟨fun q => absurd q h1, fun _ => h2⟩⟩
theorem oQ_0 {a b d e f g : Int} {T T' : gV} {w p : Int} (h1 : a < 333) (h2 : e = a + 1 ∧ f = a ∧ g = a) (h0 : d = 0) (h3 : T' = rOpn T w p) : oQ a b b d e f g T T' w p := ⟨fun q => q, fun q => ⟨fun _ => ⟨q, h2.1, h2.2.1, h2.2.2, fun _ => h3, fun z => absurd h0 z⟩, fun z => absurd h1 z⟩⟩
theorem oQ_1 {a b d e f g : Int} {T : gV} {w p : Int} (h1 : a < 333) (h2 : e = a + 1 ∧ f = a ∧ g = a) (h0 : ¬ d = 0) : oQ a b b d e f g T T w p := ⟨fun q => q, fun q => ⟨fun _ => ⟨q, h2.1, h2.2.1, h2.2.2, fun z => absurd z h0, fun _ => rfl⟩, fun z => absurd h1 z⟩⟩
theorem oP_0 {a b c d e f g : Int} {T T1 T' : gV} {w p bn : Int} (h0 : d = 0) (h1 : 0 ≤ p ∧ p < bn → T1 = gst T 6 p.toNat a) (h : oQ a b c d e f g T1 T' w p) : oP a b c d e f g T T' w p bn := by
  refine ⟨h.1, fun q => ⟨fun z => ?_, (h.2 q).2⟩⟩
  have y := (h.2 q).1 z
  exact ⟨y.1, y.2.1, y.2.2.1, y.2.2.2.1, fun _ hp => by rw [y.2.2.2.2.1 h0, h1 hp], fun hz => absurd h0 hz⟩
theorem oP_1 {a b c d e f g : Int} {T T' : gV} {w p bn : Int} (h0 : ¬ d = 0) (h : oQ a b c d e f g T T' w p) : oP a b c d e f g T T' w p bn := by
  refine ⟨h.1, fun q => ⟨fun z => ?_, (h.2 q).2⟩⟩
  have y := (h.2 q).1 z
  exact ⟨y.1, y.2.1, y.2.2.1, y.2.2.2.1, fun hz => absurd hz h0, y.2.2.2.2.2⟩
theorem hd_e {g20 : Nat → Int32} (h : zCh bn f20 p so g20) (hp : 0 ≤ p.toInt ∧ p.toInt < bn.toInt) : eT f13 f14 f15 f16 f17 f18 f19 g20 f21 f22 f23 f24 f25 f26 bn sn = gst (eT f13 f14 f15 f16 f17 f18 f19 f20 f21 f22 f23 f24 f25 f26 bn sn) 6 p.toInt.toNat so.toInt := by
  rcases h with ⟨h1, _⟩ | ⟨k, h1, h2, h3⟩
  · exact absurd hp h1
  · rw [h3, eT_u6, show p.toInt.toNat = k by omega]
end
