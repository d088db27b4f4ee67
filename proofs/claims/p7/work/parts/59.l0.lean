def b8 (x y : Int32) : Int32 := vp_nar .byte (x >>> (y &&& 31)).toInt8.toInt32
def b4 (f : Nat → Int32) (m : Nat) (x : Int32) : Nat → Int32 := upd (upd (upd (upd f m (b8 x 24)) (m + 1) (b8 x 16)) (m + 2) (b8 x 8)) (m + 3) (b8 x 0)
def b20 (f : Nat → Int32) (m : Nat) (a b c d e : Int32) : Nat → Int32 := b4 (b4 (b4 (b4 (b4 f m a) (m + 4) b) (m + 8) c) (m + 12) d) (m + 16) e
def c5 (a b c d e : Int32) : Nat → Int32
  | 0 => b8 a 24
  | 1 => b8 a 16
  | 2 => b8 a 8
  | 3 => b8 a 0
  | 4 => b8 b 24
  | 5 => b8 b 16
  | 6 => b8 b 8
  | 7 => b8 b 0
  | 8 => b8 c 24
  | 9 => b8 c 16
  | 10 => b8 c 8
  | 11 => b8 c 0
  | 12 => b8 d 24
  | 13 => b8 d 16
  | 14 => b8 d 8
  | 15 => b8 d 0
  | 16 => b8 e 24
  | 17 => b8 e 16
  | 18 => b8 e 8
  | 19 => b8 e 0
  | _ => 0
def bW (f : Nat → Int32) (m : Nat) (c : Nat → Int32) : Nat → (Nat → Int32)
  | 0 => f
  | k + 1 => upd (bW f m c k) (m + k) (c k)
section
variable {f w : Nat → Int32} {m k : Nat} {a b c d e x y v i0 i1 i2 i3 v0 v1 v2 : Int32} {C : Nat → Int32}
theorem bW_20 : bW f m (c5 a b c d e) 20 = b20 f m a b c d e := rfl
theorem fe_i {n : Int} (h : y.toInt = n + (k : Int)) (h0 : 0 ≤ n) : y.toNatClampNeg = n.toNat + k := by
  show y.toInt.toNat = n.toNat + k
  omega
theorem bW_s {n : Int} (h : w = bW f n.toNat C k) (hy : y.toInt = n + (k : Int)) (h0 : 0 ≤ n) (hv : v = C k) : upd w (Int32.toNatClampNeg y) v = bW f n.toNat C (k + 1) := by
  rw [h, fe_i hy h0, hv]
  rfl
theorem b8_s (h : y = x >>> (v &&& 31)) : vp_nar .byte y.toInt8.toInt32 = b8 x v := by
  rw [h]
  rfl
theorem b8_0 : vp_nar .byte x.toInt8.toInt32 = b8 x 0 := by
  unfold b8
  rw [sb_shr0]
theorem u5_0 : upd (upd (upd (upd (upd (fun _ => 0) (Int32.toNatClampNeg 0) a) (Int32.toNatClampNeg 1) b) (Int32.toNatClampNeg 2) c) (Int32.toNatClampNeg 3) d) (Int32.toNatClampNeg 4) e (Int32.toNatClampNeg 0) = a := rfl
theorem u5_1 : upd (upd (upd (upd (upd (fun _ => 0) (Int32.toNatClampNeg 0) a) (Int32.toNatClampNeg 1) b) (Int32.toNatClampNeg 2) c) (Int32.toNatClampNeg 3) d) (Int32.toNatClampNeg 4) e (Int32.toNatClampNeg 1) = b := rfl
theorem u5_2 : upd (upd (upd (upd (upd (fun _ => 0) (Int32.toNatClampNeg 0) a) (Int32.toNatClampNeg 1) b) (Int32.toNatClampNeg 2) c) (Int32.toNatClampNeg 3) d) (Int32.toNatClampNeg 4) e (Int32.toNatClampNeg 2) = c := rfl
theorem u5_3 : upd (upd (upd (upd (upd (fun _ => 0) (Int32.toNatClampNeg 0) a) (Int32.toNatClampNeg 1) b) (Int32.toNatClampNeg 2) c) (Int32.toNatClampNeg 3) d) (Int32.toNatClampNeg 4) e (Int32.toNatClampNeg 3) = d := rfl
theorem u5_4 : upd (upd (upd (upd (upd (fun _ => 0) (Int32.toNatClampNeg 0) a) (Int32.toNatClampNeg 1) b) (Int32.toNatClampNeg 2) c) (Int32.toNatClampNeg 3) d) (Int32.toNatClampNeg 4) e (Int32.toNatClampNeg 4) = e := rfl
theorem b4_a (h0 : 0 ≤ i0.toInt) (h1 : i1.toInt = i0.toInt + 1) (h2 : i2.toInt = i1.toInt + 1) (h3 : i3.toInt = i2.toInt + 1) (e0 : v0 = x >>> (24 &&& 31)) (e1 : v1 = x >>> (16 &&& 31)) (e2 : v2 = x >>> (8 &&& 31)) : upd (upd (upd (upd f (Int32.toNatClampNeg i0) (vp_nar .byte v0.toInt8.toInt32)) (Int32.toNatClampNeg i1) (vp_nar .byte v1.toInt8.toInt32)) (Int32.toNatClampNeg i2) (vp_nar .byte v2.toInt8.toInt32)) (Int32.toNatClampNeg i3) (vp_nar .byte x.toInt8.toInt32) = b4 f i0.toInt.toNat x := by
  rw [b8_s e0, b8_s e1, b8_s e2, b8_0, fe_i (y := i0) (k := 0) (n := i0.toInt) (by omega) h0, fe_i (y := i1) (k := 1) (n := i0.toInt) (by omega) h0, fe_i (y := i2) (k := 2) (n := i0.toInt) (by omega) h0, fe_i (y := i3) (k := 3) (n := i0.toInt) (by omega) h0]
  rfl
theorem b8_r : -128 ≤ (b8 x y).toInt ∧ (b8 x y).toInt ≤ 127 := by
  unfold b8
  rw [pk_vb, Int8.toInt_toInt32]
  have h1 := Int8.le_toInt (x >>> (y &&& 31)).toInt8
  have h2 := Int8.toInt_lt (x >>> (y &&& 31)).toInt8
  omega
theorem bR_u (h : bR f) (hv : -128 ≤ v.toInt ∧ v.toInt ≤ 127) : bR (upd f m v) := by
  intro j
  unfold upd
  by_cases q : j = m
  · rw [if_pos q]
    exact hv
  · rw [if_neg q]
    exact h j
theorem bR_4 (h : bR f) : bR (b4 f m x) := bR_u (bR_u (bR_u (bR_u h b8_r) b8_r) b8_r) b8_r
theorem bR_20 (h : bR f) : bR (b20 f m a b c d e) := bR_4 (bR_4 (bR_4 (bR_4 (bR_4 h))))
theorem bR_z : bR (fun _ : Nat => (0 : Int32)) := fun _ => ⟨(show (-128 : Int) ≤ (0 : Int32).toInt by decide), (show (0 : Int32).toInt ≤ 127 by decide)⟩
theorem bR_f {P : Prop} [Decidable P] (h : bR f) (e1 : w = (if P then b20 f m a b c d e else f)) : bR w := by
  rw [e1]
  by_cases q : P
  · rw [if_pos q]
    exact bR_20 h
  · rw [if_neg q]
    exact h
theorem fe_q {f1 f41 x1 x41 : Nat → Int32} {jl xm a' b' c' d' e' : Int32} (hf : f1 = f41) (hl : jl.toInt = xm.toInt) (ha : a'.toInt = a.toInt) (hb : b'.toInt = b.toInt) (hc : c'.toInt = c.toInt) (hd : d'.toInt = d.toInt) (he : e'.toInt = e.toInt) (h1 : x1 = (if jl.toInt + 20 ≤ 3000 then b20 f1 jl.toInt.toNat a b c d e else f1)) (h2 : x41 = (if xm.toInt + 20 ≤ 3000 then b20 f41 xm.toInt.toNat a' b' c' d' e' else f41)) : x1 = x41 := by
  rw [h1, h2, hf, hl, Int32.toInt_inj.mp ha, Int32.toInt_inj.mp hb, Int32.toInt_inj.mp hc, Int32.toInt_inj.mp hd, Int32.toInt_inj.mp he]
end
def abV (f28 f29 f30 f31 f32 : Nat → Int32) (k w : Int) : Int := if w = 0 then rI f28 k.toNat else if w = 1 then rI f29 k.toNat else if w = 2 then rI f30 k.toNat else if w = 3 then rI f31 k.toNat else rI f32 k.toNat
def abC (ow on : Int) (f28 f29 f30 f31 f32 : Nat → Int32) (k w r : Int) : Prop := (ow = 0 ∨ k < 0 ∨ on ≤ k → r = -2) ∧ (¬ ow = 0 ∧ 0 ≤ k ∧ k < on → r = abV f28 f29 f30 f31 f32 k w)
def tlC (ow on : Int) (f28 f29 f30 f31 f32 : Nat → Int32) (k w r : Int) : Prop := (w < 0 ∨ 4 < w → r = -1) ∧ (0 ≤ w ∧ w ≤ 4 → abC ow on f28 f29 f30 f31 f32 k w r)
def tlM (xy : Int) (td : Nat → Int32) (k w r : Int) : Prop := (w < 0 ∨ 4 < w → r = -1) ∧ (0 ≤ w ∧ w ≤ 4 → (0 ≤ k ∧ k < xy → r = rd td (5 * k + w)) ∧ (¬ (0 ≤ k ∧ k < xy) → r = -2))
