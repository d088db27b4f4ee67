abbrev sGv := Int × (Nat → Int32)
def giv (k : Int) (x : sGv) : sGv := (x.1 + 1, upd x.2 k.toNat (Int32.ofInt x.1))
def cfo {σ : Type} (T : gV) (st : Int → σ → σ) : Nat → Int → σ → σ
  | 0, _, x => x
  | f + 1, k, x => if 0 ≤ k then cfo T st f (nX T k) (st k x) else x
def nhF (T : gV) (q : Int) (y : sGv) : sGv := cfo T giv 1501 (vF T (nH T q)) y
def nbF (T : gV) (s : Int) (x : sGv) : sGv := cfo T (nhF T) 1501 (vF T s) (cfo T giv 1501 (vF T s) x)
def nwF (T : gV) : Nat → sGv → sGv
  | 0, x => x
  | n + 1, x => if isHd T (n : Int) then nwF T n x else nbF T (n : Int) (nwF T n x)
def nuO (f : Nat → Int32) (k : Int) : Int := gG (rI f) 1501 (-1) k
def cpU (a v : Int) (f : Nat → Int32) : Nat → Int32 := if 0 ≤ a ∧ a < 1501 then upd f a.toNat (Int32.ofInt v) else f
def cpL (nu v : Int → Int) : Nat → (Nat → Int32) → (Nat → Int32)
  | 0, f => f
  | n + 1, f => cpU (nu (n : Int)) (v (n : Int)) (cpL nu v n f)
def mnL (nu : Int → Int) (g : Nat → Int32) : Nat → (Nat → Int32) → (Nat → Int32)
  | 0, f => f
  | n + 1, f => upd (mnL nu g n f) n (Int32.ofInt (nu (g n).toInt))
def mkV (T : gV) (k : Int) : Int := if isMk T k then 1 else 0
def owV (T : gV) (f : Nat → Int32) (k : Int) : Int := nuO f (sPr T (gG (T 4) (T 10 0) (-1) k))
def bWr (T : gV) (on' : Int) (f34 f34' f28 f28' f29 f29' f30 f30' f31 f31' f32 f32' f33 f33' g : Nat → Int32) : Prop := (on', f34') = nwF T (T 11 0).toNat (0, f34) ∧ f28' = cpL (nuO f34') (nK T) (T 10 0).toNat f28 ∧ f29' = cpL (nuO f34') (nT T) (T 10 0).toNat f29 ∧ f30' = cpL (nuO f34') (nC T) (T 10 0).toNat f30 ∧ f31' = cpL (nuO f34') (mkV T) (T 10 0).toNat f31 ∧ f32' = cpL (nuO f34') (owV T f34') (T 10 0).toNat f32 ∧ f33' = mnL (nuO f34') g 3000 f33
section
variable {T : gV} {A : sGv} {v v2 i i2 w w2 k : Int} {f g : Nat → Int32} {x y z a : Int32} {σ : Type} {st : Int → σ → σ} {X X2 Y : σ}
theorem oI_t : Int32.ofInt y.toInt = y := Int32.ofInt_toInt y
theorem cf_s (h : Y = cfo T st (1501 - i).toNat v X) (h0 : 0 ≤ v) (h3 : 0 ≤ i) (h4 : i < 1501) (h5 : i2 = i + 1) (hx : v2 = nX T v) (hX : X2 = st v X) : Y = cfo T st (1501 - i2).toNat v2 X2 := by
  rw [h, show (1501 - i).toNat = (1501 - i2).toNat + 1 by omega, hx, hX]
  show (if 0 ≤ v then _ else _) = _
  rw [if_pos h0]
theorem cf_x (h : Y = cfo T st (1501 - i).toNat v X) (hx : 1501 ≤ i ∨ ¬ 0 ≤ v) : X = Y := by
  by_cases hi : 1501 ≤ i
  · rw [h, show (1501 - i).toNat = 0 by omega]
    rfl
  · obtain ⟨f, hf⟩ : ∃ f : Nat, (1501 - i).toNat = f + 1 := ⟨(1501 - i).toNat - 1, by omega⟩
    rw [h, hf]
    show X = (if 0 ≤ v then _ else _)
    rw [if_neg (by omega)]
theorem gv_s (hy : y.toInt = w) (hz : z.toInt = w + 1) (ha : a.toInt = v) : ((z.toInt, upd f (Int32.toNatClampNeg a) y) : sGv) = giv v (w, f) := by
  show _ = (w + 1, upd f v.toNat (Int32.ofInt w))
  rw [← hy, oI_t, hz, hy, ← ha]
  rfl
theorem nw_h {X : sGv} (h : A = nwF T v.toNat X) (h0 : 0 ≤ v) (h2 : v2 = v + 1) (hh : isHd T v) : A = nwF T v2.toNat X := by
  rw [h, show v2.toNat = v.toNat + 1 by omega]
  show _ = (if isHd T (v.toNat : Int) then _ else _)
  rw [show ((v.toNat : Nat) : Int) = v by omega, if_pos hh]
theorem nw_b {B X : sGv} (h : A = nwF T v.toNat X) (h0 : 0 ≤ v) (h2 : v2 = v + 1) (hh : ¬ isHd T v) (hB : B = nbF T v A) : B = nwF T v2.toNat X := by
  rw [hB, h, show v2.toNat = v.toNat + 1 by omega]
  show _ = (if isHd T (v.toNat : Int) then _ else _)
  rw [show ((v.toNat : Nat) : Int) = v by omega, if_neg hh]
theorem cp_y {B V : Int} (ha : a.toInt = B) (h0 : 0 ≤ a.toInt) (h1 : a.toInt < 1501) (hv : x.toInt = V) : upd f (Int32.toNatClampNeg a) x = cpU B V f := by
  unfold cpU
  rw [← ha, if_pos ⟨h0, h1⟩, ← hv, oI_t]
  rfl
theorem cp_n {B V : Int} (h : ¬ (0 ≤ B ∧ B < 1501)) : f = cpU B V f := by
  unfold cpU
  rw [if_neg h]
theorem cL_s {nu u : Int → Int} {h : Nat → Int32} (e : f = cpL nu u v.toNat g) (h0 : 0 ≤ v) (h2 : v2 = v + 1) (q : h = cpU (nu v) (u v) f) : h = cpL nu u v2.toNat g := by
  rw [q, e, show v2.toNat = v.toNat + 1 by omega]
  show _ = cpU (nu (v.toNat : Int)) (u (v.toNat : Int)) _
  rw [show ((v.toNat : Nat) : Int) = v by omega]
theorem mL_s {nu : Int → Int} {h : Nat → Int32} (e : f = mnL nu h a.toInt.toNat g) (h0 : 0 ≤ a.toInt) (h2 : v2 = a.toInt + 1) (q : x.toInt = nu (rI h a.toInt.toNat)) : upd f (Int32.toNatClampNeg a) x = mnL nu h v2.toNat g := by
  rw [e, show v2.toNat = a.toInt.toNat + 1 by omega]
  show _ = upd (mnL nu h a.toInt.toNat g) a.toInt.toNat (Int32.ofInt (nu (h a.toInt.toNat).toInt))
  have q2 : x.toInt = nu (h a.toInt.toNat).toInt := q
  rw [← q2, oI_t]
  rfl
end
def jR6 (o : Option (gV × List (Int × Int))) (on' : Int) (f34 f34' f28 f28' f29 f29' f30 f30' f31 f31' f32 f32' f33 f33' : Nat → Int32) : Prop := (o = none → f34' = f34 ∧ f28' = f28 ∧ f29' = f29 ∧ f30' = f30 ∧ f31' = f31 ∧ f32' = f32 ∧ f33' = f33) ∧ (∀ x, o = some x → ∃ g, bWr x.1 on' f34 f34' f28 f28' f29 f29' f30 f30' f31 f31' f32 f32' f33 f33' g)
section
variable {T0 T1 : gV} {kd ky pl : Int → Int} {on' : Int} {us : List (Int × Int)} {f34 f34' f28 f28' f29 f29' f30 f30' f31 f31' f32 f32' f33 f33' g : Nat → Int32}
theorem J6_r (h : gJ T0 kd ky pl = none) : jR6 (gJ T0 kd ky pl) on' f34 f34 f28 f28 f29 f29 f30 f30 f31 f31 f32 f32 f33 f33 := ⟨fun _ => ⟨rfl, rfl, rfl, rfl, rfl, rfl, rfl⟩, fun x hx => by rw [h] at hx; cases hx⟩
theorem J6_y (h : gJ T0 kd ky pl = some (T1, us)) (hw : bWr T1 on' f34 f34' f28 f28' f29 f29' f30 f30' f31 f31' f32 f32' f33 f33' g) : jR6 (gJ T0 kd ky pl) on' f34 f34' f28 f28' f29 f29' f30 f30' f31 f31' f32 f32' f33 f33' := ⟨fun e => (by rw [h] at e; cases e), fun x hx => (by rw [h] at hx; cases hx; exact ⟨g, hw⟩)⟩
end
def jR7 (o : Option (gV × List (Int × Int))) (pl ky : Int → Int) (f34' f33 f33' : Nat → Int32) : Prop := ∀ x, o = some x → ∃ m1 : Nat → Int32, fl9 m1 3000 (-1) ∧ f33' = mnL (nuO f34') (gUse x.1 pl ky x.2 m1) 3000 f33
section
variable {o : Option (gV × List (Int × Int))} {T1 : gV} {pl ky : Int → Int} {us : List (Int × Int)} {on' : Int} {f34 f34' f28 f28' f29 f29' f30 f30' f31 f31' f32 f32' f33 f33' g m1 : Nat → Int32}
theorem J7_r (h : o = none) : jR7 o pl ky f34' f33 f33' := fun x hx => by rw [h] at hx; cases hx
theorem J7_y (h : o = some (T1, us)) (hm : fl9 m1 3000 (-1)) (hg : g = gUse T1 pl ky us m1) (hw : bWr T1 on' f34 f34' f28 f28' f29 f29' f30 f30' f31 f31' f32 f32' f33 f33' g) : jR7 o pl ky f34' f33 f33' := fun x hx => by
  rw [h] at hx
  cases hx
  exact ⟨m1, hm, by rw [← hg]; exact hw.2.2.2.2.2.2⟩
end
