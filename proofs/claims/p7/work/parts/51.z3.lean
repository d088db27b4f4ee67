def z1F (ho wh : nA) (c : Int) : Nat → sGv → sGv
  | 0, x => x
  | n + 1, x => if rd ho (n : Int) = c ∧ ¬ rd wh (n : Int) = 4 then giv (n : Int) (z1F ho wh c n x) else z1F ho wh c n x
def z2F (ho wh : nA) (c : Int) : Nat → sGv → sGv
  | 0, x => x
  | n + 1, x => if rd ho (n : Int) = c ∧ rd wh (n : Int) = 4 then giv (n : Int) (z2F ho wh c n x) else z2F ho wh c n x
def rfo (a : Int) : Nat → sGv → sGv
  | 0, x => x
  | m + 1, x => giv (a + (m : Int)) (rfo a m x)
def z3F (ho wh mo fi : nA) (c : Int) : Nat → sGv → sGv
  | 0, x => x
  | n + 1, x => if rd ho (n : Int) = c ∧ rd wh (n : Int) = 2 then rfo (rd fi (n : Int)) (rd mo (n : Int)).toNat (z3F ho wh mo fi c n x) else z3F ho wh mo fi c n x
def zbG (so on : nA) (F : Int → sGv → sGv) : Nat → sGv → sGv
  | 0, x => x
  | n + 1, x => if rd so (n : Int) = 21 then F (rd on (n : Int)) (zbG so on F n x) else zbG so on F n x
def zkF (ho wh mo fi : nA) (xk c : Int) (x : sGv) : sGv := z3F ho wh mo fi c xk.toNat (z2F ho wh c xk.toNat (z1F ho wh c xk.toNat x))
def zbF (so on ho wh mo fi : nA) (xk : Int) (n : Nat) (x : sGv) : sGv := zbG so on (zkF ho wh mo fi xk) n x
def zv0 (wh ty : nA) (k : Int) : Int := if rd wh k < 5 then rd wh k + 1 else if rd ty k = 8 then 8 else if (ty k.toNat &&& 4).toInt = 0 then 6 else 7
def zv1 (wh ty : nA) (k : Int) : Int := if rd wh k = 4 ∨ rd wh k = 3 ∨ rd ty k = 8 then 0 else (ty k.toNat &&& 3).toInt
def zv2 (wh li mo : nA) (k : Int) : Int := if rd wh k = 1 then rd li k else if rd wh k = 2 then rd mo k else 0
def zv3 (io bv : nA) (k : Int) : Int := if ¬ rd io k = 0 ∨ ¬ rd bv k = 0 then 1 else 0
def zv4 (ins ho nu : nA) (k : Int) : Int := if rd ins (rd ho k) < 0 then -1 else rd nu (rd ins (rd ho k))
def tdU (a v0 v1 v2 v3 v4 : Int) (f : nA) : nA := upd (upd (upd (upd (upd f (5 * a).toNat (Int32.ofInt v0)) (5 * a + 1).toNat (Int32.ofInt v1)) (5 * a + 2).toNat (Int32.ofInt v2)) (5 * a + 3).toNat (Int32.ofInt v3)) (5 * a + 4).toNat (Int32.ofInt v4)
def tdL (nu v0 v1 v2 v3 v4 : Int → Int) : Nat → nA → nA
  | 0, f => f
  | n + 1, f => tdU (nu (n : Int)) (v0 (n : Int)) (v1 (n : Int)) (v2 (n : Int)) (v3 (n : Int)) (v4 (n : Int)) (tdL nu v0 v1 v2 v3 v4 n f)
section
variable {so on ho wh mo fi ty li io bv ins : nA} {c k m b b2 p p2 a xk : Int} {x y S S2 X7 x0 : sGv} {F : Int → sGv → sGv} {i0 i1 i2 i3 i4 u0 u1 u2 u3 u4 : Int32} {f g f1 f2 f3 f4 : nA}
theorem z1_t (h : z1F ho wh c k.toNat x = S) (h0 : 0 ≤ k) (e : m = k + 1) (q : rd ho k = c ∧ ¬ rd wh k = 4) (hg : S2 = giv k S) : z1F ho wh c m.toNat x = S2 := by
  rw [show m.toNat = k.toNat + 1 from by omega, hg, ← h]
  show (if rd ho ((k.toNat : Nat) : Int) = c ∧ ¬ rd wh ((k.toNat : Nat) : Int) = 4 then giv ((k.toNat : Nat) : Int) _ else _) = _
  rw [show ((k.toNat : Nat) : Int) = k from by omega, if_pos q]
theorem z1_f (h : z1F ho wh c k.toNat x = S) (h0 : 0 ≤ k) (e : m = k + 1) (q : ¬ (rd ho k = c ∧ ¬ rd wh k = 4)) : z1F ho wh c m.toNat x = S := by
  rw [show m.toNat = k.toNat + 1 from by omega, ← h]
  show (if rd ho ((k.toNat : Nat) : Int) = c ∧ ¬ rd wh ((k.toNat : Nat) : Int) = 4 then giv ((k.toNat : Nat) : Int) _ else _) = _
  rw [show ((k.toNat : Nat) : Int) = k from by omega, if_neg q]
theorem z2_t (h : z2F ho wh c k.toNat x = S) (h0 : 0 ≤ k) (e : m = k + 1) (q : rd ho k = c ∧ rd wh k = 4) (hg : S2 = giv k S) : z2F ho wh c m.toNat x = S2 := by
  rw [show m.toNat = k.toNat + 1 from by omega, hg, ← h]
  show (if rd ho ((k.toNat : Nat) : Int) = c ∧ rd wh ((k.toNat : Nat) : Int) = 4 then giv ((k.toNat : Nat) : Int) _ else _) = _
  rw [show ((k.toNat : Nat) : Int) = k from by omega, if_pos q]
theorem z2_f (h : z2F ho wh c k.toNat x = S) (h0 : 0 ≤ k) (e : m = k + 1) (q : ¬ (rd ho k = c ∧ rd wh k = 4)) : z2F ho wh c m.toNat x = S := by
  rw [show m.toNat = k.toNat + 1 from by omega, ← h]
  show (if rd ho ((k.toNat : Nat) : Int) = c ∧ rd wh ((k.toNat : Nat) : Int) = 4 then giv ((k.toNat : Nat) : Int) _ else _) = _
  rw [show ((k.toNat : Nat) : Int) = k from by omega, if_neg q]
theorem rf_0 (h : y = S) (e : p = a) : rfo a (p - a).toNat y = S := by
  rw [show (p - a).toNat = 0 from by omega]
  exact h
theorem rf_t (h : rfo a (p - a).toNat y = S) (h0 : a ≤ p) (e : p2 = p + 1) (hg : S2 = giv p S) : rfo a (p2 - a).toNat y = S2 := by
  rw [show (p2 - a).toNat = (p - a).toNat + 1 from by omega, hg, ← h]
  show giv (a + (((p - a).toNat : Nat) : Int)) _ = _
  rw [show a + (((p - a).toNat : Nat) : Int) = p from by omega]
theorem z3_t (h : rfo (rd fi k) (p - rd fi k).toNat (z3F ho wh mo fi c k.toNat x) = S) (h0 : 0 ≤ k) (e : m = k + 1) (q : rd ho k = c ∧ rd wh k = 2) (hp : p - rd fi k = rd mo k) : z3F ho wh mo fi c m.toNat x = S := by
  rw [show m.toNat = k.toNat + 1 from by omega, ← h]
  show (if rd ho ((k.toNat : Nat) : Int) = c ∧ rd wh ((k.toNat : Nat) : Int) = 2 then rfo (rd fi ((k.toNat : Nat) : Int)) (rd mo ((k.toNat : Nat) : Int)).toNat _ else _) = _
  rw [show ((k.toNat : Nat) : Int) = k from by omega, if_pos q, hp]
theorem z3_f (h : z3F ho wh mo fi c k.toNat x = S) (h0 : 0 ≤ k) (e : m = k + 1) (q : ¬ (rd ho k = c ∧ rd wh k = 2)) : z3F ho wh mo fi c m.toNat x = S := by
  rw [show m.toNat = k.toNat + 1 from by omega, ← h]
  show (if rd ho ((k.toNat : Nat) : Int) = c ∧ rd wh ((k.toNat : Nat) : Int) = 2 then rfo (rd fi ((k.toNat : Nat) : Int)) (rd mo ((k.toNat : Nat) : Int)).toNat _ else _) = _
  rw [show ((k.toNat : Nat) : Int) = k from by omega, if_neg q]
theorem zb_t (h : zbF so on ho wh mo fi xk b.toNat x0 = X7) (h0 : 0 ≤ b) (e : b2 = b + 1) (q : rd so b = 21) (hS : z3F ho wh mo fi (rd on b) xk.toNat (z2F ho wh (rd on b) xk.toNat (z1F ho wh (rd on b) xk.toNat X7)) = S) : zbF so on ho wh mo fi xk b2.toNat x0 = S := by
  rw [show b2.toNat = b.toNat + 1 from by omega, ← hS, ← h]
  show (if rd so ((b.toNat : Nat) : Int) = 21 then zkF ho wh mo fi xk (rd on ((b.toNat : Nat) : Int)) _ else _) = _
  rw [show ((b.toNat : Nat) : Int) = b from by omega, if_pos q]
  rfl
theorem zb_f (h : zbF so on ho wh mo fi xk b.toNat x0 = S) (h0 : 0 ≤ b) (e : b2 = b + 1) (q : ¬ rd so b = 21) : zbF so on ho wh mo fi xk b2.toNat x0 = S := by
  rw [show b2.toNat = b.toNat + 1 from by omega, ← h]
  show (if rd so ((b.toNat : Nat) : Int) = 21 then zkF ho wh mo fi xk (rd on ((b.toNat : Nat) : Int)) _ else _) = _
  rw [show ((b.toNat : Nat) : Int) = b from by omega, if_neg q]
  rfl
theorem td_s {nu v0 v1 v2 v3 v4 : Int → Int} (h : f = tdL nu v0 v1 v2 v3 v4 k.toNat g) (e1 : f1 = upd f (Int32.toNatClampNeg i0) u0) (e2 : f2 = upd f1 (Int32.toNatClampNeg i1) u1) (e3 : f3 = upd f2 (Int32.toNatClampNeg i2) u2) (e4 : f4 = upd f3 (Int32.toNatClampNeg i3) u3) (h0 : 0 ≤ k) (hm : m = k + 1) (j0 : i0.toInt = 5 * nu k) (j1 : i1.toInt = i0.toInt + 1) (j2 : i2.toInt = i0.toInt + 2) (j3 : i3.toInt = i0.toInt + 3) (j4 : i4.toInt = i0.toInt + 4) (w0 : u0.toInt = v0 k) (w1 : u1.toInt = v1 k) (w2 : u2.toInt = v2 k) (w3 : u3.toInt = v3 k) (w4 : u4.toInt = v4 k) : upd f4 (Int32.toNatClampNeg i4) u4 = tdL nu v0 v1 v2 v3 v4 m.toNat g := by
  rw [show m.toNat = k.toNat + 1 from by omega, e4, e3, e2, e1, h]
  show _ = tdU (nu ((k.toNat : Nat) : Int)) (v0 ((k.toNat : Nat) : Int)) (v1 ((k.toNat : Nat) : Int)) (v2 ((k.toNat : Nat) : Int)) (v3 ((k.toNat : Nat) : Int)) (v4 ((k.toNat : Nat) : Int)) _
  rw [show ((k.toNat : Nat) : Int) = k from by omega, ← w0, ← w1, ← w2, ← w3, ← w4]
  unfold tdU
  rw [oI_t, oI_t, oI_t, oI_t, oI_t, ← j0, ← j1, ← j2, ← j3, ← j4]
  rfl
end
