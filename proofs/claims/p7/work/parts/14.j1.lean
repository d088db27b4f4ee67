def sCh (i : Nat) (k : Int) : Int := ((sX i).2.2.2.getD k.toNat 0).toInt
def fIx (g : Int → Int) (c : Int) : Nat → Int → Int
  | 0, _ => -1
  | n + 1, k => if g k = c then k else fIx g c n (k + 1)
set_option maxRecDepth 100000 in
theorem sX_c : ∀ i, i < 47 → ∀ v ∈ (sX i).2.2.2, ((v &&& 255).toUInt32 % 65536).toInt32 = v := by decide +kernel
theorem gD_in {α : Type} {l : List α} {k : Nat} {d : α} (h : k < l.length) : l.getD k d = l[k] := by
  rw [List.getD_eq_getElem?_getD, List.getElem?_eq_getElem h]
  rfl
theorem sC_at {i : Nat} (hi : i < 47) {x z y : Int32} (ez : z = (sX i).2.2.2.getD x.toNatClampNeg 0) (ey : y = z &&& 255) (h1 : 0 ≤ x.toInt) (h2 : x.toInt < sN i) : ((y.toUInt32 % 65536).toInt32).toInt = sCh i x.toInt := by
  have hl : x.toNatClampNeg < (sX i).2.2.2.length := by
    show x.toInt.toNat < sN i
    omega
  have hm : z ∈ (sX i).2.2.2 := by
    rw [ez, gD_in hl]
    exact List.getElem_mem hl
  rw [ey, sX_c i hi z hm, ez]
  rfl
theorem sC_z {i : Nat} {x z : Int32} (ez : z = (sX i).2.2.2.getD x.toNatClampNeg 0) : sCh i x.toInt = z.toInt := by
  rw [ez]
  rfl
theorem pw_p : ∀ m : Nat, 0 < (37 : Int) ^ m := by
  intro m
  induction m with
  | zero => decide
  | succ m ih => rw [Int.pow_succ]; omega
theorem pw_d (m : Nat) : ∀ d : Nat, (37 : Int) ^ m ≤ 37 ^ (m + d) := by
  intro d
  induction d with
  | zero => exact Int.le_refl _
  | succ d ih =>
    have e : (37 : Int) ^ (m + (d + 1)) = 37 ^ (m + d) * 37 := Int.pow_succ _ _
    have q := pw_p (m + d)
    omega
theorem pw_m {m n : Nat} (h : m ≤ n) : (37 : Int) ^ m ≤ 37 ^ n := by
  have q := pw_d m (n - m)
  rw [show m + (n - m) = n from by omega] at q
  exact q
section
variable {g : Int → Int} {c a b d : Int}
theorem fI_n (h : b ≤ a) : fIx g c (b - a).toNat a = -1 := by
  rw [show (b - a).toNat = 0 from by omega]
  rfl
theorem fI_h (h : a < b) (e : g a = c) : fIx g c (b - a).toNat a = a := by
  obtain ⟨n, hn⟩ : ∃ n : Nat, (b - a).toNat = n + 1 := ⟨(b - a).toNat - 1, by omega⟩
  rw [hn]
  exact if_pos e
theorem fI_s (h : a < b) (e : ¬ g a = c) (e2 : d = a + 1) : fIx g c (b - a).toNat a = fIx g c (b - d).toNat d := by
  obtain ⟨n, hn⟩ : ∃ n : Nat, (b - a).toNat = n + 1 := ⟨(b - a).toNat - 1, by omega⟩
  rw [hn, show (b - d).toNat = n from by omega, e2]
  exact if_neg e
theorem fI_sg : ∀ (L : List Int) (k : Int), 0 ≤ k → (∀ j : Nat, j < L.length → g (k + j) = L.getD j 0) → (fIx g c L.length k < 0 ∧ sIx c L (30 + k) = -1) ∨ (0 ≤ fIx g c L.length k ∧ fIx g c L.length k ≤ k + L.length ∧ sIx c L (30 + k) = 30 + fIx g c L.length k) := by
  intro L
  induction L with
  | nil => intro k _ _; exact Or.inl ⟨by show (-1 : Int) < 0; omega, rfl⟩
  | cons t ts ih =>
    intro k hk hg
    have e0 : g k = t := by
      have q := hg 0 (by rw [List.length_cons]; omega)
      rw [show k + ((0 : Nat) : Int) = k from by omega] at q
      exact q
    have e1 : fIx g c (t :: ts).length k = if g k = c then k else fIx g c ts.length (k + 1) := rfl
    have e2 : sIx c (t :: ts) (30 + k) = if t = c then 30 + k else sIx c ts (30 + k + 1) := rfl
    rw [e1, e2, e0]
    by_cases h : t = c
    · rw [if_pos h, if_pos h]
      exact Or.inr ⟨hk, by rw [List.length_cons]; omega, rfl⟩
    · rw [if_neg h, if_neg h]
      have q := ih (k + 1) (by omega) (fun j hj => by
        have q2 := hg (j + 1) (by rw [List.length_cons]; omega)
        rw [show k + 1 + (j : Int) = k + ((j + 1 : Nat) : Int) from by omega]
        exact q2)
      rw [show (30 : Int) + (k + 1) = 30 + k + 1 from by omega] at q
      rw [List.length_cons]
      rcases q with q | q
      · exact Or.inl q
      · exact Or.inr ⟨q.1, by omega, q.2.2⟩
end
set_option maxRecDepth 100000 in
theorem bt_s : ∀ k : Fin 256, 0 ≤ ((((Int32.ofInt ((k.val : Int) - 128)) &&& 255).toUInt32 % 65536).toInt32).toInt ∧ ((((Int32.ofInt ((k.val : Int) - 128)) &&& 255).toUInt32 % 65536).toInt32).toInt ≤ 255 ∧ (((((Int32.ofInt ((k.val : Int) - 128)) &&& 255).toUInt32 % 65536).toInt32).toInt8.toInt32).toInt = (Int32.ofInt ((k.val : Int) - 128)).toInt := by decide +kernel
theorem bt_c {z y : Int32} (ey : y = z &&& 255) (h1 : -128 ≤ z.toInt) (h2 : z.toInt ≤ 127) : 0 ≤ ((y.toUInt32 % 65536).toInt32).toInt ∧ ((y.toUInt32 % 65536).toInt32).toInt ≤ 255 ∧ (((y.toUInt32 % 65536).toInt32).toInt8.toInt32).toInt = z.toInt := by
  have q := bt_s ⟨(z.toInt + 128).toNat, by omega⟩
  have e : Int32.ofInt ((((z.toInt + 128).toNat : Nat) : Int) - 128) = z := by
    rw [show ((((z.toInt + 128).toNat : Nat) : Int) - 128) = z.toInt from by omega]
    exact Int32.ofInt_toInt z
  have q1 : 0 ≤ ((((Int32.ofInt ((((z.toInt + 128).toNat : Nat) : Int) - 128)) &&& 255).toUInt32 % 65536).toInt32).toInt ∧ ((((Int32.ofInt ((((z.toInt + 128).toNat : Nat) : Int) - 128)) &&& 255).toUInt32 % 65536).toInt32).toInt ≤ 255 ∧ (((((Int32.ofInt ((((z.toInt + 128).toNat : Nat) : Int) - 128)) &&& 255).toUInt32 % 65536).toInt32).toInt8.toInt32).toInt = (Int32.ofInt ((((z.toInt + 128).toNat : Nat) : Int) - 128)).toInt := q
  rw [e] at q1
  rw [ey]
  exact q1
theorem lo_1 {p : Int64} {y : Int32} (h0 : 0 ≤ p.toInt) (h1 : p.toInt ≤ 4000000000000) (y0 : -100000 ≤ y.toInt) (y1 : y.toInt ≤ 100000) : ((p * 37) + y.toInt64).toInt = p.toInt * 37 + y.toInt := by
  have e1 : (p.toInt * 37).bmod (2 ^ 64) = p.toInt * 37 := Int.bmod_eq_of_le (by omega) (by omega)
  have e2 : (p.toInt * 37 + y.toInt).bmod (2 ^ 64) = p.toInt * 37 + y.toInt := Int.bmod_eq_of_le (by omega) (by omega)
  rw [Int64.toInt_add, Int64.toInt_mul, Int32.toInt_toInt64, show (37 : Int64).toInt = 37 from by decide +kernel, e1, e2]
theorem nu_1 {p : Int64} {y : Int32} (h0 : 0 ≤ p.toInt) (h1 : p.toInt ≤ 34359738367) (y0 : -100000 ≤ y.toInt) (y1 : y.toInt ≤ 100000) : ((p * 10) + y.toInt64).toInt = p.toInt * 10 + y.toInt := by
  have e1 : (p.toInt * 10).bmod (2 ^ 64) = p.toInt * 10 := Int.bmod_eq_of_le (by omega) (by omega)
  have e2 : (p.toInt * 10 + y.toInt).bmod (2 ^ 64) = p.toInt * 10 + y.toInt := Int.bmod_eq_of_le (by omega) (by omega)
  rw [Int64.toInt_add, Int64.toInt_mul, Int32.toInt_toInt64, show (10 : Int64).toInt = 10 from by decide +kernel, e1, e2]
theorem lc_g {x y : Int64} (h : 0 < (lg_cmp x y).toInt) : y.toInt < x.toInt := by
  have q : ¬ x ≤ y := fun q => by
    have q1 := Int32.le_iff_toInt_le.mp ((lg_cmp_le x y).mpr q)
    have q2 : (0 : Int32).toInt = 0 := by decide +kernel
    omega
  have q1 : ¬ x.toInt ≤ y.toInt := fun z => q (Int64.le_iff_toInt_le.mpr z)
  omega
theorem lc_l {x y : Int64} (h : ¬ 0 < (lg_cmp x y).toInt) : x.toInt ≤ y.toInt := by
  have q2 : (0 : Int32).toInt = 0 := by decide +kernel
  have q : lg_cmp x y ≤ 0 := Int32.le_iff_toInt_le.mpr (by omega)
  exact Int64.le_iff_toInt_le.mp ((lg_cmp_le x y).mp q)
def wK (f : Nat → Int64) : Prop := ∀ j : Nat, j < 26 → (f (j + 1)).toInt = wTb.getD j 0
def bR (f : Nat → Int32) : Prop := ∀ j : Nat, -128 ≤ (f j).toInt ∧ (f j).toInt ≤ 127
def tB (f : Nat → Int32) (p : Int) : Int := (f p.toNat).toInt
theorem tB_z {f : Nat → Int32} {x z : Int32} (ez : z = f x.toNatClampNeg) : tB f x.toInt = z.toInt := by
  rw [ez]
  rfl
theorem wD_e {key : Int} {k : Nat} {w : Int} (h : k < 26) : wFd key (wTb.drop k) w = if wTb.getD k 0 = key then w else wFd key (wTb.drop (k + 1)) (w + 1) := by
  have hl : k < wTb.length := h
  rw [List.drop_eq_getElem_cons hl, gD_in hl]
  rfl
section
variable {f : Nat → Int64} {key : Int} {w w2 : Int32} {z : Int64}
theorem wK_z (hf : wK f) (ez : z = f w.toNatClampNeg) (h1 : 1 ≤ w.toInt) (h2 : w.toInt ≤ 26) : wTb.getD (w.toInt - 1).toNat 0 = z.toInt := by
  have q := hf (w.toInt - 1).toNat (by omega)
  rw [← q, ez]
  congr 2
  show (w.toInt - 1).toNat + 1 = w.toInt.toNat
  omega
theorem wD_s (hf : wK f) (ez : z = f w.toNatClampNeg) (h1 : 1 ≤ w.toInt) (h2 : w.toInt ≤ 26) (hn : ¬ z.toInt = key) (e2 : w2.toInt = w.toInt + 1) : wFd key (wTb.drop (w.toInt - 1).toNat) w.toInt = wFd key (wTb.drop (w2.toInt - 1).toNat) w2.toInt := by
  rw [wD_e (by omega), wK_z hf ez h1 h2, if_neg hn, e2, show (w.toInt + 1 - 1).toNat = (w.toInt - 1).toNat + 1 from by omega]
theorem wD_f (hf : wK f) (ez : z = f w.toNatClampNeg) (h1 : 1 ≤ w.toInt) (h2 : w.toInt ≤ 26) (hn : z.toInt = key) : wFd key (wTb.drop (w.toInt - 1).toNat) w.toInt = w.toInt := by
  rw [wD_e (by omega), wK_z hf ez h1 h2, if_pos hn]
theorem wD_n (h1 : 26 < w.toInt) (h2 : w.toInt ≤ 27) : wFd key (wTb.drop (w.toInt - 1).toNat) w.toInt = 0 := by
  rw [show (w.toInt - 1).toNat = 26 from by omega]
  rfl
theorem kW_f {size v : Int} (h : ¬ 9 < size) (e : wFd key wTb 1 = v) (hv : 1 ≤ v) : kWd key size = v := by
  unfold kWd
  rw [if_neg h, if_pos (by omega), e]
theorem kW_n {size : Int} (h : ¬ 9 < size) (e : wFd key wTb 1 = 0) (h8 : ¬ 8 < size) : kWd key size = 27 := by
  unfold kWd
  rw [if_neg h, if_neg (by omega), if_neg h8]
theorem kW_b {size : Int} (h : ¬ 9 < size) (e : wFd key wTb 1 = 0) (h8 : 8 < size) : kWd key size = -1 := by
  unfold kWd
  rw [if_neg h, if_neg (by omega), if_pos h8]
end
def zAk (tc : Int32) (f9 f10 : Nat → Int32) (f11 : Nat → Int64) (k p : Int32) (y : Int64) (tc' : Int32) (f9' f10' : Nat → Int32) (f11' : Nat → Int64) : Prop := tc.toInt < 3001 → tc'.toInt = tc.toInt + 1 ∧ f9' = upd f9 tc.toNatClampNeg k ∧ f10' = upd f10 tc.toNatClampNeg p ∧ f11' = vp_updL f11 tc.toNatClampNeg y
def tAd (tc : Int32) (f9 f10 : Nat → Int32) (f11 : Nat → Int64) (tc' : Int32) (f9' f10' : Nat → Int32) (f11' : Nat → Int64) (k p y : Int) : Prop := tc'.toInt = tc.toInt + 1 ∧ (∀ j : Nat, (j : Int) < tc.toInt → f9' j = f9 j ∧ f10' j = f10 j ∧ f11' j = f11 j) ∧ (f9' tc.toInt.toNat).toInt = k ∧ (f10' tc.toInt.toNat).toInt = p ∧ (f11' tc.toInt.toNat).toInt = y
section
variable {tc tc' k p : Int32} {f9 f10 f9' f10' : Nat → Int32} {f11 f11' : Nat → Int64} {y : Int64} {a b c : Int}
theorem zA_t (h : zAk tc f9 f10 f11 k p y tc' f9' f10' f11') (ht : tc.toInt < 3001) (ea : k.toInt = a) (eb : p.toInt = b) (ec : y.toInt = c) : tAd tc f9 f10 f11 tc' f9' f10' f11' a b c := by
  obtain ⟨h1, h2, h3, h4⟩ := h ht
  refine ⟨h1, fun j hj => ?_, ?_, ?_, ?_⟩
  · have hn : j ≠ tc.toNatClampNeg := fun q => by
      have q1 : j = tc.toInt.toNat := q
      omega
    rw [h2, h3, h4]
    exact ⟨pk_un hn, pk_un hn, pk_uLn hn⟩
  · rw [h2, ← ea]
    exact congrArg Int32.toInt pk_us
  · rw [h3, ← eb]
    exact congrArg Int32.toInt pk_us
  · rw [h4, ← ec]
    exact congrArg Int64.toInt pk_uLs
end
def wIv (bt : Int → Int) (n p b k : Int) : Prop := wEn bt n (n - p).toNat p = wEn bt n (n - b).toNat b ∧ k = wKy bt (min 9 (b - p)).toNat p 0 ∧ 0 ≤ k ∧ k + 1 ≤ 37 ^ (min 9 (b - p)).toNat
def nIv (bt : Int → Int) (n p b v : Int) : Prop := dEn bt n (n - p).toNat p = dEn bt n (n - b).toNat b ∧ v = vNu bt (b - p).toNat p 0 ∧ 0 ≤ v ∧ v ≤ 343597383679
section
variable {bt : Int → Int} {n p b b' k v : Int}
theorem wKy_s : ∀ (m : Nat) (q a : Int), wKy bt (m + 1) q a = wKy bt m q a * 37 + cCd (bt (q + m)) := by
  intro m
  induction m with
  | zero =>
    intro q a
    show a * 37 + cCd (bt q) = a * 37 + cCd (bt (q + ((0 : Nat) : Int)))
    rw [show q + ((0 : Nat) : Int) = q from by omega]
  | succ m ih =>
    intro q a
    have e : wKy bt (m + 1 + 1) q a = wKy bt (m + 1) (q + 1) (a * 37 + cCd (bt q)) := rfl
    have e2 : wKy bt (m + 1) q a = wKy bt m (q + 1) (a * 37 + cCd (bt q)) := rfl
    rw [e, ih, e2, show q + 1 + (m : Int) = q + ((m + 1 : Nat) : Int) from by omega]
theorem vNu_s : ∀ (m : Nat) (q a : Int), vNu bt (m + 1) q a = if vNu bt m q a ≤ 34359738367 then vNu bt m q a * 10 + (bt (q + m) - 48) else vNu bt m q a := by
  intro m
  induction m with
  | zero =>
    intro q a
    show (if a ≤ 34359738367 then a * 10 + (bt q - 48) else a) = if a ≤ 34359738367 then a * 10 + (bt (q + ((0 : Nat) : Int)) - 48) else a
    rw [show q + ((0 : Nat) : Int) = q from by omega]
  | succ m ih =>
    intro q a
    have e : vNu bt (m + 1 + 1) q a = vNu bt (m + 1) (q + 1) (if a ≤ 34359738367 then a * 10 + (bt q - 48) else a) := rfl
    have e2 : vNu bt (m + 1) q a = vNu bt m (q + 1) (if a ≤ 34359738367 then a * 10 + (bt q - 48) else a) := rfl
    rw [e, ih, e2, show q + 1 + (m : Int) = q + ((m + 1 : Nat) : Int) from by omega]
theorem cCd_b {c : Int} (h : cLe c ∨ cDi c) : 1 ≤ cCd c ∧ cCd c ≤ 36 := by
  unfold cCd
  by_cases h1 : cLe c
  · rw [if_pos h1]
    unfold cLe at h1
    omega
  · rw [if_neg h1]
    have h2 : cDi c := h.resolve_left h1
    unfold cDi at h2
    omega
theorem wV_0 : wIv bt n p p 0 := by
  refine ⟨rfl, ?_, Int.le_refl _, ?_⟩
  · rw [show (min 9 (p - p)).toNat = 0 from by omega]
    rfl
  · rw [show (min 9 (p - p)).toNat = 0 from by omega]
    decide
theorem wV_e (h : b < n) (hc : cLe (bt b) ∨ cDi (bt b)) (e : b' = b + 1) : wEn bt n (n - b).toNat b = wEn bt n (n - b').toNat b' := by
  obtain ⟨m, hm⟩ : ∃ m : Nat, (n - b).toNat = m + 1 := ⟨(n - b).toNat - 1, by omega⟩
  rw [hm, show (n - b').toNat = m from by omega, e]
  exact if_pos ⟨h, hc⟩
theorem wV_b (h : wIv bt n p b k) (h9 : b - p < 9) : 0 ≤ k ∧ k ≤ 4000000000000 := by
  refine ⟨h.2.2.1, ?_⟩
  have q := h.2.2.2
  have q1 : (37 : Int) ^ (min 9 (b - p)).toNat ≤ 37 ^ 8 := pw_m (by omega)
  have q2 : (37 : Int) ^ 8 = 3512479453921 := by decide
  omega
theorem wV_s (h : wIv bt n p b k) (hb : b < n) (hp : p ≤ b) (hc : cLe (bt b) ∨ cDi (bt b)) (h9 : b - p < 9) (e : b' = b + 1) (ek : v = k * 37 + cCd (bt b)) : wIv bt n p b' v := by
  obtain ⟨h1, h2, h3, h4⟩ := h
  have hm : (min 9 (b' - p)).toNat = (min 9 (b - p)).toNat + 1 := by omega
  have hq : p + (((min 9 (b - p)).toNat : Nat) : Int) = b := by omega
  have hd := cCd_b hc
  refine ⟨h1.trans (wV_e hb hc e), ?_, by omega, ?_⟩
  · rw [hm, wKy_s, ← h2, hq]
    exact ek
  · rw [hm, Int.pow_succ]
    omega
theorem wV_t (h : wIv bt n p b k) (hb : b < n) (hp : p ≤ b) (hc : cLe (bt b) ∨ cDi (bt b)) (h9 : ¬ b - p < 9) (e : b' = b + 1) : wIv bt n p b' k := by
  obtain ⟨h1, h2, h3, h4⟩ := h
  have hm : (min 9 (b' - p)).toNat = (min 9 (b - p)).toNat := by omega
  exact ⟨h1.trans (wV_e hb hc e), by rw [hm]; exact h2, h3, by rw [hm]; exact h4⟩
theorem wV_x (h : wIv bt n p b k) (hx : ¬ (b < n ∧ (cLe (bt b) ∨ cDi (bt b)))) : wEn bt n (n - p).toNat p = b := by
  rw [h.1]
  by_cases hb : b < n
  · obtain ⟨m, hm⟩ : ∃ m : Nat, (n - b).toNat = m + 1 := ⟨(n - b).toNat - 1, by omega⟩
    rw [hm]
    exact if_neg hx
  · rw [show (n - b).toNat = 0 from by omega]
    rfl
theorem nV_0 : nIv bt n p p 0 := by
  refine ⟨rfl, ?_, Int.le_refl _, by decide⟩
  rw [show (p - p).toNat = 0 from by omega]
  rfl
theorem nV_e (h : b < n) (hc : cDi (bt b)) (e : b' = b + 1) : dEn bt n (n - b).toNat b = dEn bt n (n - b').toNat b' := by
  obtain ⟨m, hm⟩ : ∃ m : Nat, (n - b).toNat = m + 1 := ⟨(n - b).toNat - 1, by omega⟩
  rw [hm, show (n - b').toNat = m from by omega, e]
  exact if_pos ⟨h, hc⟩
theorem nV_s (h : nIv bt n p b k) (hb : b < n) (hp : p ≤ b) (hc : cDi (bt b)) (hl : k ≤ 34359738367) (e : b' = b + 1) (ek : v = k * 10 + (bt b - 48)) : nIv bt n p b' v := by
  obtain ⟨h1, h2, h3, h4⟩ := h
  have hm : (b' - p).toNat = (b - p).toNat + 1 := by omega
  have hq : p + (((b - p).toNat : Nat) : Int) = b := by omega
  have hd : 48 ≤ bt b ∧ bt b ≤ 57 := hc
  refine ⟨h1.trans (nV_e hb hc e), ?_, by omega, by omega⟩
  rw [hm, vNu_s, ← h2, hq, if_pos hl]
  exact ek
theorem nV_t (h : nIv bt n p b k) (hb : b < n) (hp : p ≤ b) (hc : cDi (bt b)) (hl : ¬ k ≤ 34359738367) (e : b' = b + 1) : nIv bt n p b' k := by
  obtain ⟨h1, h2, h3, h4⟩ := h
  have hm : (b' - p).toNat = (b - p).toNat + 1 := by omega
  refine ⟨h1.trans (nV_e hb hc e), ?_, h3, h4⟩
  rw [hm, vNu_s, ← h2, if_neg hl]
theorem nV_x (h : nIv bt n p b k) (hx : ¬ (b < n ∧ cDi (bt b))) : dEn bt n (n - p).toNat p = b := by
  rw [h.1]
  by_cases hb : b < n
  · obtain ⟨m, hm⟩ : ∃ m : Nat, (n - b).toNat = m + 1 := ⟨(n - b).toNat - 1, by omega⟩
    rw [hm]
    exact if_neg hx
  · rw [show (n - b).toNat = 0 from by omega]
    rfl
end
theorem lcg {x : Int64} (h : 0 < (lg_cmp x 34359738367).toInt) : 34359738367 < x.toInt := by
  have q := lc_g h
  rw [show (34359738367 : Int64).toInt = 34359738367 from by decide +kernel] at q
  exact q
theorem lcl {x : Int64} (h : ¬ 0 < (lg_cmp x 34359738367).toInt) : x.toInt ≤ 34359738367 := by
  have q := lc_l h
  rw [show (34359738367 : Int64).toInt = 34359738367 from by decide +kernel] at q
  exact q
theorem zmaxb {x y v : Int32} (e : v = (if x < y then y else x)) : x.toInt ≤ v.toInt ∧ y.toInt ≤ v.toInt ∧ (v.toInt = x.toInt ∨ v.toInt = y.toInt) := by
  by_cases h : x < y
  · rw [if_pos h] at e
    have h1 := Int32.lt_iff_toInt_lt.mp h
    subst e
    omega
  · rw [if_neg h] at e
    have q1 : ¬ x.toInt < y.toInt := fun z => h (Int32.lt_iff_toInt_lt.mpr z)
    subst e
    omega
