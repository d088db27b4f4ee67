def kn1 (ho wh : Nat → Int32) (c : Int) : Nat → Int
  | 0 => 0
  | n + 1 => kn1 ho wh c n + (if (ho n).toInt = c ∧ (wh n).toInt ≠ 4 then 1 else 0)
def kn2 (ho wh : Nat → Int32) (c : Int) : Nat → Int
  | 0 => 0
  | n + 1 => kn2 ho wh c n + (if (ho n).toInt = c ∧ (wh n).toInt = 4 then 1 else 0)
def kn3 (ho wh mo : Nat → Int32) (c : Int) : Nat → Int
  | 0 => 0
  | n + 1 => kn3 ho wh mo c n + (if (ho n).toInt = c ∧ (wh n).toInt = 2 then (mo n).toInt else 0)
def kS (ho wh mo : Nat → Int32) (c : Int) : Nat → Int
  | 0 => 0
  | n + 1 => kS ho wh mo c n + (if (ho n).toInt < c then 1 + (if (wh n).toInt = 2 then (mo n).toInt else 0) else 0)
theorem kS_s {ho wh mo : Nat → Int32} {c : Int} : ∀ n : Nat, kS ho wh mo (c + 1) n = kS ho wh mo c n + kn1 ho wh c n + kn2 ho wh c n + kn3 ho wh mo c n := by
  intro n
  induction n with
  | zero => rfl
  | succ n ih =>
    simp only [kS, kn1, kn2, kn3]
    rw [ih]
    by_cases a : (ho n).toInt = c
    · by_cases b : (wh n).toInt = 4
      · rw [if_pos (by omega), if_neg (by omega), if_neg (by omega), if_neg (by omega), if_pos ⟨a, b⟩, if_neg (by omega)]
        omega
      · by_cases d : (wh n).toInt = 2
        · rw [if_pos (by omega), if_pos d, if_neg (by omega), if_pos ⟨a, b⟩, if_neg (by omega), if_pos ⟨a, d⟩]
          omega
        · rw [if_pos (by omega), if_neg d, if_neg (by omega), if_pos ⟨a, b⟩, if_neg (by omega), if_neg (by omega)]
          omega
    · rw [if_neg (c := (ho n).toInt = c ∧ (wh n).toInt ≠ 4) (by omega), if_neg (c := (ho n).toInt = c ∧ (wh n).toInt = 4) (by omega), if_neg (c := (ho n).toInt = c ∧ (wh n).toInt = 2) (by omega)]
      by_cases b : (ho n).toInt < c
      · rw [if_pos (c := (ho n).toInt < c + 1) (by omega), if_pos b]
        omega
      · rw [if_neg (c := (ho n).toInt < c + 1) (by omega), if_neg b]
        omega
theorem kS_m {ho wh mo : Nat → Int32} {c d : Int} (hm : inA mo 0 6) (h : c ≤ d) : ∀ n : Nat, kS ho wh mo c n ≤ kS ho wh mo d n := by
  intro n
  induction n with
  | zero => exact Int.le_refl _
  | succ n ih =>
    simp only [kS]
    have := (hm n).1
    by_cases a : (ho n).toInt < c
    · rw [if_pos a, if_pos (c := (ho n).toInt < d) (by omega)]
      omega
    · rw [if_neg a]
      by_cases b : (ho n).toInt < d
      · rw [if_pos b]
        split <;> omega
      · rw [if_neg b]
        omega
theorem kS_t {ho wh mo : Nat → Int32} {c : Int} (hm : inA mo 0 6) : ∀ n : Nat, 0 ≤ kS ho wh mo c n ∧ kS ho wh mo c n ≤ n + wsum wh mo n := by
  intro n
  induction n with
  | zero => exact ⟨Int.le_refl _, Int.le_refl _⟩
  | succ n ih =>
    simp only [kS, wsum]
    have := (hm n).1
    by_cases a : (ho n).toInt < c
    · rw [if_pos a]
      split <;> omega
    · rw [if_neg a]
      split <;> omega
theorem kn1_m {ho wh : Nat → Int32} {c : Int} {n : Nat} : ∀ d : Nat, kn1 ho wh c n ≤ kn1 ho wh c (n + d) := by
  intro d
  induction d with
  | zero => exact Int.le_refl _
  | succ d ih =>
    show _ ≤ kn1 ho wh c (n + d) + _
    split <;> omega
theorem kn2_m {ho wh : Nat → Int32} {c : Int} {n : Nat} : ∀ d : Nat, kn2 ho wh c n ≤ kn2 ho wh c (n + d) := by
  intro d
  induction d with
  | zero => exact Int.le_refl _
  | succ d ih =>
    show _ ≤ kn2 ho wh c (n + d) + _
    split <;> omega
theorem kn3_m {ho wh mo : Nat → Int32} {c : Int} {n : Nat} (hm : inA mo 0 6) : ∀ d : Nat, kn3 ho wh mo c n ≤ kn3 ho wh mo c (n + d) := by
  intro d
  induction d with
  | zero => exact Int.le_refl _
  | succ d ih =>
    have h9 : 0 ≤ (mo (n + d)).toInt := (hm (n + d)).1
    have e9 : kn3 ho wh mo c (n + (d + 1)) = kn3 ho wh mo c (n + d) + (if (ho (n + d)).toInt = c ∧ (wh (n + d)).toInt = 2 then (mo (n + d)).toInt else 0) := rfl
    rw [e9]
    by_cases q : (ho (n + d)).toInt = c ∧ (wh (n + d)).toInt = 2
    · rw [if_pos q]
      omega
    · rw [if_neg q]
      omega
/-- the same over places -/
def kk1 (ho wh : Nat → Int32) (c k : Int) : Int := kn1 ho wh c k.toNat
def kk2 (ho wh : Nat → Int32) (c k : Int) : Int := kn2 ho wh c k.toNat
def kk3 (ho wh mo : Nat → Int32) (c k : Int) : Int := kn3 ho wh mo c k.toNat
def kTt (ho wh mo : Nat → Int32) (c k : Int) : Int := kS ho wh mo c k.toNat
theorem kk1_le {ho wh : Nat → Int32} {c k m : Int} (h0 : 0 ≤ k) (h : k ≤ m) : kk1 ho wh c k ≤ kk1 ho wh c m := by
  unfold kk1
  have := kn1_m (ho := ho) (wh := wh) (c := c) (n := k.toNat) (m.toNat - k.toNat)
  rw [show k.toNat + (m.toNat - k.toNat) = m.toNat from by omega] at this
  exact this
theorem kk2_le {ho wh : Nat → Int32} {c k m : Int} (h0 : 0 ≤ k) (h : k ≤ m) : kk2 ho wh c k ≤ kk2 ho wh c m := by
  unfold kk2
  have := kn2_m (ho := ho) (wh := wh) (c := c) (n := k.toNat) (m.toNat - k.toNat)
  rw [show k.toNat + (m.toNat - k.toNat) = m.toNat from by omega] at this
  exact this
theorem kk3_le {ho wh mo : Nat → Int32} {c k m : Int} (hm : inA mo 0 6) (h0 : 0 ≤ k) (h : k ≤ m) : kk3 ho wh mo c k ≤ kk3 ho wh mo c m := by
  unfold kk3
  have := kn3_m (ho := ho) (wh := wh) (c := c) (n := k.toNat) hm (m.toNat - k.toNat)
  rw [show k.toNat + (m.toNat - k.toNat) = m.toNat from by omega] at this
  exact this
theorem kk1_t {ho wh : Nat → Int32} {c k m : Int} (h0 : 0 ≤ k) (h : m = k + 1) (a : rd ho k = c) (b : rd wh k ≠ 4) : kk1 ho wh c m = kk1 ho wh c k + 1 := by
  unfold kk1
  rw [show m.toNat = k.toNat + 1 from by omega]
  show _ + _ = _ + _
  rw [if_pos ⟨a, b⟩]
theorem kk2_t {ho wh : Nat → Int32} {c k m : Int} (h0 : 0 ≤ k) (h : m = k + 1) (a : rd ho k = c) (b : rd wh k = 4) : kk2 ho wh c m = kk2 ho wh c k + 1 := by
  unfold kk2
  rw [show m.toNat = k.toNat + 1 from by omega]
  show _ + _ = _ + _
  rw [if_pos ⟨a, b⟩]
theorem kk3_t {ho wh mo : Nat → Int32} {c k m : Int} (h0 : 0 ≤ k) (h : m = k + 1) (a : rd ho k = c) (b : rd wh k = 2) : kk3 ho wh mo c m = kk3 ho wh mo c k + rd mo k := by
  unfold kk3
  rw [show m.toNat = k.toNat + 1 from by omega]
  show _ + _ = _ + _
  rw [if_pos ⟨a, b⟩]
  rfl
theorem kk_0 {ho wh mo : Nat → Int32} {c : Int} : kk1 ho wh c 0 = 0 ∧ kk2 ho wh c 0 = 0 ∧ kk3 ho wh mo c 0 = 0 := ⟨rfl, rfl, rfl⟩
theorem kk_all {ho wh mo : Nat → Int32} {c X d : Int} (hm : inA mo 0 6) (h0 : 0 ≤ X) (hw : WS wh mo X d) (hd : X + d ≤ 3000) : kTt ho wh mo c X + kk1 ho wh c X + kk2 ho wh c X + kk3 ho wh mo c X = kTt ho wh mo (c + 1) X ∧ kTt ho wh mo (c + 1) X ≤ 3000 ∧ 0 ≤ kTt ho wh mo c X := by
  have a := kS_s (ho := ho) (wh := wh) (mo := mo) (c := c) X.toNat
  have b := kS_t (ho := ho) (wh := wh) (mo := mo) (c := c + 1) hm X.toNat
  have e := kS_t (ho := ho) (wh := wh) (mo := mo) (c := c) hm X.toNat
  unfold WS at hw
  unfold kTt kk1 kk2 kk3
  omega
def kII (so on ho wh mo : Nat → Int32) (xn xk b m : Int) : Prop := ∃ cb : Int, m ≤ kTt ho wh mo cb xk ∧ ∀ e : Int, 0 ≤ e → b ≤ e → e < xn → rd so e = 21 → cb ≤ rd on e
theorem kII_0 {so on ho wh mo : Nat → Int32} {xn xk xs m : Int} (hm : inA mo 0 6) (h : blI so on xn xs) (h0 : m = 0) : kII so on ho wh mo xn xk 0 m := ⟨0, by have := kS_t (ho := ho) (wh := wh) (c := 0) hm xk.toNat; unfold kTt; omega, fun e a _ b c => (h e a b c).1⟩
theorem kII_n {so on ho wh mo : Nat → Int32} {xn xk b b' m : Int} (h : kII so on ho wh mo xn xk b m) (h1 : b ≤ b') : kII so on ho wh mo xn xk b' m := by
  obtain ⟨c, a, d⟩ := h
  exact ⟨c, a, fun e p q r => d e p (by omega) r⟩
theorem kII_c {so on ho wh mo : Nat → Int32} {xn xk b m : Int} (hm : inA mo 0 6) (h : kII so on ho wh mo xn xk b m) (h0 : 0 ≤ b) (h1 : b < xn) (h2 : rd so b = 21) : m ≤ kTt ho wh mo (rd on b) xk := by
  obtain ⟨c, a, d⟩ := h
  have := kS_m (ho := ho) (wh := wh) hm (d b h0 (by omega) h1 h2) xk.toNat
  unfold kTt at *
  omega
theorem kII_b {so on ho wh mo : Nat → Int32} {xn xk xs b b' m : Int} (hB : blI so on xn xs) (h0 : 0 ≤ b) (h1 : b' = b + 1) (h2 : rd so b = 21) (hm : m ≤ kTt ho wh mo (rd on b + 1) xk) : kII so on ho wh mo xn xk b' m := ⟨rd on b + 1, hm, fun e p q r w => by
  have := (hB e p r w).2.2 b h0 (by omega) h2
  omega⟩
theorem kII_le {so on ho wh mo : Nat → Int32} {xn xk b m d : Int} (hm : inA mo 0 6) (h0 : 0 ≤ xk) (hw : WS wh mo xk d) (hd : xk + d ≤ 3000) (h : kII so on ho wh mo xn xk b m) : m ≤ 3000 := by
  obtain ⟨c, a, -⟩ := h
  have b := kS_t (ho := ho) (wh := wh) (mo := mo) (c := c) hm xk.toNat
  unfold WS at hw
  unfold kTt at a
  omega
theorem zmul5 {x : Int32} (h0 : 0 ≤ x.toInt) (h1 : x.toInt ≤ 3000) : (5 * x : Int32).toInt = 5 * x.toInt := by
  rw [Int32.toInt_mul, show (5 : Int32).toInt = 5 from by decide +kernel]
  exact Int.bmod_eq_of_le (by omega) (by omega)
theorem xCutS {p : Program} {l : Launch} {e : Env} {R : Room} {s : State} {m : MethodId} {args : Array Value} {below : List Frame} {meth : Method} {c : Code} {cells slots : Nat} {Q : State → Prop} {pcJ pc : Nat} {stkJ stk : List Value} {H0 : Heap} {locs0 : List Loc} {ls0 : Array Slot} (I : Int32 → Heap → List Loc → Array Slot → Prop) (cont : ∀ (x : Int32) (H : Heap) (locs : List Loc) (ls : Array Slot), I x H locs ls → W p l e R s m args below meth c H locs cells slots Q (F0 m pcJ ls (.int x :: stkJ))) (main : (∀ (x : Int32) (H : Heap) (locs : List Loc) (ls : Array Slot), I x H locs ls → W p l e R s m args below meth c H locs cells slots Q (F0 m pcJ ls (.int x :: stkJ))) → W p l e R s m args below meth c H0 locs0 cells slots Q (F0 m pc ls0 stk)) : W p l e R s m args below meth c H0 locs0 cells slots Q (F0 m pc ls0 stk) := main cont
