theorem znb {r : Int32} (h : r.toInt = 0 ∨ r.toInt = 1) : narrow .boolean (.int r) = .int r := by
  rcases h with h | h
  · have e : r = 0 := Int32.toInt_inj.mp h
    subst e
    decide +kernel
  · have e : r = 1 := Int32.toInt_inj.mp h
    subst e
    decide +kernel
theorem xldcS {p : Program} {l : Launch} {e : Env} {R : Room} {s : State} {m : MethodId} {args : Array Value} {below : List Frame} {meth : Method} {c : Code} {H : Heap} {locs : List Loc} {cells slots : Nat} {Q : State → Prop} {cc : ByteArray} {pc : Nat} {ls : Array Slot} {rest : List Value} (hexec : p.tables.exec = Jvm.exec) (hb : c.code = cc) {own tx : String} {index q : Nat} (hown : s.vm.findClass own = some m.cls) (hZ : vk_R own index tx q s) (hdg : decode cc pc = .ok (.ldc_w index, 3)) (k : W p l e R s m args below meth c H locs cells slots Q (F0 m (pc + 3) ls (.ref q :: rest))) : W p l e R s m args below meth c H locs cells slots Q (F0 m pc ls rest) := by
  intro T hT X
  obtain ⟨t, a1, b1⟩ := k T hT X
  refine ⟨t, ?_, b1⟩
  obtain ⟨kc, cf, i, a', hk, hcf, hcp, -, hr, hev'⟩ := Cond.stringRef_spec hown hZ.1
  cases hZ.2.symm.trans hev'
  obtain ⟨k', hk', he⟩ := X.warmed.alike.2.2 _ _ hk
  have hr' : k'.resolved[index]? = some (some (.string q)) := by
    rcases X.warmed.entry hk hk' index with h | ⟨h, -⟩
    · rw [h]; exact hr
    · rw [hr] at h; cases h
  have hdg' : decode c.code pc = .ok (.ldc_w index, 3) := by rw [hb]; exact hdg
  jvm_step X.here [hexec, hdg', ldc_w.wp_string (e := e) (s := T) (f := F0 m pc ls rest) X.here.top hk' (by rw [he]; exact hcf) hcp hr']
  exact a1
theorem xCut {p : Program} {l : Launch} {e : Env} {R : Room} {s : State} {m : MethodId} {args : Array Value} {below : List Frame} {meth : Method} {c : Code} {cells slots : Nat} {Q : State → Prop} {pcJ pc : Nat} {stkJ stk : List Value} {H0 : Heap} {locs0 : List Loc} {ls0 : Array Slot} (I : Heap → List Loc → Array Slot → Prop) (cont : ∀ (H : Heap) (locs : List Loc) (ls : Array Slot), I H locs ls → W p l e R s m args below meth c H locs cells slots Q (F0 m pcJ ls stkJ)) (main : (∀ (H : Heap) (locs : List Loc) (ls : Array Slot), I H locs ls → W p l e R s m args below meth c H locs cells slots Q (F0 m pcJ ls stkJ)) → W p l e R s m args below meth c H0 locs0 cells slots Q (F0 m pc ls0 stk)) : W p l e R s m args below meth c H0 locs0 cells slots Q (F0 m pc ls0 stk) := main cont
def mN (x : Int) : Nat := x.toNat
theorem mN_lt {a b : Int} (h : b < a) (h0 : 0 < a) : mN b < mN a := by
  unfold mN
  omega
def inR (a b p r : Int) : Prop := (r = 1 ∧ a ≤ p ∧ p ≤ b) ∨ (r = 0 ∧ (p < a ∨ b < p))
def tokI (kd fr to : Nat → Int32) (T : Nat) : Prop := T ≤ 3000 ∧ (∀ t : Nat, t < T → 1 ≤ (kd t).toInt ∧ (kd t).toInt ≤ 4) ∧ ((kd T).toInt = 0 ∨ (kd T).toInt = 5) ∧ (∀ t : Nat, t ≤ T → 0 ≤ (fr t).toInt ∧ (fr t).toInt ≤ (to t).toInt ∧ (to t).toInt ≤ 3000) ∧ ∀ t : Nat, t < T → (fr t).toInt ≤ 2999
theorem tok_T {kd fr to : Nat → Int32} {T : Nat} (h : tokI kd fr to T) : T ≤ 3000 := h.1
theorem tok_k {kd fr to : Nat → Int32} {T : Nat} {i z : Int32} (h : tokI kd fr to T) (h1 : 0 ≤ i.toInt) (h2 : i.toInt ≤ T) (e : z = kd i.toNatClampNeg) : (1 ≤ z.toInt ∧ z.toInt ≤ 4 ∧ i.toInt < T) ∨ ((z.toInt = 0 ∨ z.toInt = 5) ∧ i.toInt = T) := by
  have e1 := zci h1
  by_cases q : i.toNatClampNeg < T
  · have := h.2.1 _ q
    rw [← e] at this
    exact Or.inl ⟨this.1, this.2, by omega⟩
  · have q2 : i.toNatClampNeg = T := by omega
    have := h.2.2.1
    rw [← q2, ← e] at this
    exact Or.inr ⟨this, by omega⟩
theorem tok_f {kd fr to : Nat → Int32} {T : Nat} {i : Int32} (h : tokI kd fr to T) (h1 : 0 ≤ i.toInt) (h2 : i.toInt ≤ T) : 0 ≤ (fr i.toNatClampNeg).toInt ∧ (fr i.toNatClampNeg).toInt ≤ (to i.toNatClampNeg).toInt ∧ (to i.toNatClampNeg).toInt ≤ 3000 := by
  have e1 := zci h1
  exact h.2.2.2.1 _ (by omega)
theorem tok_g {kd fr to : Nat → Int32} {T : Nat} {i z : Int32} (h : tokI kd fr to T) (h1 : 0 ≤ i.toInt) (h2 : i.toInt < T) (e : z = fr i.toNatClampNeg) : z.toInt ≤ 2999 := by
  have e1 := zci h1
  rw [e]
  exact h.2.2.2.2 _ (by omega)
/-- the first t tokens, none of them the last -/
def tokP (kd fr to : Nat → Int32) (t : Int) : Prop := ∀ j : Nat, (j : Int) < t → 1 ≤ (kd j).toInt ∧ (kd j).toInt ≤ 4 ∧ 0 ≤ (fr j).toInt ∧ (fr j).toInt ≤ (to j).toInt ∧ (to j).toInt ≤ 3000 ∧ (fr j).toInt ≤ 2999
def exTok (kd fr to : Nat → Int32) (n : Int) : Prop := ∃ T : Nat, tokI kd fr to T ∧ (T : Int) ≤ n
def tkL (kd fr to : Nat → Int32) (t m n : Int) : Prop := (m = 1 ∧ tokP kd fr to t) ∨ (m = 0 ∧ exTok kd fr to n)
theorem tkL_0 {kd fr to : Nat → Int32} {n : Int} : tkL kd fr to 0 1 n := Or.inl ⟨rfl, fun j h => by omega⟩
theorem tkL_1 {kd fr to : Nat → Int32} {t t2 m n : Int} {i x y z : Int32} (h : tkL kd fr to t m n) (hm : ¬ m = 0) (h1 : 0 ≤ i.toInt) (h2 : i.toInt = t) (h3 : t2 = t + 1) (hx : 1 ≤ x.toInt) (hx2 : x.toInt ≤ 4) (hy : 0 ≤ y.toInt) (hz : y.toInt ≤ z.toInt) (hz2 : z.toInt ≤ 3000) (hy2 : y.toInt ≤ 2999) : tkL (upd kd i.toNatClampNeg x) (upd fr i.toNatClampNeg y) (upd to i.toNatClampNeg z) t2 1 n := by
  rcases h with ⟨-, h⟩ | ⟨e, -⟩
  · refine Or.inl ⟨rfl, fun j hj => ?_⟩
    have e1 := zci h1
    by_cases q : j = i.toNatClampNeg
    · rw [q, pk_us, pk_us, pk_us]
      exact ⟨hx, hx2, hy, hz, hz2, hy2⟩
    · rw [pk_un q, pk_un q, pk_un q]
      exact h j (by omega)
  · exact absurd e hm
theorem tkL_2 {kd fr to : Nat → Int32} {t t2 m n : Int} {i x y z : Int32} (h : tkL kd fr to t m n) (hm : ¬ m = 0) (h1 : 0 ≤ i.toInt) (h2 : i.toInt = t) (ht : t ≤ n) (hn : n ≤ 3000) (hx : x.toInt = 0 ∨ x.toInt = 5) (hy : 0 ≤ y.toInt) (hz : y.toInt ≤ z.toInt) (hz2 : z.toInt ≤ 3000) : tkL (upd kd i.toNatClampNeg x) (upd fr i.toNatClampNeg y) (upd to i.toNatClampNeg z) t2 0 n := by
  rcases h with ⟨-, h⟩ | ⟨e, -⟩
  · have e1 := zci h1
    refine Or.inr ⟨rfl, i.toNatClampNeg, ⟨by omega, fun j hj => ?_, ?_, fun j hj => ?_, fun j hj => ?_⟩, by omega⟩
    · have := h j (by omega)
      rw [pk_un (by omega)]
      exact ⟨this.1, this.2.1⟩
    · rw [pk_us]
      exact hx
    · by_cases q : j = i.toNatClampNeg
      · rw [q, pk_us, pk_us]
        exact ⟨hy, hz, hz2⟩
      · rw [pk_un q, pk_un q]
        have := h j (by omega)
        exact ⟨this.2.2.1, this.2.2.2.1, this.2.2.2.2.1⟩
    · rw [pk_un (by omega)]
      exact (h j (by omega)).2.2.2.2.2
  · exact absurd e hm
theorem tkL_e {kd fr to : Nat → Int32} {t m n : Int} (h : tkL kd fr to t m n) (hm : m = 0) : exTok kd fr to n := by
  rcases h with ⟨e, -⟩ | ⟨-, h⟩
  · omega
  · exact h
/-- a row whose first n entries lie in [a, b] -/
def inB (f : Nat → Int32) (n a b : Int) : Prop := ∀ k : Nat, (k : Int) < n → a ≤ (f k).toInt ∧ (f k).toInt ≤ b
theorem inB_at {f : Nat → Int32} {n a b : Int} {i z : Int32} (h : inB f n a b) (h1 : 0 ≤ i.toInt) (h2 : i.toInt < n) (e : z = f i.toNatClampNeg) : a ≤ z.toInt ∧ z.toInt ≤ b := by
  have e1 := zci h1
  have := h i.toNatClampNeg (by omega)
  rw [← e] at this
  exact this
theorem inB_push {f : Nat → Int32} {n m a b : Int} {i x : Int32} (h : inB f n a b) (h1 : 0 ≤ i.toInt) (h2 : i.toInt = n) (hm : m ≤ n + 1) (ha : a ≤ x.toInt) (hb : x.toInt ≤ b) : inB (upd f i.toNatClampNeg x) m a b := by
  intro k hk
  have e1 := zci h1
  by_cases q : k = i.toNatClampNeg
  · rw [q, pk_us]
    exact ⟨ha, hb⟩
  · rw [pk_un q]
    exact h k (by omega)
theorem inB_set {f : Nat → Int32} {n a b : Int} {j : Nat} {x : Int32} (h : inB f n a b) (ha : a ≤ x.toInt) (hb : x.toInt ≤ b) : inB (upd f j x) n a b := by
  intro k hk
  by_cases q : k = j
  · rw [q, pk_us]
    exact ⟨ha, hb⟩
  · rw [pk_un q]
    exact h k hk
/-- every scope lies in an earlier one -/
def arI (f : Nat → Int32) (n : Int) : Prop := ∀ s : Nat, (s : Int) < n → -1 ≤ (f s).toInt ∧ (f s).toInt < s
theorem arI_at {f : Nat → Int32} {n : Int} {i z : Int32} (h : arI f n) (h1 : 0 ≤ i.toInt) (h2 : i.toInt < n) (e : z = f i.toNatClampNeg) : -1 ≤ z.toInt ∧ z.toInt < i.toInt := by
  have e1 := zci h1
  have := h i.toNatClampNeg (by omega)
  rw [← e] at this
  omega
theorem arI_push {f : Nat → Int32} {n m : Int} {i x : Int32} (h : arI f n) (h1 : 0 ≤ i.toInt) (h2 : i.toInt = n) (hm : m ≤ n + 1) (ha : -1 ≤ x.toInt) (hb : x.toInt < i.toInt) : arI (upd f i.toNatClampNeg x) m := by
  intro k hk
  have e1 := zci h1
  by_cases q : k = i.toNatClampNeg
  · rw [q, pk_us]
    omega
  · rw [pk_un q]
    exact h k (by omega)
theorem arI_le {f : Nat → Int32} {n m : Int} (h : arI f n) (hm : m ≤ n) : arI f m := fun k hk => h k (by omega)
theorem inB_le {f : Nat → Int32} {n m a b c d : Int} (h : inB f n a b) (hm : m ≤ n) (ha : c ≤ a) (hb : b ≤ d) : inB f m c d := fun k hk => by
  have := h k (by omega)
  omega
