theorem okP_W {so on tw th fo nx : Nat → Int32} {rk : Int → Int} {xn m e : Int} (h : okP so on tw th fo nx rk 0 xn (-1) (-1) m) (h0 : 0 ≤ e) (h1 : e < xn) : okW so on tw th fo nx rk xn e ∧ rk e < m := h.2.2.1 e h0 h1
theorem okP_F {so on tw th fo nx : Nat → Int32} {rk : Int → Int} {xn m e : Int} (h : okP so on tw th fo nx rk 0 xn (-1) (-1) m) (h0 : 0 ≤ e) (h1 : e < xn) : okF so on tw th fo nx e := h.2.2.2 e h0 h1 (by omega) (by omega)
theorem sP_q {s : Int} : sP s = true ↔ (qc s = 1 ∨ qc s = 2) := by
  unfold sP qc
  simp only [Bool.or_eq_true, beq_iff_eq]
  split
  · omega
  · split
    · omega
    · split <;> omega
theorem sF_P {s : Int} (h : sP s = true) : sF s = true := by
  unfold sF
  rw [h]
  simp
theorem sT_P {s : Int} (h : sP s = true) : sT s = true := by
  unfold sT
  rw [h]
  simp
theorem sG_P {s : Int} (h : sP s = true) : sG s = true := by
  unfold sG
  rw [h]
  simp
theorem g_s {so on tw th fo nx : Nat → Int32} {rk : Int → Int} {xn m e : Int} (h : okP so on tw th fo nx rk 0 xn (-1) (-1) m) (h0 : 0 ≤ e) (h1 : e < xn) : (0 ≤ rk e ∧ rk e < 300 ∧ 1 ≤ rd so e ∧ rd so e ≤ 18) ∨ (300 < rk e ∧ rk e < 400 ∧ 20 ≤ rd so e ∧ rd so e ≤ 28) ∨ (rk e = 300 ∧ (rd so e = 29 ∨ rd so e = 30)) := (okP_W h h0 h1).1.1
theorem g_on {so on tw th fo nx : Nat → Int32} {rk : Int → Int} {xn m e k : Int} (h : okP so on tw th fo nx rk 0 xn (-1) (-1) m) (h0 : 0 ≤ e) (h1 : e < xn) (hs : rd so e = k) (k1 : sE k = true) (k2 : sF k = true) : 0 ≤ rd on e ∧ rd on e < xn ∧ 0 ≤ rk (rd on e) ∧ rk (rd on e) < rk e ∧ rk (rd on e) < 300 := by
  have c := (okP_W h h0 h1).1.2.1
  have f := okP_F h h0 h1
  unfold okF at f
  rw [hs] at c f
  have c := c.1 k1
  have f := f.1 k2
  unfold chE at c
  omega
theorem g_tw {so on tw th fo nx : Nat → Int32} {rk : Int → Int} {xn m e k : Int} (h : okP so on tw th fo nx rk 0 xn (-1) (-1) m) (h0 : 0 ≤ e) (h1 : e < xn) (hs : rd so e = k) (k1 : sT k = true) (k2 : sG k = true) : 0 ≤ rd tw e ∧ rd tw e < xn ∧ 0 ≤ rk (rd tw e) ∧ rk (rd tw e) < rk e ∧ rk (rd tw e) < 300 := by
  have c := (okP_W h h0 h1).1.2.2.1
  have f := okP_F h h0 h1
  unfold okF at f
  rw [hs] at c f
  have c := c.1 k1
  have f := f.2.1 k2
  unfold chE at c
  omega
theorem g_two {so on tw th fo nx : Nat → Int32} {rk : Int → Int} {xn m e k : Int} (h : okP so on tw th fo nx rk 0 xn (-1) (-1) m) (h0 : 0 ≤ e) (h1 : e < xn) (hs : rd so e = k) (k1 : sT k = true) : rd tw e < 0 ∨ (0 ≤ rd tw e ∧ rd tw e < xn ∧ 0 ≤ rk (rd tw e) ∧ rk (rd tw e) < rk e ∧ rk (rd tw e) < 300) := by
  have c := (okP_W h h0 h1).1.2.2.1
  have f := okP_F h h0 h1
  unfold okF at f
  rw [hs] at c f
  have c := c.1 k1
  unfold chE at c
  omega
theorem g_th {so on tw th fo nx : Nat → Int32} {rk : Int → Int} {xn m e k : Int} (h : okP so on tw th fo nx rk 0 xn (-1) (-1) m) (h0 : 0 ≤ e) (h1 : e < xn) (hs : rd so e = k) (k1 : k = 6) : 0 ≤ rd th e ∧ rd th e < xn ∧ 0 ≤ rk (rd th e) ∧ rk (rd th e) < rk e ∧ rk (rd th e) < 300 := by
  subst k1
  have c := (okP_W h h0 h1).1.2.2.2.1
  have f := okP_F h h0 h1
  unfold okF at f
  rw [hs] at c f
  have c := c.1 (by decide)
  have f := f.2.2.1 rfl
  unfold chE at c
  omega
theorem g_tho {so on tw th fo nx : Nat → Int32} {rk : Int → Int} {xn m e k : Int} (h : okP so on tw th fo nx rk 0 xn (-1) (-1) m) (h0 : 0 ≤ e) (h1 : e < xn) (hs : rd so e = k) (k1 : sH k = true) : rd th e < 0 ∨ (0 ≤ rd th e ∧ rd th e < xn ∧ 0 ≤ rk (rd th e) ∧ rk (rd th e) < rk e ∧ rk (rd th e) < 300) := by
  have c := (okP_W h h0 h1).1.2.2.2.1
  have f := okP_F h h0 h1
  unfold okF at f
  rw [hs] at c f
  have c := c.1 k1
  unfold chE at c
  omega
theorem g_fo {so on tw th fo nx : Nat → Int32} {rk : Int → Int} {xn m e k : Int} (h : okP so on tw th fo nx rk 0 xn (-1) (-1) m) (h0 : 0 ≤ e) (h1 : e < xn) (hs : rd so e = k) (k1 : k = 30) : rd th e < 0 ∨ (0 ≤ rd fo e ∧ rd fo e < xn ∧ 0 ≤ rk (rd fo e) ∧ rk (rd fo e) < rk e ∧ rk (rd fo e) < 300) := by
  subst k1
  have c := (okP_W h h0 h1).1.2.2.2.2.1
  have f := okP_F h h0 h1
  unfold okF at f
  rw [hs] at c f
  have c := c rfl
  have f := f.2.2.2 rfl
  unfold chE at c
  omega
theorem g_call {so on tw th fo nx : Nat → Int32} {rk : Int → Int} {xn m e k : Int} (h : okP so on tw th fo nx rk 0 xn (-1) (-1) m) (h0 : 0 ≤ e) (h1 : e < xn) (hs : rd so e = k) (k1 : sE k = true) (k2 : sC k = true) : rd on e < 0 ∨ (0 ≤ rd on e ∧ rd on e < xn ∧ 0 ≤ rk (rd on e) ∧ rk (rd on e) < rk e ∧ rk (rd on e) < 300 ∧ qf so (rd on e) = 18) := by
  have c := (okP_W h h0 h1).1.2.1
  rw [hs] at c
  have d := c.2.1 k2
  have c := c.1 k1
  unfold chE at c
  unfold chQ at d
  omega
theorem g_lef {so on tw th fo nx : Nat → Int32} {rk : Int → Int} {xn m e k : Int} (h : okP so on tw th fo nx rk 0 xn (-1) (-1) m) (h0 : 0 ≤ e) (h1 : e < xn) (hs : rd so e = k) (k1 : sP k = true) (k2 : sF k = true) : 0 ≤ rd on e ∧ rd on e < e ∧ rd on e < xn ∧ 0 ≤ rk (rd on e) ∧ (rk (rd on e) < rk e ∨ (rk (rd on e) = rk e ∧ qf so (rd on e) = qf so e)) := by
  have q : qf so e = qc k := congrArg qc hs
  have c := (okP_W h h0 h1).1.2.1
  have f := okP_F h h0 h1
  unfold okF at f
  rw [hs] at c f
  have c := c.2.2.1 k1
  have f := f.1 k2
  unfold chP at c
  omega
theorem g_cal2 {so on tw th fo nx : Nat → Int32} {rk : Int → Int} {xn m e : Int} (h : okP so on tw th fo nx rk 0 xn (-1) (-1) m) (h0 : 0 ≤ e) (h1 : e < xn) (hs : rd so e = 5 ∨ rd so e = 23) : rd on e < 0 ∨ (0 ≤ rd on e ∧ rd on e < xn ∧ 0 ≤ rk (rd on e) ∧ rk (rd on e) < rk e ∧ rk (rd on e) < 300 ∧ qf so (rd on e) = 18) := by
  rcases hs with q | q
  · exact g_call h h0 h1 q (by decide) (by decide)
  · exact g_call h h0 h1 q (by decide) (by decide)
theorem g_left {so on tw th fo nx : Nat → Int32} {rk : Int → Int} {xn m e : Int} (h : okP so on tw th fo nx rk 0 xn (-1) (-1) m) (h0 : 0 ≤ e) (h1 : e < xn) (hs : sP (rd so e) = true) : 0 ≤ rd on e ∧ rd on e < e ∧ rd on e < xn ∧ 0 ≤ rk (rd on e) ∧ (rk (rd on e) < rk e ∨ (rk (rd on e) = rk e ∧ qf so (rd on e) = qf so e)) := g_lef h h0 h1 rfl hs (sF_P hs)
theorem g_twp {so on tw th fo nx : Nat → Int32} {rk : Int → Int} {xn m e : Int} (h : okP so on tw th fo nx rk 0 xn (-1) (-1) m) (h0 : 0 ≤ e) (h1 : e < xn) (hs : sP (rd so e) = true) : 0 ≤ rd tw e ∧ rd tw e < xn ∧ 0 ≤ rk (rd tw e) ∧ rk (rd tw e) < rk e ∧ rk (rd tw e) < 300 := g_tw h h0 h1 rfl (sT_P hs) (sG_P hs)
theorem g_blk {so on tw th fo nx : Nat → Int32} {rk : Int → Int} {xn m e k : Int} (h : okP so on tw th fo nx rk 0 xn (-1) (-1) m) (h0 : 0 ≤ e) (h1 : e < xn) (hs : rd so e = k) (k1 : k = 21) : (rd tw e < 0 ∨ (0 ≤ rd tw e ∧ rd tw e < xn ∧ 300 < rk (rd tw e) ∧ rk (rd tw e) < rk e)) ∧ (rd th e < 0 ∨ (0 ≤ rd th e ∧ rd th e < xn ∧ rk (rd th e) = 300 ∧ qf so (rd th e) = 30)) := by
  subst k1
  have c := (okP_W h h0 h1).1.2.2.1
  have d := (okP_W h h0 h1).1.2.2.2.1
  rw [hs] at c d
  have c := c.2 (by decide)
  have d := d.2.2 rfl
  unfold chS at c
  unfold chL at d
  omega
theorem g_ifs {so on tw th fo nx : Nat → Int32} {rk : Int → Int} {xn m e k : Int} (h : okP so on tw th fo nx rk 0 xn (-1) (-1) m) (h0 : 0 ≤ e) (h1 : e < xn) (hs : rd so e = k) (k1 : sB k = true) (k2 : sG k = true) : 0 ≤ rd tw e ∧ rd tw e < xn ∧ 300 < rk (rd tw e) ∧ rk (rd tw e) < rk e := by
  have c := (okP_W h h0 h1).1.2.2.1
  have f := okP_F h h0 h1
  unfold okF at f
  rw [hs] at c f
  have c := c.2 k1
  have f := f.2.1 k2
  unfold chS at c
  omega
theorem g_els {so on tw th fo nx : Nat → Int32} {rk : Int → Int} {xn m e k : Int} (h : okP so on tw th fo nx rk 0 xn (-1) (-1) m) (h0 : 0 ≤ e) (h1 : e < xn) (hs : rd so e = k) (k1 : k = 25) : rd th e < 0 ∨ (0 ≤ rd th e ∧ rd th e < xn ∧ 300 < rk (rd th e) ∧ rk (rd th e) < rk e) := by
  subst k1
  have c := (okP_W h h0 h1).1.2.2.2.1
  have f := okP_F h h0 h1
  unfold okF at f
  rw [hs] at c f
  have c := c.2.1 rfl
  unfold chS at c
  omega
theorem g_for {so on tw th fo nx : Nat → Int32} {rk : Int → Int} {xn m e k : Int} (h : okP so on tw th fo nx rk 0 xn (-1) (-1) m) (h0 : 0 ≤ e) (h1 : e < xn) (hs : rd so e = k) (k1 : k = 26) : rd on e < 0 ∨ (0 ≤ rd on e ∧ rd on e < xn ∧ rk (rd on e) = 300 ∧ qf so (rd on e) = 29) := by
  subst k1
  have c := (okP_W h h0 h1).1.2.1
  have f := okP_F h h0 h1
  unfold okF at f
  rw [hs] at c f
  have c := c.2.2.2 rfl
  unfold chL at c
  omega
theorem g_nx {so on tw th fo nx : Nat → Int32} {rk : Int → Int} {xn m e : Int} (h : okP so on tw th fo nx rk 0 xn (-1) (-1) m) (h0 : 0 ≤ e) (h1 : e < xn) : rd nx e < 0 ∨ (e < rd nx e ∧ rd nx e < xn ∧ rk (rd nx e) = rk e ∧ qf so (rd nx e) = qf so e) := (okP_W h h0 h1).1.2.2.2.2.2
theorem qc_18 {s : Int} (h : qc s = 18) : s = 18 := by
  have := qc_e s
  omega
theorem qc_29 {s : Int} (h : qc s = 29) : s = 29 := by
  have := qc_e s
  omega
theorem qc_30 {s : Int} (h : qc s = 30) : s = 30 := by
  have := qc_e s
  omega
def itn (nx : Nat → Int32) (a : Int) : Nat → Int
  | 0 => a
  | n + 1 => rd nx (itn nx a n)
def itI (nx : Nat → Int32) (A n a : Int) : Prop := itn nx A n.toNat = a
theorem itI_0 {nx : Nat → Int32} {A a : Int} (h : a = A) : itI nx A 0 a := h.symm
theorem itI_z {nx : Nat → Int32} {A n a : Int} (h0 : n = 0) (h : a = A) : itI nx A n a := by
  subst h0
  exact h.symm
theorem itI_s {nx : Nat → Int32} {A n n' a z : Int} (h : itI nx A n a) (h0 : 0 ≤ n) (h1 : n' = n + 1) (hz : z = rd nx a) : itI nx A n' z := by
  unfold itI at *
  have e : n'.toNat = n.toNat + 1 := by omega
  rw [e, hz, ← h]
  rfl
theorem itI_e {nx : Nat → Int32} {A n m a b : Int} (h : itI nx A n a) (k : itI nx A m b) (e : n = m) : a = b := by
  unfold itI at *
  rw [← h, ← k, e]
