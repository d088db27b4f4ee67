def jE (ow on xy : Int) : Prop := (ow = 0 ∧ xy = -1) ∨ (¬ ow = 0 ∧ on = xy ∧ 0 ≤ xy)
section
variable {f1 f41 f9 f10 : Nat → Int32} {f11 : Nat → Int64} {jl xm tc : Int32} {W : List (Int × Int × Int)} {n : Int}
theorem jw_1 (hf : f1 = f41) (hl : jl.toInt = xm.toInt) (h : tW (gTk (tB f1) jl.toInt jl.toInt.toNat 0) jl.toInt f9 f10 f11 tc) : tW (gTk (tB f41) xm.toInt xm.toInt.toNat 0) xm.toInt f9 f10 f11 tc := by
  rw [← hf, ← hl]
  exact h
theorem jw_2 (h : tW W n f9 f10 f11 tc) : ∀ (j : Nat) (w : Int × Int × Int), W[j]? = some w → kC f9 tc j = w.1 ∧ kK f11 j = w.2.2 := by
  intro j w hw
  have hj : j < W.length := (List.getElem?_eq_some_iff.mp hw).1
  have h2 := h.2.1 j hj
  rw [hw] at h2
  injection h2 with h3
  have ht := h.1
  subst h3
  refine ⟨?_, rfl⟩
  unfold kC
  rw [if_pos ⟨by omega, by omega⟩]
  rfl
theorem jw_3 (h : tW W n f9 f10 f11 tc) : kC f9 tc W.length = 0 := by
  have ht := h.1
  unfold kC
  rw [if_pos ⟨by omega, by omega⟩]
  exact h.2.2.1
theorem bkS_0 {T : gV} : ∀ (f : Nat) (k : Int), 0 ≤ bkS T f k := by
  intro f
  induction f with
  | zero => intro k; exact Int.le_refl _
  | succ f ih =>
    intro k
    unfold bkS
    by_cases q : 0 ≤ k
    · rw [if_pos q]
      have := ih (nX T k)
      omega
    · rw [if_neg q]
      exact Int.le_refl _
theorem bkN_0 {T : gV} : ∀ n : Nat, 0 ≤ bkN T n := by
  intro n
  induction n with
  | zero => exact Int.le_refl _
  | succ n ih =>
    unfold bkN
    by_cases q : isHd T (n : Int)
    · rw [if_pos q]
      omega
    · rw [if_neg q]
      unfold bkL
      have := bkS_0 (T := T) 1501 (vF T (n : Int))
      omega
theorem jE_s {o : Option (gV × List (Int × Int))} {ow ow' on on' xy xy' : Int} (h : jE ow on xy) (h1 : jR o on on' ow ow') (h2 : jM o xy xy') : jE ow' on' xy' := by
  cases e : o with
  | none =>
    obtain ⟨a1, a2⟩ := h1.1 e
    have a3 := h2.1 e
    rw [a1, a2, a3]
    exact h
  | some x =>
    obtain ⟨a1, a2⟩ := h1.2 x e
    have a3 := h2.2 x e
    exact Or.inr ⟨a1, a2.trans a3.symm, by rw [a3]; exact bkN_0 _⟩
theorem jE_q {ow on xy r r' : Int} (h : jE ow on xy) (h1 : (¬ ow = 0 → r = on) ∧ (ow = 0 → r = -2)) (h2 : (0 ≤ xy → r' = xy) ∧ (xy < 0 → r' = -2)) : r = r' := by
  rcases h with ⟨a, b⟩ | ⟨a, b, c⟩
  · rw [h1.2 a, h2.2 (by omega)]
  · rw [h1.1 a, h2.1 c, b]
theorem al_1 : ∀ j : Nat, 0 ≤ ((fun _ : Nat => (0 : Int32)) j).toInt ∧ ((fun _ : Nat => (0 : Int32)) j).toInt ≤ 3000 := fun _ => ⟨(show 0 ≤ (0 : Int32).toInt by decide +kernel), (show (0 : Int32).toInt ≤ 3000 by decide +kernel)⟩
end
def lwc (j : Nat) : Int32 := ((((sX 0).2.2.2.getD j 0) &&& 255).toUInt32 % 65536).toInt32
def lln (k : Int64) (c : Int32) : Int64 := if (97 : Int32) ≤ c ∧ c ≤ 122 then k * 37 + ((c - 97) + 1).toInt64 else k * 37 + ((c - 48) + 27).toInt64
def lwk (i : Nat) : Nat := [1, 1, 1, 1, 1, 1, 2, 2, 2, 2, 3, 3, 3, 3, 3, 3, 3, 3, 4, 4, 4, 4, 4, 4, 4, 4, 5, 5, 5, 5, 5, 5, 6, 6, 6, 6, 6, 6, 6, 6, 6, 6, 7, 7, 7, 7, 7, 7, 8, 8, 8, 8, 9, 9, 9, 9, 9, 9, 9, 10, 10, 10, 10, 10, 10, 11, 11, 11, 12, 12, 12, 12, 12, 13, 13, 13, 13, 13, 14, 14, 14, 14, 15, 15, 15, 16, 16, 16, 16, 16, 17, 17, 17, 17, 17, 17, 18, 18, 18, 18, 18, 18, 19, 19, 19, 19, 19, 20, 20, 20, 20, 20, 21, 21, 21, 21, 21, 21, 22, 22, 22, 22, 23, 23, 23, 23, 24, 24, 24, 25, 25, 25, 25, 26, 26, 26, 26, 26, 26].getD i 0
def lwp (i : Nat) : Int := [0, 2, 79, 2930, 108419, 4011517, 0, 5, 199, 7367, 0, 9, 347, 12859, 475788, 17604163, 651354036, 24100099350, 0, 2, 89, 3308, 122408, 4529101, 167576738, 6200339320, 0, 1, 55, 2053, 75962, 2810619, 0, 16, 610, 22585, 835648, 30918981, 1144002301, 42328085158, 1566139150864, 57947148581973, 0, 22, 815, 30167, 1116200, 41299405, 0, 15, 578, 21400, 0, 19, 726, 26871, 994247, 36787142, 1361124262, 0, 12, 445, 16467, 609284, 22543520, 0, 9, 339, 0, 20, 748, 27681, 1024211, 0, 5, 197, 7308, 270401, 0, 6, 237, 8787, 0, 4, 163, 0, 19, 723, 26756, 989988, 0, 21, 791, 29287, 1083628, 40094248, 0, 23, 859, 31792, 1176316, 43523697, 0, 7, 274, 10158, 375861, 0, 20, 758, 28067, 1038484, 0, 6, 223, 8263, 305750, 11312755, 0, 14, 533, 19741, 0, 1, 51, 1891, 0, 15, 573, 0, 4, 157, 5831, 0, 16, 610, 22579, 835437, 30911189].getD i 0
def lwX (j : Nat) : Int64 := if j = 0 then 0 else Int64.ofInt (wTb.getD (j - 1) 0)
def lwG (i j : Nat) : Int64 := if j < lwk i then lwX j else if j = lwk i then Int64.ofInt (lwp i) else 0
def wLw : Nat → Int64 := lwG 138
set_option maxRecDepth 100000 in
theorem lw_b : ∀ i, i < 138 → 1 ≤ lwk i ∧ lwk i ≤ 26 ∧ (lwc i = 32 → lwk (i + 1) = lwk i + 1 ∧ lwp (i + 1) = 0 ∧ Int64.ofInt (lwp i) = lwX (lwk i)) ∧ (¬ lwc i = 32 → lwk (i + 1) = lwk i ∧ Int64.ofInt (lwp (i + 1)) = lln (Int64.ofInt (lwp i)) (lwc i)) := by decide +kernel
theorem lw_0 : (fun _ : Nat => (0 : Int64)) = lwG 0 := by
  funext j
  show (0 : Int64) = if j < 1 then lwX j else if j = 1 then Int64.ofInt 0 else 0
  by_cases q : j < 1
  · rw [if_pos q, show j = 0 from by omega]
    rfl
  · rw [if_neg q]
    by_cases q2 : j = 1
    · rw [if_pos q2]
      rfl
    · rw [if_neg q2]
theorem lw_s {i : Nat} (hi : i < 138) (hc : lwc i = 32) : lwG i = lwG (i + 1) := by
  obtain ⟨h1, h2, h3, -⟩ := lw_b i hi
  obtain ⟨a1, a2, a3⟩ := h3 hc
  funext j
  unfold lwG
  rw [a1, a2]
  by_cases q : j < lwk i
  · rw [if_pos q, if_pos (by omega)]
  · rw [if_neg q]
    by_cases q2 : j = lwk i
    · rw [if_pos q2, if_pos (by omega), q2, a3]
    · rw [if_neg q2, if_neg (by omega)]
      by_cases q3 : j = lwk i + 1
      · rw [if_pos q3]
        rfl
      · rw [if_neg q3]
theorem lw_l {i : Nat} (hi : i < 138) (hc : ¬ lwc i = 32) : vp_updL (lwG i) (lwk i) (lln (lwG i (lwk i)) (lwc i)) = lwG (i + 1) := by
  obtain ⟨h1, h2, -, h4⟩ := lw_b i hi
  obtain ⟨a1, a2⟩ := h4 hc
  have e : lwG i (lwk i) = Int64.ofInt (lwp i) := by
    unfold lwG
    rw [if_neg (by omega), if_pos rfl]
  rw [e, ← a2]
  funext j
  by_cases q : j = lwk i
  · rw [q, pk_uLs]
    unfold lwG
    rw [a1, if_neg (by omega), if_pos rfl]
  · rw [pk_uLn q]
    unfold lwG
    rw [a1]
    by_cases q2 : j < lwk i
    · rw [if_pos q2, if_pos q2]
    · rw [if_neg q2, if_neg q2, if_neg q, if_neg q]
theorem lw_n {j : Nat} (h : j < 138) : Int32.toNatClampNeg (nI j) = j := by
  show (nI j).toInt.toNat = j
  rw [nI_toInt (by omega)]
  omega
theorem lw_x {i k : Nat} {g : Nat → Int64} {z r : Int64} {c : Int32} (hi : i < 138) (hg : g = lwG i) (hk : k = lwk i) (hz : z = g (Int32.toNatClampNeg (nI k))) (hc : c = lwc i) (hn : ¬ c = 32) (hr : r = lln z c) : vp_updL g (Int32.toNatClampNeg (nI k)) r = lwG (i + 1) := by
  have hb := lw_b i hi
  have e : Int32.toNatClampNeg (nI k) = lwk i := by rw [lw_n (by omega), hk]
  rw [hr, hz, e, hg, hc]
  exact lw_l hi (by rw [← hc]; exact hn)
theorem lw_y {i k : Nat} {c : Int32} (hi : i < 138) (hk : k = lwk i) (hc : c = lwc i) (hn : ¬ c = 32) : k = lwk (i + 1) := by rw [hk, ((lw_b i hi).2.2.2 (by rw [← hc]; exact hn)).1]
theorem lw_z {i k : Nat} {c : Int32} {g : Nat → Int64} (hi : i < 138) (hk : k = lwk i) (hg : g = lwG i) (hc : c = lwc i) (hn : c = 32) : k + 1 = lwk (i + 1) ∧ g = lwG (i + 1) := by
  have h := hc.symm.trans hn
  exact ⟨by rw [hk, ((lw_b i hi).2.2.1 h).1], by rw [hg]; exact lw_s hi h⟩
theorem lw_f {i : Nat} {g : Nat → Int64} (hi : ¬ i < 138) (h : i ≤ 138) (hg : g = lwG i) : g = wLw := by
  rw [hg, show i = 138 from by omega]
  rfl
theorem wLw_K : wK wLw := by
  unfold wK
  decide +kernel
section
variable {r : Int32} {k : Int64} {c : Int32}
theorem lln_n (h : r = (if (97 : Int32) ≤ c ∧ c ≤ 122 then 1 else 0)) (h0 : r = 0) : k * 37 + ((c - 48) + 27).toInt64 = lln k c := by
  unfold lln
  by_cases q : (97 : Int32) ≤ c ∧ c ≤ 122
  · rw [if_pos q] at h
    rw [h] at h0
    exact absurd h0 (by decide)
  · rw [if_neg q]
theorem lln_y (h : r = (if (97 : Int32) ≤ c ∧ c ≤ 122 then 1 else 0)) (h0 : ¬ r = 0) : k * 37 + ((c - 97) + 1).toInt64 = lln k c := by
  unfold lln
  by_cases q : (97 : Int32) ≤ c ∧ c ≤ 122
  · rw [if_pos q]
  · rw [if_neg q] at h
    exact absurd h h0
end
