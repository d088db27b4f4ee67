def clC (e : gV) : Prop := ∀ w, ¬ dAl w e = none
def nS (so st nx wh li : nA) (kd ky : Int → Int) (k lo hi : Int) (m : gV → Prop) : Prop := ∃ (a : Int) (n : Nat), rd li k = a ∧ lo ≤ a ∧ 0 ≤ a ∧ a + (n : Int) ≤ hi ∧ (∀ i : Nat, i < n → rd so (a + (i : Int)) = 3 ∧ kd (rd st (a + (i : Int))) = 27 ∧ rd nx (a + (i : Int)) = if i + 1 < n then a + (i : Int) + 1 else -1) ∧ 1 ≤ n ∧ m = fun e => ∀ i : Nat, i < n → ¬ dLa (rd wh (a + (i : Int)) - 1) (ky (rd st (a + (i : Int)))) e = none
def FLX (so st on tw th fo nx wh wt li : nA) (kd ky : Int → Int) (lo hi klo khi : Int) (b : gV → Option Int) : Prop := ∃ M N : Int → gV → Prop, (∀ r : Int, lo ≤ r → r < hi → stN (rd so r) → ∃ q, q ≤ hi ∧ nD so st on tw th fo nx wh kd ky r q (M r)) ∧ (∀ k : Int, klo ≤ k → k < khi → rd wt k = 3 → nS so st nx wh li kd ky k lo hi (N k)) ∧ ∀ e, clC e → (¬ b e = none ↔ ((∀ r : Int, lo ≤ r → r < hi → stN (rd so r) → M r e) ∧ ∀ k : Int, klo ≤ k → k < khi → rd wt k = 3 → N k e))
def ax9 (lo hi : Int) (so st on tw th fo nx wh so' st' on' tw' th' fo' nx' wh' : nA) : Prop := ∀ c : Int, lo ≤ c → c < hi → 0 ≤ c → rd so' c = rd so c ∧ rd st' c = rd st c ∧ rd on' c = rd on c ∧ rd tw' c = rd tw c ∧ rd th' c = rd th c ∧ rd fo' c = rd fo c ∧ rd wh' c = rd wh c ∧ (rd nx' c = rd nx c ∨ (18 < rd so c ∧ rd nx c < 0))
def lR (nx : nA) (c hi : Int) : Nat → Int → Int → Prop
  | 0, e, d => d = e ∧ c < e ∧ e < hi
  | n + 1, e, d => c < e ∧ e < hi ∧ lR nx c hi n (rd nx e) d
def chd (so on tw th nx : nA) (hi c d : Int) : Prop := c < d ∧ d < hi ∧ ((rd so c = 25 ∧ (d = rd tw c ∨ d = rd th c)) ∨ (rd so c = 26 ∧ (d = rd tw c ∨ ∃ n, lR nx c hi n (rd on c) d)) ∨ (rd so c = 21 ∧ ((∃ n, lR nx c hi n (rd th c) d) ∨ ∃ n, lR nx c hi n (rd tw c) d)))
def rc (so on tw th nx : nA) (hi : Int) : Nat → Int → Int → Prop
  | 0, c, r => c = r
  | n + 1, c, r => ∃ d, chd so on tw th nx hi c d ∧ rc so on tw th nx hi n d r
def RC (so on tw th nx : nA) (hi c r : Int) : Prop := ∃ n, rc so on tw th nx hi n c r
def CV (so on tw th nx wt mr : nA) (lo hi klo khi : Int) (Q : Int → Prop) : Prop := ∀ r : Int, lo ≤ r → r < hi → stN (rd so r) → (∃ c, lo ≤ c ∧ Q c ∧ RC so on tw th nx hi c r) ∨ ∃ k, klo ≤ k ∧ k < khi ∧ rd wt k = 2 ∧ lo ≤ rd mr k ∧ RC so on tw th nx hi (rd mr k) r
section
variable {so st on tw th fo nx wh so' st' on' tw' th' fo' nx' wh' wt li mr wt' li' mr' : nA} {kd ky : Int → Int} {lo hi mid klo khi kmid : Int} {b b1 b2 : gV → Option Int}
theorem ax_0 : ax9 lo hi so st on tw th fo nx wh so st on tw th fo nx wh := fun _ _ _ _ => ⟨rfl, rfl, rfl, rfl, rfl, rfl, rfl, Or.inl rfl⟩
theorem ax_c {rk rk' : Int → Int} {n x : Int} (h : ag n x so on tw th fo nx rk so' on' tw' th' fo' nx' rk') (g : ag2 n st wh st' wh') (hq : hi ≤ n) (hx : x < lo ∨ hi ≤ x) : ax9 lo hi so st on tw th fo nx wh so' st' on' tw' th' fo' nx' wh' := fun c a1 a2 a3 => by
  obtain ⟨e1, e2, e3, e4, e5, e6, -⟩ := h c a3 (by omega) (by omega)
  obtain ⟨y1, y2⟩ := g c a3 (by omega)
  exact ⟨e1, y1, e2, e3, e4, e5, y2, Or.inl e6⟩
theorem nS_u {k : Int} {m : gV → Prop} (h : nS so st nx wh li kd ky k lo hi m) (g : ax9 lo hi so st on tw th fo nx wh so' st' on' tw' th' fo' nx' wh') (hl : rd li' k = rd li k) : nS so' st' nx' wh' li' kd ky k lo hi m := by
  obtain ⟨a, n, h1, h2, h3, h4, h5, h6, h7⟩ := h
  have G : ∀ i : Nat, i < n → rd so' (a + (i : Int)) = rd so (a + (i : Int)) ∧ rd st' (a + (i : Int)) = rd st (a + (i : Int)) ∧ rd wh' (a + (i : Int)) = rd wh (a + (i : Int)) ∧ rd nx' (a + (i : Int)) = rd nx (a + (i : Int)) := fun i hi2 => by
    obtain ⟨e1, e2, -, -, -, -, e7, e8⟩ := g (a + (i : Int)) (by omega) (by omega) (by omega)
    have := (h5 i hi2).1
    exact ⟨e1, e2, e7, e8.resolve_right (fun z => by omega)⟩
  refine ⟨a, n, by rw [hl]; exact h1, h2, h3, h4, fun i hi2 => ?_, h6, ?_⟩
  · obtain ⟨e1, e2, e3, e4⟩ := G i hi2
    rw [e1, e2, e4]
    exact h5 i hi2
  · rw [h7]
    funext e
    refine propext ⟨fun z i hi2 => ?_, fun z i hi2 => ?_⟩
    · obtain ⟨e1, e2, e3, e4⟩ := G i hi2
      rw [e3, e2]
      exact z i hi2
    · obtain ⟨e1, e2, e3, e4⟩ := G i hi2
      have := z i hi2
      rw [e3, e2] at this
      exact this
theorem nS_w {k lo2 hi2 : Int} {m : gV → Prop} (h : nS so st nx wh li kd ky k lo hi m) (h1 : lo2 ≤ lo) (h2 : hi ≤ hi2) : nS so st nx wh li kd ky k lo2 hi2 m := by
  obtain ⟨a, n, g1, g2, g3, g4, g5⟩ := h
  exact ⟨a, n, g1, by omega, g3, by omega, g5⟩
theorem FLX_u (h : FLX so st on tw th fo nx wh wt li kd ky lo hi klo khi b) (g : ax9 lo hi so st on tw th fo nx wh so' st' on' tw' th' fo' nx' wh') (h0 : 0 ≤ lo) (gn : ∀ k : Int, klo ≤ k → k < khi → rd wt' k = rd wt k ∧ rd li' k = rd li k) : FLX so' st' on' tw' th' fo' nx' wh' wt' li' kd ky lo hi klo khi b := by
  obtain ⟨M, N, h1, h2, h3⟩ := h
  refine ⟨M, N, fun r r0 r1 r2 => ?_, fun k k0 k1 k2 => ?_, fun e he => (h3 e he).trans ⟨fun z => ⟨fun r r0 r1 r2 => ?_, fun k k0 k1 k2 => ?_⟩, fun z => ⟨fun r r0 r1 r2 => ?_, fun k k0 k1 k2 => ?_⟩⟩⟩
  · obtain ⟨e1, e2, e3, e4, e5, e6, e7, -⟩ := g r r0 r1 (by omega)
    rw [e1] at r2
    obtain ⟨q, q1, q2⟩ := h1 r r0 r1 r2
    refine ⟨q, q1, nD_u q2 (fun c a1 a2 a3 => ?_) ⟨e1, e2, e7, e3⟩ (fun _ _ => ⟨e4, e5, e6⟩)⟩
    obtain ⟨f1, f2, f3, f4, f5, f6, f7, f8⟩ := g c (by omega) (by omega) a3
    have nb := q2.2.2.1 c a3 (by omega) a2
    exact ⟨f1, f2, f3, f4, f5, f8.resolve_right (fun z => by omega), f7⟩
  · obtain ⟨e1, e2⟩ := gn k k0 k1
    rw [e1] at k2
    exact nS_u (h2 k k0 k1 k2) g e2
  · rw [(g r r0 r1 (by omega)).1] at r2
    exact z.1 r r0 r1 r2
  · rw [(gn k k0 k1).1] at k2
    exact z.2 k k0 k1 k2
  · exact z.1 r r0 r1 (by rw [(g r r0 r1 (by omega)).1]; exact r2)
  · exact z.2 k k0 k1 (by rw [(gn k k0 k1).1]; exact k2)
theorem FLX_2 (h : FLX so st on tw th fo nx wh wt li kd ky lo mid klo kmid b1) (g : FLX so st on tw th fo nx wh wt li kd ky mid hi kmid khi b2) (h1 : lo ≤ mid) (h2 : mid ≤ hi) (h3 : klo ≤ kmid) (h4 : kmid ≤ khi) (hb : ∀ e, clC e → (¬ b e = none ↔ ¬ b1 e = none ∧ ¬ b2 e = none)) : FLX so st on tw th fo nx wh wt li kd ky lo hi klo khi b := by
  obtain ⟨M1, N1, a1, a2, a3⟩ := h
  obtain ⟨M2, N2, c1, c2, c3⟩ := g
  refine ⟨fun r => if r < mid then M1 r else M2 r, fun k => if k < kmid then N1 k else N2 k, fun r r0 r1 r2 => ?_, fun k k0 k1 k2 => ?_, fun e he => (hb e he).trans ?_⟩
  · by_cases c : r < mid
    · obtain ⟨q, q1, q2⟩ := a1 r r0 c r2
      refine ⟨q, by omega, ?_⟩
      show nD so st on tw th fo nx wh kd ky r q (if r < mid then M1 r else M2 r)
      rw [if_pos c]
      exact q2
    · obtain ⟨q, q1, q2⟩ := c1 r (by omega) r1 r2
      refine ⟨q, by omega, ?_⟩
      show nD so st on tw th fo nx wh kd ky r q (if r < mid then M1 r else M2 r)
      rw [if_neg c]
      exact q2
  · by_cases c : k < kmid
    · show nS so st nx wh li kd ky k lo hi (if k < kmid then N1 k else N2 k)
      rw [if_pos c]
      exact nS_w (a2 k k0 c k2) (Int.le_refl _) h2
    · show nS so st nx wh li kd ky k lo hi (if k < kmid then N1 k else N2 k)
      rw [if_neg c]
      exact nS_w (c2 k (by omega) k1 k2) h1 (Int.le_refl _)
  · rw [a3 e he, c3 e he]
    refine ⟨fun ⟨⟨x1, x2⟩, y1, y2⟩ => ⟨fun r r0 r1 r2 => ?_, fun k k0 k1 k2 => ?_⟩, fun ⟨x, y⟩ => ⟨⟨fun r r0 r1 r2 => ?_, fun k k0 k1 k2 => ?_⟩, fun r r0 r1 r2 => ?_, fun k k0 k1 k2 => ?_⟩⟩
    · show (if r < mid then M1 r else M2 r) e
      by_cases c : r < mid
      · rw [if_pos c]; exact x1 r r0 c r2
      · rw [if_neg c]; exact y1 r (by omega) r1 r2
    · show (if k < kmid then N1 k else N2 k) e
      by_cases c : k < kmid
      · rw [if_pos c]; exact x2 k k0 c k2
      · rw [if_neg c]; exact y2 k (by omega) k1 k2
    · have z : (if r < mid then M1 r else M2 r) e := x r r0 (by omega) r2
      rw [if_pos r1] at z
      exact z
    · have z : (if k < kmid then N1 k else N2 k) e := y k k0 (by omega) k2
      rw [if_pos k1] at z
      exact z
    · have z : (if r < mid then M1 r else M2 r) e := x r (by omega) r1 r2
      rw [if_neg (by omega)] at z
      exact z
    · have z : (if k < kmid then N1 k else N2 k) e := y k (by omega) k1 k2
      rw [if_neg (by omega)] at z
      exact z
theorem FLX_0 (hs : ∀ r : Int, lo ≤ r → r < hi → ¬ stN (rd so r)) (hn : ∀ k : Int, klo ≤ k → k < khi → ¬ rd wt k = 3) (hb : ∀ e, clC e → ¬ b e = none) : FLX so st on tw th fo nx wh wt li kd ky lo hi klo khi b := ⟨fun _ _ => True, fun _ _ => True, fun r r0 r1 r2 => absurd r2 (hs r r0 r1), fun k k0 k1 k2 => absurd k2 (hn k k0 k1), fun e he => ⟨fun _ => ⟨fun r r0 r1 r2 => absurd r2 (hs r r0 r1), fun k k0 k1 k2 => absurd k2 (hn k k0 k1)⟩, fun _ => hb e he⟩⟩
theorem FLX_b (h : FLX so st on tw th fo nx wh wt li kd ky lo hi klo khi b1) (hb : ∀ e, clC e → (¬ b e = none ↔ ¬ b1 e = none)) : FLX so st on tw th fo nx wh wt li kd ky lo hi klo khi b := by
  obtain ⟨M1, N1, a1, a2, a3⟩ := h
  exact ⟨M1, N1, a1, a2, fun e he => (hb e he).trans (a3 e he)⟩
theorem FLX_1 {m : gV → Prop} {q : Int} (h : nD so st on tw th fo nx wh kd ky lo q m) (hq : q ≤ hi) (hs : ∀ r : Int, q ≤ r → r < hi → ¬ stN (rd so r)) (hn : ∀ k : Int, klo ≤ k → k < khi → ¬ rd wt k = 3) (hb : ∀ e, clC e → (¬ b e = none ↔ m e)) (ht : stN (rd so lo)) : FLX so st on tw th fo nx wh wt li kd ky lo hi klo khi b := by
  have E : ∀ r : Int, lo ≤ r → r < hi → stN (rd so r) → r = lo := fun r r0 r1 r2 => by
    by_cases c : r = lo
    · exact c
    · exfalso
      by_cases c2 : r < q
      · have := h.2.2.1 r (by have := h.1; omega) (by omega) c2
        unfold stN at r2
        omega
      · exact hs r (by omega) r1 r2
  refine ⟨fun _ => m, fun _ _ => True, fun r r0 r1 r2 => ?_, fun k k0 k1 k2 => absurd k2 (hn k k0 k1), fun e he => (hb e he).trans ⟨fun z => ⟨fun _ _ _ _ => z, fun k k0 k1 k2 => absurd k2 (hn k k0 k1)⟩, fun z => z.1 lo (Int.le_refl _) (by have := h.2.1; omega) ht⟩⟩
  rw [E r r0 r1 r2]
  exact ⟨q, hq, h⟩
theorem noB_t {r : Int} (h : noB so lo hi) (h0 : 0 ≤ lo) (a : lo ≤ r) (b : r < hi) : ¬ stN (rd so r) := fun z => by
  have := h r (by omega) a b
  unfold stN at z
  omega
theorem lR_u {c hi2 : Int} (hc : 0 ≤ c) (hh : hi ≤ hi2) (g : ∀ x : Int, c < x → x < hi → rd nx' x = rd nx x ∨ rd nx x < 0) : ∀ (n : Nat) (e d : Int), lR nx c hi n e d → lR nx' c hi2 n e d := by
  intro n
  induction n with
  | zero => intro e d h; exact ⟨h.1, h.2.1, by have := h.2.2; omega⟩
  | succ n ih =>
    intro e d h
    obtain ⟨h1, h2, h3⟩ := h
    refine ⟨h1, by omega, ?_⟩
    rcases g e h1 h2 with x | x
    · rw [x]
      exact ih _ _ h3
    · exfalso
      cases n with
      | zero => have := h3.2.1; omega
      | succ n => have := h3.1; omega
theorem chd_u {c d hi2 : Int} (h : chd so on tw th nx hi c d) (hc : 0 ≤ c) (hh : hi ≤ hi2) (g : ∀ x : Int, c ≤ x → x < hi → rd so' x = rd so x ∧ rd on' x = rd on x ∧ rd tw' x = rd tw x ∧ rd th' x = rd th x) (gx : ∀ x : Int, c < x → x < hi → rd nx' x = rd nx x ∨ rd nx x < 0) : chd so' on' tw' th' nx' hi2 c d := by
  obtain ⟨h1, h2, h3⟩ := h
  obtain ⟨e1, e2, e3, e4⟩ := g c (Int.le_refl _) (by omega)
  have L := lR_u (nx := nx) (nx' := nx') hc hh gx
  refine ⟨h1, by omega, ?_⟩
  rw [e1, e2, e3, e4]
  rcases h3 with x | ⟨x, y⟩ | ⟨x, y⟩
  · exact Or.inl x
  · exact Or.inr (Or.inl ⟨x, y.imp id (fun ⟨n, z⟩ => ⟨n, L _ _ _ z⟩)⟩)
  · exact Or.inr (Or.inr ⟨x, y.imp (fun ⟨n, z⟩ => ⟨n, L _ _ _ z⟩) (fun ⟨n, z⟩ => ⟨n, L _ _ _ z⟩)⟩)
theorem rc_u {hi2 : Int} (h0 : 0 ≤ lo) (hh : hi ≤ hi2) (g : ∀ x : Int, lo ≤ x → x < hi → rd so' x = rd so x ∧ rd on' x = rd on x ∧ rd tw' x = rd tw x ∧ rd th' x = rd th x) (gx : ∀ x : Int, lo < x → x < hi → rd nx' x = rd nx x ∨ rd nx x < 0) : ∀ (n : Nat) (c r : Int), lo ≤ c → rc so on tw th nx hi n c r → rc so' on' tw' th' nx' hi2 n c r := by
  intro n
  induction n with
  | zero => intro c r _ h; exact h
  | succ n ih =>
    intro c r hc h
    obtain ⟨d, h1, h2⟩ := h
    exact ⟨d, chd_u h1 (by omega) hh (fun x a b => g x (by omega) b) (fun x a b => gx x (by omega) b), ih d r (by have := h1.1; omega) h2⟩
theorem RC_u {hi2 c r : Int} (h : RC so on tw th nx hi c r) (h0 : 0 ≤ lo) (hc : lo ≤ c) (hh : hi ≤ hi2) (g : ∀ x : Int, lo ≤ x → x < hi → rd so' x = rd so x ∧ rd on' x = rd on x ∧ rd tw' x = rd tw x ∧ rd th' x = rd th x) (gx : ∀ x : Int, lo < x → x < hi → rd nx' x = rd nx x ∨ rd nx x < 0) : RC so' on' tw' th' nx' hi2 c r := h.imp fun n z => rc_u h0 hh g gx n c r hc z
theorem CV_u {Q : Int → Prop} (h : CV so on tw th nx wt mr lo hi klo khi Q) (h0 : 0 ≤ lo) (g : ax9 lo hi so st on tw th fo nx wh so' st' on' tw' th' fo' nx' wh') (gn : ∀ k : Int, klo ≤ k → k < khi → rd wt' k = rd wt k ∧ rd mr' k = rd mr k) : CV so' on' tw' th' nx' wt' mr' lo hi klo khi Q := fun r r0 r1 r2 => by
  have G : ∀ x : Int, lo ≤ x → x < hi → rd so' x = rd so x ∧ rd on' x = rd on x ∧ rd tw' x = rd tw x ∧ rd th' x = rd th x := fun x a b => by
    obtain ⟨e1, e2, e3, e4, e5, -⟩ := g x a b (by omega)
    exact ⟨e1, e3, e4, e5⟩
  have GX : ∀ x : Int, lo < x → x < hi → rd nx' x = rd nx x ∨ rd nx x < 0 := fun x a b => (g x (by omega) b (by omega)).2.2.2.2.2.2.2.imp id (fun z => z.2)
  rw [(G r r0 r1).1] at r2
  rcases h r r0 r1 r2 with ⟨c, c0, c1, c2⟩ | ⟨k, k0, k1, k2, k3, k4⟩
  · exact Or.inl ⟨c, c0, c1, RC_u c2 h0 c0 (Int.le_refl _) G GX⟩
  · obtain ⟨e1, e2⟩ := gn k k0 k1
    refine Or.inr ⟨k, k0, k1, by rw [e1]; exact k2, by rw [e2]; exact k3, ?_⟩
    rw [e2]
    exact RC_u k4 h0 k3 (Int.le_refl _) G GX
theorem CV_q {Q Q' : Int → Prop} (h : CV so on tw th nx wt mr lo hi klo khi Q) (hq : ∀ c, lo ≤ c → Q c → Q' c) : CV so on tw th nx wt mr lo hi klo khi Q' := fun r r0 r1 r2 => (h r r0 r1 r2).imp (fun ⟨c, c0, c1, c2⟩ => ⟨c, c0, hq c c0 c1, c2⟩) id
theorem RC_w {hi2 c r : Int} (h : RC so on tw th nx hi c r) (h0 : 0 ≤ c) (hh : hi ≤ hi2) : RC so on tw th nx hi2 c r := RC_u h h0 (Int.le_refl _) hh (fun _ _ _ => ⟨rfl, rfl, rfl, rfl⟩) (fun _ _ _ => Or.inl rfl)
theorem CV_2 {Q1 Q2 Q : Int → Prop} (h : CV so on tw th nx wt mr lo mid klo kmid Q1) (g : CV so on tw th nx wt mr mid hi kmid khi Q2) (h0 : 0 ≤ lo) (h1 : lo ≤ mid) (h2 : mid ≤ hi) (h3 : klo ≤ kmid) (h4 : kmid ≤ khi) (q1 : ∀ c, Q1 c → Q c) (q2 : ∀ c, Q2 c → Q c) : CV so on tw th nx wt mr lo hi klo khi Q := fun r r0 r1 r2 => by
  by_cases c : r < mid
  · rcases h r r0 c r2 with ⟨c, c0, c1, c2⟩ | ⟨k, k0, k1, k2, k3, k4⟩
    · exact Or.inl ⟨c, c0, q1 c c1, RC_w c2 (by omega) h2⟩
    · exact Or.inr ⟨k, k0, by omega, k2, k3, RC_w k4 (by omega) h2⟩
  · rcases g r (by omega) r1 r2 with ⟨c, c0, c1, c2⟩ | ⟨k, k0, k1, k2, k3, k4⟩
    · exact Or.inl ⟨c, by omega, q2 c c1, c2⟩
    · exact Or.inr ⟨k, by omega, k1, k2, by omega, k4⟩
theorem CV_0 {Q : Int → Prop} (hs : ∀ r : Int, lo ≤ r → r < hi → ¬ stN (rd so r)) : CV so on tw th nx wt mr lo hi klo khi Q := fun r r0 r1 r2 => absurd r2 (hs r r0 r1)
theorem CV_1 (hs : ∀ r : Int, lo < r → r < hi → ¬ stN (rd so r)) : CV so on tw th nx wt mr lo hi klo khi (fun c => c = lo) := fun r r0 r1 r2 => by
  by_cases c : r = lo
  · exact Or.inl ⟨lo, Int.le_refl _, rfl, 0, c.symm⟩
  · exact absurd r2 (hs r (by omega) r1)
theorem CV_n {Q : Int → Prop} {s : Int} (h : CV so on tw th nx wt mr (s + 1) hi klo khi Q) (hq : ∀ c, s < c → c < hi → Q c → chd so on tw th nx hi s c) (hb : ∀ c, Q c → c < hi) : CV so on tw th nx wt mr s hi klo khi (fun c => c = s) := fun r r0 r1 r2 => by
  by_cases c : r = s
  · exact Or.inl ⟨s, Int.le_refl _, rfl, 0, c.symm⟩
  · rcases h r (by omega) r1 r2 with ⟨c, c0, c1, n, c2⟩ | ⟨k, k0, k1, k2, k3, k4⟩
    · exact Or.inl ⟨s, Int.le_refl _, rfl, n + 1, c, hq c (by omega) (hb c c1) c1, c2⟩
    · exact Or.inr ⟨k, k0, k1, k2, by omega, k4⟩
theorem lR_s {c hi2 : Int} {i s : Int32} (h0 : 0 ≤ c) (hi0 : 0 ≤ i.toInt) (hn : rd nx i.toInt < 0) (hs : c < s.toInt) (hs2 : s.toInt < hi2) (hh : hi ≤ hi2) : ∀ (n : Nat) (e : Int), lR nx c hi n e i.toInt → lR (upd nx i.toNatClampNeg s) c hi2 (n + 1) e s.toInt := by
  intro n
  induction n with
  | zero =>
    intro e h
    obtain ⟨h1, h2, h3⟩ := h
    refine ⟨h2, by omega, ?_⟩
    rw [← h1, rd_s hi0]
    exact ⟨rfl, hs, hs2⟩
  | succ n ih =>
    intro e h
    obtain ⟨h1, h2, h3⟩ := h
    refine ⟨h1, by omega, ?_⟩
    have ne : e ≠ i.toInt := fun z => by
      rw [z] at h3
      cases n with
      | zero => have := h3.2.1; have := h3.1; omega
      | succ n => have := h3.1; omega
    rw [rd_n hi0 (by omega) ne]
    exact ih _ h3
end
