def kM6 (T : gV) (ty : nA) (k : Int) : Prop := (T 1 k.toNat = 6 ∧ rd ty k = T 2 k.toNat ∧ (T 2 k.toNat = 1 ∨ T 2 k.toNat = 2)) ∨ (T 1 k.toNat = 7 ∧ rd ty k = T 2 k.toNat + 4 ∧ (T 2 k.toNat = 1 ∨ T 2 k.toNat = 2)) ∨ (T 1 k.toNat = 8 ∧ rd ty k = 8)
def pF (T : gV) (wt fi sl : nA) (xk k : Int) : Prop := 0 ≤ T 3 k.toNat ∧ k + T 3 k.toNat < xk ∧ rd sl k = T 6 k.toNat + 1 ∧ 0 ≤ T 6 k.toNat ∧ T 6 k.toNat < T 11 0 ∧ (T 3 k.toNat = 0 ∨ rd fi k = k + 1) ∧ T 9 (T 6 k.toNat).toNat = k ∧ (∀ j : Int, 0 ≤ j → j < xk → (T 4 j.toNat = T 6 k.toNat ↔ k < j ∧ j ≤ k + T 3 k.toNat)) ∧ ∀ j : Int, k < j → j ≤ k + T 3 k.toNat → rd wt j = 5
def kFl (T : gV) (wt ty li mo fi sl : nA) (xk k : Int) : Prop :=
  (rd wt k = 0 ∧ T 1 k.toNat = 1 ∧ rd ty k = T 2 k.toNat ∧ (T 2 k.toNat = 1 ∨ T 2 k.toNat = 2)) ∨
  (rd wt k = 1 ∧ T 1 k.toNat = 2 ∧ rd ty k = T 2 k.toNat ∧ (T 2 k.toNat = 1 ∨ T 2 k.toNat = 2) ∧ rd li k = T 3 k.toNat) ∨
  (rd wt k = 2 ∧ T 1 k.toNat = 3 ∧ rd ty k = T 2 k.toNat ∧ (T 2 k.toNat = 0 ∨ T 2 k.toNat = 1 ∨ T 2 k.toNat = 2) ∧ rd mo k = T 3 k.toNat ∧ pF T wt fi sl xk k) ∨
  (rd wt k = 3 ∧ T 1 k.toNat = 4 ∧ rd ty k = 0) ∨ (rd wt k = 4 ∧ T 1 k.toNat = 5 ∧ rd ty k = 0) ∨ (rd wt k = 5 ∧ kM6 T ty k)
def pI (T : gV) : Prop := ∀ s : Nat, (s : Int) < T 11 0 → (0 ≤ T 9 s ∧ T 9 s < T 10 0 ∧ T 6 (T 9 s).toNat = s ∧ T 1 (T 9 s).toNat = 3) ∨ (T 7 s < 0 ∧ T 9 s = -1) ∨ (0 ≤ T 7 s ∧ T 9 s = T 9 (T 7 s).toNat)
def mkK (T : gV) (io bv : nA) (k : Int) : Prop := (rd io k = 0 ∧ rd bv k = 0 ∧ T 14 k.toNat = 0 ∧ T 13 k.toNat < 0) ∨ ((¬ rd io k = 0 ∨ ¬ rd bv k = 0) ∧ (¬ T 14 k.toNat = 0 ∨ 0 ≤ T 13 k.toNat))
def xTk (T : gV) (io bv : nA) (k : Int) : Prop := (T 1 k.toNat = 2 ∨ T 1 k.toNat = 3 ∨ T 3 k.toNat = 0) ∧ ((T 1 k.toNat = 0 ∨ T 1 k.toNat = 4 ∨ T 1 k.toNat = 5 ∨ T 1 k.toNat = 8) → T 2 k.toNat = 0) ∧ mkK T io bv k
def rBs (T : gV) (ky : Int → Int) (wd ho ar ins wt ty li mo fi sl io bv : nA) (xk xs a : Int) : Prop := nRl2 T ky wd ho xk ∧ sRl2 T ar xs ∧ cI T ∧ (∀ s : Nat, (s : Int) < T 11 0 → rd ins ((s : Int) + 1) = T 9 s) ∧ pI T ∧ (∀ k : Int, 0 ≤ k → k < xk → T 12 k.toNat ≤ 3000 ∧ (0 ≤ T 6 k.toNat → T 1 k.toNat = 3) ∧ xTk T io bv k) ∧ ∀ k : Int, 0 ≤ k → k < a → kFl T wt ty li mo fi sl xk k
def RQ (P : gV → Prop) (x : gW) (xw : Int) : Prop := (0 ≤ xw → x.2 ≤ 3000) ∧ (xw < 0 → x.2 = 3001 ∧ P x.1)
def nHd (T : gV) (wt : nA) (a w : Int) : Prop := ∀ k : Int, 0 ≤ k → k < a → rd wt k = 2 → ¬ T 6 k.toNat = w
section
variable {T : gV} {ky : Int → Int} {wd ho ar ins wt ty li mo fi sl io bv : nA} {xk xs a key pl kind tp w p : Int} {i t s v1 v2 v3 v4 v6 : Int32}
theorem rD_at : rDcl T key pl kind tp w 10 0 = T 10 0 + 1 ∧ rDcl T key pl kind tp w 11 0 = T 11 0 ∧ (∀ c k, c ≠ 5 → c ≠ 8 → c ≠ 15 → c ≠ 10 → k ≠ (T 10 0).toNat → rDcl T key pl kind tp w c k = T c k) ∧ rDcl T key pl kind tp w 1 (T 10 0).toNat = kind ∧ rDcl T key pl kind tp w 2 (T 10 0).toNat = tp ∧ rDcl T key pl kind tp w 3 (T 10 0).toNat = 0 ∧ rDcl T key pl kind tp w 4 (T 10 0).toNat = w ∧ rDcl T key pl kind tp w 6 (T 10 0).toNat = -1 ∧ rDcl T key pl kind tp w 13 (T 10 0).toNat = -1 ∧ rDcl T key pl kind tp w 12 (T 10 0).toNat = pl ∧ (∀ k, rDcl T key pl kind tp w 7 k = T 7 k) ∧ (∀ k, rDcl T key pl kind tp w 9 k = T 9 k) := by
  obtain ⟨r0, r1, r10, rk, rki, rt, rc, r4, r5, r6, r13, r14⟩ := rRow_r (T := T) (key := key) (pl := pl) (kind := kind) (ty := tp) (w := w)
  have o := fun c h5 h8 h15 k => rDcl_o (T := T) (key := key) (pl := pl) (kind := kind) (ty := tp) (w := w) c h5 h8 h15 k
  refine ⟨(o 10 (by decide) (by decide) (by decide) 0).trans r10, (o 11 (by decide) (by decide) (by decide) 0).trans (r0 11 0 (by decide) (by decide) (by decide) (by decide) (by decide) (by decide) (by decide) (by decide) (by decide) (by decide) (by decide)), fun c k h5 h8 h15 h10 hk => (o c h5 h8 h15 k).trans (r1 k hk c h10), (o 1 (by decide) (by decide) (by decide) _).trans rki, (o 2 (by decide) (by decide) (by decide) _).trans rt, (o 3 (by decide) (by decide) (by decide) _).trans rc, (o 4 (by decide) (by decide) (by decide) _).trans r4, (o 6 (by decide) (by decide) (by decide) _).trans r6, (o 13 (by decide) (by decide) (by decide) _).trans r13, ?_, fun k => (o 7 (by decide) (by decide) (by decide) k).trans (r0 7 k (by decide) (by decide) (by decide) (by decide) (by decide) (by decide) (by decide) (by decide) (by decide) (by decide) (by decide)), fun k => (o 9 (by decide) (by decide) (by decide) k).trans (r0 9 k (by decide) (by decide) (by decide) (by decide) (by decide) (by decide) (by decide) (by decide) (by decide) (by decide) (by decide))⟩
  refine (o 12 (by decide) (by decide) (by decide) _).trans ?_
  show gsc (gst (gst (gst (gst (gst (gst (gst (gst (gst (gst T 0 (T 10 0).toNat key) 1 (T 10 0).toNat kind) 2 (T 10 0).toNat tp) 3 (T 10 0).toNat 0) 12 (T 10 0).toNat pl) 4 (T 10 0).toNat w) 5 (T 10 0).toNat (-1)) 6 (T 10 0).toNat (-1)) 13 (T 10 0).toNat (-1)) 14 (T 10 0).toNat 0) 10 (T 10 0 + 1) 12 (T 10 0).toNat = pl
  rw [gsc_c (by decide), gst_c (by decide), gst_c (by decide), gst_c (by decide), gst_c (by decide), gst_c (by decide), gst_s]
theorem rD_14 : rDcl T key pl kind tp w 14 (T 10 0).toNat = 0 := (rDcl_o (T := T) (key := key) (pl := pl) (kind := kind) (ty := tp) (w := w) 14 (by decide) (by decide) (by decide) _).trans (rRow_r (T := T) (key := key) (pl := pl) (kind := kind) (ty := tp) (w := w)).2.2.2.2.2.2.2.2.2.2.2
theorem mkK_e {U : gV} {io' bv' : nA} {k : Int} (h : mkK T io bv k) (e1 : rd io' k = rd io k) (e2 : rd bv' k = rd bv k) (e3 : U 14 k.toNat = T 14 k.toNat) (e4 : U 13 k.toNat = T 13 k.toNat) : mkK U io' bv' k := by
  unfold mkK
  rw [e1, e2, e3, e4]
  exact h
theorem xTk_e {U : gV} {io' bv' : nA} {k : Int} (h : xTk T io bv k) (e1 : rd io' k = rd io k) (e2 : rd bv' k = rd bv k) (e : ∀ c : Nat, c = 1 ∨ c = 2 ∨ c = 3 ∨ c = 13 ∨ c = 14 → U c k.toNat = T c k.toNat) : xTk U io' bv' k := by
  refine ⟨?_, ?_, mkK_e h.2.2 e1 e2 (e 14 (by omega)) (e 13 (by omega))⟩
  · rw [e 1 (by omega), e 3 (by omega)]
    exact h.1
  · rw [e 1 (by omega), e 2 (by omega)]
    exact h.2.1
theorem kFl_D {U : gV} {wt' ty' li' : nA} {k xk2 : Int} (h : kFl T wt ty li mo fi sl xk k) (k0 : 0 ≤ k) (hk : k < xk) (e : ∀ c j : Nat, (c = 1 ∨ c = 2 ∨ c = 3 ∨ c = 4 ∨ c = 6) → (j : Int) < xk → U c j = T c j) (e9 : ∀ s : Nat, (s : Int) < T 11 0 → U 9 s = T 9 s) (e11 : T 11 0 ≤ U 11 0) (ew : ∀ j : Int, 0 ≤ j → j < xk → rd wt' j = rd wt j ∧ rd ty' j = rd ty j ∧ rd li' j = rd li j) (hx : xk ≤ xk2) (hn : ∀ j : Int, xk ≤ j → j < xk2 → rd wt k = 2 → ¬ U 4 j.toNat = T 6 k.toNat) : kFl U wt' ty' li' mo fi sl xk2 k := by
  have q := ew k k0 hk
  unfold kFl kM6
  rw [q.1, q.2.1, q.2.2, e 1 k.toNat (by omega) (by omega), e 2 k.toNat (by omega) (by omega), e 3 k.toNat (by omega) (by omega)]
  rcases h with h | h | h | h | h | h
  · exact Or.inl h
  · exact Or.inr (Or.inl h)
  · obtain ⟨h1, h2, h3, h4, h5, g1, g2, g3, g4, g5, g6, g9, g7, g8⟩ := h
    refine Or.inr (Or.inr (Or.inl ⟨h1, h2, h3, h4, h5, ?_⟩))
    unfold pF
    rw [e 3 k.toNat (by omega) (by omega), e 6 k.toNat (by omega) (by omega)]
    refine ⟨g1, by omega, g3, g4, by omega, g6, by rw [e9 _ (by omega)]; exact g9, fun j j0 j1 => ?_, fun j j0 j1 => ?_⟩
    · by_cases c : j < xk
      · rw [e 4 j.toNat (by omega) (by omega)]
        exact g7 j j0 c
      · exact ⟨fun z => absurd z (hn j (by omega) j1 h1), fun z => by omega⟩
    · rw [(ew j (by omega) (by omega)).1]
      exact g8 j j0 j1
  · exact Or.inr (Or.inr (Or.inr (Or.inl h)))
  · exact Or.inr (Or.inr (Or.inr (Or.inr (Or.inl h))))
  · exact Or.inr (Or.inr (Or.inr (Or.inr (Or.inr h))))
theorem rBs_D (h : rBs T ky wd ho ar ins wt ty li mo fi sl io bv xk xs a) (w0 : 0 ≤ w) (w1 : w < T 11 0) (ha : a ≤ xk) (hi0 : 0 ≤ i.toInt) (hi : i.toInt = xk) (hk : ky t.toInt = key) (hs : s.toInt = w + 1) (hp : pl ≤ 3000) (hn : nHd T wt a w) (hv4 : v4.toInt = 0) (hv6 : v6.toInt = 0) (htz : kind = 0 ∨ kind = 4 ∨ kind = 5 ∨ kind = 8 → tp = 0) : rBs (rDcl T key pl kind tp w) ky (upd wd i.toNatClampNeg t) (upd ho i.toNatClampNeg s) ar ins (upd wt i.toNatClampNeg v1) (upd ty i.toNatClampNeg v2) (upd li i.toNatClampNeg v3) mo fi sl (upd io i.toNatClampNeg v6) (upd bv i.toNatClampNeg v4) (xk + 1) xs a := by
  obtain ⟨h1, h2, h3, h4, h5, h6, h7⟩ := h
  obtain ⟨d10, d11, dk, d1, d2, d3, d4, d6, d13, d12, d7, d9⟩ := rD_at (T := T) (key := key) (pl := pl) (kind := kind) (tp := tp) (w := w)
  have ek := h1.1
  have b0 := h3.1
  refine ⟨nR_D h1 h3 hi0 hi rfl hk hs, sR_D h2, cI_D h3 w0 w1, fun s hs2 => ?_, fun s hs2 => ?_, fun k k0 k1 => ?_, fun k k0 k1 => ?_⟩
  · rw [d9]
    exact h4 s (by omega)
  · rw [d9, d7, d9, d10]
    rcases h5 s (by omega) with c | c | c
    · refine Or.inl ⟨c.1, by omega, ?_, ?_⟩
      · rw [dk 6 _ (by decide) (by decide) (by decide) (by decide) (by omega)]
        exact c.2.2.1
      · rw [dk 1 _ (by decide) (by decide) (by decide) (by decide) (by omega)]
        exact c.2.2.2
    · exact Or.inr (Or.inl c)
    · exact Or.inr (Or.inr c)
  · by_cases c : k = xk
    · rw [c, ek, d12, d6]
      refine ⟨hp, fun z => by omega, ?_, ?_, Or.inl ⟨?_, ?_, rD_14, ?_⟩⟩
      · rw [d3]
        exact Or.inr (Or.inr rfl)
      · rw [d1, d2]
        exact htz
      · rw [← ek, ← hi, rd_s hi0]
        exact hv6
      · rw [← ek, ← hi, rd_s hi0]
        exact hv4
      · rw [d13]
        decide
    · rw [dk 12 _ (by decide) (by decide) (by decide) (by decide) (by omega), dk 6 _ (by decide) (by decide) (by decide) (by decide) (by omega), dk 1 _ (by decide) (by decide) (by decide) (by decide) (by omega)]
      have g := h6 k k0 (by omega)
      exact ⟨g.1, g.2.1, xTk_e g.2.2 (rd_n hi0 k0 (by omega)) (rd_n hi0 k0 (by omega)) (fun c hc => dk c _ (by omega) (by omega) (by omega) (by omega) (by omega))⟩
  · refine kFl_D (h7 k k0 k1) k0 (by omega) (fun c j hc hj => dk c j (by omega) (by omega) (by omega) (by omega) (by omega)) (fun s _ => d9 s) (by omega) (fun j j0 j1 => ⟨rd_n hi0 j0 (by omega), rd_n hi0 j0 (by omega), rd_n hi0 j0 (by omega)⟩) (by omega) (fun j j0 j1 hq => ?_)
    rw [show j = xk from by omega, ek, d4]
    exact fun z => hn k k0 k1 hq z.symm
theorem RQ_s {P P' : gV → Prop} {x x' : gW} {xw xw' : Int} (h : RQ P x xw) (hw : 0 ≤ xw → 0 ≤ xw') (hm : x'.2 ≤ x.2) (hc : xw < 0 → x.2 = 3001 → P x.1 → (0 ≤ xw' ∧ x'.2 ≤ 3000) ∨ (xw' < 0 ∧ x'.2 = 3001 ∧ P' x'.1)) : RQ P' x' xw' := by
  by_cases c : 0 ≤ xw
  · have a := h.1 c
    have b := hw c
    exact ⟨fun _ => by omega, fun q => by omega⟩
  · obtain ⟨a, b⟩ := h.2 (by omega)
    rcases hc (by omega) a b with ⟨y1, y2⟩ | ⟨y1, y2, y3⟩
    · exact ⟨fun _ => y2, fun q => by omega⟩
    · exact ⟨fun q => by omega, fun _ => ⟨y2, y3⟩⟩
theorem rF_tF (h1 : nRl2 T ky wd ho xk) (h3 : cI T) (hb : xk ≤ 1501) (w0 : 0 ≤ w) (w1 : w < T 11 0) : tFind (T 0) (T 5) (T 10 0) key 1501 (T 8 w.toNat) = rF ho wd ky (w + 1) key xk.toNat 0 := by
  have b0 := h3.1
  have ek := h1.1
  have tf := tFc_s (key := key) (s := w.toNat) h3 (by omega) (by omega)
  have rf := rF_f (key := key) h1 w xk.toNat 0 (by omega) (by omega)
  rw [show ((w.toNat : Nat) : Int) = w from by omega] at tf
  rw [tf, rf, ek]
def dcP (ho' ho wd : nA) (ky : Int → Int) (sc : Int32) (key xk xw xw' : Int) (i : Int32) : Prop := (xw' = xw ∧ ho' = upd ho i.toNatClampNeg sc ∧ rF ho wd ky sc.toInt key xk.toNat 0 < 0) ∨ (0 ≤ xw' ∧ 0 ≤ rF ho wd ky sc.toInt key xk.toNat 0)
def rCs (T : gV) (ky : Int → Int) (wd ho ar ins wt ty li mo fi sl io bv : nA) (xk xs a xc xp : Int) : Prop := rBs T ky wd ho ar ins wt ty li mo fi sl io bv xk xs a ∧ sPr T (xc - 1) = xp
theorem sPr_e {U : gV} (h9 : ∀ k, U 9 k = T 9 k) (h11 : U 11 0 = T 11 0) : sPr U w = sPr T w := by
  unfold sPr gG
  rw [h9, h11]
theorem nHd_n {xp : Int} (h : rBs T ky wd ho ar ins wt ty li mo fi sl io bv xk xs a) (hp : sPr T w = xp) (hn : xp < 0 ∨ ¬ rd sl xp = w + 1) : nHd T wt a w := fun k k0 k1 hk e => by
  obtain ⟨h1, h2, h3, h4, h5, h6, h7⟩ := h
  have q := h7 k k0 k1
  unfold kFl pF at q
  rcases q with q | q | q | q | q | q
  · omega
  · omega
  · obtain ⟨c1, c2, c3, c4, c5, g1, g2, g3, g4, g5, g6, g9, g7, g8⟩ := q
    rw [e] at g9 g5 g4 g3
    unfold sPr gG at hp
    rw [if_pos ⟨g4, g5⟩, g9] at hp
    rw [← hp] at hn
    omega
  · omega
  · omega
  · omega
theorem nHd_m (h : rBs T ky wd ho ar ins wt ty li mo fi sl io bv xk xs a) (hp : sPr T w = a) : nHd T wt a w := fun k k0 k1 hk e => by
  obtain ⟨h1, h2, h3, h4, h5, h6, h7⟩ := h
  have q := h7 k k0 k1
  unfold kFl pF at q
  rcases q with q | q | q | q | q | q
  · omega
  · omega
  · obtain ⟨c1, c2, c3, c4, c5, g1, g2, g3, g4, g5, g6, g9, g7, g8⟩ := q
    rw [e] at g9 g5 g4
    unfold sPr gG at hp
    rw [if_pos ⟨g4, g5⟩, g9] at hp
    omega
  · omega
  · omega
  · omega
theorem RQ_D {P P' : gV → Prop} {x : gW} {q : Int → Int} {j xw xw' : Int} {ho' : nA} (h : RQ P x xw) (hP : ∀ T, P T → rBs T ky wd ho ar ins wt ty li mo fi sl io bv xk xs a ∧ nHd T wt a w) (hd : dcP ho' ho wd ky s (ky j) xk xw xw' i) (hw : s.toInt = w + 1) (w0 : 0 ≤ w) (w1 : w + 1 < xs) (hb : xk ≤ 1501) (hpl : ∀ t, 0 ≤ q t ∧ q t ≤ 3000) (hP' : ∀ T, P T → rBs T ky wd ho ar ins wt ty li mo fi sl io bv xk xs a → nHd T wt a w → ho' = upd ho i.toNatClampNeg s → P' (rDcl T (ky j) (q j) kind tp w)) : RQ P' (gRn1 q x (vD ky j kind tp w)) xw' := by
  refine RQ_s h (fun c => ?_) (gRn1_w _ _) (fun c1 c2 c0 => ?_)
  · rcases hd with d | d <;> omega
  · obtain ⟨c3, c4⟩ := hP _ c0
    have e := rF_tF (key := ky j) c3.1 c3.2.2.1 hb w0 (by have := c3.2.1.1; omega)
    rw [← hw] at e
    have e2 : (gRn1 q x (vD ky j kind tp w)).2 = if 0 ≤ tFind (x.1 0) (x.1 5) (x.1 10 0) (ky j) 1501 (x.1 8 w.toNat) then min x.2 (q j) else x.2 := rfl
    rw [e2, e]
    have := hpl j
    rcases hd with ⟨d1, d2, d3⟩ | ⟨d1, d2⟩
    · rw [if_neg (by omega)]
      exact Or.inr ⟨by omega, c2, hP' _ c0 c3 c4 d2⟩
    · rw [if_pos d2]
      exact Or.inl ⟨d1, by omega⟩
theorem rBs_x (h : rBs T ky wd ho ar ins wt ty li mo fi sl io bv xk xs a) (hk : ∀ k : Int, 0 ≤ k → a ≤ k → k < xk → kFl T wt ty li mo fi sl xk k) : rBs T ky wd ho ar ins wt ty li mo fi sl io bv xk xs xk := ⟨h.1, h.2.1, h.2.2.1, h.2.2.2.1, h.2.2.2.2.1, h.2.2.2.2.2.1, fun k k0 k1 => if c : k < a then h.2.2.2.2.2.2 k k0 c else hk k k0 (by omega) k1⟩
theorem rBs_1 (h : rBs T ky wd ho ar ins wt ty li mo fi sl io bv xk xs xk) (w0 : 0 ≤ w) (w1 : w + 1 < xs) (hi0 : 0 ≤ i.toInt) (hi : i.toInt = xk) (hk : ky t.toInt = key) (hs : s.toInt = w + 1) (hp : pl ≤ 3000) (hn : nHd T wt xk w) (hv : (v1.toInt = 0 ∧ kind = 1 ∧ v2.toInt = tp ∧ (tp = 1 ∨ tp = 2)) ∨ (v1.toInt = 3 ∧ kind = 4 ∧ v2.toInt = 0 ∧ tp = 0) ∨ (v1.toInt = 4 ∧ kind = 5 ∧ v2.toInt = 0 ∧ tp = 0)) (hv4 : v4.toInt = 0) (hv6 : v6.toInt = 0) : rBs (rDcl T key pl kind tp w) ky (upd wd i.toNatClampNeg t) (upd ho i.toNatClampNeg s) ar ins (upd wt i.toNatClampNeg v1) (upd ty i.toNatClampNeg v2) (upd li i.toNatClampNeg v3) mo fi sl (upd io i.toNatClampNeg v6) (upd bv i.toNatClampNeg v4) (xk + 1) xs (xk + 1) := by
  have d := rBs_D (v1 := v1) (v2 := v2) (v3 := v3) (kind := kind) (tp := tp) h w0 (by have := h.2.1.1; omega) (Int.le_refl _) hi0 hi hk hs hp hn hv4 hv6 (by omega)
  refine rBs_x d (fun k k0 k1 k2 => ?_)
  obtain ⟨d10, d11, dk, d1, d2, d3, d4, d6, d13, d12, d7, d9⟩ := rD_at (T := T) (key := key) (pl := pl) (kind := kind) (tp := tp) (w := w)
  have ek := h.1.1
  have e : k = i.toInt := by omega
  unfold kFl
  rw [show k.toNat = (T 10 0).toNat from by omega, d1, d2, e, rd_s hi0, rd_s hi0]
  rcases hv with c | c | c
  · exact Or.inl (by omega)
  · exact Or.inr (Or.inr (Or.inr (Or.inl (by omega))))
  · exact Or.inr (Or.inr (Or.inr (Or.inr (Or.inl (by omega)))))
theorem RQ_1 {x : gW} {q : Int → Int} {j xw xw' xc xp xk2 : Int} {ho' : nA} (h : RQ (fun T => rCs T ky wd ho ar ins wt ty li mo fi sl io bv xk xs xk xc xp) x xw) (hd : dcP ho' ho wd ky s (ky j) xk xw xw' i) (hw : s.toInt = xc) (w0 : 1 ≤ xc) (w1 : xc < xs) (hb : xk ≤ 1501) (hpl : ∀ t, 0 ≤ q t ∧ q t ≤ 3000) (hnh : xp < 0 ∨ ¬ rd sl xp = xc) (hi0 : 0 ≤ i.toInt) (hi : i.toInt = xk) (hj : t.toInt = j) (h2 : xk2 = xk + 1) (hv : (v1.toInt = 0 ∧ kind = 1 ∧ v2.toInt = tp ∧ (tp = 1 ∨ tp = 2)) ∨ (v1.toInt = 3 ∧ kind = 4 ∧ v2.toInt = 0 ∧ tp = 0) ∨ (v1.toInt = 4 ∧ kind = 5 ∧ v2.toInt = 0 ∧ tp = 0)) (hv4 : v4.toInt = 0) (hv6 : v6.toInt = 0) : RQ (fun T => rCs T ky (upd wd i.toNatClampNeg t) ho' ar ins (upd wt i.toNatClampNeg v1) (upd ty i.toNatClampNeg v2) (upd li i.toNatClampNeg v3) mo fi sl (upd io i.toNatClampNeg v6) (upd bv i.toNatClampNeg v4) xk2 xs xk2 xc xp) (gRn1 q x (vD ky j kind tp (xc - 1))) xw' := by
  subst h2
  refine RQ_D h (fun T c => ⟨c.1, nHd_n c.1 c.2 (by rw [show xc - 1 + 1 = xc from by omega]; exact hnh)⟩) hd (by omega) (by omega) (by omega) hb hpl (fun T c c1 c2 e => ?_)
  obtain ⟨d10, d11, dk, d1, d2, d3, d4, d6, d13, d12, d7, d9⟩ := rD_at (T := T) (key := ky j) (pl := q j) (kind := kind) (tp := tp) (w := xc - 1)
  refine ⟨?_, (sPr_e d9 d11).trans c.2⟩
  rw [e]
  exact rBs_1 c1 (by omega) (by omega) hi0 hi (by rw [hj]) (by omega) (hpl j).2 c2 hv hv4 hv6
end
def vaI (S : Int × gB → Int → Option (Int × Int × gB)) (kd : Int → Int) (F : Option (Int × Int × gB)) (i pos m ow : Int) (P : gV → Prop) (pl : Int → Int) (x0 : gW) (xw : Int) : Prop := ∃ (k : Nat) (x : Int × gB), 3002 ≤ (k : Int) + (pos - i) ∧ ((m = 1 ∧ F = gLp kd 38 S k pos x) ∨ (m = 0 ∧ F = some (pos, x))) ∧ ow = x.1 ∧ RQ P (gRun pl x.2.2.1 x0) xw ∧ ∀ e, ¬ x.2.2.2.2 e = none
section
variable {kd ky pl : Int → Int} {F : Option (Int × Int × gB)} {i pos pos2 own ty w : Int} {k : Nat} {x : Int × gB} {P : gV → Prop} {x0 y : gW} {xw m ow : Int}
theorem gRun_1 {v : gE} {vs : List gE} : gRun pl (vs ++ [v]) y = gRn1 pl (gRun pl vs y) v := by
  rw [gRun_a]
  rfl
theorem sVa_y (hk : kd pos = 27) (hq : x.1 < 60) : sVa kd ky own ty w x pos = some (pos + 1, x.1 + 1, bSq x.2 (gVa1 own (bEv (vD ky pos 1 ty w)))) := by
  unfold sVa gSto
  rw [if_pos hq, tk_y hk]
  rfl
theorem sVa_n (h : ¬ (kd pos = 27 ∧ x.1 < 60)) : sVa kd ky own ty w x pos = none := by
  unfold sVa gSto
  by_cases hq : x.1 < 60
  · rw [if_pos hq, tk_x (fun z => h ⟨z, hq⟩)]
    rfl
  · rw [if_neg hq]
    rfl
theorem gLq_s {σ : Type} {S : σ → Int → Option (Int × σ)} {sep : Int} {x y : σ} {j : Int} (h : S x pos = some (j, y)) : gLp kd sep S (k + 1) pos x = if kd j = sep then gLp kd sep S k (j + 1) y else some (j, y) := by
  show (S x pos).bind _ = _
  rw [h]
  rfl
theorem gLq_n {σ : Type} {S : σ → Int → Option (Int × σ)} {sep : Int} {x : σ} (h : S x pos = none) : gLp kd sep S k pos x = none := by
  cases k with
  | zero => rfl
  | succ k =>
    show (S x pos).bind _ = _
    rw [h]
    rfl
theorem vb_0 (hF : F = gVas kd ky own ty w i ow b0) (hR : RQ P x0 xw) : vaI (sVa kd ky own ty w) kd F i i 1 ow P pl x0 xw := ⟨3002, (ow, b0), by omega, Or.inl ⟨rfl, hF⟩, rfl, hR, fun e h => by cases h⟩
def vaR (F : Option (Int × Int × gB)) (xa ow : Int) (P : gV → Prop) (pl : Int → Int) (x0 : gW) (xw : Int) : Prop := ∃ a, F = some a ∧ xa = a.1 ∧ ow = a.2.1 ∧ RQ P (gRun pl a.2.2.2.1 x0) xw ∧ ∀ e, ¬ a.2.2.2.2.2 e = none
theorem vb_x (h : vaI (sVa kd ky own ty w) kd F i pos m ow P pl x0 xw) (hm : m = 0) : vaR F pos ow P pl x0 xw := by
  obtain ⟨k, x, h1, h2, h3, h4, h5⟩ := h
  rcases h2 with h2 | h2
  · have := h2.1
    omega
  · exact ⟨(pos, x), h2.2, rfl, h3, h4, h5⟩
theorem vb_n {F : Option (Int × Int × gB)} (hF : F = gLp kd 38 (sVa kd ky own ty w) k pos x) (h : ¬ (kd pos = 27 ∧ x.1 < 60)) : F = none := hF.trans (gLq_n (sVa_n h))
theorem vb_s {P P' : gV → Prop} {xw' ow2 m2 : Int} (h1 : 3002 ≤ (k : Int) + (pos - i)) (hF : F = gLp kd 38 (sVa kd ky own ty w) k pos x) (hle : pos - i ≤ 3000) (hk : kd pos = 27) (hq : x.1 < 60) (ho : ow2 = x.1 + 1) (hR : RQ P (gRn1 pl (gRun pl x.2.2.1 x0) (vD ky pos 1 ty w)) xw') (hP0 : own = 0 → ∀ T, P T → P' T) (hPo : ¬ own = 0 → ∀ T, P T → P' (gst T 14 (T 10 0 - 1).toNat 1)) (he : ∀ e, ¬ x.2.2.2.2 e = none) (hm : (kd (pos + 1) = 38 ∧ m2 = 1 ∧ pos2 = pos + 1 + 1) ∨ (¬ kd (pos + 1) = 38 ∧ m2 = 0 ∧ pos2 = pos + 1)) : vaI (sVa kd ky own ty w) kd F i pos2 m2 ow2 P' pl x0 xw' := by
  obtain ⟨k', rfl⟩ : ∃ k' : Nat, k = k' + 1 := ⟨k - 1, by omega⟩
  have e := hF.trans (gLq_s (sVa_y hk hq))
  have r : RQ P' (gRun pl (bSq x.2 (gVa1 own (bEv (vD ky pos 1 ty w)))).2.1 x0) xw' := by
    unfold gVa1
    by_cases c : own = 0
    · rw [if_pos c]
      show RQ P' (gRun pl (x.2.2.1 ++ [_]) x0) xw'
      rw [gRun_1]
      exact ⟨hR.1, fun z => ⟨(hR.2 z).1, hP0 c _ (hR.2 z).2⟩⟩
    · rw [if_neg c]
      show RQ P' (gRun pl (x.2.2.1 ++ [_, vOwn]) x0) xw'
      rw [gRun_a]
      show RQ P' (gRn1 pl (gRn1 pl (gRun pl x.2.2.1 x0) _) vOwn) xw'
      exact ⟨hR.1, fun z => ⟨(hR.2 z).1, hPo c _ (hR.2 z).2⟩⟩
  have s : ∀ e, ¬ (bSq x.2 (gVa1 own (bEv (vD ky pos 1 ty w)))).2.2.2 e = none := fun e => by
    rw [bSq_n]
    refine ⟨he e, ?_⟩
    unfold gVa1
    by_cases c : own = 0
    · rw [if_pos c]; intro z; cases z
    · rw [if_neg c]; intro z; cases z
  rcases hm with ⟨m1, m2, m3⟩ | ⟨m1, m2, m3⟩
  · rw [if_pos m1] at e
    exact ⟨k', _, by omega, Or.inl ⟨m2, by rw [m3]; exact e⟩, ho, r, s⟩
  · rw [if_neg m1] at e
    exact ⟨k', (x.1 + 1, bSq x.2 (gVa1 own (bEv (vD ky pos 1 ty w)))), by omega, Or.inr ⟨m2, by rw [m3]; exact e⟩, ho, r, s⟩
end
section
variable {T : gV} {ky : Int → Int} {wd ho ar ins wt ty li mo fi sl io bv : nA} {xk xs a xc xp : Int}
theorem rBs_o {io' bv' : nA} (h : rBs T ky wd ho ar ins wt ty li mo fi sl io bv xk xs a) (hk : ∀ k : Int, 0 ≤ k → k < xk → mkK T io bv k → mkK T io' bv' k) : rBs T ky wd ho ar ins wt ty li mo fi sl io' bv' xk xs a := ⟨h.1, h.2.1, h.2.2.1, h.2.2.2.1, h.2.2.2.2.1, fun k k0 k1 => ⟨(h.2.2.2.2.2.1 k k0 k1).1, (h.2.2.2.2.2.1 k k0 k1).2.1, (h.2.2.2.2.2.1 k k0 k1).2.2.1, (h.2.2.2.2.2.1 k k0 k1).2.2.2.1, hk k k0 k1 (h.2.2.2.2.2.1 k k0 k1).2.2.2.2⟩, h.2.2.2.2.2.2⟩
theorem rCs_14 {k : Nat} {v : Int} {io' : nA} (h : rCs T ky wd ho ar ins wt ty li mo fi sl io bv xk xs a xc xp) (hm : ∀ j : Int, 0 ≤ j → j < xk → mkK T io bv j → mkK (gst T 14 k v) io' bv j) : rCs (gst T 14 k v) ky wd ho ar ins wt ty li mo fi sl io' bv xk xs a xc xp := by
  have e : ∀ c j, c ≠ 14 → gst T 14 k v c j = T c j := fun c j hc => gst_c hc
  have e14 : ∀ c, c ≠ 14 → gst T 14 k v c = T c := fun c hc => funext fun j => e c j hc
  have h2 : ∀ j : Int, 0 ≤ j → j < xk → mkK (gst T 14 k v) io' bv j := fun j j0 j1 => hm j j0 j1 (h.1.2.2.2.2.2.1 j j0 j1).2.2.2.2
  unfold rCs rBs nRl2 sRl2 cI isFst isLst isNxt pI kFl pF kM6 sPr xTk at *
  simp only [e14 0 (by decide), e14 1 (by decide), e14 2 (by decide), e14 3 (by decide), e14 4 (by decide), e14 5 (by decide), e14 6 (by decide), e14 7 (by decide), e14 8 (by decide), e14 9 (by decide), e14 10 (by decide), e14 11 (by decide), e14 12 (by decide), e14 15 (by decide)]
  obtain ⟨⟨g1, g2, g3, g4, g5, g6, g7⟩, g8⟩ := h
  exact ⟨⟨g1, g2, g3, g4, g5, fun j j0 j1 => ⟨(g6 j j0 j1).1, (g6 j j0 j1).2.1, (g6 j j0 j1).2.2.1, (g6 j j0 j1).2.2.2.1, h2 j j0 j1⟩, g7⟩, g8⟩
theorem rCs_ow0 {i v : Int32} (h : rCs T ky wd ho ar ins wt ty li mo fi sl io bv xk xs a xc xp) (hi : 0 ≤ i.toInt) (hz : rd io i.toInt = 0) (hv : v.toInt = 0) : rCs T ky wd ho ar ins wt ty li mo fi sl (upd io i.toNatClampNeg v) bv xk xs a xc xp := by
  refine ⟨rBs_o h.1 (fun k k0 _ g => mkK_e g ?_ rfl rfl rfl), h.2⟩
  by_cases c : k = i.toInt
  · rw [c, rd_s hi, hv, hz]
  · exact rd_n hi k0 c
theorem rCs_ow1 {i v : Int32} (h : rCs T ky wd ho ar ins wt ty li mo fi sl io bv xk xs a xc xp) (hi : 0 ≤ i.toInt) (hk : i.toInt + 1 = xk) (hv : ¬ v.toInt = 0) : rCs (gst T 14 (T 10 0 - 1).toNat 1) ky wd ho ar ins wt ty li mo fi sl (upd io i.toNatClampNeg v) bv xk xs a xc xp := by
  have ek := h.1.1.1
  refine rCs_14 h (fun j j0 j1 g => ?_)
  by_cases c : j = i.toInt
  · refine Or.inr ⟨Or.inl ?_, Or.inl ?_⟩
    · rw [c, rd_s hi]
      exact hv
    · rw [show j.toNat = (T 10 0 - 1).toNat from by omega, gst_s]
      decide
  · exact mkK_e g (rd_n hi j0 c) rfl (gst_k (by omega)) (gst_c (by decide))
end
def owS (f g : nA) (p : Int) : Prop := ∀ j : Int, 0 ≤ j → j ≤ p → rd g j = rd f j
def nmW (wt : nA) (lo hi v : Int) : Prop := ∀ k : Int, lo ≤ k → k < hi → rd wt k = v
def agv (n : Int) (f g : nA) : Prop := ∀ c : Int, 0 ≤ c → c < n → rd g c = rd f c
section
variable {f g h : nA} {p n m lo hi hi2 v : Int} {i w : Int32}
theorem owS_0 : owS f f p := fun _ _ _ => rfl
theorem owS_u (k : owS f g p) (h0 : 0 ≤ i.toInt) (hi : p < i.toInt) : owS f (upd g i.toNatClampNeg w) p := fun j a b => (rd_n h0 a (by omega)).trans (k j a b)
theorem owS_t (k : owS f g p) (q : owS g h m) (hm : p ≤ m) : owS f h p := fun j a b => (q j a (by omega)).trans (k j a b)
theorem nmW_0 (e : hi ≤ lo) : nmW f lo hi v := fun k a b => by omega
theorem nmW_s (k : nmW f lo hi v) (h0 : 0 ≤ i.toInt) (h00 : 0 ≤ lo) (e : i.toInt = hi) (e2 : hi2 = hi + 1) (hw : w.toInt = v) : nmW (upd f i.toNatClampNeg w) lo hi2 v := fun c a b => by
  by_cases q : c = i.toInt
  · rw [q, rd_s h0]; exact hw
  · rw [rd_n h0 (by omega) q]; exact k c a (by omega)
theorem agv_0 : agv n f f := fun _ _ _ => rfl
theorem agv_u (k : agv n f g) (h0 : 0 ≤ i.toInt) (hi : n ≤ i.toInt) : agv n f (upd g i.toNatClampNeg w) := fun c a b => (rd_n h0 a (by omega)).trans (k c a b)
theorem agv_t (k : agv n f g) (q : agv m g h) (hm : n ≤ m) : agv n f h := fun c a b => (q c a (by omega)).trans (k c a b)
end
