section
variable {pl ky kd : Int → Int} {lo : gL} {lm lm2 : gM} {ss sw sw1 sw2 w so so1 so2 ks ks1 ks2 sc1 sc2 sl1 sl2 r i tf0 tf1 tf2 tf3 ta0 ta ta1 ta2 bn bn1 p : Int} {T T1 T2 : gV} {m m1 m2 : Nat → Int32} {v : gE} {F : gS} {D : Int → Int → Int → gS}
theorem pro_b (h2 : cQ (tkn kd 27 ta1) tf1 tf2 (rDc pl ky ss T T1 sw sw1 m m1 v bn bn1 ta2 r)) (h3 : oP so tf2 tf3 ss so1 sc1 sl1 T1 T2 w r bn1) (q : tf3 = -2) (h0 : 0 ≤ bn) (hs : ss = 0 → T1 11 0 = so) (e1 : T1 10 0 = bn1) (e2 : T2 10 0 = bn1) : bX pl ky ss T T2 sw sw1 m m1 (bSq (bEv v) (bOp (vOpP w) w)) ∧ so1 = so + 1 ∧ sc1 = so := by
  have q2 := h3.1 q
  obtain ⟨a, _, _, g1, g2, g3⟩ := cQ_a h2 q2
  by_cases hL : so < 333
  · obtain ⟨_, c1, c2, _, c4, c5⟩ := (h3.2 q2).1 hL
    exact ⟨opP_x g1 g2 h0 c4 c5 hs e1 e2, c1, c2⟩
  · exact absurd q ((h3.2 q2).2 hL)
theorem bk_0 (h : oQ so tf1 tf2 ss so2 sc2 sl2 T T2 w (sPr T w)) (q : tf2 = -2) (e : T2 10 0 = T 10 0) (p7 : T2 7 so.toNat = w ∧ so < T2 11 0) : rBk pl ky ss T T2 sw sw m m so w so2 ks sc2 (so + 1) ks (bOp (vOpB w) w) := by
  have z := opB_x (pl := pl) (ky := ky) (sw := sw) (m := m) h q e
  exact ⟨z.2.1, rfl, z.2.1, z.2.2.1, p7, z.1⟩
theorem oQ_s (h : oQ so tf1 tf2 ss so2 sc2 sl2 T T2 w p) (q : tf2 = -2) : (¬ ss = 0 → T2 = T) ∧ so < 333 ∧ sc2 = so := by
  by_cases hL : so < 333
  · obtain ⟨_, c1, c2, _, c4, c5⟩ := (h.2 (h.1 q)).1 hL
    exact ⟨c5, hL, c2⟩
  · exact absurd q ((h.2 (h.1 q)).2 hL)
theorem cDc_p (inv : cDc kd D F tf0 tf1 ta1 i (rBk pl ky ss T T1 sw sw1 m m1 so w so1 ks1 sc1)) (q : tf1 = -2) : sc1 = so ∧ (T1 7 so.toNat = w ∧ so < T1 11 0) := by
  obtain ⟨_, k, o, q', x, _, _, hs⟩ := (inv.2 (inv.1 q)).1 q
  exact ⟨hs.2.2.2.1, hs.2.2.2.2.1⟩
theorem bl_p {S : Int × Int × gB → Int → gS} (inv : cLp kd 39 S F tf0 tf1 ta1 i (fun x => rBk pl ky ss T T1 sw sw1 m m1 so w so1 ks1 sc1 x.1 x.2.1 x.2.2)) (q : tf1 = -2) : sc1 = so ∧ (T1 7 so.toNat = w ∧ so < T1 11 0) := by
  obtain ⟨_, k, x, _, _, hs⟩ := (inv.2 (inv.1 q)).1 q
  exact ⟨hs.2.2.2.1, hs.2.2.2.2.1⟩
theorem bl_i (hD : cQ (gDcs kd (lm 1 w so) 3002 ta0 (so + 1) ks (bOp (vOpB w) w)) tf0 tf1 (fun p => ta = p.1 ∧ rBk pl ky ss T T1 sw sw1 m m1 so w so1 ks1 sc1 p.2.1 p.2.2.1 p.2.2.2)) (hP : tf1 = -2 → lm 0 0 so = gPln kd ky 333 lo lm2 so) (h : cQ (gSt1 kd ky sc1 (gPln kd ky 333 lo lm2 sc1) ta so1 ks1) tf1 tf2 (rB pl ky ss T1 T2 sw1 sw2 m1 m2 so1 so2 ks2 sc1 sc2 ta2)) (hp : (T1 7 so.toNat = w ∧ so < T1 11 0) → (T2 7 so.toNat = w ∧ so < T2 11 0)) (h0 : 0 ≤ ta2) : cLp kd 39 (sSt kd ky so (lm 0 0 so)) (gBW kd ky lm w ta0 so ks) tf0 tf2 ta2 0 (fun x => rBk pl ky ss T T2 sw sw2 m m2 so w so2 ks2 sc2 x.1 x.2.1 x.2.2) := by
  unfold gBW
  refine cLp_b (ta := ta) hD h.1 h0 (fun a q r9 => ⟨a.2, ?_, ?_⟩)
  · rw [r9.1]
    rfl
  · exact P_bs r9.2 (hP q) h (hp r9.2.2.2.2.2.1)
end
section
variable {f13 : Nat → Int64} {f14 f15 f16 f17 f18 f19 f20 f21 f22 f23 f24 f25 f26 g16 : Nat → Int32} {bn sn r c : Int32}
theorem cnt_e (h : zCh bn f16 r c g16) (h0 : 0 ≤ r.toInt) (h1 : r.toInt < bn.toInt) (e : r.toInt = bn.toInt - 1 - c.toInt) : eT f13 f14 f15 g16 f17 f18 f19 f20 f21 f22 f23 f24 f25 f26 bn sn = gst (eT f13 f14 f15 f16 f17 f18 f19 f20 f21 f22 f23 f24 f25 f26 bn sn) 3 (bn.toInt - 1 - c.toInt).toNat c.toInt := by
  rcases h with ⟨h2, _⟩ | ⟨k, h2, _, h3⟩
  · exact absurd ⟨h0, h1⟩ h2
  · rw [h3, eT_u3, ← e, show r.toInt.toNat = k by omega]
theorem zCh_n {f g : Nat → Int32} (h : zCh bn f r c g) (h0 : r.toInt < 0) : g = f := by
  rcases h with ⟨_, h2⟩ | ⟨k, h2, _, _⟩
  · exact h2
  · omega
end
section
variable {f9 : Nat → Int32} {tc ta tf : Int32}
theorem dc_1 (h : kA f9 tc ta tf = 3 ∨ kA f9 tc ta tf = 4 ∨ kA f9 tc ta tf = 8 ∨ kA f9 tc ta tf = 6 ∨ kA f9 tc ta tf = 9) : tf.toInt = -2 ∧ isDc (kC f9 tc ta.toInt) = true := by
  have q : tf.toInt = -2 := by
    by_cases q : tf.toInt = -2
    · exact q
    · unfold kA at h
      rw [if_neg q] at h
      omega
  refine ⟨q, decide_eq_true ?_⟩
  rw [← kA_e q]
  exact h
theorem dc_0 (h : ¬ (kA f9 tc ta tf = 3 ∨ kA f9 tc ta tf = 4 ∨ kA f9 tc ta tf = 8 ∨ kA f9 tc ta tf = 6 ∨ kA f9 tc ta tf = 9)) (q : tf.toInt = -2) : ¬ isDc (kC f9 tc ta.toInt) = true := by
  rw [kA_e q] at h
  exact fun z => h (of_decide_eq_true z)
end
theorem pK_R {f23 g23 : Nat → Int32} {sn sn' s w : Int} (h0 : 0 ≤ s) (h : (f23 s.toNat).toInt = w ∧ s < sn) (k : pKr f23 sn g23 sn') : (g23 s.toNat).toInt = w ∧ s < sn' := by
  have e := k.2 s.toNat (by omega)
  refine ⟨by rw [e]; exact h.1, ?_⟩
  have := k.1
  omega
theorem pa_r {f23 : Nat → Int32} {sn s w : Int} (h0 : 0 ≤ s) (h : (f23 s.toNat).toInt = w ∧ s < sn) : gG (rI f23) sn (-1) s = w := by
  unfold gG
  rw [if_pos ⟨h0, h.2⟩]
  exact h.1
