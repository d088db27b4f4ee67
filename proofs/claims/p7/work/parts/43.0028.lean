def bkC (so on tw th nx wt mr : nA) (x hi klo khi A B : Int) : Prop := CV so on tw th nx wt mr (x + 1) hi klo khi (fun c => (∃ n, lR nx x hi n A c) ∨ ∃ n, lR nx x hi n B c)
def bkE (so nx : nA) (x hi B en : Int) : Prop := (en < 0 ∧ B < 0) ∨ (x < en ∧ en < hi ∧ 0 ≤ B ∧ rd nx en = -1 ∧ 18 < rd so en ∧ ∃ n, lR nx x hi n B en)
section
variable {so st on tw th fo nx wh so' st' on' tw' th' fo' nx' wh' wt li mr wt' li' mr' : nA} {x hi hi2 klo km khi A B en re : Int}
theorem lR_h {c h2 : Int} : ∀ {n : Nat} {e d : Int}, lR nx c h2 n e d → c < e ∧ c < d ∧ d < h2
  | 0, e, d, h => ⟨h.2.1, by have := h.1; have := h.2.1; omega, by have := h.1; have := h.2.2; omega⟩
  | n + 1, e, d, h => ⟨h.1, (lR_h h.2.2).2⟩
theorem lR_l {c c2 h2 : Int} (hc : c2 ≤ c) : ∀ {n : Nat} {e d : Int}, lR nx c h2 n e d → lR nx c2 h2 n e d
  | 0, e, d, h => ⟨h.1, by have := h.2.1; omega, h.2.2⟩
  | n + 1, e, d, h => ⟨by have := h.1; omega, h.2.1, lR_l hc h.2.2⟩
theorem lR_a {c h2 z : Int} {m : Nat} {d : Int} (hz : lR nx c h2 m (rd nx z) d) : ∀ {n : Nat} {e : Int}, lR nx c h2 n e z → lR nx c h2 (n + (m + 1)) e d
  | 0, e, h => by
    rw [Nat.zero_add]
    have e1 := h.1
    exact ⟨h.2.1, h.2.2, by rw [← e1]; exact hz⟩
  | n + 1, e, h => by
    rw [show n + 1 + (m + 1) = n + (m + 1) + 1 from by omega]
    exact ⟨h.1, h.2.1, lR_a hz h.2.2⟩
theorem bkc_0 (h : hi = x + 1) : bkC so on tw th nx wt mr x hi klo khi A B := CV_0 (fun r a b => by omega)
theorem bk_u (h : bkC so on tw th nx wt mr x hi klo khi A B) (h0 : 0 ≤ x) (g : ax9 (x + 1) hi so st on tw th fo nx wh so' st' on' tw' th' fo' nx' wh') (gn : ∀ k : Int, klo ≤ k → k < khi → rd wt' k = rd wt k ∧ rd mr' k = rd mr k) : bkC so' on' tw' th' nx' wt' mr' x hi klo khi A B := by
  have GX : ∀ c : Int, x < c → c < hi → rd nx' c = rd nx c ∨ rd nx c < 0 := fun c a b => (g c (by omega) b (by omega)).2.2.2.2.2.2.2.imp id (fun z => z.2)
  exact CV_q (CV_u h (by omega) g gn) (fun c _ q => q.imp (fun ⟨n, z⟩ => ⟨n, lR_u h0 (Int.le_refl _) GX n _ _ z⟩) (fun ⟨n, z⟩ => ⟨n, lR_u h0 (Int.le_refl _) GX n _ _ z⟩))
theorem be_u (h : bkE so nx x hi B en) (h0 : 0 ≤ x) (g : ax9 (x + 1) hi so st on tw th fo nx wh so' st' on' tw' th' fo' nx' wh') (gx : en < 0 ∨ rd nx' en = rd nx en) : bkE so' nx' x hi B en := by
  have GX : ∀ c : Int, x < c → c < hi → rd nx' c = rd nx c ∨ rd nx c < 0 := fun c a b => (g c (by omega) b (by omega)).2.2.2.2.2.2.2.imp id (fun z => z.2)
  refine h.imp id (fun ⟨z1, z2, z3, z4, z5, n, z6⟩ => ⟨z1, z2, z3, ?_, by rw [(g en (by omega) z2 (by omega)).1]; exact z5, n, lR_u h0 (Int.le_refl _) GX n _ _ z6⟩)
  rcases gx with y | y
  · omega
  · rw [y]
    exact z4
theorem be_d (h : bkE so nx x hi B en) : (en < 0 ∧ B < 0) ∨ (x < en ∧ en < hi ∧ 0 ≤ B) := h.imp id (fun z => ⟨z.1, z.2.1, z.2.2.1⟩)
theorem be_x (h : bkE so nx x hi B en) (hz : 0 ≤ en) : rd nx en = -1 ∧ 18 < rd so en := by
  rcases h with h | h
  · omega
  · exact ⟨h.2.2.2.1, h.2.2.2.2.1⟩
theorem bk_k {khi2 : Int} (h : bkC so on tw th nx wt mr x hi klo khi A B) (hk : khi ≤ khi2) : bkC so on tw th nx wt mr x hi klo khi2 A B := fun r r0 r1 r2 => (h r r0 r1 r2).imp id (fun ⟨k, k0, k1, k2⟩ => ⟨k, k0, by omega, k2⟩)
theorem bk_w (h : bkC so on tw th nx wt mr x hi klo km A B) (h0 : 0 ≤ x) (h1 : x + 1 ≤ hi) (h2 : hi ≤ hi2) (hk : klo ≤ km) (hk2 : km ≤ khi) {Q : Int → Prop} (hc : CV so on tw th nx wt mr hi hi2 km khi Q) {B' : Int} (qb : ∀ c, (∃ n, lR nx x hi2 n B c) → (∃ n, lR nx x hi2 n A c) ∨ ∃ n, lR nx x hi2 n B' c) (q : ∀ c, Q c → ∃ n, lR nx x hi2 n B' c) : bkC so on tw th nx wt mr x hi2 klo khi A B' := by
  have W : ∀ (e c : Int) (n : Nat), lR nx x hi n e c → lR nx x hi2 n e c := fun e c n z => lR_u h0 h2 (fun _ _ _ => Or.inl rfl) n _ _ z
  exact CV_2 h hc (by omega) h1 h2 hk hk2 (fun c z => z.elim (fun ⟨n, z⟩ => Or.inl ⟨n, W _ _ _ z⟩) (fun ⟨n, z⟩ => qb c ⟨n, W _ _ _ z⟩)) (fun c z => Or.inr (q c z))
theorem bk_app {r z : Int32} (h : bkC so on tw th nx wt mr x hi klo km A B) (e : bkE so nx x hi B z.toInt) (hz : 0 ≤ z.toInt) (hc : CV so on tw th nx wt mr hi hi2 km khi (sgQ nx hi hi2 r.toInt)) (hr : hi ≤ re) (hr2 : re < hi2) (hn : rd nx re = -1) (ho : 18 < rd so re) (hq : sgQ nx hi hi2 r.toInt re) (h0 : 0 ≤ x) (hk : klo ≤ km) (hk2 : km ≤ khi) : bkC so on tw th (upd nx z.toNatClampNeg r) wt mr x hi2 klo khi A B ∧ bkE so (upd nx z.toNatClampNeg r) x hi2 B re := by
  rcases e with e | ⟨z1, z2, z3, z4, z5, m, z6⟩
  · omega
  · have ax : ax9 (x + 1) hi so so on tw th so nx so so so on tw th so (upd nx z.toNatClampNeg r) so := fun c a b d => ⟨rfl, rfl, rfl, rfl, rfl, rfl, rfl, by
      by_cases q : c = z.toInt
      · rw [q]; exact Or.inr ⟨z5, by omega⟩
      · exact Or.inl (rd_n hz d q)⟩
    have ax2 : ax9 hi hi2 so so on tw th so nx so so so on tw th so (upd nx z.toNatClampNeg r) so := fun c a b d => ⟨rfl, rfl, rfl, rfl, rfl, rfl, rfl, Or.inl (rd_n hz d (by omega))⟩
    have h' := bk_u (wt' := wt) (mr' := mr) h h0 ax (fun _ _ _ => ⟨rfl, rfl⟩)
    have GX : ∀ c : Int, x < c → c < hi → rd (upd nx z.toNatClampNeg r) c = rd nx c ∨ rd nx c < 0 := fun c a b => (ax c (by omega) b (by omega)).2.2.2.2.2.2.2.imp id (fun z => z.2)
    have z6' : lR (upd nx z.toNatClampNeg r) x hi2 m B z.toInt := lR_u h0 (by omega) GX m _ _ z6
    have G2 : ∀ c : Int, hi - 1 < c → c < hi2 → rd (upd nx z.toNatClampNeg r) c = rd nx c ∨ rd nx c < 0 := fun c a b => Or.inl (rd_n hz (by omega) (by omega))
    have SQ : ∀ c, sgQ nx hi hi2 r.toInt c → ∃ n, lR (upd nx z.toNatClampNeg r) x hi2 n B c := fun c ⟨n, q⟩ => ⟨_, lR_a (m := n) (by rw [rd_s hz]; exact lR_l (c := hi - 1) (by omega) (lR_u (by omega) (Int.le_refl _) G2 n _ _ q)) z6'⟩
    have c2 := CV_u (wt' := wt) (mr' := mr) hc (by omega) ax2 (fun _ _ _ => ⟨rfl, rfl⟩)
    refine ⟨bk_w (B' := B) h' h0 (by omega) (by omega) hk hk2 c2 (fun c q => Or.inr q) SQ, Or.inr ⟨by omega, hr2, z3, ?_, ho, SQ _ hq⟩⟩
    rw [rd_n hz (by omega) (by omega)]
    exact hn
theorem bk_beg {r : Int} (h : bkC so on tw th nx wt mr x hi klo km A B) (e : bkE so nx x hi B en) (hx : en < 0) (hc : CV so on tw th nx wt mr hi hi2 km khi (sgQ nx hi hi2 r)) (h1 : x + 1 ≤ hi) (hr : hi ≤ re) (hr2 : re < hi2) (hn : rd nx re = -1) (ho : 18 < rd so re) (hq : sgQ nx hi hi2 r re) (h0 : 0 ≤ x) (hk : klo ≤ km) (hk2 : km ≤ khi) : bkC so on tw th nx wt mr x hi2 klo khi A r ∧ bkE so nx x hi2 r re := by
  have hB : B < 0 := by
    rcases e with e | e
    · exact e.2
    · omega
  have SQ : ∀ c, sgQ nx hi hi2 r c → ∃ n, lR nx x hi2 n r c := fun c ⟨n, q⟩ => ⟨n, lR_l (c := hi - 1) (by omega) q⟩
  have r0 : 0 ≤ r := by
    obtain ⟨n, q⟩ := hq
    have := lR_h q
    omega
  exact ⟨bk_w (B' := r) h h0 h1 (by omega) hk hk2 hc (fun c ⟨n, q⟩ => by have := (lR_h q).1; omega) SQ, Or.inr ⟨by omega, hr2, r0, hn, ho, SQ _ hq⟩⟩
theorem bk_non {xg xl : Int} (h : bkC so on tw th nx wt mr x hi klo km A B) (e : bkE so nx x hi B en) (hc : CV so on tw th nx wt mr hi hi2 km khi (fun c => 0 ≤ xl ∧ sgQ nx hi hi2 xg c)) (hl : xl < 0) (h0 : 0 ≤ x) (h1 : x + 1 ≤ hi) (h2 : hi ≤ hi2) (hk : klo ≤ km) (hk2 : km ≤ khi) : bkC so on tw th nx wt mr x hi2 klo khi A B ∧ bkE so nx x hi2 B en :=
  ⟨bk_w (B' := B) h h0 h1 h2 hk hk2 hc (fun c q => Or.inr q) (fun c q => by omega), e.imp id (fun ⟨z1, z2, z3, z4, z5, n, z6⟩ => ⟨z1, by omega, z3, z4, z5, n, lR_u h0 h2 (fun _ _ _ => Or.inl rfl) n _ _ z6⟩)⟩
theorem bk_sw (h : bkC so on tw th nx wt mr x hi klo khi A B) (hA : A < 0) (h0 : 0 ≤ x) {A' B' : Int} (hB : B = A') : bkC so on tw th nx wt mr x hi klo khi A' B' := by
  subst hB
  exact CV_q h (fun c _ q => q.elim (fun ⟨n, z⟩ => by have := (lR_h z).1; omega) (fun z => Or.inl z))
theorem sgq_1 {r : Int} (h : CV so on tw th nx wt mr hi hi2 km khi (fun c => c = r)) (hr : hi ≤ r) (hr2 : r < hi2) : CV so on tw th nx wt mr hi hi2 km khi (sgQ nx hi hi2 r) := CV_q h (fun c _ q => ⟨0, q, by omega, hr2⟩)
theorem sgq_0 {r : Int} (hr : hi ≤ r) (hr2 : r < hi2) : sgQ nx hi hi2 r r := ⟨0, rfl, by omega, hr2⟩
end
section
variable {so st on tw th fo nx wh wt li mr : nA} {kd ky pl : Int → Int} {L w i o q pos : Int} {lm : gM} {F : gS} {D : Int → Int → Int → gS} {K : Int × Int × Int × gB → gS} {k : Nat} {b : gB}
theorem Y_bln (h : ¬ kd i = 1) : gBlk kd ky L lm w i o q = none := by
  unfold gBlk
  rw [tk_x h]
  rfl
def kBl (kd ky : Int → Int) (lm : gM) (o : Int) : Int × Int × Int × gB → gS := fun p => (gSts kd ky o (lm 0 0 o) p.1 p.2.1 p.2.2.1 p.2.2.2).bind fun r => (tkn kd 2 r.1).bind fun j => some (j, r.2.1, r.2.2.1, r.2.2.2)
def kBe (kd : Int → Int) : Int × Int × Int × gB → gS := fun r => (tkn kd 2 r.1).bind fun j => some (j, r.2.1, r.2.2.1, r.2.2.2)
theorem Y_bl (h : kd i = 1) (ho : o < L) : gBlk kd ky L lm w i o q = (gDcs kd (fun i o' q => lm 1 w o i o' q) 3002 (i + 1) (o + 1) q (bOp (vOpB w) w)).bind (kBl kd ky lm o) := by
  unfold gBlk
  rw [tk_y h]
  exact if_pos ho
theorem gLb_n (P : Int → Int → Int → gS) (hP : ∀ i o q, P i o q = none) {x : Int × Int × gB} : sSt kd ky w P x i = none := by
  unfold sSt gSt1
  cases gLbs kd ky w 3002 i b0 with
  | none => rfl
  | some p =>
    show ((P p.1 x.1 x.2.1).bind _).bind _ = none
    rw [hP]
    rfl
theorem Y_blz (hl : lm = fun _ _ _ _ _ _ => none) : gBlk kd ky L lm w i o q = none := by
  by_cases h : kd i = 1
  · by_cases ho : o < L
    · rw [Y_bl h ho, hl]
      have e : ∀ p, kBl kd ky (fun _ _ _ _ _ _ => none) o p = none := fun p => by
        unfold kBl gSts
        rw [gLq_n (gLb_n _ (fun _ _ _ => rfl))]
        rfl
      cases gDcs kd (fun i o' q => none) 3002 (i + 1) (o + 1) q (bOp (vOpB w) w) with
      | none => rfl
      | some p => exact e p
    · unfold gBlk
      rw [tk_y h]
      exact if_neg ho
  · exact Y_bln h
theorem da_s {a : Int × Int × Int × gB} {k' : Nat} (hk : k = k' + 1) (hF : F = (gDcs kd D k pos o q b).bind K) (hd : isDc (kd pos) = true) (hD : D pos o q = some a) (h9 : kd a.1 = 39) : F = (gDcs kd D k' (a.1 + 1) a.2.1 a.2.2.1 (bSq b a.2.2.2)).bind K := by
  subst hk
  rw [hF]
  show (if isDc (kd pos) = true then _ else _ : gS).bind K = _
  rw [if_pos hd, hD]
  show ((tkn kd 39 a.1).bind _).bind K = _
  rw [tk_y h9]
  rfl
theorem da_t {a : Int × Int × Int × gB} (hF : F = (gDcs kd D k pos o q b).bind K) (hd : isDc (kd pos) = true) (hD : D pos o q = some a) (h9 : ¬ kd a.1 = 39) : F = none := by
  rw [hF]
  cases k with
  | zero => rfl
  | succ k =>
    show (if isDc (kd pos) = true then _ else _ : gS).bind K = _
    rw [if_pos hd, hD]
    show ((tkn kd 39 a.1).bind _).bind K = _
    rw [tk_x h9]
    rfl
theorem da_n (hF : F = (gDcs kd D k pos o q b).bind K) (hd : isDc (kd pos) = true) (hD : D pos o q = none) : F = none := by
  rw [hF]
  cases k with
  | zero => rfl
  | succ k =>
    show (if isDc (kd pos) = true then _ else _ : gS).bind K = _
    rw [if_pos hd, hD]
    rfl
theorem da_x (hk : 1 ≤ k) (hF : F = (gDcs kd D k pos o q b).bind K) (hd : ¬ isDc (kd pos) = true) : F = K (pos, o, q, b) := by
  obtain ⟨k', rfl⟩ : ∃ k' : Nat, k = k' + 1 := ⟨k - 1, by omega⟩
  rw [hF]
  show (if isDc (kd pos) = true then _ else _ : gS).bind K = _
  rw [if_neg hd]
  rfl
theorem dc_y (h : kd pos = 3 ∨ kd pos = 4 ∨ kd pos = 6 ∨ kd pos = 8 ∨ kd pos = 9) : isDc (kd pos) = true := decide_eq_true (by omega)
theorem dc_no (h3 : ¬ (kd pos = 3 ∨ kd pos = 4)) (h6 : ¬ kd pos = 6) (h8 : ¬ kd pos = 8) (h9 : ¬ kd pos = 9) : ¬ isDc (kd pos) = true := fun z => by
  have := of_decide_eq_true z
  omega
def daI (F : gS) (kd : Int → Int) (D : Int → Int → Int → gS) (K : Int × Int × Int × gB → gS) (i pos o q : Int) (P : gV → Prop) (pl : Int → Int) (x0 : gW) (xw : Int) (so st on tw th fo nx wh wt li mr : nA) (ky : Int → Int) (x hi klo khi sg la : Int) (U : gB → Prop) : Prop := ∃ (k : Nat) (b : gB), 3002 ≤ (k : Int) + (pos - i) ∧ F = (gDcs kd D k pos o q b).bind K ∧ RQ P (gRun pl b.2.1 x0) xw ∧ FLX so st on tw th fo nx wh wt li kd ky (x + 1) hi klo khi b.2.2.2 ∧ bkC so on tw th nx wt mr x hi klo khi (-1) sg ∧ bkE so nx x hi sg la ∧ U b
theorem da_0 {P : gV → Prop} {x0 : gW} {xw x hi klo khi sg la : Int} (hF : F = (gDcs kd D 3002 pos o q b).bind K) (hR : RQ P (gRun pl b.2.1 x0) xw) (hb : ∀ e, ¬ b.2.2.2 e = none) (hh : hi = x + 1) (hk : khi = klo) (hs : sg < 0) (hl : la < 0) {U : gB → Prop} (hU : U b) : daI F kd D K pos pos o q P pl x0 xw so st on tw th fo nx wh wt li mr ky x hi klo khi sg la U :=
  ⟨3002, b, by omega, hF, hR, FLX_0 (fun r a b => by omega) (fun k a b => by omega) (fun e _ => hb e), bkc_0 hh, Or.inl ⟨hl, hs⟩, hU⟩
theorem rq_a {P : gV → Prop} {x0 : gW} {xw : Int} {a : gB} (h : RQ P (gRun pl a.2.1 (gRun pl b.2.1 x0)) xw) : RQ P (gRun pl (bSq b a).2.1 x0) xw := by
  show RQ P (gRun pl (b.2.1 ++ a.2.1) x0) xw
  rw [gRun_a]
  exact h
theorem da_i {a : Int × Int × Int × gB} {P : gV → Prop} {x0 : gW} {xw x hi klo khi sg la pos2 o2 q2 : Int} (hk : 3002 ≤ (k : Int) + (pos - i)) (hle : pos - i ≤ 3000) (hF : F = (gDcs kd D k pos o q b).bind K) (hd : isDc (kd pos) = true) (hD : D pos o q = some a) (h9 : kd a.1 = 39) (hp : pos2 = a.1 + 1) (hlt : pos ≤ a.1) (ho : o2 = a.2.1) (hq : q2 = a.2.2.1) (hR : RQ P (gRun pl a.2.2.2.2.1 (gRun pl b.2.1 x0)) xw) (hx : FLX so st on tw th fo nx wh wt li kd ky (x + 1) hi klo khi (bSq b a.2.2.2).2.2.2) (hC : bkC so on tw th nx wt mr x hi klo khi (-1) sg) (hE : bkE so nx x hi sg la) {U : gB → Prop} (hU : U (bSq b a.2.2.2)) : daI F kd D K i pos2 o2 q2 P pl x0 xw so st on tw th fo nx wh wt li mr ky x hi klo khi sg la U := by
  obtain ⟨k', rfl⟩ : ∃ k' : Nat, k = k' + 1 := ⟨k - 1, by omega⟩
  exact ⟨k', bSq b a.2.2.2, by omega, by rw [hp, ho, hq]; exact da_s rfl hF hd hD h9, rq_a hR, hx, hC, hE, hU⟩
def stI (F : gS) (kd ky : Int → Int) (w : Int) (S : Int → Int → Int → gS) (i pos m o q : Int) (P : gV → Prop) (pl : Int → Int) (x0 : gW) (xw : Int) (so st on tw th fo nx wh wt li mr : nA) (x hi klo khi sg hd en : Int) (U : gB → Prop) : Prop := ∃ (k : Nat) (b : gB), 3002 ≤ (k : Int) + (pos - i) + (1 - m) ∧ ((m = 1 ∧ F = (gLp kd 39 (sSt kd ky w S) k pos (o, q, b)).bind (kBe kd)) ∨ (m = 0 ∧ F = kBe kd (pos, o, q, b))) ∧ RQ P (gRun pl b.2.1 x0) xw ∧ FLX so st on tw th fo nx wh wt li kd ky (x + 1) hi klo khi b.2.2.2 ∧ bkC so on tw th nx wt mr x hi klo khi sg hd ∧ bkE so nx x hi hd en ∧ U b
theorem si_0 {P : gV → Prop} {x0 : gW} {xw x hi klo khi sg hd en : Int} (hF : F = kBl kd ky lm w (pos, o, q, b)) (hR : RQ P (gRun pl b.2.1 x0) xw) (hx : FLX so st on tw th fo nx wh wt li kd ky (x + 1) hi klo khi b.2.2.2) (hC : bkC so on tw th nx wt mr x hi klo khi (-1) sg) (h0 : 0 ≤ x) (he : en < 0) (hh : hd < 0) {U : gB → Prop} (hU : U b) : stI F kd ky w (lm 0 0 w) pos pos 1 o q P pl x0 xw so st on tw th fo nx wh wt li mr x hi klo khi sg hd en U :=
  ⟨3002, b, by omega, Or.inl ⟨rfl, hF⟩, hR, hx, bk_sw hC (by omega) h0 rfl, Or.inl ⟨he, hh⟩, hU⟩
def lbI (kd ky : Int → Int) (w i pos : Int) (P : gV → Prop) (pl : Int → Int) (x1 : gW) (xw : Int) (bb : gB) (so st on tw th fo nx wh wt li mr : nA) (x hi klo khi sg hd en : Int) : Prop := ∃ (k : Nat) (b : gB), 3002 ≤ (k : Int) + (pos - i) ∧ gLbs kd ky w 3002 i b0 = gLbs kd ky w k pos b ∧ RQ P (gRun pl b.2.1 x1) xw ∧ (∀ e, ¬ b.2.2.2 e = none) ∧ FLX so st on tw th fo nx wh wt li kd ky (x + 1) hi klo khi bb.2.2.2 ∧ bkC so on tw th nx wt mr x hi klo khi sg hd ∧ bkE so nx x hi hd en ∧ b.1 = []
theorem lbi_0 {P : gV → Prop} {x1 : gW} {xw x hi klo khi sg hd en : Int} {bb : gB} (hR : RQ P x1 xw) (hx : FLX so st on tw th fo nx wh wt li kd ky (x + 1) hi klo khi bb.2.2.2) (hC : bkC so on tw th nx wt mr x hi klo khi sg hd) (hE : bkE so nx x hi hd en) : lbI kd ky w pos pos P pl x1 xw bb so st on tw th fo nx wh wt li mr x hi klo khi sg hd en :=
  ⟨3002, b0, by omega, rfl, hR, (fun e z => by cases z), hx, hC, hE, rfl⟩
theorem lbi_s {P : gV → Prop} {x1 : gW} {xw x hi klo khi sg hd en pos2 : Int} {bb : gB} (hk : 3002 ≤ (k : Int) + (pos - i)) (hle : pos - i ≤ 3000) (hG : gLbs kd ky w 3002 i b0 = gLbs kd ky w k pos b) (h27 : kd pos = 27) (h40 : kd (pos + 1) = 40) (hp : pos2 = pos + 1 + 1) (hR : RQ P (gRn1 pl (gRun pl b.2.1 x1) (vD ky pos 5 0 w)) xw) (hb : ∀ e, ¬ b.2.2.2 e = none) (hx : FLX so st on tw th fo nx wh wt li kd ky (x + 1) hi klo khi bb.2.2.2) (hC : bkC so on tw th nx wt mr x hi klo khi sg hd) (hE : bkE so nx x hi hd en) (hb1 : b.1 = []) : lbI kd ky w i pos2 P pl x1 xw bb so st on tw th fo nx wh wt li mr x hi klo khi sg hd en := by
  obtain ⟨k', rfl⟩ : ∃ k' : Nat, k = k' + 1 := ⟨k - 1, by omega⟩
  refine ⟨k', bSq b (bEv (vD ky pos 5 0 w)), by omega, ?_, ?_, fun e => bSq_n.mpr ⟨hb e, fun z => by cases z⟩, hx, hC, hE, (by show b.1 ++ [] = []; rw [hb1]; rfl)⟩
  · rw [hG, hp]
    show (if kd pos = 27 ∧ kd (pos + 1) = 40 then _ else _ : Option (Int × gB)) = _
    rw [if_pos ⟨h27, h40⟩, tk_y h27]
    show (tkn kd 40 (pos + 1)).bind _ = _
    rw [tk_y h40]
    rfl
  · show RQ P (gRun pl (b.2.1 ++ [_]) x1) xw
    rw [gRun_1]
    exact hR
theorem lbi_x (hk : 1 ≤ k) (hG : gLbs kd ky w 3002 i b0 = gLbs kd ky w k pos b) (hn : ¬ (kd pos = 27 ∧ kd (pos + 1) = 40)) : gLbs kd ky w 3002 i b0 = some (pos, b) := by
  obtain ⟨k', rfl⟩ : ∃ k' : Nat, k = k' + 1 := ⟨k - 1, by omega⟩
  rw [hG]
  exact if_neg hn
theorem sst_y {S : Int → Int → Int → gS} {bl : gB} {a : Int × Int × Int × gB} {pos1 : Int} (h : gLbs kd ky w 3002 pos b0 = some (pos1, bl)) (hS : S pos1 o q = some a) : sSt kd ky w S (o, q, b) pos = some (a.1, a.2.1, a.2.2.1, bSq b (bSq bl a.2.2.2)) := by
  unfold sSt gSt1
  rw [h]
  show ((S pos1 o q).bind _).bind _ = _
  rw [hS]
  rfl
theorem sst_n {S : Int → Int → Int → gS} {bl : gB} {pos1 : Int} (h : gLbs kd ky w 3002 pos b0 = some (pos1, bl)) (hS : S pos1 o q = none) : sSt kd ky w S (o, q, b) pos = none := by
  unfold sSt gSt1
  rw [h]
  show ((S pos1 o q).bind _).bind _ = _
  rw [hS]
  rfl
theorem si_n {S : Int → Int → Int → gS} {bl : gB} {pos1 : Int} (hF : F = (gLp kd 39 (sSt kd ky w S) k pos (o, q, b)).bind (kBe kd)) (h : gLbs kd ky w 3002 pos b0 = some (pos1, bl)) (hS : S pos1 o q = none) : F = none := by
  rw [hF, gLq_n (sst_n h hS)]
  rfl
theorem si_s {S : Int → Int → Int → gS} {bl : gB} {a : Int × Int × Int × gB} {pos1 pos2 m2 o2 q2 : Int} {P : gV → Prop} {x0 : gW} {xw x hi klo khi sg hd en : Int} (hk : 3002 ≤ (k : Int) + (pos - i)) (hle : pos - i ≤ 3000) (hF : F = (gLp kd 39 (sSt kd ky w S) k pos (o, q, b)).bind (kBe kd)) (h : gLbs kd ky w 3002 pos b0 = some (pos1, bl)) (hS : S pos1 o q = some a) (hlt : pos ≤ a.1) (ho : o2 = a.2.1) (hq : q2 = a.2.2.1) (hm : (kd a.1 = 39 ∧ m2 = 1 ∧ pos2 = a.1 + 1) ∨ (¬ kd a.1 = 39 ∧ m2 = 0 ∧ pos2 = a.1)) (hR : RQ P (gRun pl a.2.2.2.2.1 (gRun pl bl.2.1 (gRun pl b.2.1 x0))) xw) (hx : FLX so st on tw th fo nx wh wt li kd ky (x + 1) hi klo khi (bSq b (bSq bl a.2.2.2)).2.2.2) (hC : bkC so on tw th nx wt mr x hi klo khi sg hd) (hE : bkE so nx x hi hd en) {U : gB → Prop} (hU : U (bSq b (bSq bl a.2.2.2))) : stI F kd ky w S i pos2 m2 o2 q2 P pl x0 xw so st on tw th fo nx wh wt li mr x hi klo khi sg hd en U := by
  obtain ⟨k', rfl⟩ : ∃ k' : Nat, k = k' + 1 := ⟨k - 1, by omega⟩
  have e := hF
  rw [gLq_s (sst_y h hS)] at e
  have r : RQ P (gRun pl (bSq b (bSq bl a.2.2.2)).2.1 x0) xw := by
    show RQ P (gRun pl (b.2.1 ++ (bl.2.1 ++ a.2.2.2.2.1)) x0) xw
    rw [gRun_a, gRun_a]
    exact hR
  subst ho hq
  rcases hm with ⟨m1, m2, m3⟩ | ⟨m1, m2, m3⟩
  · rw [if_pos m1] at e
    exact ⟨k', _, by omega, Or.inl ⟨m2, by rw [m3]; exact e⟩, r, hx, hC, hE, hU⟩
  · rw [if_neg m1] at e
    exact ⟨k', _, by omega, Or.inr ⟨m2, by rw [m3]; exact e⟩, r, hx, hC, hE, hU⟩
theorem bk_fx {bl : gB} {a : gB} {x hi hi2 klo km khi : Int} (h : FLX so st on tw th fo nx wh wt li kd ky (x + 1) hi klo km b.2.2.2) (g : FLX so st on tw th fo nx wh wt li kd ky hi hi2 km khi a.2.2.2) (h1 : x + 1 ≤ hi) (h2 : hi ≤ hi2) (h3 : klo ≤ km) (h4 : km ≤ khi) (hb : ∀ e, ¬ bl.2.2.2 e = none) : FLX so st on tw th fo nx wh wt li kd ky (x + 1) hi2 klo khi (bSq b (bSq bl a)).2.2.2 :=
  FLX_2 (b1 := b.2.2.2) (b2 := a.2.2.2) h g h1 h2 h3 h4 (fun e _ => by rw [bSq_n, bSq_n]; exact ⟨fun z => ⟨z.1, z.2.2⟩, fun z => ⟨z.1, hb e, z.2⟩⟩)
theorem st_bl {P : gV → Prop} {x0 : gW} {xa xs ow xw x hi klo khi sg hd : Int} (hF : F = kBe kd (pos, o, q, b)) (h2 : kd pos = 2) (h1 : xa = pos + 1) (hs : xs = o) (ho : ow = q) (hR : RQ P (gRun pl b.2.1 x0) xw) (hx : FLX so st on tw th fo nx wh wt li kd ky (x + 1) hi klo khi b.2.2.2) (hC : bkC so on tw th nx wt mr x hi klo khi sg hd) (hso : rd so x = 21) (hth : rd th x = sg) (htw : rd tw x = hd) (h0 : 0 ≤ x) (hh : x + 1 ≤ hi) (hk : klo ≤ khi) : stR F xa xs ow P pl x0 xw so st on tw th fo nx wh wt li mr kd ky x hi klo khi x := by
  refine ⟨(pos + 1, o, q, b), ?_, h1, hs, ho, hR, ?_, ?_⟩
  · rw [hF]
    unfold kBe
    show (tkn kd 2 pos).bind _ = _
    rw [tk_y h2]
    rfl
  · exact FLX_2 (b1 := fun _ => some 0) (b2 := b.2.2.2) (mid := x + 1) (kmid := klo) (FLX_0 (fun r a b => by rw [show r = x from by omega, hso]; unfold stN; omega) (fun k a b => by omega) (fun e _ z => by cases z)) hx (by omega) hh (Int.le_refl _) hk (fun e _ => ⟨fun z => ⟨(fun y => by cases y), z⟩, fun z => z.2⟩)
  · refine CV_n hC (fun c c0 c1 cq => ⟨c0, c1, Or.inr (Or.inr ⟨hso, ?_⟩)⟩) (fun c z => ?_)
    · rw [hth, htw]
      exact cq
    · rcases z with ⟨n, z⟩ | ⟨n, z⟩
      · exact (lR_h z).2.2
      · exact (lR_h z).2.2
theorem be_y (hF : F = kBe kd (pos, o, q, b)) (h2 : kd pos = 2) : F = some (pos + 1, o, q, b) := by
  rw [hF]
  unfold kBe
  show (tkn kd 2 pos).bind _ = _
  rw [tk_y h2]
  rfl
theorem be_n (hF : F = kBe kd (pos, o, q, b)) (h2 : ¬ kd pos = 2) : F = none := by
  rw [hF]
  unfold kBe
  show (tkn kd 2 pos).bind _ = _
  rw [tk_x h2]
  rfl
theorem da_fx {a : gB} {x hi hi2 klo km khi : Int} (h : FLX so st on tw th fo nx wh wt li kd ky (x + 1) hi klo km b.2.2.2) (g : FLX so st on tw th fo nx wh wt li kd ky hi hi2 km khi a.2.2.2) (h1 : x + 1 ≤ hi) (h2 : hi ≤ hi2) (h3 : klo ≤ km) (h4 : km ≤ khi) : FLX so st on tw th fo nx wh wt li kd ky (x + 1) hi2 klo khi (bSq b a).2.2.2 := FLX_2 (b1 := b.2.2.2) (b2 := a.2.2.2) h g h1 h2 h3 h4 (fun e _ => bSq_n)
theorem FLX_m {x hi hi2 klo km khi : Int} {bb : gB} (h : FLX so st on tw th fo nx wh wt li kd ky (x + 1) hi klo km bb.2.2.2) (h1 : x + 1 ≤ hi) (h2 : hi2 = hi + 1) (hm : rd so hi = 28) (hk : klo ≤ km) (hk2 : km ≤ khi) (hw : ∀ k : Int, km ≤ k → k < khi → ¬ rd wt k = 3) : FLX so st on tw th fo nx wh wt li kd ky (x + 1) hi2 klo khi bb.2.2.2 :=
  FLX_2 (b1 := bb.2.2.2) (b2 := fun _ => some 0) (mid := hi) (kmid := km) h (FLX_0 (fun r a b => by rw [show r = hi from by omega, hm]; unfold stN; omega) hw (fun e _ z => by cases z)) h1 (by omega) hk hk2 (fun e _ => ⟨fun z => ⟨z, fun y => by cases y⟩, fun z => z.1⟩)
theorem CV_m {hi hi2 km khi : Int} {Q : Int → Prop} (h2 : hi2 = hi + 1) (hm : rd so hi = 28) : CV so on tw th nx wt mr hi hi2 km khi Q := CV_0 (fun r a b => by rw [show r = hi from by omega, hm]; unfold stN; omega)
theorem nh_b {sl sl' : nA} {ar ins : nA} {xs xk xp : Int} (h : okQ ar ins sl xs xk xp) (g : agv xk sl sl') : xp < 0 ∨ ¬ rd sl' xp = xs := by
  rcases h with h | h
  · exact Or.inl (by omega)
  · right
    rw [g xp (by have := h.1; omega) (by have := h.2.1; omega)]
    have := h.2.2.2.1
    omega
end
