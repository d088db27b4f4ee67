def ag2 (n : Int) (st wh st' wh' : nA) : Prop := ∀ c : Int, 0 ≤ c → c < n → rd st' c = rd st c ∧ rd wh' c = rd wh c
def xS (so st wh : nA) (e : Int) (b : Bool) (i w : Int) : Prop := (rd so e = 3 ↔ b = true) ∧ (b = true → rd st e = i ∧ rd wh e = w + 1)
def eX (so st on tw th nx wh : nA) (kd ky : Int → Int) (p q e : Int) (d : gD) (i w : Int) : Prop := TX so st on tw th nx wh kd ky p q e d.2.2 ∧ xS so st wh e d.2.1 i w
def eR (F : gR) (xa : Int) (so st on tw th nx wh : nA) (kd ky : Int → Int) (p q e i w : Int) : Prop := ∃ a, F = some a ∧ xa = a.1 ∧ eX so st on tw th nx wh kd ky p q e a.2 i w
def sR (F : gR) (xa : Int) (so st on tw th nx wh : nA) (kd ky : Int → Int) (p q l : Int) : Prop := ∃ a, F = some a ∧ xa = a.1 ∧ TS so st on tw th nx wh kd ky p q l a.2.2.2
def acR (F : Option (Int × List (Int × Int) × List gA)) (xa : Int) (so st on tw th nx wh : nA) (kd ky : Int → Int) (w p q h : Int) : Prop := ∃ a, F = some a ∧ xa = a.1 ∧ TA so st on tw th nx wh kd ky w p q a.2.2 h
section
variable {so st on tw th fo nx wh so' st' on' tw' th' fo' nx' wh' : nA} {rk rk' : Int → Int} {kd ky : Int → Int} {p q p' q' e i w n x : Int} {d : gD} {c : gV → Option Int}
theorem ag2_0 : ag2 n st wh st wh := fun _ _ _ => ⟨rfl, rfl⟩
theorem ag2_t {st2 wh2 : nA} {m : Int} (h : ag2 n st wh st' wh') (g : ag2 m st' wh' st2 wh2) (hm : n ≤ m) : ag2 n st wh st2 wh2 := fun c a1 a2 => ⟨(g c a1 (by omega)).1.trans (h c a1 a2).1, (g c a1 (by omega)).2.trans (h c a1 a2).2⟩
theorem ag2_u {i v1 v2 : Int32} (h : 0 ≤ i.toInt) (hn : n ≤ i.toInt) : ag2 n st wh (upd st i.toNatClampNeg v1) (upd wh i.toNatClampNeg v2) := fun c a1 a2 => ⟨rd_n h a1 (by omega), rd_n h a1 (by omega)⟩
theorem aq_c (h : ag n x so on tw th fo nx rk so' on' tw' th' fo' nx' rk') (g : ag2 n st wh st' wh') (hq : q ≤ n) (hx : x < p ∨ q ≤ x) : aq p q so st on tw th nx wh so' st' on' tw' th' nx' wh' := fun c a1 a2 a3 => by
  obtain ⟨e1, e2, e3, e4, -, e6, -⟩ := h c a3 (by omega) (by omega)
  obtain ⟨y1, y2⟩ := g c a3 (by omega)
  exact ⟨e1, y1, e2, e3, e4, e6, y2⟩
theorem TX_u {d : gV → Option Int} (h : TX so st on tw th nx wh kd ky p q e d) (g : aq p q so st on tw th nx wh so' st' on' tw' th' nx' wh') : TX so' st' on' tw' th' nx' wh' kd ky p q e d := TX_m h g h.1 (Int.le_refl _) (Int.le_refl _)
theorem eX_u (h : eX so st on tw th nx wh kd ky p q e d i w) (g : aq p q so st on tw th nx wh so' st' on' tw' th' nx' wh') : eX so' st' on' tw' th' nx' wh' kd ky p q e d i w := by
  obtain ⟨r1, r2, r3⟩ := TX_r h.1
  obtain ⟨e1, e2, -, -, -, -, e7⟩ := g e r1 r2 r3
  refine ⟨TX_u h.1 g, ?_, ?_⟩
  · rw [e1]; exact h.2.1
  · rw [e2, e7]; exact h.2.2
theorem eX_w (h : eX so st on tw th nx wh kd ky p q e d i w) (h0 : 0 ≤ p') (hp : p' ≤ p) (hq : q ≤ q') : eX so st on tw th nx wh kd ky p' q' e d i w := ⟨TX_m h.1 aq_0 h0 hp hq, h.2⟩
theorem TX_w {d : gV → Option Int} (h : TX so st on tw th nx wh kd ky p q e d) (h0 : 0 ≤ p') (hp : p' ≤ p) (hq : q ≤ q') : TX so st on tw th nx wh kd ky p' q' e d := TX_m h aq_0 h0 hp hq
theorem TA_u {as : List gA} (h : TA so st on tw th nx wh kd ky w p q as e) (g : aq p q so st on tw th nx wh so' st' on' tw' th' nx' wh') : TA so' st' on' tw' th' nx' wh' kd ky w p q as e := TA_m h g h.1 (Int.le_refl _) (Int.le_refl _)
theorem xS_f (h : ¬ rd so e = 3) : xS so st wh e false i w := ⟨⟨fun z => absurd z h, fun z => by cases z⟩, fun z => by cases z⟩
theorem xS_t (h : rd so e = 3) (h1 : rd st e = i) (h2 : rd wh e = w + 1) : xS so st wh e true i w := ⟨⟨fun _ => rfl, fun _ => h⟩, fun _ => ⟨h1, h2⟩⟩
end
section
variable {kd ky : Int → Int} {lo lo' : gL} {w i k : Int} {α β : Type} {F : Option α} {K : α → Option β} {a : α}
theorem bs (h : F = some a) : F.bind K = K a := by
  rw [h]
  rfl
theorem bn (h : F = none) : F.bind K = none := by
  rw [h]
  rfl
theorem tk_y (h : kd i = k) : tkn kd k i = some (i + 1) := if_pos h
theorem tk_x (h : ¬ kd i = k) : tkn kd k i = none := if_neg h
theorem lv_s {d d1 : Int} (h : d < 20) (e : d1 = d + 1) : gLev kd ky (20 - d).toNat = gBun kd ky (gLev kd ky (20 - d1).toNat) := by
  rw [show (20 - d).toNat = (20 - d1).toNat + 1 from by omega]
  rfl
theorem lv_z {d : Int} (h : ¬ d < 20) : gLev kd ky (20 - d).toNat = fun _ _ _ => none := by
  rw [show (20 - d).toNat = 0 from by omega]
  rfl
def gBr2 (kd : Int → Int) (lo : gL) (w i co cc : Int) : gR := (tkn kd co i).bind fun i => (lo 0 w i).bind fun p => (tkn kd cc p.1).bind fun j => some (j, p.2)
theorem X_e0 (h : ¬ kd i = 11) : gExp kd ky lo w i = gEit kd ky lo w i := if_neg h
theorem X_eD (h : kd i = 11) (hl : lo = fun _ _ _ => none) : gExp kd ky lo w i = none := by
  unfold gExp gCnd
  rw [if_pos h, tk_y h, hl]
  rfl
theorem X_e (h : kd i = 11) (hl : lo = gBun kd ky lo') : gExp kd ky lo w i = (gExp kd ky lo' w (i + 1)).bind fun p => (tkn kd 12 p.1).bind fun i => (gEit kd ky lo' w i).bind fun q => (tkn kd 13 q.1).bind fun i => (gExp kd ky lo' w i).bind fun r => some (r.1, gIf p.2 q.2 r.2) := by
  unfold gExp gCnd
  rw [if_pos h, tk_y h, hl]
  rfl
theorem X_bD {co cc : Int} (h : kd i = co) (hl : lo = fun _ _ _ => none) : gBr2 kd lo w i co cc = none := by
  unfold gBr2
  rw [tk_y h, hl]
  rfl
theorem X_bN {co cc : Int} (h : ¬ kd i = co) : gBr2 kd lo w i co cc = none := by
  unfold gBr2
  rw [tk_x h]
  rfl
theorem X_b {co cc : Int} (h : kd i = co) (hl : lo = gBun kd ky lo') : gBr2 kd lo w i co cc = (gExp kd ky lo' w (i + 1)).bind fun p => (tkn kd cc p.1).bind fun j => some (j, p.2) := by
  unfold gBr2
  rw [tk_y h, hl]
  rfl
theorem X_d0 (h : ¬ kd i = 22) : gDen kd ky lo w i = gRel kd ky lo w i := if_neg h
theorem X_dD (h : kd i = 22) (hl : lo = fun _ _ _ => none) : gDen kd ky lo w i = none := by
  unfold gDen
  rw [if_pos h, tk_y h, hl]
  rfl
theorem X_d (h : kd i = 22) (hl : lo = gBun kd ky lo') : gDen kd ky lo w i = (gDen kd ky lo' w (i + 1)).bind fun p => some (p.1, gCs 2 2 p.2) := by
  unfold gDen
  rw [if_pos h, tk_y h, hl]
  rfl
theorem X_sD (h : kd i = 36) (hl : lo = fun _ _ _ => none) : gSub kd lo w i = none := by
  unfold gSub
  rw [tk_y h, hl]
  rfl
theorem X_s (h : kd i = 36) (hl : lo = gBun kd ky lo') : gSub kd lo w i = (gExp kd ky lo' w (i + 1)).bind fun p => if kd p.1 = 38 then (gExp kd ky lo' w (p.1 + 1)).bind fun q => (tkn kd 37 q.1).bind fun j => some (j, (p.2.1 ++ q.2.1, false, dS2 p.2.2.2 q.2.2.2)) else (tkn kd 37 p.1).bind fun j => some (j, (p.2.1, false, dS1 p.2.2.2)) := by
  unfold gSub
  rw [tk_y h, hl]
  rfl
theorem X_a1 (h : kd i = 28) : gAtm kd ky lo w i = some (i + 1, gCt 1) := if_pos h
theorem X_a2 (h : kd i = 20 ∨ kd i = 21) : gAtm kd ky lo w i = some (i + 1, gCt 2) := (if_neg (by omega)).trans (if_pos h)
theorem X_a3 (h : kd i = 34) : gAtm kd ky lo w i = (gBr2 kd lo w i 34 35).bind fun p => some (p.1, gPa p.2) := (if_neg (by omega)).trans ((if_neg (by omega)).trans (if_pos h))
theorem X_a4 (h : kd i = 27) : gAtm kd ky lo w i = gNam kd ky lo w i := (if_neg (by omega)).trans ((if_neg (by omega)).trans ((if_neg (by omega)).trans (if_pos h)))
theorem X_a5 (h1 : ¬ kd i = 28) (h2 : ¬ (kd i = 20 ∨ kd i = 21)) (h3 : ¬ kd i = 34) (h4 : ¬ kd i = 27) : gAtm kd ky lo w i = none := (if_neg h1).trans ((if_neg h2).trans ((if_neg h3).trans (if_neg h4)))
theorem X_n36 (h : kd i = 27) (h2 : kd (i + 1) = 36) : gAtm kd ky lo w i = (gSub kd lo w (i + 1)).bind fun q => some (q.1, ((i, w) :: q.2.1, false, dEl w (ky i) q.2.2.2)) := by
  rw [X_a4 h]
  unfold gNam
  rw [tk_y h]
  exact if_pos h2
theorem X_n34 (h : kd i = 27) (h2 : kd (i + 1) = 34) : gAtm kd ky lo w i = (gAcs kd ky lo w (i + 1)).bind fun q => some (q.1, ((i, w) :: q.2.1, false, dCa w (ky i) q.2.2)) := by
  rw [X_a4 h]
  unfold gNam
  rw [tk_y h]
  exact (if_neg (by omega)).trans (if_pos h2)
theorem X_n0 (h : kd i = 27) (h2 : ¬ kd (i + 1) = 36) (h3 : ¬ kd (i + 1) = 34) : gAtm kd ky lo w i = some (i + 1, ([(i, w)], true, dVa w (ky i))) := by
  rw [X_a4 h]
  unfold gNam
  rw [tk_y h]
  exact (if_neg h2).trans (if_neg h3)
theorem X_r {a : Int × gD} (h : gSum kd ky lo w i = some a) : gRel kd ky lo w i = if 41 ≤ kd a.1 ∧ kd a.1 ≤ 46 then (gSum kd ky lo w (a.1 + 1)).bind fun q => some (q.1, gBo 1 2 a.2 q.2) else some (a.1, a.2) := by
  unfold gRel
  rw [h]
  rfl
theorem X_rn (h : gSum kd ky lo w i = none) : gRel kd ky lo w i = none := by
  unfold gRel
  rw [h]
  rfl
end
def rW (kd : Int → Int) (f : Int → gR) (t : Int → Bool) (ty : Int) (F : gR) (i xa : Int) (so st on tw th nx wh : nA) (kd ky : Int → Int) (p q e w : Int) : Prop := ∃ (k : Nat) (d : gD), 3002 ≤ (k : Int) + (xa - i) ∧ F = gChn kd f t ty k xa d ∧ eX so st on tw th nx wh kd ky p q e d i w
section
variable {kd ky : Int → Int} {f : Int → gR} {t : Int → Bool} {ty : Int} {F : gR} {i xa xa2 p q p' q' e e2 w : Int} {so st on tw th nx wh so' st' on' tw' th' nx' wh' : nA} {d : gD} {k : Nat}
theorem rW_0 {a : Int × gD} (hF : F = (f i).bind fun p => gChn kd f t ty 3002 p.1 p.2) (h : f i = some a) (hx : xa = a.1) (hi : i ≤ xa) (hX : eX so st on tw th nx wh kd ky p q e a.2 i w) : rW kd f t ty F i xa so st on tw th nx wh kd ky p q e w := by
  refine ⟨3002, a.2, by omega, ?_, hX⟩
  rw [hF, h, hx]
  rfl
theorem rW_g {a : Int × gD} {d : gD} (hF : F = (f (i + 1)).bind fun p => gChn kd f t ty 3002 p.1 (gCs 1 1 p.2)) (h : f (i + 1) = some a) (hx : xa = a.1) (hi : i ≤ xa) (hX : eX so st on tw th nx wh kd ky p q e (gCs 1 1 a.2) i w) : rW kd f t ty F i xa so st on tw th nx wh kd ky p q e w := by
  refine ⟨3002, gCs 1 1 a.2, by omega, ?_, hX⟩
  rw [hF, h, hx]
  rfl
theorem rW_x (hk : 3002 ≤ (k : Int) + (xa - i)) (hF : F = gChn kd f t ty k xa d) (hX : eX so st on tw th nx wh kd ky p q e d i w) (hi : xa - i ≤ 3001) (ht : ¬ t (kd xa) = true) : eR F xa so st on tw th nx wh kd ky p q e i w := by
  obtain ⟨j, rfl⟩ : ∃ j : Nat, k = j + 1 := ⟨k - 1, by omega⟩
  refine ⟨(xa, d), ?_, rfl, hX⟩
  rw [hF]
  exact if_neg ht
theorem rW_n (hk : 3002 ≤ (k : Int) + (xa - i)) (hF : F = gChn kd f t ty k xa d) (hi : xa - i ≤ 3001) (ht : t (kd xa) = true) (h : f (xa + 1) = none) : F = none := by
  obtain ⟨j, rfl⟩ : ∃ j : Nat, k = j + 1 := ⟨k - 1, by omega⟩
  rw [hF]
  refine (if_pos ht).trans ?_
  rw [h]
  rfl
theorem rW_s {b : Int × gD} (hk : 3002 ≤ (k : Int) + (xa - i)) (hF : F = gChn kd f t ty k xa d) (hi : xa - i ≤ 3001) (ht : t (kd xa) = true) (h : f (xa + 1) = some b) (hx : xa2 = b.1) (hy : xa + 1 ≤ xa2) (hX : eX so' st' on' tw' th' nx' wh' kd ky p q' e2 (gBo ty ty d b.2) i w) : rW kd f t ty F i xa2 so' st' on' tw' th' nx' wh' kd ky p q' e2 w := by
  obtain ⟨j, rfl⟩ : ∃ j : Nat, k = j + 1 := ⟨k - 1, by omega⟩
  refine ⟨j, gBo ty ty d b.2, by omega, ?_, hX⟩
  rw [hF, hx]
  refine (if_pos ht).trans ?_
  rw [h]
  rfl
theorem tPow_y (h : kd xa = 33) : tPow (kd xa) = true := decide_eq_true h
theorem tPow_n (h : ¬ kd xa = 33) : ¬ tPow (kd xa) = true := fun z => h (of_decide_eq_true z)
theorem tAnd_y (h : kd xa = 23) : tAnd (kd xa) = true := decide_eq_true h
theorem tAnd_n (h : ¬ kd xa = 23) : ¬ tAnd (kd xa) = true := fun z => h (of_decide_eq_true z)
theorem tOr_y (h : kd xa = 24) : tOr (kd xa) = true := decide_eq_true h
theorem tOr_n (h : ¬ kd xa = 24) : ¬ tOr (kd xa) = true := fun z => h (of_decide_eq_true z)
theorem tTrm_y (h : kd xa = 32 ∨ kd xa = 25) : tTrm (kd xa) = true := decide_eq_true h
theorem tTrm_n (h : ¬ (kd xa = 32 ∨ kd xa = 25)) : ¬ tTrm (kd xa) = true := fun z => h (of_decide_eq_true z)
theorem tSum_y (h : kd xa = 30 ∨ kd xa = 31) : tSum (kd xa) = true := decide_eq_true h
theorem tSum_n (h : ¬ (kd xa = 30 ∨ kd xa = 31)) : ¬ tSum (kd xa) = true := fun z => h (of_decide_eq_true z)
end
section
variable {kd ky : Int → Int} {lo : gL} {w i : Int}
theorem X_sm1 (h : kd i = 30 ∨ kd i = 31) : gSum kd ky lo w i = (gTrm kd ky lo w (i + 1)).bind fun p => gChn kd (gTrm kd ky lo w) tSum 1 3002 p.1 (gCs 1 1 p.2) := if_pos (tSum_y h)
theorem X_sm0 (h : ¬ (kd i = 30 ∨ kd i = 31)) : gSum kd ky lo w i = (gTrm kd ky lo w i).bind fun p => gChn kd (gTrm kd ky lo w) tSum 1 3002 p.1 p.2 := if_neg (tSum_n h)
theorem X_rw {f : Int → gR} {t : Int → Bool} {ty : Int} : gRow kd f t ty i = (f i).bind fun p => gChn kd f t ty 3002 p.1 p.2 := rfl
theorem X_rwn {f : Int → gR} {t : Int → Bool} {ty : Int} (h : f i = none) : gRow kd f t ty i = none := by
  unfold gRow
  rw [h]
  rfl
end
def aX1 (so st on tw th nx wh : nA) (kd ky : Int → Int) (w q lo a : Int) (x : gA) : Prop := lo ≤ a ∧ a < q ∧ TX so st on tw th nx wh kd ky lo a (rd on a) x.2.2.2 ∧ (rd so (rd on a) = 3 ↔ x.1 = true) ∧ (x.1 = true → ky (rd st (rd on a)) = x.2.1 ∧ rd wh (rd on a) = w + 1)
def aZ (so st on tw th nx wh : nA) (kd ky : Int → Int) (w q z : Int) : List gA → Int → Int → Prop
  | [], _, _ => False
  | x :: as, lo, a => aX1 so st on tw th nx wh kd ky w q lo a x ∧ ((as = [] ∧ a = z ∧ rd nx a < 0) ∨ (¬ as = [] ∧ a < z ∧ aZ so st on tw th nx wh kd ky w q z as (a + 1) (rd nx a)))
def AZ (so st on tw th nx wh : nA) (kd ky : Int → Int) (w p q h z : Int) (as : List gA) : Prop := (as = [] ∧ z < 0) ∨ (¬ as = [] ∧ 0 ≤ p ∧ p ≤ z ∧ z < q ∧ aZ so st on tw th nx wh kd ky w q z as p h)
section
variable {so st on tw th nx wh so' st' on' tw' th' nx' wh' : nA} {kd ky : Int → Int} {w q q' : Int}
theorem aX1_u {lo a : Int} {x : gA} (h : aX1 so st on tw th nx wh kd ky w q lo a x) (g : aq lo a so st on tw th nx wh so' st' on' tw' th' nx' wh') (ha : rd on' a = rd on a) (h0 : 0 ≤ lo) (hq : q ≤ q') : aX1 so' st' on' tw' th' nx' wh' kd ky w q' lo a x := by
  obtain ⟨h1, h2, h3, h4, h5⟩ := h
  obtain ⟨r1, r2, r3⟩ := TX_r h3
  obtain ⟨e1, e2, -, -, -, -, e7⟩ := g (rd on a) r1 r2 r3
  refine ⟨h1, by omega, ?_, ?_, ?_⟩
  · rw [ha]; exact TX_u h3 g
  · rw [ha, e1]; exact h4
  · rw [ha, e2, e7]; exact h5
theorem aZ_u {z : Int} : ∀ (as : List gA) (lo a : Int), 0 ≤ lo → aq lo q so st on tw th nx wh so' st' on' tw' th' nx' wh' → z < q → q ≤ q' → aZ so st on tw th nx wh kd ky w q z as lo a → aZ so' st' on' tw' th' nx' wh' kd ky w q' z as lo a := by
  intro as
  induction as with
  | nil => intro lo a _ _ _ _ h; exact h
  | cons x as ih =>
    intro lo a h0 g hz hq h
    obtain ⟨h1, h2⟩ := h
    have b1 := h1.1
    have b2 := h1.2.1
    obtain ⟨-, -, e3, -, -, e6, -⟩ := g a b1 b2 (by omega)
    refine ⟨aX1_u h1 (aq_le g (Int.le_refl _) (by omega)) e3 h0 hq, ?_⟩
    rcases h2 with ⟨c1, c2, c3⟩ | ⟨c1, c2, c3⟩
    · exact Or.inl ⟨c1, c2, by rw [e6]; exact c3⟩
    · exact Or.inr ⟨c1, c2, by rw [e6]; exact ih (a + 1) _ (by omega) (aq_le g (by omega) (Int.le_refl _)) hz hq c3⟩
theorem aZ_n {z z2 : Int} {y : gA} : ∀ (as : List gA) (lo a : Int), 0 ≤ lo → (∀ c : Int, lo ≤ c → c < q → 0 ≤ c → c ≠ z → rd nx' c = rd nx c) → rd nx' z = z2 → z < z2 → q ≤ q' → aX1 so st on tw th nx' wh kd ky w q' (z + 1) z2 y → rd nx' z2 < 0 → aZ so st on tw th nx wh kd ky w q z as lo a → aZ so st on tw th nx' wh kd ky w q' z2 (as ++ [y]) lo a := by
  intro as
  induction as with
  | nil => intro lo a _ _ _ _ _ _ _ h; exact h.elim
  | cons x as ih =>
    intro lo a h0 g g1 hz hq hy hn h
    obtain ⟨h1, h2⟩ := h
    have b1 := h1.1
    have b2 := h1.2.1
    have ga : aq lo a so st on tw th nx wh so st on tw th nx' wh := fun c a1 a2 a3 => ⟨rfl, rfl, rfl, rfl, rfl, g c a1 (by omega) a3 (by rcases h2 with ⟨-, c2, -⟩ | ⟨-, c2, -⟩ <;> omega), rfl⟩
    refine ⟨aX1_u h1 ga rfl h0 hq, Or.inr ⟨by simp, ?_, ?_⟩⟩
    · rcases h2 with ⟨-, c2, -⟩ | ⟨-, c2, -⟩ <;> omega
    · rcases h2 with ⟨c1, c2, c3⟩ | ⟨c1, c2, c3⟩
      · rw [c1, c2, g1]
        exact ⟨hy, Or.inl ⟨rfl, rfl, hn⟩⟩
      · rw [g a b1 b2 (by omega) (by omega)]
        exact ih (a + 1) _ (by omega) (fun c a1 a2 a3 a4 => g c (by omega) a2 a3 a4) g1 hz hq hy hn c3
theorem aZ_L {z : Int} : ∀ (as : List gA) (lo a : Int), aZ so st on tw th nx wh kd ky w q z as lo a → aL (TX so st on tw th nx wh kd ky) so st on nx wh kd ky w q as lo a := by
  intro as
  induction as with
  | nil => intro lo a h; exact h.elim
  | cons x as ih =>
    intro lo a h
    obtain ⟨⟨h1, h2, h3, h4, h5⟩, h6⟩ := h
    refine ⟨h1, h2, h3, h4, h5, ?_⟩
    rcases h6 with ⟨c1, c2, c3⟩ | ⟨c1, c2, c3⟩
    · rw [c1]
      exact c3
    · exact ih _ _ c3
variable {p h z : Int} {as : List gA}
theorem AZ_u (H : AZ so st on tw th nx wh kd ky w p q h z as) (g : aq p q so st on tw th nx wh so' st' on' tw' th' nx' wh') (hq : q ≤ q') : AZ so' st' on' tw' th' nx' wh' kd ky w p q' h z as := by
  rcases H with H | ⟨H1, H2, H3, H4, H5⟩
  · exact Or.inl H
  · exact Or.inr ⟨H1, H2, H3, by omega, aZ_u as p h H2 g H4 hq H5⟩
theorem AZ_1 {x : gA} (h0 : 0 ≤ p) (hx : aX1 so st on tw th nx wh kd ky w q p h x) (hn : rd nx h < 0) : AZ so st on tw th nx wh kd ky w p q h h [x] := Or.inr ⟨by simp, h0, hx.1, hx.2.1, hx, Or.inl ⟨rfl, rfl, hn⟩⟩
theorem AZ_s {z2 : Int} {y : gA} (H : AZ so st on tw th nx wh kd ky w p q h z as) (h0 : ¬ as = []) (g : ∀ c : Int, p ≤ c → c < q → 0 ≤ c → c ≠ z → rd nx' c = rd nx c) (g1 : rd nx' z = z2) (hz : z < z2) (hq : q ≤ q') (hy : aX1 so st on tw th nx' wh kd ky w q' (z + 1) z2 y) (hn : rd nx' z2 < 0) : AZ so st on tw th nx' wh kd ky w p q' h z2 (as ++ [y]) := by
  rcases H with ⟨H, -⟩ | ⟨H1, H2, H3, H4, H5⟩
  · exact absurd H h0
  · exact Or.inr ⟨by simp, H2, by omega, hy.2.1, aZ_n as p h H2 g g1 hz hq hy hn H5⟩
theorem AZ_T (H : AZ so st on tw th nx wh kd ky w p q h z as) (h0 : ¬ as = []) : TA so st on tw th nx wh kd ky w p q as h := by
  rcases H with ⟨H, -⟩ | ⟨H1, H2, H3, H4, H5⟩
  · exact absurd H h0
  · exact ⟨H2, aZ_L as p h H5⟩
end
theorem TS_w {so st on tw th nx wh : nA} {kd ky : Int → Int} {p q p' q' e : Int} {c : gV → Option Int} (h : TS so st on tw th nx wh kd ky p q e c) (h0 : 0 ≤ p') (hp : p' ≤ p) (hq : q ≤ q') : TS so st on tw th nx wh kd ky p' q' e c := by
  obtain ⟨d1, h1, h2⟩ := h
  refine ⟨d1, TX_w h1 h0 hp hq, ?_⟩
  rcases h2 with h2 | ⟨h2, d2, h3, h4⟩
  · exact Or.inl h2
  · exact Or.inr ⟨h2, d2, TX_w h3 h0 hp hq, h4⟩
