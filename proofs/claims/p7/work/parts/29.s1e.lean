def uP1 (F : Option (Int × gB)) (kd : Int → Int) (st wh dc : nA) (lo hi i j : Int) : Prop := ∀ a, F = some a → sW kd st wh dc lo hi i j a.2.1
def uP2 (F : Option (Int × Int × gB)) (kd : Int → Int) (st wh dc : nA) (lo hi i j : Int) : Prop := ∀ a, F = some a → sW kd st wh dc lo hi i j a.2.2.1
section
variable {kd ky : Int → Int} {st wh dc st' wh' dc' : nA} {lo m hi hi2 i j k j2 i2 c t w o q : Int} {us vs a b : List (Int × Int)}
theorem sW_i (h : sW kd st wh dc lo hi i j us) (g : i2 ≤ i) : sW kd st wh dc lo hi i2 j us := ⟨fun e a b q => ⟨by have := (h.1 e a b q).1; omega, (h.1 e a b q).2⟩, fun u hu => ⟨by have := (h.2 u hu).1; omega, (h.2 u hu).2⟩⟩
theorem sW_F (h : eW kd st wh lo hi i j c) (u : uE kd w i j2 us) (ew : c = w + 1) (ej : j = j2) (d : dZ dc i) : sW kd st wh dc lo hi i j us := by
  subst ej
  exact sW_E h (by rw [ew, show w + 1 - 1 = w from by omega]; exact u) (fun t a _ => d t a)
theorem sW_y (h : sW kd st wh dc lo m i k us) (h0 : rd st m = k) (h1 : ¬ rd dc k = 0) (e : hi = m + 1) (e2 : j = k + 1) (h2 : lo ≤ m) (h3 : i ≤ k) : sW kd st wh dc lo hi i j us := by
  have z := sW_c h (sW_x (kd := kd) (wh := wh) h0 h1 e e2) h2 (by omega) h3 (by omega)
  rw [List.append_nil] at z
  exact z
theorem sW_b {B : gB} (hB : B.1 = []) (h : sW kd st wh dc lo hi i j us) : sW kd st wh dc lo hi i j (B.1 ++ us) := by
  rw [hB]
  exact h
theorem sW_mk {B : gB} (hB : B.1 = []) (h : sW kd st wh dc lo hi i j (us ++ vs)) : sW kd st wh dc lo hi i j (us ++ (B.1 ++ vs)) := by
  rw [hB]
  exact h
theorem eW_q (h : eW kd st wh m hi i j c) (e : m = lo + 1) (hs : rd st lo = t) (hw : rd wh lo = c) (ht : t = i) (hm : m < hi) : eW kd st wh lo hi i j c := by
  subst e
  have z := h.1 (lo + 1) (Int.le_refl _) hm
  exact eW_p h hs hw (by omega) (by omega)
theorem uP_w {F : gS} (h : uP F kd st wh dc lo hi i j) (g : i2 ≤ i) : uP F kd st wh dc lo hi i2 j := fun a ha => sW_i (h a ha) g
theorem uP_N {F : Option (Int × gB)} {x : Int × gB} (h : F = some x) (g : sW kd st wh dc lo hi i j x.2.1) : uP (F.bind fun p => some (p.1, o, q, p.2)) kd st wh dc lo hi i j := fun a ha => by
  rw [h] at ha
  cases ha
  exact g
theorem uP_1 {F : Option (Int × gB)} (h : uP1 F kd st wh dc lo hi i j) (g : i2 ≤ i) : uP (F.bind fun p => some (p.1, o, q, p.2)) kd st wh dc lo hi i2 j := fun a ha => by
  obtain ⟨x, hx, hy⟩ := bind_s ha
  cases hy
  exact sW_i (h x hx) g
theorem uP_2 {F : Option (Int × Int × gB)} (h : uP2 F kd st wh dc lo hi i j) (g : i2 ≤ i) : uP (F.bind fun p => some (p.1, o, p.2.1, p.2.2)) kd st wh dc lo hi i2 j := fun a ha => by
  obtain ⟨x, hx, hy⟩ := bind_s ha
  cases hy
  exact sW_i (h x hx) g
theorem vas_u {own ty q : Int} {p : Int × Int × gB} (h : gVas kd ky own ty w i q b0 = some p) : p.2.2.1 = [] := by
  refine gLp_q (Q := fun (_ : Int) (x : Int × gB) => x.2.1 = []) (fun x j p hx hp => ?_) (fun x i h => h) _ _ _ _ rfl h
  obtain ⟨u, hu, h⟩ := bind_s hp
  cases h
  have e := gSto_1 hu
  have e2 : (gVa1 own u.2.2).1 = [] := by
    unfold gVa1
    by_cases ho : own = 0
    · rw [if_pos ho]; exact e.2
    · rw [if_neg ho]; show u.2.2.1 ++ [] = []; rw [e.2]; rfl
  show x.2.1 ++ (gVa1 own u.2.2).1 = []
  rw [hx, e2]
  rfl
theorem uP_v {own ty q2 : Int} (h : i2 ≤ j) : uP ((gVas kd ky own ty w i q2 b0).bind fun p => some (p.1, o, p.2.1, p.2.2)) kd st wh dc lo lo i2 j := fun a ha => by
  obtain ⟨x, hx, hy⟩ := bind_s ha
  cases hy
  show sW kd st wh dc lo lo i2 j x.2.2.1
  rw [vas_u hx]
  exact sW_0 h
theorem sgn_u {ty q : Int} {p : Int × Int × gB × Int} (h : gSgN kd ky ty w i q b0 = some p) : p.2.2.1.1 = [] := by
  refine gLp_q (Q := fun (_ : Int) (x : Int × gB × Int) => x.2.1.1 = []) (fun x j p hx hp => ?_) (fun x i h => h) _ _ _ _ rfl h
  obtain ⟨u, hu, h⟩ := bind_s hp
  cases h
  have e := gSto_1 hu
  show x.2.1.1 ++ u.2.2.1 = []
  rw [hx, e.2]
  rfl
theorem bds_k {X : Int → gR} {p : Int × gB × Int} (h : gBds kd X i = some p) : kd i = 36 := by
  obtain ⟨a, ha, h⟩ := bind_s h
  exact (tkn_j ha).1
theorem e_swi {p : Int × gB} (h : gSwi kd ky w i = some p) : uE kd w (i + 1 + 1) p.1 p.2.1 := by
  obtain ⟨a, ha, h⟩ := bind_s h
  obtain ⟨k, hk, h⟩ := bind_s h
  obtain ⟨l, hl, h⟩ := bind_s h
  obtain ⟨r, hr, h⟩ := bind_s h
  cases h
  have e1 := (tkn_j ha).2
  have e2 := (tkn_j hk).2
  have z : uE kd w (i + 1 + 1) l [] := by
    rw [show i + 1 + 1 = k from by omega]
    exact uE_k hl (by decide)
  have key : ∀ (f : Nat) (j : Int) (x : Int × gB) (p : Int × Int × gB), uE kd w (i + 1 + 1) j x.2.1 → gLp kd 38 (sSw kd ky w) f j x = some p → uE kd w (i + 1 + 1) p.1 p.2.2.1 := by
    intro f
    induction f with
    | zero => intro j x p _ h; cases h
    | succ f ih =>
      intro j x p hx h
      obtain ⟨r, hr, h2⟩ := bind_s (show (sSw kd ky w x j).bind _ = some p from h)
      obtain ⟨u, hu, h3⟩ := bind_s hr
      cases h3
      have hu2 : gLaU kd ky w j = some u := by
        by_cases hq : x.1 < 20
        · rw [if_pos hq] at hu; exact hu
        · rw [if_neg hq] at hu; cases hu
      have y : uE kd w (i + 1 + 1) u.1 (x.2.1 ++ u.2.1) := uE_a hx (e_lau hu2)
      by_cases hk : kd u.1 = 38
      · rw [if_pos hk] at h2
        exact ih _ _ _ (uE_r y (uE_t (show ¬ kd u.1 = 27 by omega))) h2
      · rw [if_neg hk] at h2
        cases h2
        exact y
  exact key _ _ _ _ z hr
theorem uP1_s (hs : ∃ a, gSwi kd ky w i = some a ∧ j = a.1) (h : eW kd st wh lo hi (i + 1 + 1) j c) (ew : c = w + 1) (d : dZ dc (i + 1 + 1)) : uP1 (gSwi kd ky w i) kd st wh dc lo hi i j := fun a ha => by
  obtain ⟨b, hb, hj⟩ := hs
  have e : b = a := Option.some.inj (hb.symm.trans ha)
  rw [e] at hj
  exact sW_i (sW_F h (e_swi ha) ew hj d) (by omega)
theorem dA_v {x v : Int32} (h : dA dc dc' j) (h0 : 0 ≤ x.toInt) (h1 : j ≤ x.toInt) : dA dc (upd dc' x.toNatClampNeg v) j := dA_t h (dA_u h0 h1) (Int.le_refl _)
end
section
variable {kd ky : Int → Int} {n : Nat} {i w : Int}
theorem e_exx {p : Int × gD} (h : gExp kd ky (gLev kd ky n) w i = some p) : uE kd w i p.1 p.2.1 := u_exp (u_lev n) h
theorem e_bdx {p : Int × gB × Int} (h : gBds kd (gExp kd ky (gLev kd ky n) w) i = some p) : uE kd w i p.1 p.2.1.1 := e_bds (fun _ _ hp => u_exp (u_lev n) hp) h
theorem e_elx {p : Int × gB} (h : gEl1 kd (gExp kd ky (gLev kd ky n) w) i = some p) : uE kd w i p.1 p.2.1 := e_el1 (fun _ _ hp => u_exp (u_lev n) hp) h
theorem e_jmx {p : Int × gB} (h : gJmp kd ky (gLev kd ky n) w i = some p) : uE kd w i p.1 p.2.1 := e_jmp (u_lev n) h
theorem e_prx {p : Int × gB} (h : gPri kd (gLev kd ky n) w i = some p) : uE kd w i p.1 p.2.1 := e_pri (u_lev n) h
theorem e_nmx {p : Int × gB} (h : gNmS kd ky (gLev kd ky n) w i = some p) : uE kd w i p.1 p.2.1 := e_nms (u_lev n) h
end
