def hid (P : Prop) : Prop := P
theorem hid_i {P : Prop} (h : P) : hid P := h
theorem hid_e {P : Prop} (h : hid P) : P := h
section
variable {so st on tw th fo nx wh : nA} {kd ky : Int → Int} {xn s r hd cur : Int} {M : Int → gV → Prop} {T : gV} {xw x1 x2 x3 x4 : Int} {A A1 A2 B B' : Prop} {o : Option Int} {d1 d2 d3 d4 : gV → Option Int}
theorem ck_l {c : Int} (hs : rd so s = c) (hc : c = 20 ∨ c = 22 ∨ c = 23 ∨ c = 24 ∨ c = 27 ∨ c = 28 ∨ c = 29 ∨ c = 30) (h : ckQ xw x1 (M s T) B) : ckQ xw x1 (rcA so on tw th nx xn s M T) B := ckq_i h (fun a => ra_l (by omega) (by omega) (by omega) (fun _ => a))
theorem ck_0 (hs : rd so s = 20 ∨ rd so s = 28) : rcA so on tw th nx xn s M T := ra_l (by omega) (by omega) (by omega) (fun z => by unfold stN at z; omega)
theorem am_c {c : Int} (hs : rd so s = c) (hc : c = 22 ∨ c = 23 ∨ c = 24 ∨ c = 25 ∨ c = 26 ∨ c = 27 ∨ c = 29 ∨ c = 30) (h0 : 0 ≤ s) (h1 : s < xn) (b : alM so xn M T) : M s T := b s h0 h1 (by unfold stN; omega)
theorem sgm_2 (hm : M s T ↔ ¬ dN 1 d1 T = none ∧ ¬ dN 1 d2 T = none) (g : B → M s T) (n1 : nQ xw x1 1 d1 T) (n2 : nQ x1 x2 1 d2 T) : ckQ xw x2 (M s T) B := ckq_i (ckq_s (cn_1 n1 (fun b => (hm.mp (g b)).1)) (cn_1 n2 (fun b => (hm.mp (g b)).2))) (fun a => hm.mpr a)
theorem sgm_4 (hm : M s T ↔ ¬ dN 1 d1 T = none ∧ ¬ dN 1 d2 T = none ∧ ¬ dN 1 d3 T = none ∧ ¬ dN 1 d4 T = none) (g : B → M s T) (n1 : nQ xw x1 1 d1 T) (n2 : nQ x1 x2 1 d2 T) (n3 : nQ x2 x3 1 d3 T) (n4 : nQ x3 x4 1 d4 T) : ckQ xw x4 (M s T) B := ckq_i (ckq_s (ckq_s (ckq_s (cn_1 n1 (fun b => (hm.mp (g b)).1)) (cn_1 n2 (fun b => (hm.mp (g b)).2.1))) (cn_1 n3 (fun b => (hm.mp (g b)).2.2.1))) (cn_1 n4 (fun b => (hm.mp (g b)).2.2.2))) (fun a => hm.mpr ⟨a.1.1.1, a.1.1.2, a.1.2, a.2⟩)
theorem sgm_1 (hm : M s T ↔ ¬ dN 1 d1 T = none) (g : B → M s T) (n1 : nQ xw x1 1 d1 T) : ckQ xw x1 (M s T) B := ckq_i (cn_1 n1 (fun b => hm.mp (g b))) (fun a => hm.mpr a)
theorem sgm_b (hm : M s T ↔ ¬ dN 2 d1 T = none) (g : B → M s T) (n1 : nQ xw x1 2 d1 T) : ckQ xw x1 (M s T) B := ckq_i (cn_2 n1 (fun b => hm.mp (g b))) (fun a => hm.mpr a)
theorem sgm_3 (hm : M s T ↔ ¬ dN 1 d1 T = none ∧ ¬ dN 1 d2 T = none ∧ ¬ dN 1 d3 T = none) (g : B → M s T) (n1 : nQ xw x1 1 d1 T) (n2 : nQ x1 x2 1 d2 T) (n3 : nQ x2 x3 1 d3 T) : ckQ xw x3 (M s T) B := ckq_i (ckq_s (ckq_s (cn_1 n1 (fun b => (hm.mp (g b)).1)) (cn_1 n2 (fun b => (hm.mp (g b)).2.1))) (cn_1 n3 (fun b => (hm.mp (g b)).2.2))) (fun a => hm.mpr ⟨a.1.1, a.1.2, a.2⟩)
theorem sgm_w (hm : M s T ↔ ¬ dN 1 d1 T = none ∧ ¬ dN 2 d2 T = none) (g : B → M s T) (n1 : nQ xw x1 1 d1 T) (n2 : nQ x1 x2 2 d2 T) : ckQ xw x2 (M s T) B := ckq_i (ckq_s (cn_1 n1 (fun b => (hm.mp (g b)).1)) (cn_2 n2 (fun b => (hm.mp (g b)).2))) (fun a => hm.mpr a)
theorem E_23b (h : ndA so st on tw th fo nx wh kd ky xn M) (h0 : 0 ≤ s) (h1 : s < xn) (hs : rd so s = 23) : kd (rd st s) = 27 ∧ ∃ q as, TA so st on tw th nx wh kd ky (rd wh s - 1) (s + 1) q as (rd on s) ∧ (M s T ↔ ¬ dCl (rd wh s - 1) (ky (rd st s)) as T = none) := by
  obtain ⟨e1, e2⟩ := E_23 (T := T) h h0 h1 hs
  refine ⟨e1, ?_⟩
  rcases e2 with ⟨y1, y2⟩ | ⟨y1, q, as, y2, y3⟩
  · exact ⟨s + 1, [], ⟨by omega, y1⟩, y2⟩
  · exact ⟨q, as, y2, y3⟩
theorem cl_y {k w : Int} {as : List gA} (h : nK T k = 3) : ((aCnt T w as (vF T (nH T k))).bind fun c => xCl T k c) = none ↔ cAll T w as k = none := by
  have e : ∀ c, xCl T k c = if nC T k = c then some 0 else none := fun c => by
    unfold xCl
    by_cases q : nC T k = c
    · rw [if_pos ⟨h, q⟩, if_pos q]
    · rw [if_neg (fun z => q z.2), if_neg q]
  unfold cAll aCnt
  cases aAll T w as (vF T (nH T k)) with
  | none =>
    refine ⟨fun _ => ?_, fun _ => rfl⟩
    by_cases c : (as.length : Int) = nC T k
    · rw [if_pos c]
    · rw [if_neg c]
  | some v =>
    show xCl T k (as.length : Int) = none ↔ _
    rw [e]
    by_cases c : (as.length : Int) = nC T k
    · rw [if_pos c.symm, if_pos c]
      exact ⟨fun z => (by cases z), fun z => (by cases z)⟩
    · rw [if_neg (fun z => c z.symm), if_neg c]
theorem cl_n {k w : Int} {as : List gA} (h : ¬ nK T k = 3) : ((aCnt T w as (vF T (nH T k))).bind fun c => xCl T k c) = none := by
  have e : ∀ c, xCl T k c = none := fun c => if_neg (fun z => h z.1)
  cases aCnt T w as (vF T (nH T k)) with
  | none => rfl
  | some c => exact e c
theorem do_y {k : Int} {as : List gA} {w key : Int} (hm : M s T ↔ ¬ dCl w key as T = none) (hk : k = gMe T w key) (h3 : nK T k = 3) (g : B → M s T) (hw : wQ xw x1 (cAll T w as k)) : ckQ xw x1 (M s T) B := by
  refine ckq_w hw (hm.trans (not_congr ?_)) g
  show ((aCnt T w as (vF T (nH T (gMe T w key)))).bind fun c => xCl T (gMe T w key) c) = none ↔ _
  rw [← hk]
  exact cl_y h3
theorem do_n {k : Int} {as : List gA} {w key : Int} (hm : M s T ↔ ¬ dCl w key as T = none) (hk : k = gMe T w key) (h3 : ¬ nK T k = 3) (g : B → M s T) (hx : 0 ≤ x1) : ckQ xw x1 (M s T) B := by
  refine ckq_x (fun z => hm.mp z ?_) hx g
  show ((aCnt T w as (vF T (nH T (gMe T w key)))).bind fun c => xCl T (gMe T w key) c) = none
  rw [← hk]
  exact cl_n h3
theorem go_y {k w key : Int} (hm : M s T ↔ ¬ dLa w key T = none) (hk : k = gMe T w key) (h3 : isLa T k) : ckQ xw xw (M s T) B := ckq_y (hm.mpr (by
  show ¬ xLa T (gMe T w key) = none
  rw [← hk]
  unfold xLa
  rw [if_pos h3]
  exact fun z => by cases z))
theorem go_n {k w key : Int} (hm : M s T ↔ ¬ dLa w key T = none) (hk : k = gMe T w key) (h3 : ¬ isLa T k) (g : B → M s T) (hx : 0 ≤ x1) : ckQ xw x1 (M s T) B := ckq_x (fun z => hm.mp z (by
  show xLa T (gMe T w key) = none
  rw [← hk]
  exact if_neg h3)) hx g
theorem gs_y {k w key : Int} (hm : M s T ↔ ¬ xSw T (gMe T w key) = none ∧ ¬ dN 1 d1 T = none) (hk : k = gMe T w key) (h3 : nK T k = 4) (g : B → M s T) (n1 : nQ xw x1 1 d1 T) : ckQ xw x1 (M s T) B := ckq_i (cn_1 n1 (fun b => (hm.mp (g b)).2)) (fun a => hm.mpr ⟨(by
  rw [← hk]
  unfold xSw
  rw [if_pos h3]
  exact fun z => by cases z), a⟩)
theorem gs_n {k w key : Int} (hm : M s T ↔ ¬ xSw T (gMe T w key) = none ∧ ¬ dN 1 d1 T = none) (hk : k = gMe T w key) (h3 : ¬ nK T k = 4) (g : B → M s T) (hx : 0 ≤ x1) (n1 : nQ x1 x2 1 d1 T) : ckQ xw x2 (M s T) B := ckq_x (fun z => (hm.mp z).1 (by
  rw [← hk]
  exact if_neg h3)) (n1.1 hx) g
theorem fo_y {k w key : Int} (hm : M s T ↔ ¬ xCt T (gMe T w key) = none) (hk : k = gMe T w key) (h3 : isSi T k) (h4 : nT T k = 1) : ckQ xw xw (M s T) B := ckq_y (hm.mpr (by
  rw [← hk]
  unfold xCt xNe
  rw [if_pos h3, if_pos (by unfold okN; omega)]
  exact fun z => by cases z))
theorem fo_n {k w key : Int} (hm : M s T ↔ ¬ xCt T (gMe T w key) = none) (hk : k = gMe T w key) (h3 : ¬ isSi T k ∨ (isSi T k ∧ nT T k = 2)) (g : B → M s T) (hx : 0 ≤ x1) : ckQ xw x1 (M s T) B := ckq_x (fun z => hm.mp z (by
  rw [← hk]
  unfold xCt xNe
  rcases h3 with h3 | h3
  · rw [if_neg h3]
  · rw [if_pos h3.1, if_neg (by unfold okN; omega)])) hx g
end
def asJ (so st on tw th nx wh : nA) (kd ky : Int → Int) (T : gV) (w q z hd : Int) (D : gV → Option Int) (xw cur ty l : Int) : Prop := (l = hd ∧ cur = xw ∧ ∃ d ds lo, D = List.foldl lfA d ds ∧ 0 ≤ lo ∧ lfS so st on tw th nx wh kd ky w q (d :: ds) lo hd z) ∨ (∃ acc ds, D = List.foldl lfA acc ds ∧ tQ xw cur ty (acc T) ∧ 0 ≤ hd ∧ ((ds = [] ∧ l < 0) ∨ ∃ lo, hd < lo ∧ lfS so st on tw th nx wh kd ky w q ds lo l z))
section
variable {so st on tw th nx wh : nA} {kd ky : Int → Int} {T : gV} {w q z hd : Int} {D : gV → Option Int} {xw cur ty l x1 x2 t : Int} {acc d : gV → Option Int}
theorem lfA_q (h : tQ xw cur ty (acc T)) (g : tQ cur x1 t (d T)) (hn : ¬ (0 < ty ∧ 0 < t ∧ ¬ t = ty)) : tQ xw x1 ty (lfA acc d T) := by
  refine ⟨⟨fun y => g.1.1 (h.1.1 y), fun y => ⟨fun e => ?_, fun e => ?_⟩⟩, fun y u e => ?_⟩
  · cases ea : acc T with
    | none => exact g.1.1 ((h.1.2 y).1 ea)
    | some t0 =>
      have c0 : cur < 0 := (h.1.2 y).2 (by rw [ea]; exact fun z => by cases z)
      obtain ⟨a1, a2⟩ := h.2 y t0 ea
      cases ed : d T with
      | none => exact (g.1.2 c0).1 ed
      | some t1 =>
        obtain ⟨b1, b2⟩ := g.2 c0 t1 ed
        exfalso
        unfold lfA at e
        rw [ea] at e
        have e' : ((d T).bind fun t => if okN t t0 then some t0 else none) = none := e
        rw [ed] at e'
        have e2 : (if okN t1 t0 then some t0 else none : Option Int) = none := e'
        rw [if_pos (by unfold okN; omega)] at e2
        cases e2
  · cases ea : acc T with
    | none =>
      exfalso
      apply e
      unfold lfA
      rw [ea]
      rfl
    | some t0 =>
      have c0 : cur < 0 := (h.1.2 y).2 (by rw [ea]; exact fun z => by cases z)
      refine (g.1.2 c0).2 (fun ed => e ?_)
      unfold lfA
      rw [ea]
      show ((d T).bind _) = none
      rw [ed]
      rfl
  · cases ea : acc T with
    | none =>
      unfold lfA at e
      rw [ea] at e
      cases e
    | some t0 =>
      obtain ⟨a1, a2⟩ := h.2 y t0 ea
      unfold lfA at e
      rw [ea] at e
      have e' : ((d T).bind fun t => if okN t t0 then some t0 else none) = some u := e
      cases ed : d T with
      | none =>
        rw [ed] at e'
        cases e'
      | some t1 =>
        rw [ed] at e'
        have e2 : (if okN t1 t0 then some t0 else none : Option Int) = some u := e'
        by_cases c : okN t1 t0
        · rw [if_pos c] at e2
          cases e2
          exact ⟨a1, a2⟩
        · rw [if_neg c] at e2
          cases e2
theorem lfA_x (h : tQ xw cur ty (acc T)) (g : tQ cur x1 t (d T)) (h1 : 0 < ty) (h2 : 0 < t) (h3 : ¬ t = ty) (hx : 0 ≤ x2) : tQ xw x2 ty (lfA acc d T) := by
  refine ⟨⟨fun _ => hx, fun y => ⟨fun _ => hx, fun e => ?_⟩⟩, fun y u e => ?_⟩
  all_goals (
    exfalso
    cases ea : acc T with
    | none => unfold lfA at e; rw [ea] at e; first | exact e rfl | cases e
    | some t0 =>
      have c0 : cur < 0 := (h.1.2 y).2 (by rw [ea]; exact fun z => by cases z)
      obtain ⟨a1, a2⟩ := h.2 y t0 ea
      cases ed : d T with
      | none =>
        unfold lfA at e
        rw [ea] at e
        simp only [Option.bind] at e
        rw [ed] at e
        first | exact e rfl | cases e
      | some t1 =>
        obtain ⟨b1, b2⟩ := g.2 c0 t1 ed
        unfold lfA at e
        rw [ea] at e
        simp only [Option.bind] at e
        rw [ed] at e
        simp only at e
        rw [if_neg (by unfold okN; omega)] at e
        first | exact e rfl | cases e)
theorem as_0 {ds : List (gV → Option Int)} {lo : Int} (h0 : 0 ≤ lo) (h : lfS so st on tw th nx wh kd ky w q (d :: ds) lo hd z) : asJ so st on tw th nx wh kd ky T w q z hd (List.foldl lfA d ds) xw xw ty hd := Or.inl ⟨rfl, rfl, d, ds, lo, rfl, h0, h⟩
theorem lfS_e {d : gV → Option Int} {ds : List (gV → Option Int)} {lo a : Int} (h : lfS so st on tw th nx wh kd ky w q (d :: ds) lo a z) (hz : rd nx z = -1) : lo ≤ a ∧ ∃ hh, hh ≤ q ∧ lf1 so st on tw th nx wh kd ky w hh a d ∧ ((ds = [] ∧ rd nx a < 0) ∨ ∃ lo2, a < lo2 ∧ lfS so st on tw th nx wh kd ky w q ds lo2 (rd nx a) z) := by
  cases ds with
  | nil =>
    obtain ⟨h1, h2, h3, h4⟩ := h
    exact ⟨h2, q, Int.le_refl _, h4, Or.inl ⟨rfl, by rw [h1, hz]; decide⟩⟩
  | cons d2 ds =>
    obtain ⟨h1, h2, hh, h3, h4, h5, h6⟩ := h
    exact ⟨h1, hh, h4, h5, Or.inr ⟨hh, h3, h6⟩⟩
theorem lfS_lo {ds : List (gV → Option Int)} {lo a : Int} (h : lfS so st on tw th nx wh kd ky w q ds lo a z) : lo ≤ a := by
  cases ds with
  | nil => exact h.elim
  | cons d ds =>
    cases ds with
    | nil => exact h.2.1
    | cons d2 ds => exact h.1
theorem as_h (h : asJ so st on tw th nx wh kd ky T w q z hd D xw cur ty l) (hz : rd nx z = -1) (hl : 0 ≤ l) : ∃ dl hh, lf1 so st on tw th nx wh kd ky w hh l dl ∧ ((l = hd ∧ cur = xw ∧ ∀ x1 t, tQ xw x1 t (dl T) → asJ so st on tw th nx wh kd ky T w q z hd D xw x1 t (rd nx l)) ∨ (¬ l = hd ∧ ∀ x1 t, tQ cur x1 t (dl T) → (¬ (0 < ty ∧ 0 < t ∧ ¬ t = ty) → asJ so st on tw th nx wh kd ky T w q z hd D xw x1 ty (rd nx l)) ∧ ∀ x2, 0 < ty → 0 < t → ¬ t = ty → 0 ≤ x2 → asJ so st on tw th nx wh kd ky T w q z hd D xw x2 ty (rd nx l))) := by
  rcases h with ⟨h1, h2, d, ds, lo, h3, h4, h5⟩ | ⟨acc, ds, h3, h4, h0, h5⟩
  · obtain ⟨e0, hh, e1, e2, e3⟩ := lfS_e h5 hz
    refine ⟨d, hh, by rw [h1]; exact e2, Or.inl ⟨h1, h2, fun x1 t g => Or.inr ⟨d, ds, h3, g, by omega, ?_⟩⟩⟩
    rw [h1]
    exact e3
  · rcases h5 with h5 | ⟨lo, h5, h6⟩
    · omega
    · cases ds with
      | nil => exact h6.elim
      | cons d ds =>
        obtain ⟨e0, hh, e1, e2, e3⟩ := lfS_e h6 hz
        have e4 : (ds = [] ∧ rd nx l < 0) ∨ ∃ lo, hd < lo ∧ lfS so st on tw th nx wh kd ky w q ds lo (rd nx l) z := e3.imp id (fun ⟨lo2, y1, y2⟩ => ⟨lo2, by omega, y2⟩)
        refine ⟨d, hh, e2, Or.inr ⟨by omega, fun x1 t g => ⟨fun hn => Or.inr ⟨lfA acc d, ds, h3, lfA_q h4 g hn, h0, e4⟩, fun x2 a b c hx => Or.inr ⟨lfA acc d, ds, h3, lfA_x h4 g a b c hx, h0, e4⟩⟩⟩⟩
theorem as_e (h : asJ so st on tw th nx wh kd ky T w q z hd D xw cur ty l) (hl : l < 0) : tQ xw cur ty (D T) := by
  rcases h with ⟨h1, h2, d, ds, lo, h3, h4, h5⟩ | ⟨acc, ds, h3, h4, h0, h5⟩
  · have := lfS_lo h5
    omega
  · rcases h5 with h5 | ⟨lo, h5, h6⟩
    · rw [h3, h5.1]
      exact h4
    · have := lfS_lo h6
      omega
theorem sgm_q {ds : List (gV → Option Int)} {d0 d2 : gV → Option Int} {M : Int → gV → Prop} {s : Int} {B : Prop} (hm : M s T ↔ ¬ aSg d0 ds d2 T = none) (g : B → M s T) (h : tQ xw cur ty (List.foldl lfA d0 ds T)) (n : nQ cur x1 ty d2 T) (ht : 0 < ty) : ckQ xw x1 (M s T) B := by
  refine ckq_w (o := aSg d0 ds d2 T) ⟨fun y => n.1 (h.1.1 y), fun y => ⟨fun e => ?_, fun e => ?_⟩⟩ hm g
  · cases ea : List.foldl lfA d0 ds T with
    | none => exact n.1 ((h.1.2 y).1 ea)
    | some t0 =>
      have c0 : cur < 0 := (h.1.2 y).2 (by rw [ea]; exact fun z => by cases z)
      obtain ⟨a1, a2⟩ := h.2 y t0 ea
      refine ((n.2 (by omega)).2 c0).1 ?_
      unfold aSg at e
      rw [ea] at e
      have e' : ((dN t0 d2 T).bind fun _ => (some 0 : Option Int)) = none := e
      rw [a1]
      cases ed : dN t0 d2 T with
      | none => rfl
      | some v =>
        rw [ed] at e'
        cases e'
  · cases ea : List.foldl lfA d0 ds T with
    | none =>
      exfalso
      apply e
      unfold aSg
      rw [ea]
      rfl
    | some t0 =>
      have c0 : cur < 0 := (h.1.2 y).2 (by rw [ea]; exact fun z => by cases z)
      obtain ⟨a1, a2⟩ := h.2 y t0 ea
      refine ((n.2 (by omega)).2 c0).2 (fun ed => e ?_)
      unfold aSg
      rw [ea]
      show ((dN t0 d2 T).bind _) = none
      rw [← a1, ed]
      rfl
theorem sgm_z {ds : List (gV → Option Int)} {d0 d2 : gV → Option Int} {M : Int → gV → Prop} {s : Int} {B : Prop} {r : Int} (hm : M s T ↔ ¬ aSg d0 ds d2 T = none) (g : B → M s T) (h : tQ xw cur ty (List.foldl lfA d0 ds T)) (n : tQ cur x1 r (d2 T)) (ht : ¬ 0 < ty) : ckQ xw x1 (M s T) B := by
  refine ckq_w (o := aSg d0 ds d2 T) ⟨fun y => n.1.1 (h.1.1 y), fun y => ?_⟩ hm g
  cases ea : List.foldl lfA d0 ds T with
  | none =>
    refine ⟨fun _ => n.1.1 ((h.1.2 y).1 ea), fun e => absurd ?_ e⟩
    unfold aSg
    rw [ea]
    rfl
  | some t0 =>
    have := h.2 y t0 ea
    omega
end
theorem e29_a {a b c d e f g h i : Prop} {P Q R : Prop} (z : (a ∧ b ∧ c ∧ P) ∨ (d ∧ e ∧ f ∧ Q) ∨ (g ∧ h ∧ i ∧ R)) : (a ∧ b ∧ c) ∨ (d ∧ e ∧ f) ∨ (g ∧ h ∧ i) := by
  rcases z with z | z | z
  · exact Or.inl ⟨z.1, z.2.1, z.2.2.1⟩
  · exact Or.inr (Or.inl ⟨z.1, z.2.1, z.2.2.1⟩)
  · exact Or.inr (Or.inr ⟨z.1, z.2.1, z.2.2.1⟩)
theorem ia_1 {T : gV} {k w w2 r : Int} (h : (r = 1 ∧ wIn T k 333 w = true) ∨ (r = 0 ∧ ¬ wIn T k 333 w = true)) (e : w = w2) (hr : ¬ r = 0) : wIn T k 333 w2 = true := by
  subst e
  exact (h.resolve_right (fun z => hr z.1)).2
theorem ia_0 {T : gV} {k w w2 r : Int} (h : (r = 1 ∧ wIn T k 333 w = true) ∨ (r = 0 ∧ ¬ wIn T k 333 w = true)) (e : w = w2) (hr : r = 0) : ¬ wIn T k 333 w2 = true := by
  subst e
  exact (h.resolve_left (fun z => by omega)).2
section
variable {T : gV} {wt ty li mo : nA} {k : Int}
theorem kr_3 (h : kRel T wt ty li mo k) (hw : rd wt k = 2) : nK T k = 3 := by
  unfold kRel at h
  omega
theorem kr_3n (h : kRel T wt ty li mo k) (hw : ¬ rd wt k = 2) : ¬ nK T k = 3 := by
  unfold kRel at h
  omega
theorem kr_4 (h : kRel T wt ty li mo k) (hw : rd wt k = 3) : nK T k = 4 := by
  unfold kRel at h
  omega
theorem kr_4n (h : kRel T wt ty li mo k) (hw : ¬ rd wt k = 3) : ¬ nK T k = 4 := by
  unfold kRel at h
  omega
theorem kr_l (h : kRel T wt ty li mo k) (hw : rd wt k = 4 ∨ (rd wt k = 5 ∧ (rd ty k = 8 ∨ rd ty k = 0))) : isLa T k := by
  unfold kRel at h
  unfold isLa
  omega
theorem kr_ln (h : kRel T wt ty li mo k) (hw : ¬ rd wt k = 4 ∧ ¬ (rd wt k = 5 ∧ rd ty k = 8)) : ¬ isLa T k := by
  unfold kRel at h
  unfold isLa
  omega
theorem kr_s (h : kRel T wt ty li mo k) (hw : rd wt k = 0 ∨ rd wt k = 5) (ht : rd ty k = 1 ∨ rd ty k = 0) : isSi T k ∧ nT T k = 1 := by
  unfold kRel at h
  unfold isSi
  omega
theorem kr_sn (h : kRel T wt ty li mo k) (hw : ¬ (rd wt k = 0 ∨ rd wt k = 5) ∨ ¬ rd ty k = 1) : ¬ isSi T k ∨ (isSi T k ∧ nT T k = 2) := by
  unfold kRel at h
  unfold isSi
  omega
theorem kz_3 (h : nK T k = 0) : ¬ nK T k = 3 := by omega
theorem kz_4 (h : nK T k = 0) : ¬ nK T k = 4 := by omega
theorem kz_l (h : nK T k = 0) : ¬ isLa T k := by unfold isLa; omega
theorem kz_s (h : nK T k = 0) : ¬ isSi T k ∨ (isSi T k ∧ nT T k = 2) := Or.inl (by unfold isSi; omega)
end
