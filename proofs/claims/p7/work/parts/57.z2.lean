def jM (o : Option (gV × List (Int × Int))) (y y' : Int) : Prop := (o = none → y' = y) ∧ ∀ x, o = some x → y' = bkN x.1 (x.1 11 0).toNat
section
variable {kd ky pl : Int → Int} {T0 : gV} {a : Int × Int × Int × gB} {wd ho ar ins wt ty li mo fi sl io bv : nA} {xk xs xc xp xw y y' : Int} {P : gV → Prop}
theorem rq_z (h0 : T0 10 0 = 0) (h1 : T0 11 0 = 0) (hk : xk = 0) (hs : xs = 1) (hc : xc = 0) (hp : xp = -1) (hw : xw < 0) (ha : rd ar 0 = -1) : RQ (fun T => rCs T ky wd ho ar ins wt ty li mo fi sl io bv xk xs xk xc xp) (T0, 3001) xw := by
  subst hk hs hc hp
  refine ⟨fun z => by omega, fun _ => ⟨rfl, ?_⟩⟩
  show rCs T0 ky wd ho ar ins wt ty li mo fi sl io bv 0 1 0 0 (-1)
  exact ⟨⟨⟨h0.symm, fun k z => by omega⟩, ⟨by omega, ha, fun s z => by omega⟩, ⟨by omega, by omega, fun k z => by omega, fun s z => by omega, fun s z => by omega, fun k z => by omega⟩, fun s z => by omega, fun s z => by omega, fun k k0 k1 => by omega, fun k k0 k1 => by omega⟩, sPr_m (by omega)⟩
theorem prg_f (h : gBlk kd ky 3002 (gSL kd ky 3002 20) (-1) 0 0 0 = none) : gPrg kd ky 3002 = none := by
  unfold gPrg
  rw [h]
  rfl
theorem prg_k (h : gBlk kd ky 3002 (gSL kd ky 3002 20) (-1) 0 0 0 = some a) (hk : ¬ kd a.1 = 0) : gPrg kd ky 3002 = none := by
  unfold gPrg
  rw [h]
  exact if_neg hk
theorem prg_s (h : gBlk kd ky 3002 (gSL kd ky 3002 20) (-1) 0 0 0 = some a) (hk : kd a.1 = 0) : gPrg kd ky 3002 = some a := by
  unfold gPrg
  rw [h]
  exact if_pos hk
theorem jz_n (hp : plK kd pl) (hb : ∀ t, 0 ≤ pl t ∧ pl t ≤ 3000) (h : gPrg kd ky 3002 = none) : gJ T0 kd ky pl = none := by
  rw [prg_L hp (hb 0).1 (fun t => (hb t).2)] at h
  unfold gJ
  rw [h]
  rfl
theorem jz_e (hp : plK kd pl) (hb : ∀ t, 0 ≤ pl t ∧ pl t ≤ 3000) (h : gPrg kd ky 3002 = some a) : gJ T0 kd ky pl = if (gRun pl a.2.2.2.2.1 (T0, 3001)).2 = 3001 ∧ (a.2.2.2.2.2.2 (gRun pl a.2.2.2.2.1 (T0, 3001)).1).isSome = true then some ((gRun pl a.2.2.2.2.1 (T0, 3001)).1, a.2.2.2.1) else none := by
  rw [prg_L hp (hb 0).1 (fun t => (hb t).2)] at h
  unfold gJ
  rw [h]
  rfl
theorem jz_d (hp : plK kd pl) (hb : ∀ t, 0 ≤ pl t ∧ pl t ≤ 3000) (h : gPrg kd ky 3002 = some a) (hR : RQ P (gRun pl a.2.2.2.2.1 (T0, 3001)) xw) (hx : 0 ≤ xw) : gJ T0 kd ky pl = none := by
  rw [jz_e hp hb h]
  refine if_neg (fun z => ?_)
  have := hR.1 hx
  have := z.1
  omega
theorem jz_b (hp : plK kd pl) (hb : ∀ t, 0 ≤ pl t ∧ pl t ≤ 3000) (h : gPrg kd ky 3002 = some a) (hm : ¬ ¬ a.2.2.2.2.2.2 (gRun pl a.2.2.2.2.1 (T0, 3001)).1 = none) : gJ T0 kd ky pl = none := by
  rw [jz_e hp hb h]
  refine if_neg (fun z => hm (fun y => ?_))
  have := z.2
  rw [y] at this
  cases this
theorem jz_y (hp : plK kd pl) (hb : ∀ t, 0 ≤ pl t ∧ pl t ≤ 3000) (h : gPrg kd ky 3002 = some a) (hR : RQ P (gRun pl a.2.2.2.2.1 (T0, 3001)) xw) (hx : xw < 0) (hm : ¬ a.2.2.2.2.2.2 (gRun pl a.2.2.2.2.1 (T0, 3001)).1 = none) : gJ T0 kd ky pl = some ((gRun pl a.2.2.2.2.1 (T0, 3001)).1, a.2.2.2.1) := by
  rw [jz_e hp hb h]
  refine if_pos ⟨(hR.2 hx).1, ?_⟩
  cases e : a.2.2.2.2.2.2 (gRun pl a.2.2.2.2.1 (T0, 3001)).1 with
  | none => exact absurd e hm
  | some v => rfl
theorem jz_3 (hp : plK kd pl) (hb : ∀ t, 0 ≤ pl t ∧ pl t ≤ 3000) (h : gPrg kd ky 3002 = some a) : a.2.1 ≤ 333 := by
  have z := gF_prg (L' := 333) hp h
  have := z.2.2.1
  have := z.2.2.2.1
  have := (hb a.1).2
  have := (hb 0).1
  omega
theorem jM_n (h : gJ T0 kd ky pl = none) (hy : y' = y) : jM (gJ T0 kd ky pl) y y' := ⟨fun _ => hy, fun x hx => by rw [h] at hx; cases hx⟩
theorem jM_y {T : gV} {u : List (Int × Int)} (h : gJ T0 kd ky pl = some (T, u)) (hy : y' = bkN T (T 11 0).toNat) : jM (gJ T0 kd ky pl) y y' := ⟨(fun e => by rw [h] at e; cases e), (fun x hx => by rw [h] at hx; cases hx; exact hy)⟩
variable {so st on tw th fo nx wh mr : nA} {xn : Int}
theorem fx_o {b : gV → Option Int} (h : FLX so st on tw th fo nx wh wt li kd ky 0 xn 0 xk b) : ∃ M N : Int → gV → Prop, ndA so st on tw th fo nx wh kd ky xn M ∧ swA so st nx wh wt li kd ky xn xk N ∧ ∀ e, clC e → (¬ b e = none ↔ alM so xn M e ∧ alS wt xk N e) := h
end
