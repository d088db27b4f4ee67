def frI (kd : Int → Int) (X : Int → gR) (G : Option (Int × gB)) (B0 : gB) (i pos : Int) (so st on tw th fo nx wh wt li mr : nA) (ky : Int → Int) (xn hi klo hd en : Int) (U : gB → Prop) : Prop := ∃ (k : Nat) (b : gB) (c : gV → Option Int), 3002 ≤ (k : Int) + (pos - i) ∧ G = gLp kd 38 (sEl kd X) k (pos + 1) b ∧ b.2.1 = [] ∧ (∀ e, (¬ b.2.2.2 e = none ↔ ¬ B0.2.2.2 e = none ∧ ¬ c e = none)) ∧ FLX so st on tw th fo nx wh wt li kd ky xn hi klo klo c ∧ SGC so on tw th nx wt mr xn hi klo klo hd en ∧ U b
section
variable {so st on tw th fo nx wh wt li mr : nA} {kd ky pl : Int → Int} {X : Int → gR} {G : Option (Int × gB)} {B0 : gB} {i pos pos2 xn hi hi2 klo hd en w o q : Int} {P3 : Int → Int → Int → gS}
theorem fr_0 (hG : G = gLp kd 38 (sEl kd X) 3002 (pos + 1) B0) (hp : i ≤ pos) (hv : B0.2.1 = []) (he : en < 0) (hh : hi = xn) {U : gB → Prop} (hU : U B0) : frI kd X G B0 i pos so st on tw th fo nx wh wt li mr ky xn hi klo hd en U :=
  ⟨3002, B0, fun _ => some 0, by omega, hG, hv, fun e => ⟨fun z => ⟨z, fun y => by cases y⟩, fun z => z.1⟩, FLX_0 (fun r a b => by omega) (fun k a b => by omega) (fun e _ z => by cases z), ⟨CV_0 (fun r a b => by omega), Or.inl ⟨he, hh⟩⟩, hU⟩
theorem sEl_y {b : gB} {a : Int × gB} (h : gEl1 kd X pos = some a) : sEl kd X b pos = some (a.1, bSq b a.2) := by
  unfold sEl
  rw [h]
  rfl
theorem sEl_n {b : gB} (h : gEl1 kd X pos = none) : sEl kd X b pos = none := by
  unfold sEl
  rw [h]
  rfl
theorem fr_fx {c : gV → Option Int} {a : Int × gB} (h : FLX so st on tw th fo nx wh wt li kd ky xn hi klo klo c) (hn : nD so st on tw th fo nx wh kd ky hi hi2 (fun e => ¬ a.2.2.2.2 e = none)) (ht : rd so hi = 29) (h1 : xn ≤ hi) : FLX so st on tw th fo nx wh wt li kd ky xn hi2 klo klo (fun e => (c e).bind fun _ => a.2.2.2.2 e) :=
  FLX_2 (b1 := c) (b2 := a.2.2.2.2) h (FLX_1 (klo := klo) (khi := klo) hn (Int.le_refl _) (fun r a b => by omega) (fun k a b => by omega) (fun e _ => Iff.rfl) (by unfold stN; omega)) h1 (by have := hn.2.1; omega) (Int.le_refl _) (Int.le_refl _) (fun e _ => by
    rw [bd_n, on_s (o := c e)]
    exact ⟨fun ⟨x, y, z⟩ => ⟨⟨x, y⟩, z⟩, fun ⟨⟨x, y⟩, z⟩ => ⟨x, y, z⟩⟩)
theorem fr_s {k : Nat} {b : gB} {c : gV → Option Int} {a : Int × gB} (h1 : 3002 ≤ (k : Int) + (pos - i)) (hG : G = gLp kd 38 (sEl kd X) k (pos + 1) b) (hle : pos - i ≤ 3000) (hv : b.2.1 = []) (hb : ∀ e, (¬ b.2.2.2 e = none ↔ ¬ B0.2.2.2 e = none ∧ ¬ c e = none)) (ha : gEl1 kd X (pos + 1) = some a) (hav : a.2.2.1 = []) (hc : kd a.1 = 38) (hlt : pos < a.1) (hp : pos2 = a.1) (hx : FLX so st on tw th fo nx wh wt li kd ky xn hi klo klo (fun e => (c e).bind fun _ => a.2.2.2.2 e)) (hs : SGC so on tw th nx wt mr xn hi klo klo hd en) {U : gB → Prop} (hU : U (bSq b a.2)) : frI kd X G B0 i pos2 so st on tw th fo nx wh wt li mr ky xn hi klo hd en U := by
  obtain ⟨k', rfl⟩ : ∃ k' : Nat, k = k' + 1 := ⟨k - 1, by omega⟩
  have e := hG.trans (gLq_s (sEl_y ha))
  rw [if_pos hc] at e
  refine ⟨k', bSq b a.2, _, by omega, by rw [hp]; exact e, ?_, fun e => ?_, hx, hs, hU⟩
  · show b.2.1 ++ a.2.2.1 = []
    rw [hv, hav]
    rfl
  · rw [bSq_n, hb e, bd_n, on_s (o := c e)]
    exact ⟨fun ⟨⟨x, y, z⟩, u⟩ => ⟨x, y, z, u⟩, fun ⟨x, y, z, u⟩ => ⟨⟨x, y, z⟩, u⟩⟩
theorem fr_x {k : Nat} {b : gB} {a : Int × gB} (h1 : 3002 ≤ (k : Int) + (pos - i)) (hG : G = gLp kd 38 (sEl kd X) k (pos + 1) b) (hle : pos - i ≤ 3000) (ha : gEl1 kd X (pos + 1) = some a) (hc : ¬ kd a.1 = 38) : G = some (a.1, bSq b a.2) := by
  obtain ⟨k', rfl⟩ : ∃ k' : Nat, k = k' + 1 := ⟨k - 1, by omega⟩
  have e := hG.trans (gLq_s (sEl_y ha))
  rw [if_neg hc] at e
  exact e
theorem fr_n {k : Nat} {b : gB} (hG : G = gLp kd 38 (sEl kd X) k (pos + 1) b) (ha : gEl1 kd X (pos + 1) = none) : G = none := hG.trans (gLq_n (sEl_n ha))
theorem Y_fo (h : kd i = 14) (h1 : kd (i + 1) = 27) (h2 : kd (i + 1 + 1) = 47) : gFor kd ky X P3 w i o q = (gLp kd 38 (sEl kd X) 3002 (i + 1 + 1 + 1) (bUs (i + 1) w (fun e => xCt e (gMe e w (ky (i + 1)))))).bind fun p => (tkn kd 15 p.1).bind fun j => (P3 j o q).bind fun r => some (r.1, r.2.1, r.2.2.1, bSq p.2 r.2.2.2) := by
  unfold gFor gEls
  rw [tk_y h]
  show (tkn kd 27 (i + 1)).bind _ = _
  rw [tk_y h1]
  show (tkn kd 47 (i + 1 + 1)).bind _ = _
  rw [tk_y h2]
  rfl
theorem Y_fon (h : kd i = 14) (h1 : ¬ kd (i + 1) = 27) : gFor kd ky X P3 w i o q = none := by
  unfold gFor
  rw [tk_y h]
  show (tkn kd 27 (i + 1)).bind _ = _
  rw [tk_x h1]
  rfl
theorem Y_fom (h : kd i = 14) (h1 : kd (i + 1) = 27) (h2 : ¬ kd (i + 1 + 1) = 47) : gFor kd ky X P3 w i o q = none := by
  unfold gFor
  rw [tk_y h]
  show (tkn kd 27 (i + 1)).bind _ = _
  rw [tk_y h1]
  show (tkn kd 47 (i + 1 + 1)).bind _ = _
  rw [tk_x h2]
  rfl
theorem nD_fo {r t : Int} (h0 : 0 ≤ r) (hs : rd so r = 26) (ht : rd st r = t) (hw : rd wh r = w + 1) (hk : kd t = 27) : nD so st on tw th fo nx wh kd ky r (r + 1) (fun e => ¬ (bUs t w (fun e => xCt e (gMe e w (ky t)))).2.2.2 e = none) :=
  ⟨h0, by omega, noB_e (by omega), Or.inr (Or.inr (Or.inr (Or.inr (Or.inl ⟨hs, by rw [ht]; exact hk, by rw [ht, hw, show w + 1 - 1 = w from by omega]; rfl⟩))))⟩
theorem st_fo {b bb : gB} {c : gV → Option Int} {aE : Int × gB} {a : Int × Int × Int × gB} {F : gS} {xa xs ow xw n1 n2 khi r : Int} {P : gV → Prop} {x0 : gW} (hF : F = some (a.1, a.2.1, a.2.2.1, bSq (bSq b aE.2) a.2.2.2)) (h1 : xa = a.1) (h2 : xs = a.2.1) (h3 : ow = a.2.2.1) (hR : RQ P (gRun pl a.2.2.2.2.1 x0) xw) (hv : b.2.1 = []) (hav : aE.2.2.1 = []) (hb : ∀ e, (¬ b.2.2.2 e = none ↔ ¬ bb.2.2.2 e = none ∧ ¬ c e = none)) (hn : nD so st on tw th fo nx wh kd ky xn (xn + 1) (fun e => ¬ bb.2.2.2 e = none)) (hs : rd so xn = 26) (hx : FLX so st on tw th fo nx wh wt li kd ky (xn + 1) n1 klo klo (fun e => (c e).bind fun _ => aE.2.2.2.2 e)) (hS : SGC so on tw th nx wt mr (xn + 1) n1 klo klo hd en) (ho : rd on xn = hd) (hfx : FLX so st on tw th fo nx wh wt li kd ky n1 n2 klo khi a.2.2.2.2.2.2) (hcv : CV so on tw th nx wt mr n1 n2 klo khi (fun c => c = r)) (hr : rd tw xn = r) (hr2 : r < n2) (hn1 : xn + 1 ≤ n1) (hn2 : n1 ≤ n2) (hk : klo ≤ khi) : stR F xa xs ow P pl x0 xw so st on tw th fo nx wh wt li mr kd ky xn n2 klo khi xn := by
  have z0 := hn.1
  refine ⟨_, hF, h1, h2, h3, ?_, ?_, ?_⟩
  · show RQ P (gRun pl ((b.2.1 ++ aE.2.2.1) ++ a.2.2.2.2.1) x0) xw
    rw [hv, hav]
    exact hR
  · refine FLX_2 (b1 := (bSq b aE.2).2.2.2) (b2 := a.2.2.2.2.2.2) (mid := n1) (kmid := klo) ?_ hfx (by omega) hn2 (Int.le_refl _) hk (fun e _ => bSq_n)
    refine FLX_2 (b1 := bb.2.2.2) (b2 := fun e => (c e).bind fun _ => aE.2.2.2.2 e) (mid := xn + 1) (kmid := klo) (FLX_1 (klo := klo) (khi := klo) hn (Int.le_refl _) (fun r a b => by omega) (fun k a b => by omega) (fun e _ => Iff.rfl) (by unfold stN; omega)) hx (by omega) hn1 (Int.le_refl _) (Int.le_refl _) (fun e _ => ?_)
    rw [bSq_n, hb e, bd_n, on_s (o := c e)]
    exact ⟨fun ⟨⟨x, y, z⟩, u⟩ => ⟨x, y, z, u⟩, fun ⟨x, y, z, u⟩ => ⟨⟨x, y, z⟩, u⟩⟩
  · refine CV_n (Q := fun c => sgQ nx (xn + 1) n1 hd c ∨ c = r) (CV_2 (mid := n1) (kmid := klo) hS.1 hcv (by omega) hn1 hn2 (Int.le_refl _) hk (fun c z => Or.inl z) (fun c z => Or.inr z)) (fun c c0 c1 cq => ⟨c0, c1, Or.inr (Or.inl ⟨hs, ?_⟩)⟩) (fun c z => ?_)
    · rcases cq with ⟨n, cq⟩ | cq
      · refine Or.inr ⟨n, ?_⟩
        rw [ho]
        have y := lR_u (nx := nx) (nx' := nx) (c := xn + 1 - 1) (hi := n1) (hi2 := n2) (by omega) hn2 (fun _ _ _ => Or.inl rfl) n _ _ cq
        rw [show xn + 1 - 1 = xn from by omega] at y
        exact y
      · exact Or.inl (by rw [hr]; exact cq)
    · rcases z with ⟨n, z⟩ | z
      · have : ∀ (n : Nat) (e d : Int), lR nx (xn + 1 - 1) n1 n e d → d < n1 := by
          intro n
          induction n with
          | zero => intro e d y; have := y.1; have := y.2.2; omega
          | succ n ih => intro e d y; exact ih _ _ y.2.2
        have := this n _ _ z
        omega
      · omega
end
