def uSt (kd : Int → Int) (i : Int) (F : gS) : Prop := ∀ a, F = some a → uS kd i a.1 a.2.2.2.1
def hMu (kd : Int → Int) (lm : gM) : Prop := ∀ c wo w i o q, uSt kd i (lm c wo w i o q)
section
variable {kd ky : Int → Int} {L : Int} {lo : gL} {lm : gM} {X : Int → Int → gR} {Y : Int → gR} {P D : Int → Int → Int → gS} {i i0 i2 j k o q w wo ty : Int} {F G : gS} {b : gB}
theorem uSt_n : uSt kd i none := fun a ha => by cases ha
theorem uSt_i {d : Prop} [Decidable d] (h : d → uSt kd i F) (g : ¬ d → uSt kd i G) : uSt kd i (if d then F else G) := by
  by_cases hd : d
  · rw [if_pos hd]
    exact h hd
  · rw [if_neg hd]
    exact g hd
theorem uSt_b {α : Type} {H : Option α} {K : α → gS} (h : ∀ x, H = some x → uSt kd i (K x)) : uSt kd i (H.bind K) := fun a ha => by
  obtain ⟨x, hx, h2⟩ := bind_s ha
  exact h x hx a h2
theorem uSt_e {x y z : Int} {b : gB} (h : uS kd i x b.1) : uSt kd i (some (x, y, z, b)) := fun a ha => by
  cases ha
  exact h
theorem uSt_k {n : Int} (h : tkn kd n i = some j) (g : uSt kd j F) : uSt kd i F := fun a ha => uS_k h (g a ha)
theorem uSt_cho (hY : ∀ i p, Y i = some p → uS kd i p.1 p.2.1) (hP : ∀ i o q, uSt kd i (P i o q)) : uSt kd i (gCho kd Y P i o q) := by
  refine uSt_b (fun i1 h1 => uSt_k h1 (uSt_b (fun p hp => uSt_b (fun j hj => uSt_i (fun _ => uSt_n) (fun _ => uSt_b (fun r hr => ?_))))))
  have z := uS_a (uS_r (hY _ _ hp) hj) (hP _ _ _ r hr)
  refine uSt_i (fun _ => uSt_b (fun k hk => uSt_b (fun s hs => uSt_e ?_))) (fun _ => uSt_e z)
  show uS kd i1 s.1 ((p.2.1 ++ r.2.2.2.1) ++ s.2.2.2.1)
  exact uS_a (uS_r z hk) (hP _ _ _ s hs)
theorem uSt_for (hY : ∀ i p, Y i = some p → uS kd i p.1 p.2.1) (hP : ∀ i o q, uSt kd i (P i o q)) : uSt kd i (gFor kd ky Y P w i o q) := by
  refine uSt_b (fun i1 h1 => uSt_k h1 (uSt_b (fun i2 h2 => uSt_b (fun i3 h3 => uSt_b (fun p hp => uSt_b (fun j hj => uSt_b (fun r hr => uSt_e ?_)))))))
  have e2 := (tkn_j h2).2
  have e3 := (tkn_j h3).2
  have z := s_els hY (b := bUs i1 w _) (i0 := i1) (show uS kd i1 i3 [(i1, w)] from uS_1 (Int.le_refl _) (by omega) (tkn_j h2).1) hp
  show uS kd i1 r.1 (p.2.1 ++ r.2.2.2.1)
  exact uS_a (uS_r z hj) (hP _ _ _ r hr)
theorem uSt_pro (hM : hMu kd lm) : uSt kd i (gPro kd ky L lm ty w i o q) := by
  refine uSt_b (fun i1 h1 => uSt_k h1 (uSt_b (fun j hj => uSt_k hj (uSt_i (fun _ => uSt_b (fun p hp => uSt_b (fun r hr => uSt_e ?_))) (fun _ => uSt_n)))))
  have z := s_hed (show (bSq (bEv (vD ky i1 3 ty w)) (bOp (vOpP w) w)).1 = [] from rfl) hp
  have y := hM _ _ _ _ _ _ r hr
  show uS kd j r.1 (p.2.1 ++ r.2.2.2.1)
  rw [z.2, List.nil_append]
  exact uS_w y z.1 (Int.le_refl _)
theorem uSt_tyd (hX : ∀ w i p, X w i = some p → uS kd i p.1 p.2.1) (hM : hMu kd lm) : uSt kd i (gTyD kd ky L X lm wo ty w i o q) := by
  unfold gTyD
  exact uSt_i (fun _ => uSt_pro hM) (fun _ => uSt_i (fun _ => uSt_b (fun i1 h1 => uSt_k h1 (uSt_b (fun p hp => uSt_e (s_sgs hX hp))))) (fun _ => uSt_b (fun p hp => uSt_e (s_vas hp))))
theorem uSt_w {i2 : Int} (h : uSt kd i2 F) (g : i ≤ i2) : uSt kd i F := fun a ha => uS_w (h a ha) g (Int.le_refl _)
theorem uSt_dcl (hX : ∀ w i p, X w i = some p → uS kd i p.1 p.2.1) (hM : hMu kd lm) : uSt kd i (gDcl kd ky L X lm wo w i o q) := by
  unfold gDcl
  exact uSt_i (fun _ => uSt_b (fun p hp => uSt_e (s_swi hp))) (fun _ => uSt_i (fun _ => uSt_b (fun i1 h1 => uSt_k h1 (uSt_b (fun t ht => uSt_w (uSt_b (fun p hp => uSt_e (s_vas hp))) (s_typ ht))))) (fun _ => uSt_i (fun _ => uSt_b (fun t ht => uSt_w (uSt_tyd hX hM) (s_typ ht))) (fun _ => uSt_tyd hX hM)))
theorem uSt_dcs (hD : ∀ i o q, uSt kd i (D i o q)) : ∀ (f : Nat) (i o q : Int) (b : gB), uS kd i0 i b.1 → uSt kd i0 (gDcs kd D f i o q b) := by
  intro f
  induction f with
  | zero => intro i o q b _; exact uSt_n
  | succ f ih =>
    intro i o q b hb
    show uSt kd i0 (if isDc (kd i) = true then (D i o q).bind fun p => (tkn kd 39 p.1).bind fun j => gDcs kd D f j p.2.1 p.2.2.1 (bSq b p.2.2.2) else some (i, o, q, b))
    refine uSt_i (fun _ => uSt_b (fun p hp => uSt_b (fun j hj => ih _ _ _ _ ?_))) (fun _ => uSt_e hb)
    show uS kd i0 j (b.1 ++ p.2.2.2.1)
    exact uS_r (uS_a hb (hD _ _ _ p hp)) hj
theorem uSt_sts (hP : ∀ i o q, uSt kd i (P i o q)) : ∀ (f : Nat) (i o q : Int) (b : gB), uS kd i0 i b.1 → uSt kd i0 (gLp kd 39 (sSt kd ky w P) f i (o, q, b)) := by
  intro f
  induction f with
  | zero => intro i o q b _; exact uSt_n
  | succ f ih =>
    intro i o q b hb
    show uSt kd i0 ((sSt kd ky w P (o, q, b) i).bind fun p => if kd p.1 = 39 then gLp kd 39 (sSt kd ky w P) f (p.1 + 1) p.2 else some p)
    refine uSt_b (fun r hr => ?_)
    obtain ⟨u, hu, hr⟩ := bind_s hr
    obtain ⟨p, hp, hu⟩ := bind_s hu
    obtain ⟨s, hs, hu⟩ := bind_s hu
    cases hu
    have er : r = (s.1, s.2.1, s.2.2.1, bSq b (bSq p.2 s.2.2.2)) := by cases hr; rfl
    have z := s_lbs _ _ _ _ (show b0.1 = [] from rfl) hp
    have y : uS kd i0 r.1 r.2.2.2.1 := by
      rw [er]
      show uS kd i0 s.1 (b.1 ++ (p.2.1 ++ s.2.2.2.1))
      rw [z.2, List.nil_append]
      exact uS_a hb (uS_w (hP _ _ _ s hs) z.1 (Int.le_refl _))
    exact uSt_i (fun _ => ih _ _ _ _ (uS_n y)) (fun _ => fun a ha => by cases ha; exact y)
theorem uSt_blk (hM : hMu kd lm) : uSt kd i (gBlk kd ky L lm w i o q) := by
  refine uSt_b (fun i1 h1 => uSt_k h1 (uSt_i (fun _ => uSt_b (fun p hp => uSt_b (fun r hr => uSt_b (fun t ht => uSt_e ?_)))) (fun _ => uSt_n)))
  have z1 := uSt_dcs (kd := kd) (i0 := i1) (fun i o' q => hM 1 w o i o' q) 3002 i1 (o + 1) q (bOp (vOpB w) w) (uS_0 (Int.le_refl _)) p hp
  have z2 := uSt_sts (kd := kd) (ky := ky) (w := o) (i0 := i1) (fun i o' q => hM 0 0 o i o' q) 3002 _ _ _ _ z1 r hr
  exact uS_r z2 ht
theorem uSt_pln (hl : uL kd lo) (hM : hMu kd lm) : uSt kd i (gPln kd ky L lo lm w i o q) := by
  have hY : ∀ i p, gExp kd ky lo w i = some p → uS kd i p.1 p.2.1 := fun i p hp => uS_E (u_exp hl hp)
  unfold gPln
  refine uSt_i (fun _ => uSt_blk hM) (fun _ => uSt_i (fun _ => uSt_i (fun _ => uSt_b (fun p hp => uSt_e (s_asn hl hY hp))) (fun _ => uSt_b (fun p hp => uSt_e (s_cll hl hp)))) (fun _ => uSt_i (fun _ => uSt_b (fun p hp => uSt_e (s_jmp hl hp))) (fun _ => uSt_i (fun _ => uSt_cho hY (fun i o q => hM 0 0 w i o q)) (fun _ => uSt_i (fun _ => uSt_for hY (fun i o q => hM 0 0 w i o q)) (fun _ => uSt_i (fun _ => uSt_b (fun i1 h1 => uSt_k h1 (uSt_b (fun p hp => uSt_e (uS_E (u_brk hl hp)))))) (fun _ => uSt_e (uS_0 (Int.le_refl _))))))))
theorem hMu_sl : ∀ n : Nat, hMu kd (gSL kd ky L n) := by
  intro n
  induction n with
  | zero => exact fun _ _ _ _ _ _ => uSt_n
  | succ n ih =>
    intro c wo w i o q
    show uSt kd i (gSB kd ky L (gLev kd ky n) (gSL kd ky L n) c wo w i o q)
    unfold gSB
    exact uSt_i (fun _ => uSt_pln (u_lev n) ih) (fun _ => uSt_dcl (fun w i p hp => uS_E (u_exp (u_lev n) hp)) ih)
theorem uSt_prg {a : Int × Int × Int × gB} (h : gPrg kd ky L = some a) : uS kd 0 a.1 a.2.2.2.1 := by
  obtain ⟨r, hr, h2⟩ := bind_s h
  by_cases hc : kd r.1 = 0
  · rw [if_pos hc] at h2
    have e : r = a := Option.some.inj h2
    rw [e] at hr
    exact uSt_blk (hMu_sl 20) a hr
  · rw [if_neg hc] at h2
    cases h2
end
