section
variable {f9 : Nat → Int32} {f11 : Nat → Int64} {tc : Int32} {pl ky kd : Int → Int} {ss sw sw1 so1 ks1 sc1 ta1 tf tf1 tf2 : Int} {T T1 : gV} {m m1 : Nat → Int32}
theorem gSo_20 : gSo f9 f11 tc 0 = gSL (kC f9 tc) (kK f11) 333 20 := by
  unfold gSo
  rw [show (20 - (0 : Int32).toInt).toNat = 20 from by decide]
theorem P_prg (h : cQ (gBlk kd ky 333 (gSL kd ky 333 20) (-1) 0 0 0) tf tf1 (rB pl ky ss T T1 sw sw1 m m1 0 so1 ks1 (-1) sc1 ta1)) (c : tf1 = -2 → kd ta1 = 0) : cQ (gPrg kd ky 333) tf tf1 (rB pl ky ss T T1 sw sw1 m m1 0 so1 ks1 (-1) sc1 ta1) := by
  unfold gPrg
  refine cQ_b h (fun h => h) ?_
  rintro a - q ra
  have e : ta1 = a.1 := ra.1
  exact cQ_it (fun _ => by rw [← e]; exact c q) (cQ_e (fun _ => ra))
theorem P_prn {R : Int × Int × Int × gB → Prop} (h : cQ (gBlk kd ky 333 (gSL kd ky 333 20) (-1) 0 0 0) tf tf1 (rB pl ky ss T T1 sw sw1 m m1 0 so1 ks1 (-1) sc1 ta1)) (c : tf1 = -2 → ¬ kd ta1 = 0) (hn : ¬ tf2 = -2) : cQ (gPrg kd ky 333) tf tf2 R := by
  refine cQ_p (fun q => absurd q hn) (fun q0 => ?_)
  have : gPrg kd ky 333 = none := by
    unfold gPrg
    cases hF : gBlk kd ky 333 (gSL kd ky 333 20) (-1) 0 0 0 with
    | none => rfl
    | some a =>
      have r := (h.2 q0).1 a hF
      have e : ta1 = a.1 := r.2.1
      show (if kd a.1 = 0 then some a else none) = none
      rw [← e, if_neg (c r.1)]
  rw [this]
  exact cQ_n hn
theorem K_prg (h : oK (gPrg kd ky 333) T sw 0) : oK (gBlk kd ky 333 (gSL kd ky 333 20) (-1) 0 0 0) T sw 0 := by
  unfold gPrg at h
  refine oK_q h (fun r a hr => ?_)
  by_cases hc : kd r.1 = 0
  · rw [if_pos hc] at hr
    cases hr
    exact ⟨[], (List.append_nil _).symm⟩
  · rw [if_neg hc] at hr
    cases hr
end
