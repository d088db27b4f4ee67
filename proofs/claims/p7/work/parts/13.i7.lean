section
variable {kd ky pl : Int → Int} {L : Int} {T T' : gV} {sw sw' : Int} {m m' : Nat → Int32} {a : Int × Int × Int × gB}
theorem prg_1 (hk : plK kd pl) (h : gPrg kd ky L = some a) (ha : a.1 ≤ 3000) (hx : bX pl ky 0 T T' sw sw' m m' a.2.2.2) (h10 : T 10 0 = 0) (h11 : T 11 0 = 0) : gRun pl a.2.2.2.2.1 (T, sw) = (T', sw') ∧ T' 10 0 = nDe a.2.2.2.2.1 ∧ nDe a.2.2.2.2.1 ≤ 1500 ∧ T' 11 0 = ((gPs a).length : Int) ∧ okPar T' (gPs a) 0 ∧ m' = m := by
  have z := gF_prg (L' := 333) hk h
  have e := hx.1 rfl
  have b := z.2.1.2.2
  have g := e.2.2.2 (by omega)
  have n := gRun_n (pl := pl) a.2.2.2.2.1 T sw
  have p := gRun_p (pl := pl) a.2.2.2.2.1 (T, sw) (by show 0 ≤ T 11 0; omega)
  rw [g] at n p
  have n : T' 10 0 = T 10 0 + nDe a.2.2.2.2.1 := n
  have p1 : T' 11 0 = T 11 0 + ((opns a.2.2.2.2.1).length : Int) := p.1
  have p2 : okPar T' (opns a.2.2.2.2.1) (T 11 0) := p.2.2
  have e2 : gPs a = opns a.2.2.2.2.1 := z.2.1.2.1
  rw [h11] at p1 p2
  rw [e2]
  exact ⟨g, by omega, by omega, by omega, p2, e.1⟩
theorem prg_ok (hk : plK kd pl) (h : gPrg kd ky 333 = some a) (ha : a.1 ≤ 3000) (hx : bX pl ky 0 T T' sw sw' m m' a.2.2.2) (h10 : T 10 0 = 0) (h11 : T 11 0 = 0) (hw : sw' ≤ 3001) : oK (gPrg kd ky 333) T' sw' 0 := ⟨hw, a, h, (prg_1 hk h ha hx h10 h11).2.2.2.2.1⟩
theorem prg_L (hk : plK kd pl) (h0 : 0 ≤ pl 0) (hp : ∀ t, pl t ≤ 3000) : gPrg kd ky 3002 = gPrg kd ky 333 := by
  cases h : gPrg kd ky 3002 with
  | some a =>
    have z := gF_prg (L' := 333) hk h
    have := hp a.1
    exact (z.2.2.2.2 (by have := z.2.2.1; have := z.2.2.2.1; omega)).symm
  | none =>
    cases g : gPrg kd ky 333 with
    | none => rfl
    | some a =>
      have z := gF_prg (L' := 3002) hk g
      have := hp a.1
      rw [z.2.2.2.2 (by have := z.2.2.1; have := z.2.2.2.1; omega)] at h
      cases h
end
