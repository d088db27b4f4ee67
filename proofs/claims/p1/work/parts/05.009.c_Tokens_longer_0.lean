set_option maxHeartbeats 4000000 in
set_option maxRecDepth 100000 in
theorem c_Tokens_longer_0 (l : Launch) (D : va_G) (kI kJ kB kZ : ClassId) (sz : Nat) (i0 : Int64) (i1 : Int32) : Met l (⟨"AlgolJudge$Tokens", "longer", "(JI)J"⟩ : MethodName) (Cond.code (⟨"AlgolJudge$Tokens", "longer", "(JI)J"⟩ : MethodName) prog_8_method_13_code 3 (some .long) :: gT) ({ frames := 1, cells := 0, slots := 0, locals := 20 }) (va_Pc [.long i0, .int i1] (xP D (xT kI kJ kB kZ) xN [] sz)) (va_Ql (fun (r : Int64) (_ : Unit) => True) (fun _ t => xQ D (xT kI kJ kB kZ) (va_A [] sz) [] t) (va_A [] sz)) 0 0 (va_A [] sz) := by
  refine Met.ofW (cc := prog_8_method_13_code) (maxL := 3) (ret := some .long) (by decide +kernel) rfl ?_
  intro p e s m args below meth c s₁ B hml hv
  obtain ⟨rfl, hsz, hP, hK, hD0, hE⟩ := hv
  have hx := B.exec
  have hb := B.bytes
  have hr := B.returns
  have hts : ∀ w ∈ gT, w.before _ s = true := fun w h => atoms_spec (ws := Cond.code (⟨"AlgolJudge$Tokens", "longer", "(JI)J"⟩ : MethodName) prog_8_method_13_code 3 (some .long) :: gT) B.pre w (List.mem_cons_of_mem _ h)
  have hown : s.vm.findClass "AlgolJudge$Tokens" = some m.cls := findClass_of_methodNamed B.named
  have hlocks := B.notSynchronized
  subst hsz
  have hD := hD0.self (sz := s.heap.size)
  generalize hAe : va_A [] s.heap.size = A at hD hE ⊢
  have hA : ∀ q : Nat, s.heap.size ≤ q → A q := fun q h => by rw [← hAe]; exact Or.inr h
  have hS : va_S A s.heap s.heap [] := va_S.rf
  have hP : va_P D cls9 [] s.heap := hP
  have hl := lv_entry ([.long i0, .int i1]) (n := 3) (Nat.le_of_ble_eq_true rfl)
  rw [lg_entry_eq]
  generalize (lg_sl ([.long i0, .int i1]) ++ List.replicate (3 - (lg_sl ([.long i0, .int i1])).length) Slot.unset).toArray = ls at hl ⊢
  have hl : lv_has ls 3 [(0, .long i0), (2, .int i1)] := hl
  refine lv_lload_n hx hb d_8_13_0 rfl (lv_at hl 0 rfl) ?_
  refine lv_ldc2 (v := 37) hx hb hown (hts _ m_206) d_8_13_1 ?_
  refine lv_lmul hx hb d_8_13_4 ?_
  refine lv_iload_n hx hb d_8_13_5 rfl (lv_at hl 1 rfl) ?_
  have hPc := hP.sub (ws' := []) [] rfl
  have hDc := hD.sub (ws' := []) [] (by decide +kernel) rfl
  have hFc := va_free (wc := []) hD hS hA [] rfl
  refine va_calli (va_runS (As := [.int i1]) (rest := [.long (i0 * 37)]) ⟨hx, hb, hml, hown, hts⟩ (c_Tokens_isLetter_0 l D kI kJ kB kZ _ (i1) ) (va_cwS 1 hts (gT_S m_207 m_208 m_121 (gT_ws m_209)) rfl rfl rfl (by decide +kernel) ⟨(Nat.le_of_ble_eq_true rfl), (Nat.le_of_ble_eq_true rfl)⟩) ⟨xBlind xOk_N, xAtN hK hPc hDc⟩ rfl rfl hl.1 rfl (lv_room (Nat.le_of_ble_eq_true rfl)) d_8_13_6 ⟨(Nat.le_of_ble_eq_true rfl), (Nat.le_of_ble_eq_true rfl)⟩) hS (fun q _ h => hFc q h) hFc (fun r_1 u t H1 locs ht hvm hw hB hz1 hk1 hS => ?_)
  obtain ⟨hP, hD⟩ := xJoin (wr := []) (w1 := []) hP hD [] [] rfl rfl (by decide +kernel) (by decide +kernel) hk1 hFc ht hB
  generalize H1 = H at hP hS ⊢
  have hP : va_P D cls9 [] H := hP
  have hD : va_D A [] := hD
  refine lv_if_eq (tgt := 21) hx hb d_8_13_9 (by decide +kernel) (fun c_2 => ?_) (fun c_2 => ?_)
  · skip
    refine lv_iload_n hx hb d_8_13_21 rfl (lv_at hl 1 rfl) ?_
    refine lv_bipush (v := 48) hx hb d_8_13_22 (by decide +kernel) ?_
    refine lv_isub hx hb d_8_13_24 ?_
    refine lv_bipush (v := 27) hx hb d_8_13_25 (by decide +kernel) ?_
    refine lv_iadd hx hb d_8_13_27 ?_
    refine lv_i2l (v := (((i1 - 48) + 27).toInt64)) hx hb d_8_13_28 rfl ?_
    refine lv_ladd hx hb d_8_13_29 ?_
    have hP9 := hP.sub (ws' := []) [] rfl
    have hD9 := hD.sub (ws' := []) [] (by decide +kernel) rfl
    exact W.lret (v := ((i0 * 37) + (((i1 - 48) + 27).toInt64))) hx hb hr (fun t ht hW => ⟨⟨((i0 * 37) + (((i1 - 48) + 27).toInt64)), (), rfl, trivial, xEnd hK hP9 hD9 ht hW⟩, hS.F ht⟩) hS.2.2 d_8_13_30
  · skip
    refine lv_iload_n hx hb d_8_13_12 rfl (lv_at hl 1 rfl) ?_
    refine lv_bipush (v := 97) hx hb d_8_13_13 (by decide +kernel) ?_
    refine lv_isub hx hb d_8_13_15 ?_
    refine lv_iconst (v := 1) hx hb d_8_13_16 (by decide +kernel) ?_
    refine lv_iadd hx hb d_8_13_17 ?_
    refine lv_goto (tgt := 28) hx hb d_8_13_18 (by decide +kernel) ?_
    refine lv_i2l (v := (((i1 - 97) + 1).toInt64)) hx hb d_8_13_28 rfl ?_
    refine lv_ladd hx hb d_8_13_29 ?_
    have hP9 := hP.sub (ws' := []) [] rfl
    have hD9 := hD.sub (ws' := []) [] (by decide +kernel) rfl
    exact W.lret (v := ((i0 * 37) + (((i1 - 97) + 1).toInt64))) hx hb hr (fun t ht hW => ⟨⟨((i0 * 37) + (((i1 - 97) + 1).toInt64)), (), rfl, trivial, xEnd hK hP9 hD9 ht hW⟩, hS.F ht⟩) hS.2.2 d_8_13_30
