set_option maxHeartbeats 4000000 in
set_option maxRecDepth 100000 in
theorem c_Tokens_isLetter_0 (l : Launch) (D : va_G) (kI kJ kB kZ : ClassId) (sz : Nat) (i0 : Int32) : Met l (⟨"AlgolJudge$Tokens", "isLetter", "(I)Z"⟩ : MethodName) (Cond.code (⟨"AlgolJudge$Tokens", "isLetter", "(I)Z"⟩ : MethodName) prog_8_method_10_code 1 (some .boolean) :: gT) ({ frames := 0, cells := 0, slots := 0, locals := 0 }) (va_Pc [.int i0] (xP D (xT kI kJ kB kZ) xN [] sz)) (va_Qi (fun (r : Int32) (_ : Unit) => True) (fun _ t => xQ D (xT kI kJ kB kZ) (va_A [] sz) [] t) (va_A [] sz)) 0 0 (va_A [] sz) := by
  refine Met.ofW (cc := prog_8_method_10_code) (maxL := 1) (ret := some .boolean) (by decide +kernel) rfl ?_
  intro p e s m args below meth c s₁ B hml hv
  obtain ⟨rfl, hsz, hP, hK, hD0, hE⟩ := hv
  have hx := B.exec
  have hb := B.bytes
  have hr := B.returns
  have hts : ∀ w ∈ gT, w.before _ s = true := fun w h => atoms_spec (ws := Cond.code (⟨"AlgolJudge$Tokens", "isLetter", "(I)Z"⟩ : MethodName) prog_8_method_10_code 1 (some .boolean) :: gT) B.pre w (List.mem_cons_of_mem _ h)
  have hown : s.vm.findClass "AlgolJudge$Tokens" = some m.cls := findClass_of_methodNamed B.named
  have hlocks := B.notSynchronized
  subst hsz
  have hD := hD0.self (sz := s.heap.size)
  generalize hAe : va_A [] s.heap.size = A at hD hE ⊢
  have hA : ∀ q : Nat, s.heap.size ≤ q → A q := fun q h => by rw [← hAe]; exact Or.inr h
  have hS : va_S A s.heap s.heap [] := va_S.rf
  have hP : va_P D cls9 [] s.heap := hP
  have hl := lv_entry ([.int i0]) (n := 1) (Nat.le_of_ble_eq_true rfl)
  rw [lg_entry_eq]
  generalize (lg_sl ([.int i0]) ++ List.replicate (1 - (lg_sl ([.int i0])).length) Slot.unset).toArray = ls at hl ⊢
  have hl : lv_has ls 1 [(0, .int i0)] := hl
  refine lv_iload_n hx hb d_8_10_0 rfl (lv_at hl 0 rfl) ?_
  refine lv_bipush (v := 97) hx hb d_8_10_1 (by decide +kernel) ?_
  refine lv_icmp_lt (tgt := 16) hx hb d_8_10_3 (by decide +kernel) (fun c_1 => ?_) (fun c_1 => ?_)
  · skip
    refine lv_iconst (v := 0) hx hb d_8_10_16 (by decide +kernel) ?_
    have hP9 := hP.sub (ws' := []) [] rfl
    have hD9 := hD.sub (ws' := []) [] (by decide +kernel) rfl
    exact W.zret (v := 0) (ty := .boolean) hx hb hr (by decide +kernel) (fun t ht hW => ⟨⟨0, (), rfl, trivial, xEnd hK hP9 hD9 ht hW⟩, hS.F ht⟩) hS.2.2 d_8_10_17
  · skip
    refine lv_iload_n hx hb d_8_10_6 rfl (lv_at hl 0 rfl) ?_
    refine lv_bipush (v := 122) hx hb d_8_10_7 (by decide +kernel) ?_
    refine lv_icmp_gt (tgt := 16) hx hb d_8_10_9 (by decide +kernel) (fun c_2 => ?_) (fun c_2 => ?_)
    · skip
      refine lv_iconst (v := 0) hx hb d_8_10_16 (by decide +kernel) ?_
      have hP9 := hP.sub (ws' := []) [] rfl
      have hD9 := hD.sub (ws' := []) [] (by decide +kernel) rfl
      exact W.zret (v := 0) (ty := .boolean) hx hb hr (by decide +kernel) (fun t ht hW => ⟨⟨0, (), rfl, trivial, xEnd hK hP9 hD9 ht hW⟩, hS.F ht⟩) hS.2.2 d_8_10_17
    · skip
      refine lv_iconst (v := 1) hx hb d_8_10_12 (by decide +kernel) ?_
      refine lv_goto (tgt := 17) hx hb d_8_10_13 (by decide +kernel) ?_
      have hP9 := hP.sub (ws' := []) [] rfl
      have hD9 := hD.sub (ws' := []) [] (by decide +kernel) rfl
      exact W.zret (v := 1) (ty := .boolean) hx hb hr (by decide +kernel) (fun t ht hW => ⟨⟨1, (), rfl, trivial, xEnd hK hP9 hD9 ht hW⟩, hS.F ht⟩) hS.2.2 d_8_10_17
