set_option maxHeartbeats 8000000 in
set_option maxRecDepth 100000 in
theorem g_Tokens_isLetter (l : Launch) (D : va_G) (kI kJ kB kZ : ClassId) (sz : Nat) (p1 : Int32)  : Met l (⟨"AlgolJudge$Tokens", "isLetter", "(I)Z"⟩ : MethodName) (Cond.code (⟨"AlgolJudge$Tokens", "isLetter", "(I)Z"⟩ : MethodName) prog_8_method_10_code 1 (some .boolean) :: gT) ({ frames := 0, cells := 0, slots := 0, locals := 0 }) (va_Pc [.int p1] (xP D (xT kI kJ kB kZ) xN [] sz)) (va_Qi (fun (r : Int32) (_ : Unit) => True) (fun _ t => xQ D (xT kI kJ kB kZ) (va_A [] sz) [] t) (va_A [] sz)) 0 0 (va_A [] sz) := by
  refine Met.ofW (cc := prog_8_method_10_code) (maxL := 1) (ret := some .boolean) (by decide +kernel) rfl ?_
  intro p e s m args below meth c s₁ B hml hv
  obtain ⟨rfl, hsz, hP, hK, hD0, hE⟩ := hv
  have hx := B.exec
  have hb := B.bytes
  have hr := B.returns
  have hts : ∀ w ∈ gT, w.before _ s = true := fun w h => atoms_spec (ws := Cond.code (⟨"AlgolJudge$Tokens", "isLetter", "(I)Z"⟩ : MethodName) prog_8_method_10_code 1 (some .boolean) :: gT) B.pre w (List.mem_cons_of_mem _ h)
  have hown : s.vm.findClass "AlgolJudge$Tokens" = some m.cls := findClass_of_methodNamed B.named
  have hlocks := B.notSynchronized
  subst hsz
  have hD := hD0.self (sz := s.heap.size)
  generalize hAe : va_A [] s.heap.size = A at hD hE ⊢
  have hA : ∀ q : Nat, s.heap.size ≤ q → A q := fun q h => by rw [← hAe]; exact Or.inr h
  have hS : va_S A s.heap s.heap [] := va_S.rf
  have hP : va_P D cls9 [] s.heap := hP
  have hl := lv_entry ([.int p1]) (n := 1) (Nat.le_of_ble_eq_true rfl)
  rw [lg_entry_eq]
  generalize (lg_sl ([.int p1]) ++ List.replicate (1 - (lg_sl ([.int p1])).length) Slot.unset).toArray = ls at hl ⊢
  have hl : lv_has ls 1 [(0, .int p1)] := hl
  refine lv_iload_n hx hb d_8_10_0 rfl (lv_at hl 0 rfl) ?_
  refine lv_bipush (v := 97) hx hb d_8_10_1 (by decide +kernel) ?_
  refine lv_icmp_lt (tgt := 16) hx hb d_8_10_3 (by decide +kernel) (fun c_1 => ?_) (fun c_1 => ?_)
  · skip
    have tc_1 : p1.toInt < 97 := Int32.lt_iff_toInt_lt.mp c_1
    refine lv_iconst (v := 0) hx hb d_8_10_16 (by decide +kernel) ?_
    have hP9 := hP.sub (ws' := []) [] rfl
    have hD9 := hD.sub (ws' := []) [] (by decide) rfl
    exact W.zret (v := 0) (ty := .boolean) hx hb hr (by decide +kernel) (fun t ht hW => ⟨⟨0, (), rfl, trivial, xEnd hK hP9 hD9 ht hW⟩, hS.F ht⟩) hS.2.2 d_8_10_17
  · skip
    have tc_1 : ¬ p1.toInt < 97 := fun h9 => c_1 (Int32.lt_iff_toInt_lt.mpr h9)
    refine lv_iload_n hx hb d_8_10_6 rfl (lv_at hl 0 rfl) ?_
    refine lv_bipush (v := 122) hx hb d_8_10_7 (by decide +kernel) ?_
    refine lv_icmp_gt (tgt := 16) hx hb d_8_10_9 (by decide +kernel) (fun c_2 => ?_) (fun c_2 => ?_)
    · skip
      have tc_2 : 122 < p1.toInt := Int32.lt_iff_toInt_lt.mp c_2
      refine lv_iconst (v := 0) hx hb d_8_10_16 (by decide +kernel) ?_
      have hP9 := hP.sub (ws' := []) [] rfl
      have hD9 := hD.sub (ws' := []) [] (by decide) rfl
      exact W.zret (v := 0) (ty := .boolean) hx hb hr (by decide +kernel) (fun t ht hW => ⟨⟨0, (), rfl, trivial, xEnd hK hP9 hD9 ht hW⟩, hS.F ht⟩) hS.2.2 d_8_10_17
    · skip
      have tc_2 : ¬ 122 < p1.toInt := fun h9 => c_2 (Int32.lt_iff_toInt_lt.mpr h9)
      refine lv_iconst (v := 1) hx hb d_8_10_12 (by decide +kernel) ?_
      refine lv_goto (tgt := 17) hx hb d_8_10_13 (by decide +kernel) ?_
      have hP9 := hP.sub (ws' := []) [] rfl
      have hD9 := hD.sub (ws' := []) [] (by decide) rfl
      exact W.zret (v := 1) (ty := .boolean) hx hb hr (by decide +kernel) (fun t ht hW => ⟨⟨1, (), rfl, trivial, xEnd hK hP9 hD9 ht hW⟩, hS.F ht⟩) hS.2.2 d_8_10_17
set_option maxHeartbeats 8000000 in
set_option maxRecDepth 100000 in
theorem g_Tokens_isDigit (l : Launch) (D : va_G) (kI kJ kB kZ : ClassId) (sz : Nat) (p1 : Int32)  : Met l (⟨"AlgolJudge$Tokens", "isDigit", "(I)Z"⟩ : MethodName) (Cond.code (⟨"AlgolJudge$Tokens", "isDigit", "(I)Z"⟩ : MethodName) prog_8_method_11_code 1 (some .boolean) :: gT) ({ frames := 0, cells := 0, slots := 0, locals := 0 }) (va_Pc [.int p1] (xP D (xT kI kJ kB kZ) xN [] sz)) (va_Qi (fun (r : Int32) (_ : Unit) => True) (fun _ t => xQ D (xT kI kJ kB kZ) (va_A [] sz) [] t) (va_A [] sz)) 0 0 (va_A [] sz) := by
  refine Met.ofW (cc := prog_8_method_11_code) (maxL := 1) (ret := some .boolean) (by decide +kernel) rfl ?_
  intro p e s m args below meth c s₁ B hml hv
  obtain ⟨rfl, hsz, hP, hK, hD0, hE⟩ := hv
  have hx := B.exec
  have hb := B.bytes
  have hr := B.returns
  have hts : ∀ w ∈ gT, w.before _ s = true := fun w h => atoms_spec (ws := Cond.code (⟨"AlgolJudge$Tokens", "isDigit", "(I)Z"⟩ : MethodName) prog_8_method_11_code 1 (some .boolean) :: gT) B.pre w (List.mem_cons_of_mem _ h)
  have hown : s.vm.findClass "AlgolJudge$Tokens" = some m.cls := findClass_of_methodNamed B.named
  have hlocks := B.notSynchronized
  subst hsz
  have hD := hD0.self (sz := s.heap.size)
  generalize hAe : va_A [] s.heap.size = A at hD hE ⊢
  have hA : ∀ q : Nat, s.heap.size ≤ q → A q := fun q h => by rw [← hAe]; exact Or.inr h
  have hS : va_S A s.heap s.heap [] := va_S.rf
  have hP : va_P D cls9 [] s.heap := hP
  have hl := lv_entry ([.int p1]) (n := 1) (Nat.le_of_ble_eq_true rfl)
  rw [lg_entry_eq]
  generalize (lg_sl ([.int p1]) ++ List.replicate (1 - (lg_sl ([.int p1])).length) Slot.unset).toArray = ls at hl ⊢
  have hl : lv_has ls 1 [(0, .int p1)] := hl
  refine lv_iload_n hx hb d_8_11_0 rfl (lv_at hl 0 rfl) ?_
  refine lv_bipush (v := 48) hx hb d_8_11_1 (by decide +kernel) ?_
  refine lv_icmp_lt (tgt := 16) hx hb d_8_11_3 (by decide +kernel) (fun c_1 => ?_) (fun c_1 => ?_)
  · skip
    have tc_1 : p1.toInt < 48 := Int32.lt_iff_toInt_lt.mp c_1
    refine lv_iconst (v := 0) hx hb d_8_11_16 (by decide +kernel) ?_
    have hP9 := hP.sub (ws' := []) [] rfl
    have hD9 := hD.sub (ws' := []) [] (by decide) rfl
    exact W.zret (v := 0) (ty := .boolean) hx hb hr (by decide +kernel) (fun t ht hW => ⟨⟨0, (), rfl, trivial, xEnd hK hP9 hD9 ht hW⟩, hS.F ht⟩) hS.2.2 d_8_11_17
  · skip
    have tc_1 : ¬ p1.toInt < 48 := fun h9 => c_1 (Int32.lt_iff_toInt_lt.mpr h9)
    refine lv_iload_n hx hb d_8_11_6 rfl (lv_at hl 0 rfl) ?_
    refine lv_bipush (v := 57) hx hb d_8_11_7 (by decide +kernel) ?_
    refine lv_icmp_gt (tgt := 16) hx hb d_8_11_9 (by decide +kernel) (fun c_2 => ?_) (fun c_2 => ?_)
    · skip
      have tc_2 : 57 < p1.toInt := Int32.lt_iff_toInt_lt.mp c_2
      refine lv_iconst (v := 0) hx hb d_8_11_16 (by decide +kernel) ?_
      have hP9 := hP.sub (ws' := []) [] rfl
      have hD9 := hD.sub (ws' := []) [] (by decide) rfl
      exact W.zret (v := 0) (ty := .boolean) hx hb hr (by decide +kernel) (fun t ht hW => ⟨⟨0, (), rfl, trivial, xEnd hK hP9 hD9 ht hW⟩, hS.F ht⟩) hS.2.2 d_8_11_17
    · skip
      have tc_2 : ¬ 57 < p1.toInt := fun h9 => c_2 (Int32.lt_iff_toInt_lt.mpr h9)
      refine lv_iconst (v := 1) hx hb d_8_11_12 (by decide +kernel) ?_
      refine lv_goto (tgt := 17) hx hb d_8_11_13 (by decide +kernel) ?_
      have hP9 := hP.sub (ws' := []) [] rfl
      have hD9 := hD.sub (ws' := []) [] (by decide) rfl
      exact W.zret (v := 1) (ty := .boolean) hx hb hr (by decide +kernel) (fun t ht hW => ⟨⟨1, (), rfl, trivial, xEnd hK hP9 hD9 ht hW⟩, hS.F ht⟩) hS.2.2 d_8_11_17
set_option maxHeartbeats 8000000 in
set_option maxRecDepth 100000 in
theorem g_Tokens_fault (l : Launch) (D : va_G) (kI kJ kB kZ : ClassId) (sz : Nat) (h2 : Nat) (h9 : Nat) (h10 : Nat) (h11 : Nat) (h12 : Nat) (tc : Int32) (ta : Int32) (td : Int32) (tf : Int32) (f9 : Nat → Int32) (f10 : Nat → Int32) (f11 : Nat → Int64) (f12 : Nat → Int64) (hf_T1 : 1 ≤ tc.toInt) (hf_T2 : tc.toInt ≤ 3001) (hf_T3 : 0 ≤ ta.toInt) (hf_T4 : ta.toInt < tc.toInt) (hf_T5 : tf.toInt = -2 → 0 ≤ td.toInt ∧ td.toInt ≤ 20) (hf_T6 : ∀ j : Nat, 0 ≤ (f10 j).toInt) : Met l (⟨"AlgolJudge$Tokens", "fault", "()I"⟩ : MethodName) (Cond.code (⟨"AlgolJudge$Tokens", "fault", "()I"⟩ : MethodName) prog_8_method_16_code 1 (some .int) :: gT) ({ frames := 0, cells := 0, slots := 0, locals := 0 }) (va_Pc [.ref h2] (xP D (xT kI kJ kB kZ) xN [(h2, .inr (0, [.ref h9, .ref h10, .ref h11, .ref h12, .int tc, .int ta, .int td, .int tf])), (h9, .inl (kI, 3001, .inl f9)), (h10, .inl (kI, 3001, .inl f10)), (h11, .inl (kJ, 3001, .inr (.inl f11))), (h12, .inl (kJ, 27, .inr (.inl f12)))] sz)) (va_Qi (fun (r : Int32) (_ : Unit) => r = tf) (fun _ t => xQ D (xT kI kJ kB kZ) (va_A [(h2, .inr (0, [.ref h9, .ref h10, .ref h11, .ref h12, .int tc, .int ta, .int td, .int tf])), (h9, .inl (kI, 3001, .inl f9)), (h10, .inl (kI, 3001, .inl f10)), (h11, .inl (kJ, 3001, .inr (.inl f11))), (h12, .inl (kJ, 27, .inr (.inl f12)))] sz) [(h2, .inr (0, [.ref h9, .ref h10, .ref h11, .ref h12, .int tc, .int ta, .int td, .int tf])), (h9, .inl (kI, 3001, .inl f9)), (h10, .inl (kI, 3001, .inl f10)), (h11, .inl (kJ, 3001, .inr (.inl f11))), (h12, .inl (kJ, 27, .inr (.inl f12)))] t) (va_A [(h2, .inr (0, [.ref h9, .ref h10, .ref h11, .ref h12, .int tc, .int ta, .int td, .int tf])), (h9, .inl (kI, 3001, .inl f9)), (h10, .inl (kI, 3001, .inl f10)), (h11, .inl (kJ, 3001, .inr (.inl f11))), (h12, .inl (kJ, 27, .inr (.inl f12)))] sz)) 0 0 (va_A [(h2, .inr (0, [.ref h9, .ref h10, .ref h11, .ref h12, .int tc, .int ta, .int td, .int tf])), (h9, .inl (kI, 3001, .inl f9)), (h10, .inl (kI, 3001, .inl f10)), (h11, .inl (kJ, 3001, .inr (.inl f11))), (h12, .inl (kJ, 27, .inr (.inl f12)))] sz) := by
  refine Met.ofW (cc := prog_8_method_16_code) (maxL := 1) (ret := some .int) (by decide +kernel) rfl ?_
  intro p e s m args below meth c s₁ B hml hv
  obtain ⟨rfl, hsz, hP, hK, hD0, hE⟩ := hv
  have hx := B.exec
  have hb := B.bytes
  have hr := B.returns
  have hts : ∀ w ∈ gT, w.before _ s = true := fun w h => atoms_spec (ws := Cond.code (⟨"AlgolJudge$Tokens", "fault", "()I"⟩ : MethodName) prog_8_method_16_code 1 (some .int) :: gT) B.pre w (List.mem_cons_of_mem _ h)
  have hown : s.vm.findClass "AlgolJudge$Tokens" = some m.cls := findClass_of_methodNamed B.named
  have hlocks := B.notSynchronized
  subst hsz
  have hD := hD0.self (sz := s.heap.size)
  generalize hAe : va_A [(h2, .inr (0, [.ref h9, .ref h10, .ref h11, .ref h12, .int tc, .int ta, .int td, .int tf])), (h9, .inl (kI, 3001, .inl f9)), (h10, .inl (kI, 3001, .inl f10)), (h11, .inl (kJ, 3001, .inr (.inl f11))), (h12, .inl (kJ, 27, .inr (.inl f12)))] s.heap.size = A at hD hE ⊢
  have hA : ∀ q : Nat, s.heap.size ≤ q → A q := fun q h => by rw [← hAe]; exact Or.inr h
  have hS : va_S A s.heap s.heap [] := va_S.rf
  have hP : va_P D cls9 [(h2, .inr (0, [.ref h9, .ref h10, .ref h11, .ref h12, .int tc, .int ta, .int td, .int tf])), (h9, .inl (kI, 3001, .inl f9)), (h10, .inl (kI, 3001, .inl f10)), (h11, .inl (kJ, 3001, .inr (.inl f11))), (h12, .inl (kJ, 27, .inr (.inl f12)))] s.heap := hP
  have hl := lv_entry ([.ref h2]) (n := 1) (Nat.le_of_ble_eq_true rfl)
  rw [lg_entry_eq]
  generalize (lg_sl ([.ref h2]) ++ List.replicate (1 - (lg_sl ([.ref h2])).length) Slot.unset).toArray = ls at hl ⊢
  have hl : lv_has ls 1 [(0, .ref h2)] := hl
  refine lv_aload_n hx hb d_8_16_0 rfl (lv_at hl 0 rfl) ?_
  refine va_get (D := D) (ci := 0) (v := .int tf) (C := "AlgolJudge$Tokens") (T := T_Tokens) (N := 8) hx hb hts i_Tokens hown hK hP 0 rfl rfl 7 (by decide +kernel) (hts _ m_217) (fun _ h9 => h9) rfl d_8_16_1 ?_
  have hP9 := hP.sub (ws' := [(h2, .inr (0, [.ref h9, .ref h10, .ref h11, .ref h12, .int tc, .int ta, .int td, .int tf])), (h9, .inl (kI, 3001, .inl f9)), (h10, .inl (kI, 3001, .inl f10)), (h11, .inl (kJ, 3001, .inr (.inl f11))), (h12, .inl (kJ, 27, .inr (.inl f12)))]) [0, 1, 2, 3, 4] rfl
  have hD9 := hD.sub (ws' := [(h2, .inr (0, [.ref h9, .ref h10, .ref h11, .ref h12, .int tc, .int ta, .int td, .int tf])), (h9, .inl (kI, 3001, .inl f9)), (h10, .inl (kI, 3001, .inl f10)), (h11, .inl (kJ, 3001, .inr (.inl f11))), (h12, .inl (kJ, 27, .inr (.inl f12)))]) [0, 1, 2, 3, 4] (by decide) rfl
  exact W.iret (v := tf) hx hb hr (fun t ht hW => ⟨⟨tf, (), rfl, rfl, xEnd hK hP9 hD9 ht hW⟩, hS.F ht⟩) hS.2.2 d_8_16_4
set_option maxHeartbeats 8000000 in
set_option maxRecDepth 100000 in
theorem g_Tokens_kind (l : Launch) (D : va_G) (kI kJ kB kZ : ClassId) (sz : Nat) (h2 : Nat) (h9 : Nat) (h10 : Nat) (h11 : Nat) (h12 : Nat) (tc : Int32) (ta : Int32) (td : Int32) (tf : Int32) (f9 : Nat → Int32) (f10 : Nat → Int32) (f11 : Nat → Int64) (f12 : Nat → Int64) (hf_T1 : 1 ≤ tc.toInt) (hf_T2 : tc.toInt ≤ 3001) (hf_T3 : 0 ≤ ta.toInt) (hf_T4 : ta.toInt < tc.toInt) (hf_T5 : tf.toInt = -2 → 0 ≤ td.toInt ∧ td.toInt ≤ 20) (hf_T6 : ∀ j : Nat, 0 ≤ (f10 j).toInt) : Met l (⟨"AlgolJudge$Tokens", "kind", "()I"⟩ : MethodName) (Cond.code (⟨"AlgolJudge$Tokens", "kind", "()I"⟩ : MethodName) prog_8_method_17_code 1 (some .int) :: gT) ({ frames := 0, cells := 0, slots := 0, locals := 0 }) (va_Pc [.ref h2] (xP D (xT kI kJ kB kZ) xN [(h2, .inr (0, [.ref h9, .ref h10, .ref h11, .ref h12, .int tc, .int ta, .int td, .int tf])), (h9, .inl (kI, 3001, .inl f9)), (h10, .inl (kI, 3001, .inl f10)), (h11, .inl (kJ, 3001, .inr (.inl f11))), (h12, .inl (kJ, 27, .inr (.inl f12)))] sz)) (va_Qi (fun (r : Int32) (_ : Unit) => r.toInt = -2 ∨ tf.toInt = -2) (fun _ t => xQ D (xT kI kJ kB kZ) (va_A [(h2, .inr (0, [.ref h9, .ref h10, .ref h11, .ref h12, .int tc, .int ta, .int td, .int tf])), (h9, .inl (kI, 3001, .inl f9)), (h10, .inl (kI, 3001, .inl f10)), (h11, .inl (kJ, 3001, .inr (.inl f11))), (h12, .inl (kJ, 27, .inr (.inl f12)))] sz) [(h2, .inr (0, [.ref h9, .ref h10, .ref h11, .ref h12, .int tc, .int ta, .int td, .int tf])), (h9, .inl (kI, 3001, .inl f9)), (h10, .inl (kI, 3001, .inl f10)), (h11, .inl (kJ, 3001, .inr (.inl f11))), (h12, .inl (kJ, 27, .inr (.inl f12)))] t) (va_A [(h2, .inr (0, [.ref h9, .ref h10, .ref h11, .ref h12, .int tc, .int ta, .int td, .int tf])), (h9, .inl (kI, 3001, .inl f9)), (h10, .inl (kI, 3001, .inl f10)), (h11, .inl (kJ, 3001, .inr (.inl f11))), (h12, .inl (kJ, 27, .inr (.inl f12)))] sz)) 0 0 (va_A [(h2, .inr (0, [.ref h9, .ref h10, .ref h11, .ref h12, .int tc, .int ta, .int td, .int tf])), (h9, .inl (kI, 3001, .inl f9)), (h10, .inl (kI, 3001, .inl f10)), (h11, .inl (kJ, 3001, .inr (.inl f11))), (h12, .inl (kJ, 27, .inr (.inl f12)))] sz) := by
  refine Met.ofW (cc := prog_8_method_17_code) (maxL := 1) (ret := some .int) (by decide +kernel) rfl ?_
  intro p e s m args below meth c s₁ B hml hv
  obtain ⟨rfl, hsz, hP, hK, hD0, hE⟩ := hv
  have hx := B.exec
  have hb := B.bytes
  have hr := B.returns
  have hts : ∀ w ∈ gT, w.before _ s = true := fun w h => atoms_spec (ws := Cond.code (⟨"AlgolJudge$Tokens", "kind", "()I"⟩ : MethodName) prog_8_method_17_code 1 (some .int) :: gT) B.pre w (List.mem_cons_of_mem _ h)
  have hown : s.vm.findClass "AlgolJudge$Tokens" = some m.cls := findClass_of_methodNamed B.named
  have hlocks := B.notSynchronized
  subst hsz
  have hD := hD0.self (sz := s.heap.size)
  generalize hAe : va_A [(h2, .inr (0, [.ref h9, .ref h10, .ref h11, .ref h12, .int tc, .int ta, .int td, .int tf])), (h9, .inl (kI, 3001, .inl f9)), (h10, .inl (kI, 3001, .inl f10)), (h11, .inl (kJ, 3001, .inr (.inl f11))), (h12, .inl (kJ, 27, .inr (.inl f12)))] s.heap.size = A at hD hE ⊢
  have hA : ∀ q : Nat, s.heap.size ≤ q → A q := fun q h => by rw [← hAe]; exact Or.inr h
  have hS : va_S A s.heap s.heap [] := va_S.rf
  have hP : va_P D cls9 [(h2, .inr (0, [.ref h9, .ref h10, .ref h11, .ref h12, .int tc, .int ta, .int td, .int tf])), (h9, .inl (kI, 3001, .inl f9)), (h10, .inl (kI, 3001, .inl f10)), (h11, .inl (kJ, 3001, .inr (.inl f11))), (h12, .inl (kJ, 27, .inr (.inl f12)))] s.heap := hP
  have hl := lv_entry ([.ref h2]) (n := 1) (Nat.le_of_ble_eq_true rfl)
  rw [lg_entry_eq]
  generalize (lg_sl ([.ref h2]) ++ List.replicate (1 - (lg_sl ([.ref h2])).length) Slot.unset).toArray = ls at hl ⊢
  have hl : lv_has ls 1 [(0, .ref h2)] := hl
  refine lv_aload_n hx hb d_8_17_0 rfl (lv_at hl 0 rfl) ?_
  refine va_get (D := D) (ci := 0) (v := .int tf) (C := "AlgolJudge$Tokens") (T := T_Tokens) (N := 8) hx hb hts i_Tokens hown hK hP 0 rfl rfl 7 (by decide +kernel) (hts _ m_217) (fun _ h9 => h9) rfl d_8_17_1 ?_
  refine lv_bipush (v := (-2)) hx hb d_8_17_4 (by decide +kernel) ?_
  refine lv_icmp_ne (tgt := 32) hx hb d_8_17_6 (by decide +kernel) (fun c_1 => ?_) (fun c_1 => ?_)
  · skip
    have tc_1 : ¬ tf.toInt = (-2) := fun h9 => c_1 (Int32.toInt_inj.mp h9)
    refine lv_bipush (v := (-2)) hx hb d_8_17_32 (by decide +kernel) ?_
    have hP9 := hP.sub (ws' := [(h2, .inr (0, [.ref h9, .ref h10, .ref h11, .ref h12, .int tc, .int ta, .int td, .int tf])), (h9, .inl (kI, 3001, .inl f9)), (h10, .inl (kI, 3001, .inl f10)), (h11, .inl (kJ, 3001, .inr (.inl f11))), (h12, .inl (kJ, 27, .inr (.inl f12)))]) [0, 1, 2, 3, 4] rfl
    have hD9 := hD.sub (ws' := [(h2, .inr (0, [.ref h9, .ref h10, .ref h11, .ref h12, .int tc, .int ta, .int td, .int tf])), (h9, .inl (kI, 3001, .inl f9)), (h10, .inl (kI, 3001, .inl f10)), (h11, .inl (kJ, 3001, .inr (.inl f11))), (h12, .inl (kJ, 27, .inr (.inl f12)))]) [0, 1, 2, 3, 4] (by decide) rfl
    have hrp : ((-2) : Int) = -2 ∨ tf.toInt = -2 := by first |  omega | assumption | exact pk_nc _ | exact Or.inl ⟨by omega, by omega, by assumption⟩ | exact Or.inr ⟨by omega, by decide +kernel⟩ | exact fun h9 => absurd h9 (by omega) | exact fun _ => isH_no1 (by omega) | exact fun _ => isH_no2 (by assumption) (by assumption) (by omega) | (intro h9; omega) | (intro h8 h9; omega)
    exact W.iret (v := (-2)) hx hb hr (fun t ht hW => ⟨⟨(-2), (), rfl, hrp, xEnd hK hP9 hD9 ht hW⟩, hS.F ht⟩) hS.2.2 d_8_17_34
  · skip
    have tc_1 : tf.toInt = (-2) := congrArg Int32.toInt c_1
    refine lv_aload_n hx hb d_8_17_9 rfl (lv_at hl 0 rfl) ?_
    refine va_get (D := D) (ci := 0) (v := .int ta) (C := "AlgolJudge$Tokens") (T := T_Tokens) (N := 8) hx hb hts i_Tokens hown hK hP 0 rfl rfl 5 (by decide +kernel) (hts _ m_215) (fun _ h9 => h9) rfl d_8_17_10 ?_
    refine lv_aload_n hx hb d_8_17_13 rfl (lv_at hl 0 rfl) ?_
    refine va_get (D := D) (ci := 0) (v := .int tc) (C := "AlgolJudge$Tokens") (T := T_Tokens) (N := 8) hx hb hts i_Tokens hown hK hP 0 rfl rfl 4 (by decide +kernel) (hts _ m_214) (fun _ h9 => h9) rfl d_8_17_14 ?_
    refine lv_icmp_ge (tgt := 32) hx hb d_8_17_17 (by decide +kernel) (fun c_2 => ?_) (fun c_2 => ?_)
    · skip
      have tc_2 : tc.toInt ≤ ta.toInt := Int32.le_iff_toInt_le.mp c_2
      refine lv_bipush (v := (-2)) hx hb d_8_17_32 (by decide +kernel) ?_
      have hP9 := hP.sub (ws' := [(h2, .inr (0, [.ref h9, .ref h10, .ref h11, .ref h12, .int tc, .int ta, .int td, .int tf])), (h9, .inl (kI, 3001, .inl f9)), (h10, .inl (kI, 3001, .inl f10)), (h11, .inl (kJ, 3001, .inr (.inl f11))), (h12, .inl (kJ, 27, .inr (.inl f12)))]) [0, 1, 2, 3, 4] rfl
      have hD9 := hD.sub (ws' := [(h2, .inr (0, [.ref h9, .ref h10, .ref h11, .ref h12, .int tc, .int ta, .int td, .int tf])), (h9, .inl (kI, 3001, .inl f9)), (h10, .inl (kI, 3001, .inl f10)), (h11, .inl (kJ, 3001, .inr (.inl f11))), (h12, .inl (kJ, 27, .inr (.inl f12)))]) [0, 1, 2, 3, 4] (by decide) rfl
      have hrp : ((-2) : Int) = -2 ∨ tf.toInt = -2 := by first |  omega | assumption | exact pk_nc _ | exact Or.inl ⟨by omega, by omega, by assumption⟩ | exact Or.inr ⟨by omega, by decide +kernel⟩ | exact fun h9 => absurd h9 (by omega) | exact fun _ => isH_no1 (by omega) | exact fun _ => isH_no2 (by assumption) (by assumption) (by omega) | (intro h9; omega) | (intro h8 h9; omega)
      exact W.iret (v := (-2)) hx hb hr (fun t ht hW => ⟨⟨(-2), (), rfl, hrp, xEnd hK hP9 hD9 ht hW⟩, hS.F ht⟩) hS.2.2 d_8_17_34
    · skip
      have tc_2 : ¬ tc.toInt ≤ ta.toInt := fun h9 => c_2 (Int32.le_iff_toInt_le.mpr h9)
      refine lv_aload_n hx hb d_8_17_20 rfl (lv_at hl 0 rfl) ?_
      refine va_get (D := D) (ci := 0) (v := .ref h9) (C := "AlgolJudge$Tokens") (T := T_Tokens) (N := 8) hx hb hts i_Tokens hown hK hP 0 rfl rfl 0 (by decide +kernel) (hts _ m_210) (fun _ h9 => h9) rfl d_8_17_21 ?_
      refine lv_aload_n hx hb d_8_17_24 rfl (lv_at hl 0 rfl) ?_
      refine va_get (D := D) (ci := 0) (v := .int ta) (C := "AlgolJudge$Tokens") (T := T_Tokens) (N := 8) hx hb hts i_Tokens hown hK hP 0 rfl rfl 5 (by decide +kernel) (hts _ m_215) (fun _ h9 => h9) rfl d_8_17_25 ?_
      refine va_iald hx hb hK hP 1 0 rfl rfl (vp_in_iff.mpr ⟨by omega, by omega⟩) d_8_17_28 ?_
      refine lv_topi (fun z_3 ez_3 => ?_)
      refine lv_goto (tgt := 34) hx hb d_8_17_29 (by decide +kernel) ?_
      have hP9 := hP.sub (ws' := [(h2, .inr (0, [.ref h9, .ref h10, .ref h11, .ref h12, .int tc, .int ta, .int td, .int tf])), (h9, .inl (kI, 3001, .inl f9)), (h10, .inl (kI, 3001, .inl f10)), (h11, .inl (kJ, 3001, .inr (.inl f11))), (h12, .inl (kJ, 27, .inr (.inl f12)))]) [0, 1, 2, 3, 4] rfl
      have hD9 := hD.sub (ws' := [(h2, .inr (0, [.ref h9, .ref h10, .ref h11, .ref h12, .int tc, .int ta, .int td, .int tf])), (h9, .inl (kI, 3001, .inl f9)), (h10, .inl (kI, 3001, .inl f10)), (h11, .inl (kJ, 3001, .inr (.inl f11))), (h12, .inl (kJ, 27, .inr (.inl f12)))]) [0, 1, 2, 3, 4] (by decide) rfl
      have hrp : z_3.toInt = -2 ∨ tf.toInt = -2 := by first |  omega | assumption | exact pk_nc _ | exact Or.inl ⟨by omega, by omega, by assumption⟩ | exact Or.inr ⟨by omega, by decide +kernel⟩ | exact fun h9 => absurd h9 (by omega) | exact fun _ => isH_no1 (by omega) | exact fun _ => isH_no2 (by assumption) (by assumption) (by omega) | (intro h9; omega) | (intro h8 h9; omega)
      exact W.iret (v := z_3) hx hb hr (fun t ht hW => ⟨⟨z_3, (), rfl, hrp, xEnd hK hP9 hD9 ht hW⟩, hS.F ht⟩) hS.2.2 d_8_17_34
set_option maxHeartbeats 8000000 in
set_option maxRecDepth 100000 in
theorem g_Tokens_next (l : Launch) (D : va_G) (kI kJ kB kZ : ClassId) (sz : Nat) (h2 : Nat) (h9 : Nat) (h10 : Nat) (h11 : Nat) (h12 : Nat) (tc : Int32) (ta : Int32) (td : Int32) (tf : Int32) (f9 : Nat → Int32) (f10 : Nat → Int32) (f11 : Nat → Int64) (f12 : Nat → Int64) (hf_T1 : 1 ≤ tc.toInt) (hf_T2 : tc.toInt ≤ 3001) (hf_T3 : 0 ≤ ta.toInt) (hf_T4 : ta.toInt < tc.toInt) (hf_T5 : tf.toInt = -2 → 0 ≤ td.toInt ∧ td.toInt ≤ 20) (hf_T6 : ∀ j : Nat, 0 ≤ (f10 j).toInt) : Met l (⟨"AlgolJudge$Tokens", "next", "()I"⟩ : MethodName) (Cond.code (⟨"AlgolJudge$Tokens", "next", "()I"⟩ : MethodName) prog_8_method_18_code 1 (some .int) :: gT) ({ frames := 0, cells := 0, slots := 0, locals := 0 }) (va_Pc [.ref h2] (xP D (xT kI kJ kB kZ) xN [(h2, .inr (0, [.ref h9, .ref h10, .ref h11, .ref h12, .int tc, .int ta, .int td, .int tf])), (h9, .inl (kI, 3001, .inl f9)), (h10, .inl (kI, 3001, .inl f10)), (h11, .inl (kJ, 3001, .inr (.inl f11))), (h12, .inl (kJ, 27, .inr (.inl f12)))] sz)) (va_Qi (fun (r : Int32) (_ : Unit) => True) (fun _ t => xQ D (xT kI kJ kB kZ) (va_A [(h2, .inr (0, [.ref h9, .ref h10, .ref h11, .ref h12, .int tc, .int ta, .int td, .int tf])), (h9, .inl (kI, 3001, .inl f9)), (h10, .inl (kI, 3001, .inl f10)), (h11, .inl (kJ, 3001, .inr (.inl f11))), (h12, .inl (kJ, 27, .inr (.inl f12)))] sz) [(h2, .inr (0, [.ref h9, .ref h10, .ref h11, .ref h12, .int tc, .int ta, .int td, .int tf])), (h9, .inl (kI, 3001, .inl f9)), (h10, .inl (kI, 3001, .inl f10)), (h11, .inl (kJ, 3001, .inr (.inl f11))), (h12, .inl (kJ, 27, .inr (.inl f12)))] t) (va_A [(h2, .inr (0, [.ref h9, .ref h10, .ref h11, .ref h12, .int tc, .int ta, .int td, .int tf])), (h9, .inl (kI, 3001, .inl f9)), (h10, .inl (kI, 3001, .inl f10)), (h11, .inl (kJ, 3001, .inr (.inl f11))), (h12, .inl (kJ, 27, .inr (.inl f12)))] sz)) 0 0 (va_A [(h2, .inr (0, [.ref h9, .ref h10, .ref h11, .ref h12, .int tc, .int ta, .int td, .int tf])), (h9, .inl (kI, 3001, .inl f9)), (h10, .inl (kI, 3001, .inl f10)), (h11, .inl (kJ, 3001, .inr (.inl f11))), (h12, .inl (kJ, 27, .inr (.inl f12)))] sz) := by
  refine Met.ofW (cc := prog_8_method_18_code) (maxL := 1) (ret := some .int) (by decide +kernel) rfl ?_
  intro p e s m args below meth c s₁ B hml hv
  obtain ⟨rfl, hsz, hP, hK, hD0, hE⟩ := hv
  have hx := B.exec
  have hb := B.bytes
  have hr := B.returns
  have hts : ∀ w ∈ gT, w.before _ s = true := fun w h => atoms_spec (ws := Cond.code (⟨"AlgolJudge$Tokens", "next", "()I"⟩ : MethodName) prog_8_method_18_code 1 (some .int) :: gT) B.pre w (List.mem_cons_of_mem _ h)
  have hown : s.vm.findClass "AlgolJudge$Tokens" = some m.cls := findClass_of_methodNamed B.named
  have hlocks := B.notSynchronized
  subst hsz
  have hD := hD0.self (sz := s.heap.size)
  generalize hAe : va_A [(h2, .inr (0, [.ref h9, .ref h10, .ref h11, .ref h12, .int tc, .int ta, .int td, .int tf])), (h9, .inl (kI, 3001, .inl f9)), (h10, .inl (kI, 3001, .inl f10)), (h11, .inl (kJ, 3001, .inr (.inl f11))), (h12, .inl (kJ, 27, .inr (.inl f12)))] s.heap.size = A at hD hE ⊢
  have hA : ∀ q : Nat, s.heap.size ≤ q → A q := fun q h => by rw [← hAe]; exact Or.inr h
  have hS : va_S A s.heap s.heap [] := va_S.rf
  have hP : va_P D cls9 [(h2, .inr (0, [.ref h9, .ref h10, .ref h11, .ref h12, .int tc, .int ta, .int td, .int tf])), (h9, .inl (kI, 3001, .inl f9)), (h10, .inl (kI, 3001, .inl f10)), (h11, .inl (kJ, 3001, .inr (.inl f11))), (h12, .inl (kJ, 27, .inr (.inl f12)))] s.heap := hP
  have hl := lv_entry ([.ref h2]) (n := 1) (Nat.le_of_ble_eq_true rfl)
  rw [lg_entry_eq]
  generalize (lg_sl ([.ref h2]) ++ List.replicate (1 - (lg_sl ([.ref h2])).length) Slot.unset).toArray = ls at hl ⊢
  have hl : lv_has ls 1 [(0, .ref h2)] := hl
  refine lv_aload_n hx hb d_8_18_0 rfl (lv_at hl 0 rfl) ?_
  refine va_get (D := D) (ci := 0) (v := .int tf) (C := "AlgolJudge$Tokens") (T := T_Tokens) (N := 8) hx hb hts i_Tokens hown hK hP 0 rfl rfl 7 (by decide +kernel) (hts _ m_217) (fun _ h9 => h9) rfl d_8_18_1 ?_
  refine lv_bipush (v := (-2)) hx hb d_8_18_4 (by decide +kernel) ?_
  refine lv_icmp_ne (tgt := 36) hx hb d_8_18_6 (by decide +kernel) (fun c_1 => ?_) (fun c_1 => ?_)
  · skip
    have tc_1 : ¬ tf.toInt = (-2) := fun h9 => c_1 (Int32.toInt_inj.mp h9)
    refine lv_bipush (v := (-2)) hx hb d_8_18_36 (by decide +kernel) ?_
    have hP9 := hP.sub (ws' := [(h2, .inr (0, [.ref h9, .ref h10, .ref h11, .ref h12, .int tc, .int ta, .int td, .int tf])), (h9, .inl (kI, 3001, .inl f9)), (h10, .inl (kI, 3001, .inl f10)), (h11, .inl (kJ, 3001, .inr (.inl f11))), (h12, .inl (kJ, 27, .inr (.inl f12)))]) [0, 1, 2, 3, 4] rfl
    have hD9 := hD.sub (ws' := [(h2, .inr (0, [.ref h9, .ref h10, .ref h11, .ref h12, .int tc, .int ta, .int td, .int tf])), (h9, .inl (kI, 3001, .inl f9)), (h10, .inl (kI, 3001, .inl f10)), (h11, .inl (kJ, 3001, .inr (.inl f11))), (h12, .inl (kJ, 27, .inr (.inl f12)))]) [0, 1, 2, 3, 4] (by decide) rfl
    exact W.iret (v := (-2)) hx hb hr (fun t ht hW => ⟨⟨(-2), (), rfl, trivial, xEnd hK hP9 hD9 ht hW⟩, hS.F ht⟩) hS.2.2 d_8_18_38
  · skip
    have tc_1 : tf.toInt = (-2) := congrArg Int32.toInt c_1
    refine lv_aload_n hx hb d_8_18_9 rfl (lv_at hl 0 rfl) ?_
    refine va_get (D := D) (ci := 0) (v := .int ta) (C := "AlgolJudge$Tokens") (T := T_Tokens) (N := 8) hx hb hts i_Tokens hown hK hP 0 rfl rfl 5 (by decide +kernel) (hts _ m_215) (fun _ h9 => h9) rfl d_8_18_10 ?_
    refine lv_iconst (v := 1) hx hb d_8_18_13 (by decide +kernel) ?_
    refine lv_iadd hx hb d_8_18_14 ?_
    refine lv_topi (fun y_2 ey_2 => ?_)
    have ty_2 : y_2.toInt = ta.toInt + 1 := by rw [ey_2]; exact zaddc (by decide +kernel) (by omega) (by omega)
    refine lv_aload_n hx hb d_8_18_15 rfl (lv_at hl 0 rfl) ?_
    refine va_get (D := D) (ci := 0) (v := .int tc) (C := "AlgolJudge$Tokens") (T := T_Tokens) (N := 8) hx hb hts i_Tokens hown hK hP 0 rfl rfl 4 (by decide +kernel) (hts _ m_214) (fun _ h9 => h9) rfl d_8_18_16 ?_
    refine lv_icmp_ge (tgt := 36) hx hb d_8_18_19 (by decide +kernel) (fun c_3 => ?_) (fun c_3 => ?_)
    · skip
      have tc_3 : tc.toInt ≤ y_2.toInt := Int32.le_iff_toInt_le.mp c_3
      refine lv_bipush (v := (-2)) hx hb d_8_18_36 (by decide +kernel) ?_
      have hP9 := hP.sub (ws' := [(h2, .inr (0, [.ref h9, .ref h10, .ref h11, .ref h12, .int tc, .int ta, .int td, .int tf])), (h9, .inl (kI, 3001, .inl f9)), (h10, .inl (kI, 3001, .inl f10)), (h11, .inl (kJ, 3001, .inr (.inl f11))), (h12, .inl (kJ, 27, .inr (.inl f12)))]) [0, 1, 2, 3, 4] rfl
      have hD9 := hD.sub (ws' := [(h2, .inr (0, [.ref h9, .ref h10, .ref h11, .ref h12, .int tc, .int ta, .int td, .int tf])), (h9, .inl (kI, 3001, .inl f9)), (h10, .inl (kI, 3001, .inl f10)), (h11, .inl (kJ, 3001, .inr (.inl f11))), (h12, .inl (kJ, 27, .inr (.inl f12)))]) [0, 1, 2, 3, 4] (by decide) rfl
      exact W.iret (v := (-2)) hx hb hr (fun t ht hW => ⟨⟨(-2), (), rfl, trivial, xEnd hK hP9 hD9 ht hW⟩, hS.F ht⟩) hS.2.2 d_8_18_38
    · skip
      have tc_3 : ¬ tc.toInt ≤ y_2.toInt := fun h9 => c_3 (Int32.le_iff_toInt_le.mpr h9)
      refine lv_aload_n hx hb d_8_18_22 rfl (lv_at hl 0 rfl) ?_
      refine va_get (D := D) (ci := 0) (v := .ref h9) (C := "AlgolJudge$Tokens") (T := T_Tokens) (N := 8) hx hb hts i_Tokens hown hK hP 0 rfl rfl 0 (by decide +kernel) (hts _ m_210) (fun _ h9 => h9) rfl d_8_18_23 ?_
      refine lv_aload_n hx hb d_8_18_26 rfl (lv_at hl 0 rfl) ?_
      refine va_get (D := D) (ci := 0) (v := .int ta) (C := "AlgolJudge$Tokens") (T := T_Tokens) (N := 8) hx hb hts i_Tokens hown hK hP 0 rfl rfl 5 (by decide +kernel) (hts _ m_215) (fun _ h9 => h9) rfl d_8_18_27 ?_
      refine lv_iconst (v := 1) hx hb d_8_18_30 (by decide +kernel) ?_
      refine lv_iadd hx hb d_8_18_31 ?_
      refine lv_topi (fun y_4 ey_4 => ?_)
      have ty_4 : y_4.toInt = ta.toInt + 1 := by rw [ey_4]; exact zaddc (by decide +kernel) (by omega) (by omega)
      refine va_iald hx hb hK hP 1 0 rfl rfl (vp_in_iff.mpr ⟨by omega, by omega⟩) d_8_18_32 ?_
      refine lv_topi (fun z_5 ez_5 => ?_)
      refine lv_goto (tgt := 38) hx hb d_8_18_33 (by decide +kernel) ?_
      have hP9 := hP.sub (ws' := [(h2, .inr (0, [.ref h9, .ref h10, .ref h11, .ref h12, .int tc, .int ta, .int td, .int tf])), (h9, .inl (kI, 3001, .inl f9)), (h10, .inl (kI, 3001, .inl f10)), (h11, .inl (kJ, 3001, .inr (.inl f11))), (h12, .inl (kJ, 27, .inr (.inl f12)))]) [0, 1, 2, 3, 4] rfl
      have hD9 := hD.sub (ws' := [(h2, .inr (0, [.ref h9, .ref h10, .ref h11, .ref h12, .int tc, .int ta, .int td, .int tf])), (h9, .inl (kI, 3001, .inl f9)), (h10, .inl (kI, 3001, .inl f10)), (h11, .inl (kJ, 3001, .inr (.inl f11))), (h12, .inl (kJ, 27, .inr (.inl f12)))]) [0, 1, 2, 3, 4] (by decide) rfl
      exact W.iret (v := z_5) hx hb hr (fun t ht hW => ⟨⟨z_5, (), rfl, trivial, xEnd hK hP9 hD9 ht hW⟩, hS.F ht⟩) hS.2.2 d_8_18_38
set_option maxHeartbeats 8000000 in
set_option maxRecDepth 100000 in
theorem g_Tokens_place (l : Launch) (D : va_G) (kI kJ kB kZ : ClassId) (sz : Nat) (h2 : Nat) (h9 : Nat) (h10 : Nat) (h11 : Nat) (h12 : Nat) (tc : Int32) (ta : Int32) (td : Int32) (tf : Int32) (f9 : Nat → Int32) (f10 : Nat → Int32) (f11 : Nat → Int64) (f12 : Nat → Int64) (hf_T1 : 1 ≤ tc.toInt) (hf_T2 : tc.toInt ≤ 3001) (hf_T3 : 0 ≤ ta.toInt) (hf_T4 : ta.toInt < tc.toInt) (hf_T5 : tf.toInt = -2 → 0 ≤ td.toInt ∧ td.toInt ≤ 20) (hf_T6 : ∀ j : Nat, 0 ≤ (f10 j).toInt) : Met l (⟨"AlgolJudge$Tokens", "place", "()I"⟩ : MethodName) (Cond.code (⟨"AlgolJudge$Tokens", "place", "()I"⟩ : MethodName) prog_8_method_19_code 1 (some .int) :: gT) ({ frames := 0, cells := 0, slots := 0, locals := 0 }) (va_Pc [.ref h2] (xP D (xT kI kJ kB kZ) xN [(h2, .inr (0, [.ref h9, .ref h10, .ref h11, .ref h12, .int tc, .int ta, .int td, .int tf])), (h9, .inl (kI, 3001, .inl f9)), (h10, .inl (kI, 3001, .inl f10)), (h11, .inl (kJ, 3001, .inr (.inl f11))), (h12, .inl (kJ, 27, .inr (.inl f12)))] sz)) (va_Qi (fun (r : Int32) (_ : Unit) => True) (fun _ t => xQ D (xT kI kJ kB kZ) (va_A [(h2, .inr (0, [.ref h9, .ref h10, .ref h11, .ref h12, .int tc, .int ta, .int td, .int tf])), (h9, .inl (kI, 3001, .inl f9)), (h10, .inl (kI, 3001, .inl f10)), (h11, .inl (kJ, 3001, .inr (.inl f11))), (h12, .inl (kJ, 27, .inr (.inl f12)))] sz) [(h2, .inr (0, [.ref h9, .ref h10, .ref h11, .ref h12, .int tc, .int ta, .int td, .int tf])), (h9, .inl (kI, 3001, .inl f9)), (h10, .inl (kI, 3001, .inl f10)), (h11, .inl (kJ, 3001, .inr (.inl f11))), (h12, .inl (kJ, 27, .inr (.inl f12)))] t) (va_A [(h2, .inr (0, [.ref h9, .ref h10, .ref h11, .ref h12, .int tc, .int ta, .int td, .int tf])), (h9, .inl (kI, 3001, .inl f9)), (h10, .inl (kI, 3001, .inl f10)), (h11, .inl (kJ, 3001, .inr (.inl f11))), (h12, .inl (kJ, 27, .inr (.inl f12)))] sz)) 0 0 (va_A [(h2, .inr (0, [.ref h9, .ref h10, .ref h11, .ref h12, .int tc, .int ta, .int td, .int tf])), (h9, .inl (kI, 3001, .inl f9)), (h10, .inl (kI, 3001, .inl f10)), (h11, .inl (kJ, 3001, .inr (.inl f11))), (h12, .inl (kJ, 27, .inr (.inl f12)))] sz) := by
  refine Met.ofW (cc := prog_8_method_19_code) (maxL := 1) (ret := some .int) (by decide +kernel) rfl ?_
  intro p e s m args below meth c s₁ B hml hv
  obtain ⟨rfl, hsz, hP, hK, hD0, hE⟩ := hv
  have hx := B.exec
  have hb := B.bytes
  have hr := B.returns
  have hts : ∀ w ∈ gT, w.before _ s = true := fun w h => atoms_spec (ws := Cond.code (⟨"AlgolJudge$Tokens", "place", "()I"⟩ : MethodName) prog_8_method_19_code 1 (some .int) :: gT) B.pre w (List.mem_cons_of_mem _ h)
  have hown : s.vm.findClass "AlgolJudge$Tokens" = some m.cls := findClass_of_methodNamed B.named
  have hlocks := B.notSynchronized
  subst hsz
  have hD := hD0.self (sz := s.heap.size)
  generalize hAe : va_A [(h2, .inr (0, [.ref h9, .ref h10, .ref h11, .ref h12, .int tc, .int ta, .int td, .int tf])), (h9, .inl (kI, 3001, .inl f9)), (h10, .inl (kI, 3001, .inl f10)), (h11, .inl (kJ, 3001, .inr (.inl f11))), (h12, .inl (kJ, 27, .inr (.inl f12)))] s.heap.size = A at hD hE ⊢
  have hA : ∀ q : Nat, s.heap.size ≤ q → A q := fun q h => by rw [← hAe]; exact Or.inr h
  have hS : va_S A s.heap s.heap [] := va_S.rf
  have hP : va_P D cls9 [(h2, .inr (0, [.ref h9, .ref h10, .ref h11, .ref h12, .int tc, .int ta, .int td, .int tf])), (h9, .inl (kI, 3001, .inl f9)), (h10, .inl (kI, 3001, .inl f10)), (h11, .inl (kJ, 3001, .inr (.inl f11))), (h12, .inl (kJ, 27, .inr (.inl f12)))] s.heap := hP
  have hl := lv_entry ([.ref h2]) (n := 1) (Nat.le_of_ble_eq_true rfl)
  rw [lg_entry_eq]
  generalize (lg_sl ([.ref h2]) ++ List.replicate (1 - (lg_sl ([.ref h2])).length) Slot.unset).toArray = ls at hl ⊢
  have hl : lv_has ls 1 [(0, .ref h2)] := hl
  refine lv_aload_n hx hb d_8_19_0 rfl (lv_at hl 0 rfl) ?_
  refine va_get (D := D) (ci := 0) (v := .int ta) (C := "AlgolJudge$Tokens") (T := T_Tokens) (N := 8) hx hb hts i_Tokens hown hK hP 0 rfl rfl 5 (by decide +kernel) (hts _ m_215) (fun _ h9 => h9) rfl d_8_19_1 ?_
  refine lv_aload_n hx hb d_8_19_4 rfl (lv_at hl 0 rfl) ?_
  refine va_get (D := D) (ci := 0) (v := .int tc) (C := "AlgolJudge$Tokens") (T := T_Tokens) (N := 8) hx hb hts i_Tokens hown hK hP 0 rfl rfl 4 (by decide +kernel) (hts _ m_214) (fun _ h9 => h9) rfl d_8_19_5 ?_
  refine lv_icmp_ge (tgt := 23) hx hb d_8_19_8 (by decide +kernel) (fun c_1 => ?_) (fun c_1 => ?_)
  · skip
    have tc_1 : tc.toInt ≤ ta.toInt := Int32.le_iff_toInt_le.mp c_1
    refine lv_iconst (v := 0) hx hb d_8_19_23 (by decide +kernel) ?_
    have hP9 := hP.sub (ws' := [(h2, .inr (0, [.ref h9, .ref h10, .ref h11, .ref h12, .int tc, .int ta, .int td, .int tf])), (h9, .inl (kI, 3001, .inl f9)), (h10, .inl (kI, 3001, .inl f10)), (h11, .inl (kJ, 3001, .inr (.inl f11))), (h12, .inl (kJ, 27, .inr (.inl f12)))]) [0, 1, 2, 3, 4] rfl
    have hD9 := hD.sub (ws' := [(h2, .inr (0, [.ref h9, .ref h10, .ref h11, .ref h12, .int tc, .int ta, .int td, .int tf])), (h9, .inl (kI, 3001, .inl f9)), (h10, .inl (kI, 3001, .inl f10)), (h11, .inl (kJ, 3001, .inr (.inl f11))), (h12, .inl (kJ, 27, .inr (.inl f12)))]) [0, 1, 2, 3, 4] (by decide) rfl
    exact W.iret (v := 0) hx hb hr (fun t ht hW => ⟨⟨0, (), rfl, trivial, xEnd hK hP9 hD9 ht hW⟩, hS.F ht⟩) hS.2.2 d_8_19_24
  · skip
    have tc_1 : ¬ tc.toInt ≤ ta.toInt := fun h9 => c_1 (Int32.le_iff_toInt_le.mpr h9)
    refine lv_aload_n hx hb d_8_19_11 rfl (lv_at hl 0 rfl) ?_
    refine va_get (D := D) (ci := 0) (v := .ref h10) (C := "AlgolJudge$Tokens") (T := T_Tokens) (N := 8) hx hb hts i_Tokens hown hK hP 0 rfl rfl 1 (by decide +kernel) (hts _ m_211) (fun _ h9 => h9) rfl d_8_19_12 ?_
    refine lv_aload_n hx hb d_8_19_15 rfl (lv_at hl 0 rfl) ?_
    refine va_get (D := D) (ci := 0) (v := .int ta) (C := "AlgolJudge$Tokens") (T := T_Tokens) (N := 8) hx hb hts i_Tokens hown hK hP 0 rfl rfl 5 (by decide +kernel) (hts _ m_215) (fun _ h9 => h9) rfl d_8_19_16 ?_
    refine va_iald hx hb hK hP 2 0 rfl rfl (vp_in_iff.mpr ⟨by omega, by omega⟩) d_8_19_19 ?_
    refine lv_topi (fun z_2 ez_2 => ?_)
    have tz_2 : 0 ≤ z_2.toInt := by rw [ez_2]; exact (show ∀ j : Nat, 0 ≤ (f10 j).toInt from (by first | assumption | exact zpl (by assumption) (by omega))) _
    refine lv_goto (tgt := 24) hx hb d_8_19_20 (by decide +kernel) ?_
    have hP9 := hP.sub (ws' := [(h2, .inr (0, [.ref h9, .ref h10, .ref h11, .ref h12, .int tc, .int ta, .int td, .int tf])), (h9, .inl (kI, 3001, .inl f9)), (h10, .inl (kI, 3001, .inl f10)), (h11, .inl (kJ, 3001, .inr (.inl f11))), (h12, .inl (kJ, 27, .inr (.inl f12)))]) [0, 1, 2, 3, 4] rfl
    have hD9 := hD.sub (ws' := [(h2, .inr (0, [.ref h9, .ref h10, .ref h11, .ref h12, .int tc, .int ta, .int td, .int tf])), (h9, .inl (kI, 3001, .inl f9)), (h10, .inl (kI, 3001, .inl f10)), (h11, .inl (kJ, 3001, .inr (.inl f11))), (h12, .inl (kJ, 27, .inr (.inl f12)))]) [0, 1, 2, 3, 4] (by decide) rfl
    exact W.iret (v := z_2) hx hb hr (fun t ht hW => ⟨⟨z_2, (), rfl, trivial, xEnd hK hP9 hD9 ht hW⟩, hS.F ht⟩) hS.2.2 d_8_19_24
