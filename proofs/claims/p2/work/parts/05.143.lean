set_option maxHeartbeats 8000000 in
set_option maxRecDepth 100000 in
theorem g_String_indexOf_2 (l : Launch) (D : va_G) (kI kJ kB kZ : ClassId) (sz : Nat) (p1 : Int32) (p2 : Int32) (sA : Nat → Nat) (sV : Nat → Nat) (i : Nat) (hi : i < 47) : Met l (⟨"java/lang/String", "indexOf", "(II)I"⟩ : MethodName) (Cond.code (⟨"java/lang/String", "indexOf", "(II)I"⟩ : MethodName) prog_13_method_80_code 3 (some .int) :: gT) ({ frames := 2, cells := 0, slots := 0, locals := 48 }) (va_Pc [.ref (sA i), .int p1, .int p2] (xP D (xT kI kJ kB kZ) (xE sA sV) [] sz)) (va_Qi (fun (r : Int32) (_ : Unit) => True) (fun _ t => xQ D (xT kI kJ kB kZ) (va_A [] sz) [] t) (va_A [] sz)) 0 0 (va_A [] sz) := by
  refine Met.ofW (cc := prog_13_method_80_code) (maxL := 3) (ret := some .int) (by decide +kernel) rfl ?_
  intro p e s m args below meth c s₁ B hml hv
  obtain ⟨rfl, hsz, hP, hK, hD0, hE⟩ := hv
  have hx := B.exec
  have hb := B.bytes
  have hr := B.returns
  have hts : ∀ w ∈ gT, w.before _ s = true := fun w h => atoms_spec (ws := Cond.code (⟨"java/lang/String", "indexOf", "(II)I"⟩ : MethodName) prog_13_method_80_code 3 (some .int) :: gT) B.pre w (List.mem_cons_of_mem _ h)
  have hown : s.vm.findClass "java/lang/String" = some m.cls := findClass_of_methodNamed B.named
  have hlocks := B.notSynchronized
  subst hsz
  have hD := hD0.self (sz := s.heap.size)
  generalize hAe : va_A [] s.heap.size = A at hD hE ⊢
  have hA : ∀ q : Nat, s.heap.size ≤ q → A q := fun q h => by rw [← hAe]; exact Or.inr h
  have hS : va_S A s.heap s.heap [] := va_S.rf
  have hP : va_P D cls9 [] s.heap := hP
  have hl := lv_entry ([.ref (sA i), .int p1, .int p2]) (n := 3) (Nat.le_of_ble_eq_true rfl)
  rw [lg_entry_eq]
  generalize (lg_sl ([.ref (sA i), .int p1, .int p2]) ++ List.replicate (3 - (lg_sl ([.ref (sA i), .int p1, .int p2])).length) Slot.unset).toArray = ls at hl ⊢
  have hl : lv_has ls 3 [(0, .ref (sA i)), (1, .int p1), (2, .int p2)] := hl
  refine lv_aload_n hx hb d_13_80_0 rfl (lv_at hl 0 rfl) ?_
  have hPc := hP.sub (ws' := []) [] rfl
  have hDc := hD.sub (ws' := []) [] (by decide) rfl
  have hFc := va_free (wc := []) hD hS hA [] rfl
  refine va_calli (va_runV (As := []) (rest := []) ⟨hx, hb, hml, hown, hts⟩ (g_String_isLatin1 l D kI kJ kB kZ _ (sA) (sV) (i) (by first | assumption | omega)) (cwV 0 hts (gT_V m_169 m_170 m_171 m_122 (gT_ws m_172)) rfl rfl rfl (by decide +kernel) ⟨(Nat.le_of_ble_eq_true rfl), (Nat.le_of_ble_eq_true rfl)⟩) ⟨xBlind (xOk_E sA sV), (xE_O hE i hi hS), xAt (xOk_E sA sV) hK hPc hDc hS hFc hE⟩ rfl rfl hl.1 rfl (lv_room (Nat.le_of_ble_eq_true rfl)) d_13_80_1 ⟨(Nat.le_of_ble_eq_true rfl), (Nat.le_of_ble_eq_true rfl)⟩) hS (fun q _ h => hFc q h) hFc (fun r_1 u t H1 locs ht hvm hw_2 hB hz1 hk1 hS => ?_)
  clear hz1
  obtain ⟨hP, hD⟩ := xJoin (wr := []) (w1 := []) hP hD [] [] rfl rfl (by decide) (by decide) hk1 hFc ht hB
  generalize H1 = H at hP hS ⊢
  have hP : va_P D cls9 [] H := hP
  have hD : va_D A [] := hD
  refine xtopi (v := 1) hw_2 ?_
  refine lv_if_eq (tgt := 23) hx hb d_13_80_4 (by decide +kernel) (fun c_3 => ?_) (fun c_3 => ?_)
  · exact absurd c_3 (by decide +kernel)
  refine lv_aload_n hx hb d_13_80_7 rfl (lv_at hl 0 rfl) ?_
  refine vk_getf hx hb (xE_v hE i hi) hS hown (hts _ m_1651) (fun _ h9 => h9) d_13_80_8 ?_
  refine lv_iload_n hx hb d_13_80_11 rfl (lv_at hl 1 rfl) ?_
  refine lv_iload_n hx hb d_13_80_12 rfl (lv_at hl 2 rfl) ?_
  refine lv_aload_n hx hb d_13_80_13 rfl (lv_at hl 0 rfl) ?_
  have hPc := hP.sub (ws' := []) [] rfl
  have hDc := hD.sub (ws' := []) [] (by decide) rfl
  have hFc := va_free (wc := []) hD hS hA [] rfl
  refine va_calli (va_runV (As := []) (rest := [.int p2, .int p1, .ref (sV i)]) ⟨hx, hb, hml, hown, hts⟩ (g_String_length l D kI kJ kB kZ _ (sA) (sV) (i) (by first | assumption | omega)) (cwV 0 hts (gT_V m_493 m_156 m_157 m_122 (gT_ws m_158)) rfl rfl rfl (by decide +kernel) ⟨(Nat.le_of_ble_eq_true rfl), (Nat.le_of_ble_eq_true rfl)⟩) ⟨xBlind (xOk_E sA sV), (xE_O hE i hi hS), xAt (xOk_E sA sV) hK hPc hDc hS hFc hE⟩ rfl rfl hl.1 rfl (lv_room (Nat.le_of_ble_eq_true rfl)) d_13_80_14 ⟨(Nat.le_of_ble_eq_true rfl), (Nat.le_of_ble_eq_true rfl)⟩) hS (fun q _ h => hFc q h) hFc (fun r_4 u t H1 locs ht hvm hw_5 hB hz1 hk1 hS => ?_)
  clear hz1
  obtain ⟨hP, hD⟩ := xJoin (wr := []) (w1 := []) hP hD [] [] rfl rfl (by decide) (by decide) hk1 hFc ht hB
  generalize H1 = H at hP hS ⊢
  have hP : va_P D cls9 [] H := hP
  have hD : va_D A [] := hD
  have hw_5 : r_4.toInt = sN i := hw_5
  have hPc := hP.sub (ws' := []) [] rfl
  have hDc := hD.sub (ws' := []) [] (by decide) rfl
  have hFc := va_free (wc := []) hD hS hA [] rfl
  refine va_calli (va_runS (As := [.ref (sV i), .int p1, .int p2, .int r_4]) (rest := []) ⟨hx, hb, hml, hown, hts⟩ (g_StringLatin1_indexOf l D kI kJ kB kZ _ (p1) (p2) (r_4) (sA) (sV) (i) (by first | assumption | omega)) (va_cwS 4 hts (gT_S m_494 m_495 m_123 (gT_ws m_496)) rfl rfl rfl (by decide +kernel) ⟨(Nat.le_of_ble_eq_true rfl), (Nat.le_of_ble_eq_true rfl)⟩) ⟨xBlind (xOk_E sA sV), xAt (xOk_E sA sV) hK hPc hDc hS hFc hE⟩ rfl rfl hl.1 rfl (lv_room (Nat.le_of_ble_eq_true rfl)) d_13_80_17 ⟨(Nat.le_of_ble_eq_true rfl), (Nat.le_of_ble_eq_true rfl)⟩) hS (fun q _ h => hFc q h) hFc (fun r_6 u t H1 locs ht hvm hw_7 hB hz1 hk1 hS => ?_)
  clear hz1
  obtain ⟨hP, hD⟩ := xJoin (wr := []) (w1 := []) hP hD [] [] rfl rfl (by decide) (by decide) hk1 hFc ht hB
  generalize H1 = H at hP hS ⊢
  have hP : va_P D cls9 [] H := hP
  have hD : va_D A [] := hD
  refine lv_goto (tgt := 36) hx hb d_13_80_20 (by decide +kernel) ?_
  have hP9 := hP.sub (ws' := []) [] rfl
  have hD9 := hD.sub (ws' := []) [] (by decide) rfl
  exact W.iret (v := r_6) hx hb hr (fun t ht hW => ⟨⟨r_6, (), rfl, trivial, xEnd hK hP9 hD9 ht hW⟩, hS.F ht⟩) hS.2.2 d_13_80_36
set_option maxHeartbeats 8000000 in
set_option maxRecDepth 100000 in
theorem g_String_indexOf_1 (l : Launch) (D : va_G) (kI kJ kB kZ : ClassId) (sz : Nat) (p1 : Int32) (sA : Nat → Nat) (sV : Nat → Nat) (i : Nat) (hi : i < 47) : Met l (⟨"java/lang/String", "indexOf", "(I)I"⟩ : MethodName) (Cond.code (⟨"java/lang/String", "indexOf", "(I)I"⟩ : MethodName) prog_13_method_79_code 2 (some .int) :: gT) ({ frames := 3, cells := 0, slots := 0, locals := 70 }) (va_Pc [.ref (sA i), .int p1] (xP D (xT kI kJ kB kZ) (xE sA sV) [] sz)) (va_Qi (fun (r : Int32) (_ : Unit) => True) (fun _ t => xQ D (xT kI kJ kB kZ) (va_A [] sz) [] t) (va_A [] sz)) 0 0 (va_A [] sz) := by
  refine Met.ofW (cc := prog_13_method_79_code) (maxL := 2) (ret := some .int) (by decide +kernel) rfl ?_
  intro p e s m args below meth c s₁ B hml hv
  obtain ⟨rfl, hsz, hP, hK, hD0, hE⟩ := hv
  have hx := B.exec
  have hb := B.bytes
  have hr := B.returns
  have hts : ∀ w ∈ gT, w.before _ s = true := fun w h => atoms_spec (ws := Cond.code (⟨"java/lang/String", "indexOf", "(I)I"⟩ : MethodName) prog_13_method_79_code 2 (some .int) :: gT) B.pre w (List.mem_cons_of_mem _ h)
  have hown : s.vm.findClass "java/lang/String" = some m.cls := findClass_of_methodNamed B.named
  have hlocks := B.notSynchronized
  subst hsz
  have hD := hD0.self (sz := s.heap.size)
  generalize hAe : va_A [] s.heap.size = A at hD hE ⊢
  have hA : ∀ q : Nat, s.heap.size ≤ q → A q := fun q h => by rw [← hAe]; exact Or.inr h
  have hS : va_S A s.heap s.heap [] := va_S.rf
  have hP : va_P D cls9 [] s.heap := hP
  have hl := lv_entry ([.ref (sA i), .int p1]) (n := 2) (Nat.le_of_ble_eq_true rfl)
  rw [lg_entry_eq]
  generalize (lg_sl ([.ref (sA i), .int p1]) ++ List.replicate (2 - (lg_sl ([.ref (sA i), .int p1])).length) Slot.unset).toArray = ls at hl ⊢
  have hl : lv_has ls 2 [(0, .ref (sA i)), (1, .int p1)] := hl
  refine lv_aload_n hx hb d_13_79_0 rfl (lv_at hl 0 rfl) ?_
  refine lv_iload_n hx hb d_13_79_1 rfl (lv_at hl 1 rfl) ?_
  refine lv_iconst (v := 0) hx hb d_13_79_2 (by decide +kernel) ?_
  have hPc := hP.sub (ws' := []) [] rfl
  have hDc := hD.sub (ws' := []) [] (by decide) rfl
  have hFc := va_free (wc := []) hD hS hA [] rfl
  refine va_calli (va_runV (As := [.int p1, .int 0]) (rest := []) ⟨hx, hb, hml, hown, hts⟩ (g_String_indexOf_2 l D kI kJ kB kZ _ (p1) ((0 : Int32)) (sA) (sV) (i) (by first | assumption | omega)) (cwV 2 hts (gT_V m_489 m_490 m_491 m_122 (gT_ws m_492)) rfl rfl rfl (by decide +kernel) ⟨(Nat.le_of_ble_eq_true rfl), (Nat.le_of_ble_eq_true rfl)⟩) ⟨xBlind (xOk_E sA sV), (xE_O hE i hi hS), xAt (xOk_E sA sV) hK hPc hDc hS hFc hE⟩ rfl rfl hl.1 rfl (lv_room (Nat.le_of_ble_eq_true rfl)) d_13_79_3 ⟨(Nat.le_of_ble_eq_true rfl), (Nat.le_of_ble_eq_true rfl)⟩) hS (fun q _ h => hFc q h) hFc (fun r_1 u t H1 locs ht hvm hw_2 hB hz1 hk1 hS => ?_)
  clear hz1
  obtain ⟨hP, hD⟩ := xJoin (wr := []) (w1 := []) hP hD [] [] rfl rfl (by decide) (by decide) hk1 hFc ht hB
  generalize H1 = H at hP hS ⊢
  have hP : va_P D cls9 [] H := hP
  have hD : va_D A [] := hD
  have hP9 := hP.sub (ws' := []) [] rfl
  have hD9 := hD.sub (ws' := []) [] (by decide) rfl
  exact W.iret (v := r_1) hx hb hr (fun t ht hW => ⟨⟨r_1, (), rfl, trivial, xEnd hK hP9 hD9 ht hW⟩, hS.F ht⟩) hS.2.2 d_13_79_6
set_option maxHeartbeats 8000000 in
set_option maxRecDepth 100000 in
theorem g_Tokens_isLetterOrDigit (l : Launch) (D : va_G) (kI kJ kB kZ : ClassId) (sz : Nat) (p1 : Int32)  : Met l (⟨"AlgolJudge$Tokens", "isLetterOrDigit", "(I)Z"⟩ : MethodName) (Cond.code (⟨"AlgolJudge$Tokens", "isLetterOrDigit", "(I)Z"⟩ : MethodName) prog_8_method_12_code 1 (some .boolean) :: gT) ({ frames := 1, cells := 0, slots := 0, locals := 20 }) (va_Pc [.int p1] (xP D (xT kI kJ kB kZ) xN [] sz)) (va_Qi (fun (r : Int32) (_ : Unit) => True) (fun _ t => xQ D (xT kI kJ kB kZ) (va_A [] sz) [] t) (va_A [] sz)) 0 0 (va_A [] sz) := by
  refine Met.ofW (cc := prog_8_method_12_code) (maxL := 1) (ret := some .boolean) (by decide +kernel) rfl ?_
  intro p e s m args below meth c s₁ B hml hv
  obtain ⟨rfl, hsz, hP, hK, hD0, hE⟩ := hv
  have hx := B.exec
  have hb := B.bytes
  have hr := B.returns
  have hts : ∀ w ∈ gT, w.before _ s = true := fun w h => atoms_spec (ws := Cond.code (⟨"AlgolJudge$Tokens", "isLetterOrDigit", "(I)Z"⟩ : MethodName) prog_8_method_12_code 1 (some .boolean) :: gT) B.pre w (List.mem_cons_of_mem _ h)
  have hown : s.vm.findClass "AlgolJudge$Tokens" = some m.cls := findClass_of_methodNamed B.named
  have hlocks := B.notSynchronized
  subst hsz
  have hD := hD0.self (sz := s.heap.size)
  generalize hAe : va_A [] s.heap.size = A at hD hE ⊢
  have hA : ∀ q : Nat, s.heap.size ≤ q → A q := fun q h => by rw [← hAe]; exact Or.inr h
  have hS : va_S A s.heap s.heap [] := va_S.rf
  have hP : va_P D cls9 [] s.heap := hP
  have hl := lv_entry ([.int p1]) (n := 1) (Nat.le_of_ble_eq_true rfl)
  rw [lg_entry_eq]
  generalize (lg_sl ([.int p1]) ++ List.replicate (1 - (lg_sl ([.int p1])).length) Slot.unset).toArray = ls at hl ⊢
  have hl : lv_has ls 1 [(0, .int p1)] := hl
  refine lv_iload_n hx hb d_8_12_0 rfl (lv_at hl 0 rfl) ?_
  have hPc := hP.sub (ws' := []) [] rfl
  have hDc := hD.sub (ws' := []) [] (by decide) rfl
  have hFc := va_free (wc := []) hD hS hA [] rfl
  refine va_calli (va_runS (As := [.int p1]) (rest := []) ⟨hx, hb, hml, hown, hts⟩ (g_Tokens_isLetter l D kI kJ kB kZ _ (p1) ) (va_cwS 1 hts (gT_S m_207 m_208 m_121 (gT_ws m_209)) rfl rfl rfl (by decide +kernel) ⟨(Nat.le_of_ble_eq_true rfl), (Nat.le_of_ble_eq_true rfl)⟩) ⟨xBlind xOk_N, xAtN hK hPc hDc⟩ rfl rfl hl.1 rfl (lv_room (Nat.le_of_ble_eq_true rfl)) d_8_12_1 ⟨(Nat.le_of_ble_eq_true rfl), (Nat.le_of_ble_eq_true rfl)⟩) hS (fun q _ h => hFc q h) hFc (fun r_1 u t H1 locs ht hvm hw_2 hB hz1 hk1 hS => ?_)
  clear hz1
  obtain ⟨hP, hD⟩ := xJoin (wr := []) (w1 := []) hP hD [] [] rfl rfl (by decide) (by decide) hk1 hFc ht hB
  generalize H1 = H at hP hS ⊢
  have hP : va_P D cls9 [] H := hP
  have hD : va_D A [] := hD
  refine lv_if_ne (tgt := 14) hx hb d_8_12_4 (by decide +kernel) (fun c_3 => ?_) (fun c_3 => ?_)
  · skip
    have tc_3 : ¬ r_1.toInt = 0 := fun h9 => c_3 (Int32.toInt_inj.mp h9)
    refine lv_iconst (v := 1) hx hb d_8_12_14 (by decide +kernel) ?_
    refine lv_goto (tgt := 19) hx hb d_8_12_15 (by decide +kernel) ?_
    have hP9 := hP.sub (ws' := []) [] rfl
    have hD9 := hD.sub (ws' := []) [] (by decide) rfl
    exact W.zret (v := 1) (ty := .boolean) hx hb hr (by decide +kernel) (fun t ht hW => ⟨⟨1, (), rfl, trivial, xEnd hK hP9 hD9 ht hW⟩, hS.F ht⟩) hS.2.2 d_8_12_19
  · skip
    have tc_3 : r_1.toInt = 0 := congrArg Int32.toInt c_3
    refine lv_iload_n hx hb d_8_12_7 rfl (lv_at hl 0 rfl) ?_
    have hPc := hP.sub (ws' := []) [] rfl
    have hDc := hD.sub (ws' := []) [] (by decide) rfl
    have hFc := va_free (wc := []) hD hS hA [] rfl
    refine va_calli (va_runS (As := [.int p1]) (rest := []) ⟨hx, hb, hml, hown, hts⟩ (g_Tokens_isDigit l D kI kJ kB kZ _ (p1) ) (va_cwS 1 hts (gT_S m_463 m_464 m_121 (gT_ws m_465)) rfl rfl rfl (by decide +kernel) ⟨(Nat.le_of_ble_eq_true rfl), (Nat.le_of_ble_eq_true rfl)⟩) ⟨xBlind xOk_N, xAtN hK hPc hDc⟩ rfl rfl hl.1 rfl (lv_room (Nat.le_of_ble_eq_true rfl)) d_8_12_8 ⟨(Nat.le_of_ble_eq_true rfl), (Nat.le_of_ble_eq_true rfl)⟩) hS (fun q _ h => hFc q h) hFc (fun r_4 u t H1 locs ht hvm hw_5 hB hz1 hk1 hS => ?_)
    clear hz1
    obtain ⟨hP, hD⟩ := xJoin (wr := []) (w1 := []) hP hD [] [] rfl rfl (by decide) (by decide) hk1 hFc ht hB
    generalize H1 = H at hP hS ⊢
    have hP : va_P D cls9 [] H := hP
    have hD : va_D A [] := hD
    refine lv_if_eq (tgt := 18) hx hb d_8_12_11 (by decide +kernel) (fun c_6 => ?_) (fun c_6 => ?_)
    · skip
      have tc_6 : r_4.toInt = 0 := congrArg Int32.toInt c_6
      refine lv_iconst (v := 0) hx hb d_8_12_18 (by decide +kernel) ?_
      have hP9 := hP.sub (ws' := []) [] rfl
      have hD9 := hD.sub (ws' := []) [] (by decide) rfl
      exact W.zret (v := 0) (ty := .boolean) hx hb hr (by decide +kernel) (fun t ht hW => ⟨⟨0, (), rfl, trivial, xEnd hK hP9 hD9 ht hW⟩, hS.F ht⟩) hS.2.2 d_8_12_19
    · skip
      have tc_6 : ¬ r_4.toInt = 0 := fun h9 => c_6 (Int32.toInt_inj.mp h9)
      refine lv_iconst (v := 1) hx hb d_8_12_14 (by decide +kernel) ?_
      refine lv_goto (tgt := 19) hx hb d_8_12_15 (by decide +kernel) ?_
      have hP9 := hP.sub (ws' := []) [] rfl
      have hD9 := hD.sub (ws' := []) [] (by decide) rfl
      exact W.zret (v := 1) (ty := .boolean) hx hb hr (by decide +kernel) (fun t ht hW => ⟨⟨1, (), rfl, trivial, xEnd hK hP9 hD9 ht hW⟩, hS.F ht⟩) hS.2.2 d_8_12_19
set_option maxHeartbeats 8000000 in
set_option maxRecDepth 100000 in
theorem g_Tokens_withEqual (l : Launch) (D : va_G) (kI kJ kB kZ : ClassId) (sz : Nat) (p1 : Int32)  : Met l (⟨"AlgolJudge$Tokens", "withEqual", "(I)I"⟩ : MethodName) (Cond.code (⟨"AlgolJudge$Tokens", "withEqual", "(I)I"⟩ : MethodName) prog_8_method_9_code 1 (some .int) :: gT) ({ frames := 0, cells := 0, slots := 0, locals := 0 }) (va_Pc [.int p1] (xP D (xT kI kJ kB kZ) xN [] sz)) (va_Qi (fun (r : Int32) (_ : Unit) => True) (fun _ t => xQ D (xT kI kJ kB kZ) (va_A [] sz) [] t) (va_A [] sz)) 0 0 (va_A [] sz) := by
  refine Met.ofW (cc := prog_8_method_9_code) (maxL := 1) (ret := some .int) (by decide +kernel) rfl ?_
  intro p e s m args below meth c s₁ B hml hv
  obtain ⟨rfl, hsz, hP, hK, hD0, hE⟩ := hv
  have hx := B.exec
  have hb := B.bytes
  have hr := B.returns
  have hts : ∀ w ∈ gT, w.before _ s = true := fun w h => atoms_spec (ws := Cond.code (⟨"AlgolJudge$Tokens", "withEqual", "(I)I"⟩ : MethodName) prog_8_method_9_code 1 (some .int) :: gT) B.pre w (List.mem_cons_of_mem _ h)
  have hown : s.vm.findClass "AlgolJudge$Tokens" = some m.cls := findClass_of_methodNamed B.named
  have hlocks := B.notSynchronized
  subst hsz
  have hD := hD0.self (sz := s.heap.size)
  generalize hAe : va_A [] s.heap.size = A at hD hE ⊢
  have hA : ∀ q : Nat, s.heap.size ≤ q → A q := fun q h => by rw [← hAe]; exact Or.inr h
  have hS : va_S A s.heap s.heap [] := va_S.rf
  have hP : va_P D cls9 [] s.heap := hP
  have hl := lv_entry ([.int p1]) (n := 1) (Nat.le_of_ble_eq_true rfl)
  rw [lg_entry_eq]
  generalize (lg_sl ([.int p1]) ++ List.replicate (1 - (lg_sl ([.int p1])).length) Slot.unset).toArray = ls at hl ⊢
  have hl : lv_has ls 1 [(0, .int p1)] := hl
  refine lv_iload_n hx hb d_8_9_0 rfl (lv_at hl 0 rfl) ?_
  by_cases c_1 : p1 = 40
  · skip
    have tc_1 : p1.toInt = 40 := by rw [c_1]; rfl
    refine lv_tableIn (off := 31) (tgt := 32) hx hb d_8_9_1 (by omega) (by omega) (by rw [c_1]; decide +kernel) (by decide +kernel) ?_
    refine lv_bipush (v := 47) hx hb d_8_9_32 (by decide +kernel) ?_
    have hP9 := hP.sub (ws' := []) [] rfl
    have hD9 := hD.sub (ws' := []) [] (by decide) rfl
    exact W.iret (v := 47) hx hb hr (fun t ht hW => ⟨⟨47, (), rfl, trivial, xEnd hK hP9 hD9 ht hW⟩, hS.F ht⟩) hS.2.2 d_8_9_34
  have tc_1 : ¬ p1.toInt = 40 := fun h9 => c_1 (Int32.toInt_inj.mp h9)
  by_cases c_2 : p1 = 41
  · skip
    have tc_2 : p1.toInt = 41 := by rw [c_2]; rfl
    refine lv_tableIn (off := 34) (tgt := 35) hx hb d_8_9_1 (by omega) (by omega) (by rw [c_2]; decide +kernel) (by decide +kernel) ?_
    refine lv_bipush (v := 45) hx hb d_8_9_35 (by decide +kernel) ?_
    have hP9 := hP.sub (ws' := []) [] rfl
    have hD9 := hD.sub (ws' := []) [] (by decide) rfl
    exact W.iret (v := 45) hx hb hr (fun t ht hW => ⟨⟨45, (), rfl, trivial, xEnd hK hP9 hD9 ht hW⟩, hS.F ht⟩) hS.2.2 d_8_9_37
  have tc_2 : ¬ p1.toInt = 41 := fun h9 => c_2 (Int32.toInt_inj.mp h9)
  by_cases c_3 : p1 = 42
  · skip
    have tc_3 : p1.toInt = 42 := by rw [c_3]; rfl
    refine lv_tableIn (off := 40) (tgt := 41) hx hb d_8_9_1 (by omega) (by omega) (by rw [c_3]; decide +kernel) (by decide +kernel) ?_
    refine lv_iconst (v := (-1)) hx hb d_8_9_41 (by decide +kernel) ?_
    have hP9 := hP.sub (ws' := []) [] rfl
    have hD9 := hD.sub (ws' := []) [] (by decide) rfl
    exact W.iret (v := (-1)) hx hb hr (fun t ht hW => ⟨⟨(-1), (), rfl, trivial, xEnd hK hP9 hD9 ht hW⟩, hS.F ht⟩) hS.2.2 d_8_9_42
  have tc_3 : ¬ p1.toInt = 42 := fun h9 => c_3 (Int32.toInt_inj.mp h9)
  by_cases c_4 : p1 = 43
  · skip
    have tc_4 : p1.toInt = 43 := by rw [c_4]; rfl
    refine lv_tableIn (off := 37) (tgt := 38) hx hb d_8_9_1 (by omega) (by omega) (by rw [c_4]; decide +kernel) (by decide +kernel) ?_
    refine lv_bipush (v := 46) hx hb d_8_9_38 (by decide +kernel) ?_
    have hP9 := hP.sub (ws' := []) [] rfl
    have hD9 := hD.sub (ws' := []) [] (by decide) rfl
    exact W.iret (v := 46) hx hb hr (fun t ht hW => ⟨⟨46, (), rfl, trivial, xEnd hK hP9 hD9 ht hW⟩, hS.F ht⟩) hS.2.2 d_8_9_40
  have tc_4 : ¬ p1.toInt = 43 := fun h9 => c_4 (Int32.toInt_inj.mp h9)
  refine lv_tableOut (tgt := 41) hx hb d_8_9_1 (by omega) (by decide +kernel) ?_
  refine lv_iconst (v := (-1)) hx hb d_8_9_41 (by decide +kernel) ?_
  have hP9 := hP.sub (ws' := []) [] rfl
  have hD9 := hD.sub (ws' := []) [] (by decide) rfl
  exact W.iret (v := (-1)) hx hb hr (fun t ht hW => ⟨⟨(-1), (), rfl, trivial, xEnd hK hP9 hD9 ht hW⟩, hS.F ht⟩) hS.2.2 d_8_9_42
set_option maxHeartbeats 8000000 in
set_option maxRecDepth 100000 in
theorem g_Tokens_longer (l : Launch) (D : va_G) (kI kJ kB kZ : ClassId) (sz : Nat) (p1 : Int64) (p2 : Int32)  : Met l (⟨"AlgolJudge$Tokens", "longer", "(JI)J"⟩ : MethodName) (Cond.code (⟨"AlgolJudge$Tokens", "longer", "(JI)J"⟩ : MethodName) prog_8_method_13_code 3 (some .long) :: gT) ({ frames := 1, cells := 0, slots := 0, locals := 20 }) (va_Pc [.long p1, .int p2] (xP D (xT kI kJ kB kZ) xN [] sz)) (va_Ql (fun (r : Int64) (_ : Unit) => True) (fun _ t => xQ D (xT kI kJ kB kZ) (va_A [] sz) [] t) (va_A [] sz)) 0 0 (va_A [] sz) := by
  refine Met.ofW (cc := prog_8_method_13_code) (maxL := 3) (ret := some .long) (by decide +kernel) rfl ?_
  intro p e s m args below meth c s₁ B hml hv
  obtain ⟨rfl, hsz, hP, hK, hD0, hE⟩ := hv
  have hx := B.exec
  have hb := B.bytes
  have hr := B.returns
  have hts : ∀ w ∈ gT, w.before _ s = true := fun w h => atoms_spec (ws := Cond.code (⟨"AlgolJudge$Tokens", "longer", "(JI)J"⟩ : MethodName) prog_8_method_13_code 3 (some .long) :: gT) B.pre w (List.mem_cons_of_mem _ h)
  have hown : s.vm.findClass "AlgolJudge$Tokens" = some m.cls := findClass_of_methodNamed B.named
  have hlocks := B.notSynchronized
  subst hsz
  have hD := hD0.self (sz := s.heap.size)
  generalize hAe : va_A [] s.heap.size = A at hD hE ⊢
  have hA : ∀ q : Nat, s.heap.size ≤ q → A q := fun q h => by rw [← hAe]; exact Or.inr h
  have hS : va_S A s.heap s.heap [] := va_S.rf
  have hP : va_P D cls9 [] s.heap := hP
  have hl := lv_entry ([.long p1, .int p2]) (n := 3) (Nat.le_of_ble_eq_true rfl)
  rw [lg_entry_eq]
  generalize (lg_sl ([.long p1, .int p2]) ++ List.replicate (3 - (lg_sl ([.long p1, .int p2])).length) Slot.unset).toArray = ls at hl ⊢
  have hl : lv_has ls 3 [(0, .long p1), (2, .int p2)] := hl
  refine lv_lload_n hx hb d_8_13_0 rfl (lv_at hl 0 rfl) ?_
  refine lv_ldc2 (v := 37) hx hb hown (hts _ m_206) d_8_13_1 ?_
  refine lv_lmul hx hb d_8_13_4 ?_
  refine lv_iload_n hx hb d_8_13_5 rfl (lv_at hl 1 rfl) ?_
  have hPc := hP.sub (ws' := []) [] rfl
  have hDc := hD.sub (ws' := []) [] (by decide) rfl
  have hFc := va_free (wc := []) hD hS hA [] rfl
  refine va_calli (va_runS (As := [.int p2]) (rest := [.long (p1 * 37)]) ⟨hx, hb, hml, hown, hts⟩ (g_Tokens_isLetter l D kI kJ kB kZ _ (p2) ) (va_cwS 1 hts (gT_S m_207 m_208 m_121 (gT_ws m_209)) rfl rfl rfl (by decide +kernel) ⟨(Nat.le_of_ble_eq_true rfl), (Nat.le_of_ble_eq_true rfl)⟩) ⟨xBlind xOk_N, xAtN hK hPc hDc⟩ rfl rfl hl.1 rfl (lv_room (Nat.le_of_ble_eq_true rfl)) d_8_13_6 ⟨(Nat.le_of_ble_eq_true rfl), (Nat.le_of_ble_eq_true rfl)⟩) hS (fun q _ h => hFc q h) hFc (fun r_1 u t H1 locs ht hvm hw_2 hB hz1 hk1 hS => ?_)
  clear hz1
  obtain ⟨hP, hD⟩ := xJoin (wr := []) (w1 := []) hP hD [] [] rfl rfl (by decide) (by decide) hk1 hFc ht hB
  generalize H1 = H at hP hS ⊢
  have hP : va_P D cls9 [] H := hP
  have hD : va_D A [] := hD
  refine lv_if_eq (tgt := 21) hx hb d_8_13_9 (by decide +kernel) (fun c_3 => ?_) (fun c_3 => ?_)
  · skip
    have tc_3 : r_1.toInt = 0 := congrArg Int32.toInt c_3
    refine lv_iload_n hx hb d_8_13_21 rfl (lv_at hl 1 rfl) ?_
    refine lv_bipush (v := 48) hx hb d_8_13_22 (by decide +kernel) ?_
    refine lv_isub hx hb d_8_13_24 ?_
    refine lv_topi (fun y_4 ey_4 => ?_)
    refine lv_bipush (v := 27) hx hb d_8_13_25 (by decide +kernel) ?_
    refine lv_iadd hx hb d_8_13_27 ?_
    refine lv_topi (fun y_5 ey_5 => ?_)
    refine lv_i2l (v := (y_5.toInt64)) hx hb d_8_13_28 rfl ?_
    refine lv_ladd hx hb d_8_13_29 ?_
    have hP9 := hP.sub (ws' := []) [] rfl
    have hD9 := hD.sub (ws' := []) [] (by decide) rfl
    exact W.lret (v := ((p1 * 37) + (y_5.toInt64))) hx hb hr (fun t ht hW => ⟨⟨((p1 * 37) + (y_5.toInt64)), (), rfl, trivial, xEnd hK hP9 hD9 ht hW⟩, hS.F ht⟩) hS.2.2 d_8_13_30
  · skip
    have tc_3 : ¬ r_1.toInt = 0 := fun h9 => c_3 (Int32.toInt_inj.mp h9)
    refine lv_iload_n hx hb d_8_13_12 rfl (lv_at hl 1 rfl) ?_
    refine lv_bipush (v := 97) hx hb d_8_13_13 (by decide +kernel) ?_
    refine lv_isub hx hb d_8_13_15 ?_
    refine lv_topi (fun y_6 ey_6 => ?_)
    refine lv_iconst (v := 1) hx hb d_8_13_16 (by decide +kernel) ?_
    refine lv_iadd hx hb d_8_13_17 ?_
    refine lv_topi (fun y_7 ey_7 => ?_)
    refine lv_goto (tgt := 28) hx hb d_8_13_18 (by decide +kernel) ?_
    refine lv_i2l (v := (y_7.toInt64)) hx hb d_8_13_28 rfl ?_
    refine lv_ladd hx hb d_8_13_29 ?_
    have hP9 := hP.sub (ws' := []) [] rfl
    have hD9 := hD.sub (ws' := []) [] (by decide) rfl
    exact W.lret (v := ((p1 * 37) + (y_7.toInt64))) hx hb hr (fun t ht hW => ⟨⟨((p1 * 37) + (y_7.toInt64)), (), rfl, trivial, xEnd hK hP9 hD9 ht hW⟩, hS.F ht⟩) hS.2.2 d_8_13_30
set_option maxHeartbeats 8000000 in
set_option maxRecDepth 100000 in
theorem g_Tokens_add (l : Launch) (D : va_G) (kI kJ kB kZ : ClassId) (sz : Nat) (h2 : Nat) (h9 : Nat) (h10 : Nat) (h11 : Nat) (h12 : Nat) (tc : Int32) (ta : Int32) (td : Int32) (tf : Int32) (f9 : Nat → Int32) (f10 : Nat → Int32) (f11 : Nat → Int64) (f12 : Nat → Int64) (p1 : Int32) (p2 : Int32) (p3 : Int64) (hf_C1 : 0 ≤ tc.toInt) (hf_C2 : tc.toInt ≤ 3001) (hf_T6 : ∀ j : Nat, 0 ≤ (f10 j).toInt) (hq_0 : 0 ≤ p2.toInt) : Met l (⟨"AlgolJudge$Tokens", "add", "(IIJ)V"⟩ : MethodName) (Cond.code (⟨"AlgolJudge$Tokens", "add", "(IIJ)V"⟩ : MethodName) prog_8_method_14_code 5 (none) :: gT) ({ frames := 0, cells := 0, slots := 0, locals := 0 }) (va_Pc [.ref h2, .int p1, .int p2, .long p3] (xP D (xT kI kJ kB kZ) xN [(h2, .inr (0, [.ref h9, .ref h10, .ref h11, .ref h12, .int tc, .int ta, .int td, .int tf])), (h9, .inl (kI, 3001, .inl f9)), (h10, .inl (kI, 3001, .inl f10)), (h11, .inl (kJ, 3001, .inr (.inl f11))), (h12, .inl (kJ, 27, .inr (.inl f12)))] sz)) (va_Qv (fun _ : Unit => True) (fun _ t => ∃ tc' : Int32, ∃ f9' : Nat → Int32, ∃ f10' : Nat → Int32, ∃ f11' : Nat → Int64, (0 ≤ tc'.toInt) ∧ (tc'.toInt ≤ 3001) ∧ (∀ j : Nat, 0 ≤ (f10' j).toInt) ∧ (1 ≤ tc'.toInt) ∧ xQ D (xT kI kJ kB kZ) (va_A [(h2, .inr (0, [.ref h9, .ref h10, .ref h11, .ref h12, .int tc, .int ta, .int td, .int tf])), (h9, .inl (kI, 3001, .inl f9)), (h10, .inl (kI, 3001, .inl f10)), (h11, .inl (kJ, 3001, .inr (.inl f11))), (h12, .inl (kJ, 27, .inr (.inl f12)))] sz) [(h2, .inr (0, [.ref h9, .ref h10, .ref h11, .ref h12, .int tc', .int ta, .int td, .int tf])), (h9, .inl (kI, 3001, .inl f9')), (h10, .inl (kI, 3001, .inl f10')), (h11, .inl (kJ, 3001, .inr (.inl f11'))), (h12, .inl (kJ, 27, .inr (.inl f12)))] t) (va_A [(h2, .inr (0, [.ref h9, .ref h10, .ref h11, .ref h12, .int tc, .int ta, .int td, .int tf])), (h9, .inl (kI, 3001, .inl f9)), (h10, .inl (kI, 3001, .inl f10)), (h11, .inl (kJ, 3001, .inr (.inl f11))), (h12, .inl (kJ, 27, .inr (.inl f12)))] sz)) 0 0 (va_A [(h2, .inr (0, [.ref h9, .ref h10, .ref h11, .ref h12, .int tc, .int ta, .int td, .int tf])), (h9, .inl (kI, 3001, .inl f9)), (h10, .inl (kI, 3001, .inl f10)), (h11, .inl (kJ, 3001, .inr (.inl f11))), (h12, .inl (kJ, 27, .inr (.inl f12)))] sz) := by
  refine Met.ofW (cc := prog_8_method_14_code) (maxL := 5) (ret := none) (by decide +kernel) rfl ?_
  intro p e s m args below meth c s₁ B hml hv
  obtain ⟨rfl, hsz, hP, hK, hD0, hE⟩ := hv
  have hx := B.exec
  have hb := B.bytes
  have hr := B.returns
  have hts : ∀ w ∈ gT, w.before _ s = true := fun w h => atoms_spec (ws := Cond.code (⟨"AlgolJudge$Tokens", "add", "(IIJ)V"⟩ : MethodName) prog_8_method_14_code 5 (none) :: gT) B.pre w (List.mem_cons_of_mem _ h)
  have hown : s.vm.findClass "AlgolJudge$Tokens" = some m.cls := findClass_of_methodNamed B.named
  have hlocks := B.notSynchronized
  subst hsz
  have hD := hD0.self (sz := s.heap.size)
  generalize hAe : va_A [(h2, .inr (0, [.ref h9, .ref h10, .ref h11, .ref h12, .int tc, .int ta, .int td, .int tf])), (h9, .inl (kI, 3001, .inl f9)), (h10, .inl (kI, 3001, .inl f10)), (h11, .inl (kJ, 3001, .inr (.inl f11))), (h12, .inl (kJ, 27, .inr (.inl f12)))] s.heap.size = A at hD hE ⊢
  have hA : ∀ q : Nat, s.heap.size ≤ q → A q := fun q h => by rw [← hAe]; exact Or.inr h
  have hS : va_S A s.heap s.heap [] := va_S.rf
  have hP : va_P D cls9 [(h2, .inr (0, [.ref h9, .ref h10, .ref h11, .ref h12, .int tc, .int ta, .int td, .int tf])), (h9, .inl (kI, 3001, .inl f9)), (h10, .inl (kI, 3001, .inl f10)), (h11, .inl (kJ, 3001, .inr (.inl f11))), (h12, .inl (kJ, 27, .inr (.inl f12)))] s.heap := hP
  have hl := lv_entry ([.ref h2, .int p1, .int p2, .long p3]) (n := 5) (Nat.le_of_ble_eq_true rfl)
  rw [lg_entry_eq]
  generalize (lg_sl ([.ref h2, .int p1, .int p2, .long p3]) ++ List.replicate (5 - (lg_sl ([.ref h2, .int p1, .int p2, .long p3])).length) Slot.unset).toArray = ls at hl ⊢
  have hl : lv_has ls 5 [(0, .ref h2), (1, .int p1), (2, .int p2), (3, .long p3)] := hl
  refine lv_aload_n hx hb d_8_14_0 rfl (lv_at hl 0 rfl) ?_
  refine va_get (D := D) (ci := 0) (v := .int tc) (C := "AlgolJudge$Tokens") (T := T_Tokens) (N := 8) hx hb hts i_Tokens hown hK hP 0 rfl rfl 4 (by decide +kernel) (hts _ m_214) (fun _ h9 => h9) rfl d_8_14_1 ?_
  refine lv_sipush (v := 3001) hx hb d_8_14_4 (by decide +kernel) ?_
  refine lv_icmp_ge (tgt := 50) hx hb d_8_14_7 (by decide +kernel) (fun c_1 => ?_) (fun c_1 => ?_)
  · skip
    have tc_1 : 3001 ≤ tc.toInt := Int32.le_iff_toInt_le.mp c_1
    have hP9 := hP.sub (ws' := [(h2, .inr (0, [.ref h9, .ref h10, .ref h11, .ref h12, .int tc, .int ta, .int td, .int tf])), (h9, .inl (kI, 3001, .inl f9)), (h10, .inl (kI, 3001, .inl f10)), (h11, .inl (kJ, 3001, .inr (.inl f11))), (h12, .inl (kJ, 27, .inr (.inl f12)))]) [0, 1, 2, 3, 4] rfl
    have hD9 := hD.sub (ws' := [(h2, .inr (0, [.ref h9, .ref h10, .ref h11, .ref h12, .int tc, .int ta, .int td, .int tf])), (h9, .inl (kI, 3001, .inl f9)), (h10, .inl (kI, 3001, .inl f10)), (h11, .inl (kJ, 3001, .inr (.inl f11))), (h12, .inl (kJ, 27, .inr (.inl f12)))]) [0, 1, 2, 3, 4] (by decide) rfl
    have hz_0 : 0 ≤ tc.toInt := (by first | assumption | omega)
    have hz_1 : tc.toInt ≤ 3001 := (by first | assumption | omega)
    have hz_2 : ∀ j : Nat, 0 ≤ (f10 j).toInt := (by first | assumption | exact zpl (by assumption) (by omega))
    have hz_3 : 1 ≤ tc.toInt := (by first | assumption | omega)
    exact W.vret hx hb hr (fun t ht hW => ⟨⟨(), rfl, trivial, tc, f9, f10, f11, hz_0, hz_1, hz_2, hz_3, xEnd hK hP9 hD9 ht hW⟩, hS.F ht⟩) hS.2.2 d_8_14_50
  · skip
    have tc_1 : ¬ 3001 ≤ tc.toInt := fun h9 => c_1 (Int32.le_iff_toInt_le.mpr h9)
    refine lv_aload_n hx hb d_8_14_10 rfl (lv_at hl 0 rfl) ?_
    refine va_get (D := D) (ci := 0) (v := .ref h9) (C := "AlgolJudge$Tokens") (T := T_Tokens) (N := 8) hx hb hts i_Tokens hown hK hP 0 rfl rfl 0 (by decide +kernel) (hts _ m_210) (fun _ h9 => h9) rfl d_8_14_11 ?_
    refine lv_aload_n hx hb d_8_14_14 rfl (lv_at hl 0 rfl) ?_
    refine va_get (D := D) (ci := 0) (v := .int tc) (C := "AlgolJudge$Tokens") (T := T_Tokens) (N := 8) hx hb hts i_Tokens hown hK hP 0 rfl rfl 4 (by decide +kernel) (hts _ m_214) (fun _ h9 => h9) rfl d_8_14_15 ?_
    refine lv_iload_n hx hb d_8_14_18 rfl (lv_at hl 1 rfl) ?_
    refine va_iast hx hb hK hP hD hS 1 0 rfl rfl (vp_in_iff.mpr ⟨by omega, by omega⟩) d_8_14_19 (fun H locs hP hD hS => ?_)
    have hP : va_P D cls9 [(h2, .inr (0, [.ref h9, .ref h10, .ref h11, .ref h12, .int tc, .int ta, .int td, .int tf])), (h9, .inl (kI, 3001, .inl (upd f9 (Int32.toNatClampNeg tc) p1))), (h10, .inl (kI, 3001, .inl f10)), (h11, .inl (kJ, 3001, .inr (.inl f11))), (h12, .inl (kJ, 27, .inr (.inl f12)))] H := hP
    have hD : va_D A [(h2, .inr (0, [.ref h9, .ref h10, .ref h11, .ref h12, .int tc, .int ta, .int td, .int tf])), (h9, .inl (kI, 3001, .inl (upd f9 (Int32.toNatClampNeg tc) p1))), (h10, .inl (kI, 3001, .inl f10)), (h11, .inl (kJ, 3001, .inr (.inl f11))), (h12, .inl (kJ, 27, .inr (.inl f12)))] := hD
    refine lv_aload_n hx hb d_8_14_20 rfl (lv_at hl 0 rfl) ?_
    refine va_get (D := D) (ci := 0) (v := .ref h10) (C := "AlgolJudge$Tokens") (T := T_Tokens) (N := 8) hx hb hts i_Tokens hown hK hP 0 rfl rfl 1 (by decide +kernel) (hts _ m_211) (fun _ h9 => h9) rfl d_8_14_21 ?_
    refine lv_aload_n hx hb d_8_14_24 rfl (lv_at hl 0 rfl) ?_
    refine va_get (D := D) (ci := 0) (v := .int tc) (C := "AlgolJudge$Tokens") (T := T_Tokens) (N := 8) hx hb hts i_Tokens hown hK hP 0 rfl rfl 4 (by decide +kernel) (hts _ m_214) (fun _ h9 => h9) rfl d_8_14_25 ?_
    refine lv_iload_n hx hb d_8_14_28 rfl (lv_at hl 2 rfl) ?_
    refine va_iast hx hb hK hP hD hS 2 0 rfl rfl (vp_in_iff.mpr ⟨by omega, by omega⟩) d_8_14_29 (fun H locs hP hD hS => ?_)
    have hP : va_P D cls9 [(h2, .inr (0, [.ref h9, .ref h10, .ref h11, .ref h12, .int tc, .int ta, .int td, .int tf])), (h9, .inl (kI, 3001, .inl (upd f9 (Int32.toNatClampNeg tc) p1))), (h10, .inl (kI, 3001, .inl (upd f10 (Int32.toNatClampNeg tc) p2))), (h11, .inl (kJ, 3001, .inr (.inl f11))), (h12, .inl (kJ, 27, .inr (.inl f12)))] H := hP
    have hD : va_D A [(h2, .inr (0, [.ref h9, .ref h10, .ref h11, .ref h12, .int tc, .int ta, .int td, .int tf])), (h9, .inl (kI, 3001, .inl (upd f9 (Int32.toNatClampNeg tc) p1))), (h10, .inl (kI, 3001, .inl (upd f10 (Int32.toNatClampNeg tc) p2))), (h11, .inl (kJ, 3001, .inr (.inl f11))), (h12, .inl (kJ, 27, .inr (.inl f12)))] := hD
    refine lv_aload_n hx hb d_8_14_30 rfl (lv_at hl 0 rfl) ?_
    refine va_get (D := D) (ci := 0) (v := .ref h11) (C := "AlgolJudge$Tokens") (T := T_Tokens) (N := 8) hx hb hts i_Tokens hown hK hP 0 rfl rfl 2 (by decide +kernel) (hts _ m_212) (fun _ h9 => h9) rfl d_8_14_31 ?_
    refine lv_aload_n hx hb d_8_14_34 rfl (lv_at hl 0 rfl) ?_
    refine va_get (D := D) (ci := 0) (v := .int tc) (C := "AlgolJudge$Tokens") (T := T_Tokens) (N := 8) hx hb hts i_Tokens hown hK hP 0 rfl rfl 4 (by decide +kernel) (hts _ m_214) (fun _ h9 => h9) rfl d_8_14_35 ?_
    refine lv_lload_n hx hb d_8_14_38 rfl (lv_at hl 3 rfl) ?_
    refine va_last hx hb hK hP hD hS 3 1 rfl rfl (vp_in_iff.mpr ⟨by omega, by omega⟩) d_8_14_39 (fun H locs hP hD hS => ?_)
    have hP : va_P D cls9 [(h2, .inr (0, [.ref h9, .ref h10, .ref h11, .ref h12, .int tc, .int ta, .int td, .int tf])), (h9, .inl (kI, 3001, .inl (upd f9 (Int32.toNatClampNeg tc) p1))), (h10, .inl (kI, 3001, .inl (upd f10 (Int32.toNatClampNeg tc) p2))), (h11, .inl (kJ, 3001, .inr (.inl (vp_updL f11 (Int32.toNatClampNeg tc) p3)))), (h12, .inl (kJ, 27, .inr (.inl f12)))] H := hP
    have hD : va_D A [(h2, .inr (0, [.ref h9, .ref h10, .ref h11, .ref h12, .int tc, .int ta, .int td, .int tf])), (h9, .inl (kI, 3001, .inl (upd f9 (Int32.toNatClampNeg tc) p1))), (h10, .inl (kI, 3001, .inl (upd f10 (Int32.toNatClampNeg tc) p2))), (h11, .inl (kJ, 3001, .inr (.inl (vp_updL f11 (Int32.toNatClampNeg tc) p3)))), (h12, .inl (kJ, 27, .inr (.inl f12)))] := hD
    refine lv_aload_n hx hb d_8_14_40 rfl (lv_at hl 0 rfl) ?_
    refine lv_dup hx hb d_8_14_41 rfl ?_
    refine va_get (D := D) (ci := 0) (v := .int tc) (C := "AlgolJudge$Tokens") (T := T_Tokens) (N := 8) hx hb hts i_Tokens hown hK hP 0 rfl rfl 4 (by decide +kernel) (hts _ m_214) (fun _ h9 => h9) rfl d_8_14_42 ?_
    refine lv_iconst (v := 1) hx hb d_8_14_45 (by decide +kernel) ?_
    refine lv_iadd hx hb d_8_14_46 ?_
    refine lv_topi (fun y_2 ey_2 => ?_)
    have ty_2 : y_2.toInt = tc.toInt + 1 := by rw [ey_2]; exact zaddc (by decide +kernel) (by omega) (by omega)
    refine va_put (D := D) (ci := 0) (v := .int y_2) (ty := .int) (C := "AlgolJudge$Tokens") (T := T_Tokens) (N := 8) hx hb hts i_Tokens t_Tokens t_Tokens_ok n_Tokens hown hK hP hD hS 0 rfl rfl 4 (by decide +kernel) (hts _ m_214) (fun _ h9 => h9) rfl (by decide +kernel) rfl rfl (Nat.le_of_ble_eq_true rfl) d_8_14_47 (fun H locs hP hD hS => ?_)
    have hP : va_P D cls9 [(h2, .inr (0, [.ref h9, .ref h10, .ref h11, .ref h12, .int y_2, .int ta, .int td, .int tf])), (h9, .inl (kI, 3001, .inl (upd f9 (Int32.toNatClampNeg tc) p1))), (h10, .inl (kI, 3001, .inl (upd f10 (Int32.toNatClampNeg tc) p2))), (h11, .inl (kJ, 3001, .inr (.inl (vp_updL f11 (Int32.toNatClampNeg tc) p3)))), (h12, .inl (kJ, 27, .inr (.inl f12)))] H := hP
    have hD : va_D A [(h2, .inr (0, [.ref h9, .ref h10, .ref h11, .ref h12, .int y_2, .int ta, .int td, .int tf])), (h9, .inl (kI, 3001, .inl (upd f9 (Int32.toNatClampNeg tc) p1))), (h10, .inl (kI, 3001, .inl (upd f10 (Int32.toNatClampNeg tc) p2))), (h11, .inl (kJ, 3001, .inr (.inl (vp_updL f11 (Int32.toNatClampNeg tc) p3)))), (h12, .inl (kJ, 27, .inr (.inl f12)))] := hD
    have hP9 := hP.sub (ws' := [(h2, .inr (0, [.ref h9, .ref h10, .ref h11, .ref h12, .int y_2, .int ta, .int td, .int tf])), (h9, .inl (kI, 3001, .inl (upd f9 (Int32.toNatClampNeg tc) p1))), (h10, .inl (kI, 3001, .inl (upd f10 (Int32.toNatClampNeg tc) p2))), (h11, .inl (kJ, 3001, .inr (.inl (vp_updL f11 (Int32.toNatClampNeg tc) p3)))), (h12, .inl (kJ, 27, .inr (.inl f12)))]) [0, 1, 2, 3, 4] rfl
    have hD9 := hD.sub (ws' := [(h2, .inr (0, [.ref h9, .ref h10, .ref h11, .ref h12, .int y_2, .int ta, .int td, .int tf])), (h9, .inl (kI, 3001, .inl (upd f9 (Int32.toNatClampNeg tc) p1))), (h10, .inl (kI, 3001, .inl (upd f10 (Int32.toNatClampNeg tc) p2))), (h11, .inl (kJ, 3001, .inr (.inl (vp_updL f11 (Int32.toNatClampNeg tc) p3)))), (h12, .inl (kJ, 27, .inr (.inl f12)))]) [0, 1, 2, 3, 4] (by decide) rfl
    have hz_0 : 0 ≤ y_2.toInt := (by first | assumption | omega)
    have hz_1 : y_2.toInt ≤ 3001 := (by first | assumption | omega)
    have hz_2 : ∀ j : Nat, 0 ≤ ((upd f10 (Int32.toNatClampNeg tc) p2) j).toInt := (by first | assumption | exact zpl (by assumption) (by omega))
    have hz_3 : 1 ≤ y_2.toInt := (by first | assumption | omega)
    exact W.vret hx hb hr (fun t ht hW => ⟨⟨(), rfl, trivial, y_2, (upd f9 (Int32.toNatClampNeg tc) p1), (upd f10 (Int32.toNatClampNeg tc) p2), (vp_updL f11 (Int32.toNatClampNeg tc) p3), hz_0, hz_1, hz_2, hz_3, xEnd hK hP9 hD9 ht hW⟩, hS.F ht⟩) hS.2.2 d_8_14_50
set_option maxHeartbeats 8000000 in
set_option maxRecDepth 100000 in
theorem g_Tokens_kindOfWord (l : Launch) (D : va_G) (kI kJ kB kZ : ClassId) (sz : Nat) (h2 : Nat) (h9 : Nat) (h10 : Nat) (h11 : Nat) (h12 : Nat) (tc : Int32) (ta : Int32) (td : Int32) (tf : Int32) (f9 : Nat → Int32) (f10 : Nat → Int32) (f11 : Nat → Int64) (f12 : Nat → Int64) (p1 : Int64) (p2 : Int32) (hf_C1 : 0 ≤ tc.toInt) (hf_C2 : tc.toInt ≤ 3001) (hf_T6 : ∀ j : Nat, 0 ≤ (f10 j).toInt) : Met l (⟨"AlgolJudge$Tokens", "kindOfWord", "(JI)I"⟩ : MethodName) (Cond.code (⟨"AlgolJudge$Tokens", "kindOfWord", "(JI)I"⟩ : MethodName) prog_8_method_6_code 5 (some .int) :: gT) ({ frames := 0, cells := 0, slots := 0, locals := 0 }) (va_Pc [.ref h2, .long p1, .int p2] (xP D (xT kI kJ kB kZ) xN [(h2, .inr (0, [.ref h9, .ref h10, .ref h11, .ref h12, .int tc, .int ta, .int td, .int tf])), (h9, .inl (kI, 3001, .inl f9)), (h10, .inl (kI, 3001, .inl f10)), (h11, .inl (kJ, 3001, .inr (.inl f11))), (h12, .inl (kJ, 27, .inr (.inl f12)))] sz)) (va_Qi (fun (r : Int32) (_ : Unit) => True) (fun _ t => xQ D (xT kI kJ kB kZ) (va_A [(h2, .inr (0, [.ref h9, .ref h10, .ref h11, .ref h12, .int tc, .int ta, .int td, .int tf])), (h9, .inl (kI, 3001, .inl f9)), (h10, .inl (kI, 3001, .inl f10)), (h11, .inl (kJ, 3001, .inr (.inl f11))), (h12, .inl (kJ, 27, .inr (.inl f12)))] sz) [(h2, .inr (0, [.ref h9, .ref h10, .ref h11, .ref h12, .int tc, .int ta, .int td, .int tf])), (h9, .inl (kI, 3001, .inl f9)), (h10, .inl (kI, 3001, .inl f10)), (h11, .inl (kJ, 3001, .inr (.inl f11))), (h12, .inl (kJ, 27, .inr (.inl f12)))] t) (va_A [(h2, .inr (0, [.ref h9, .ref h10, .ref h11, .ref h12, .int tc, .int ta, .int td, .int tf])), (h9, .inl (kI, 3001, .inl f9)), (h10, .inl (kI, 3001, .inl f10)), (h11, .inl (kJ, 3001, .inr (.inl f11))), (h12, .inl (kJ, 27, .inr (.inl f12)))] sz)) 0 0 (va_A [(h2, .inr (0, [.ref h9, .ref h10, .ref h11, .ref h12, .int tc, .int ta, .int td, .int tf])), (h9, .inl (kI, 3001, .inl f9)), (h10, .inl (kI, 3001, .inl f10)), (h11, .inl (kJ, 3001, .inr (.inl f11))), (h12, .inl (kJ, 27, .inr (.inl f12)))] sz) := by
  refine Met.ofW (cc := prog_8_method_6_code) (maxL := 5) (ret := some .int) (by decide +kernel) rfl ?_
  intro p e s m args below meth c s₁ B hml hv
  obtain ⟨rfl, hsz, hP, hK, hD0, hE⟩ := hv
  have hx := B.exec
  have hb := B.bytes
  have hr := B.returns
  have hts : ∀ w ∈ gT, w.before _ s = true := fun w h => atoms_spec (ws := Cond.code (⟨"AlgolJudge$Tokens", "kindOfWord", "(JI)I"⟩ : MethodName) prog_8_method_6_code 5 (some .int) :: gT) B.pre w (List.mem_cons_of_mem _ h)
  have hown : s.vm.findClass "AlgolJudge$Tokens" = some m.cls := findClass_of_methodNamed B.named
  have hlocks := B.notSynchronized
  subst hsz
  have hD := hD0.self (sz := s.heap.size)
  generalize hAe : va_A [(h2, .inr (0, [.ref h9, .ref h10, .ref h11, .ref h12, .int tc, .int ta, .int td, .int tf])), (h9, .inl (kI, 3001, .inl f9)), (h10, .inl (kI, 3001, .inl f10)), (h11, .inl (kJ, 3001, .inr (.inl f11))), (h12, .inl (kJ, 27, .inr (.inl f12)))] s.heap.size = A at hD hE ⊢
  have hA : ∀ q : Nat, s.heap.size ≤ q → A q := fun q h => by rw [← hAe]; exact Or.inr h
  have hS : va_S A s.heap s.heap [] := va_S.rf
  have hP : va_P D cls9 [(h2, .inr (0, [.ref h9, .ref h10, .ref h11, .ref h12, .int tc, .int ta, .int td, .int tf])), (h9, .inl (kI, 3001, .inl f9)), (h10, .inl (kI, 3001, .inl f10)), (h11, .inl (kJ, 3001, .inr (.inl f11))), (h12, .inl (kJ, 27, .inr (.inl f12)))] s.heap := hP
  have hl := lv_entry ([.ref h2, .long p1, .int p2]) (n := 5) (Nat.le_of_ble_eq_true rfl)
  rw [lg_entry_eq]
  generalize (lg_sl ([.ref h2, .long p1, .int p2]) ++ List.replicate (5 - (lg_sl ([.ref h2, .long p1, .int p2])).length) Slot.unset).toArray = ls at hl ⊢
  have hl : lv_has ls 5 [(0, .ref h2), (1, .long p1), (3, .int p2)] := hl
  refine lv_iload_n hx hb d_8_6_0 rfl (lv_at hl 2 rfl) ?_
  refine lv_bipush (v := 9) hx hb d_8_6_1 (by decide +kernel) ?_
  refine lv_icmp_le (tgt := 8) hx hb d_8_6_3 (by decide +kernel) (fun c_1 => ?_) (fun c_1 => ?_)
  · skip
    have tc_1 : p2.toInt ≤ 9 := Int32.le_iff_toInt_le.mp c_1
    refine lv_iconst (v := 1) hx hb d_8_6_8 (by decide +kernel) ?_
    refine lv_istore (lv' := [(4, .int 1), (0, .ref h2), (1, .long p1), (3, .int p2)]) hx hb d_8_6_9 hl (by decide +kernel) rfl (fun ls hl => ?_)
    refine xLoop (I := fun n H locs ls => ∃ v11_4 : Int32, (1 ≤ v11_4.toInt) ∧ (v11_4.toInt ≤ 27) ∧ n = (27 - v11_4.toInt).toNat ∧ va_P D cls9 [(h2, .inr (0, [.ref h9, .ref h10, .ref h11, .ref h12, .int tc, .int ta, .int td, .int tf])), (h9, .inl (kI, 3001, .inl f9)), (h10, .inl (kI, 3001, .inl f10)), (h11, .inl (kJ, 3001, .inr (.inl f11))), (h12, .inl (kJ, 27, .inr (.inl f12)))] H ∧ va_D A [(h2, .inr (0, [.ref h9, .ref h10, .ref h11, .ref h12, .int tc, .int ta, .int td, .int tf])), (h9, .inl (kI, 3001, .inl f9)), (h10, .inl (kI, 3001, .inl f10)), (h11, .inl (kJ, 3001, .inr (.inl f11))), (h12, .inl (kJ, 27, .inr (.inl f12)))] ∧ va_S A s.heap H locs ∧ lv_has ls 5 [(4, .int v11_4), (0, .ref h2), (1, .long p1), (3, .int p2)]) ?_ _ _ _ _ ⟨1, (show 1 ≤ (1 : Int) from (by first | assumption | omega)), (show (1 : Int) ≤ 27 from (by first | assumption | omega)), rfl, hP.sub (ws' := [(h2, .inr (0, [.ref h9, .ref h10, .ref h11, .ref h12, .int tc, .int ta, .int td, .int tf])), (h9, .inl (kI, 3001, .inl f9)), (h10, .inl (kI, 3001, .inl f10)), (h11, .inl (kJ, 3001, .inr (.inl f11))), (h12, .inl (kJ, 27, .inr (.inl f12)))]) [0, 1, 2, 3, 4] rfl, hD.sub (ws' := [(h2, .inr (0, [.ref h9, .ref h10, .ref h11, .ref h12, .int tc, .int ta, .int td, .int tf])), (h9, .inl (kI, 3001, .inl f9)), (h10, .inl (kI, 3001, .inl f10)), (h11, .inl (kJ, 3001, .inr (.inl f11))), (h12, .inl (kJ, 27, .inr (.inl f12)))]) [0, 1, 2, 3, 4] (by decide) rfl, hS, lv_sub hl [0, 1, 2, 3] rfl⟩
    intro n_4 H locs ls hI9 ih_5
    obtain ⟨v11_4, hl_2, hl_3, hn_4, hP, hD, hS, hl⟩ := hI9
    refine lv_iload hx hb d_8_6_11 (lv_at hl 0 rfl) ?_
    refine lv_bipush (v := 26) hx hb d_8_6_13 (by decide +kernel) ?_
    refine lv_icmp_gt (tgt := 39) hx hb d_8_6_15 (by decide +kernel) (fun c_6 => ?_) (fun c_6 => ?_)
    · skip
      have tc_6 : 26 < v11_4.toInt := Int32.lt_iff_toInt_lt.mp c_6
      refine lv_iload_n hx hb d_8_6_39 rfl (lv_at hl 3 rfl) ?_
      refine lv_bipush (v := 8) hx hb d_8_6_40 (by decide +kernel) ?_
      refine lv_icmp_le (tgt := 49) hx hb d_8_6_42 (by decide +kernel) (fun c_7 => ?_) (fun c_7 => ?_)
      · skip
        have tc_7 : p2.toInt ≤ 8 := Int32.le_iff_toInt_le.mp c_7
        refine lv_bipush (v := 27) hx hb d_8_6_49 (by decide +kernel) ?_
        have hP9 := hP.sub (ws' := [(h2, .inr (0, [.ref h9, .ref h10, .ref h11, .ref h12, .int tc, .int ta, .int td, .int tf])), (h9, .inl (kI, 3001, .inl f9)), (h10, .inl (kI, 3001, .inl f10)), (h11, .inl (kJ, 3001, .inr (.inl f11))), (h12, .inl (kJ, 27, .inr (.inl f12)))]) [0, 1, 2, 3, 4] rfl
        have hD9 := hD.sub (ws' := [(h2, .inr (0, [.ref h9, .ref h10, .ref h11, .ref h12, .int tc, .int ta, .int td, .int tf])), (h9, .inl (kI, 3001, .inl f9)), (h10, .inl (kI, 3001, .inl f10)), (h11, .inl (kJ, 3001, .inr (.inl f11))), (h12, .inl (kJ, 27, .inr (.inl f12)))]) [0, 1, 2, 3, 4] (by decide) rfl
        exact W.iret (v := 27) hx hb hr (fun t ht hW => ⟨⟨27, (), rfl, trivial, xEnd hK hP9 hD9 ht hW⟩, hS.F ht⟩) hS.2.2 d_8_6_51
      · skip
        have tc_7 : ¬ p2.toInt ≤ 8 := fun h9 => c_7 (Int32.le_iff_toInt_le.mpr h9)
        refine lv_iconst (v := (-1)) hx hb d_8_6_45 (by decide +kernel) ?_
        refine lv_goto (tgt := 51) hx hb d_8_6_46 (by decide +kernel) ?_
        have hP9 := hP.sub (ws' := [(h2, .inr (0, [.ref h9, .ref h10, .ref h11, .ref h12, .int tc, .int ta, .int td, .int tf])), (h9, .inl (kI, 3001, .inl f9)), (h10, .inl (kI, 3001, .inl f10)), (h11, .inl (kJ, 3001, .inr (.inl f11))), (h12, .inl (kJ, 27, .inr (.inl f12)))]) [0, 1, 2, 3, 4] rfl
        have hD9 := hD.sub (ws' := [(h2, .inr (0, [.ref h9, .ref h10, .ref h11, .ref h12, .int tc, .int ta, .int td, .int tf])), (h9, .inl (kI, 3001, .inl f9)), (h10, .inl (kI, 3001, .inl f10)), (h11, .inl (kJ, 3001, .inr (.inl f11))), (h12, .inl (kJ, 27, .inr (.inl f12)))]) [0, 1, 2, 3, 4] (by decide) rfl
        exact W.iret (v := (-1)) hx hb hr (fun t ht hW => ⟨⟨(-1), (), rfl, trivial, xEnd hK hP9 hD9 ht hW⟩, hS.F ht⟩) hS.2.2 d_8_6_51
    · skip
      have tc_6 : ¬ 26 < v11_4.toInt := fun h9 => c_6 (Int32.lt_iff_toInt_lt.mpr h9)
      refine lv_aload_n hx hb d_8_6_18 rfl (lv_at hl 1 rfl) ?_
      refine va_get (D := D) (ci := 0) (v := .ref h12) (C := "AlgolJudge$Tokens") (T := T_Tokens) (N := 8) hx hb hts i_Tokens hown hK hP 0 rfl rfl 3 (by decide +kernel) (hts _ m_213) (fun _ h9 => h9) rfl d_8_6_19 ?_
      refine lv_iload hx hb d_8_6_22 (lv_at hl 0 rfl) ?_
      refine va_lald hx hb hK hP 4 1 rfl rfl (vp_in_iff.mpr ⟨by omega, by omega⟩) d_8_6_24 ?_
      refine lv_topl (fun z_8 ez_8 => ?_)
      refine lv_lload_n hx hb d_8_6_25 rfl (lv_at hl 2 rfl) ?_
      refine W.lcmp hx hb d_8_6_26 ?_
      refine lv_if_ne (tgt := 33) hx hb d_8_6_27 (by decide +kernel) (fun c_9 => ?_) (fun c_9 => ?_)
      · skip
        have tc_9 : ¬ (lg_cmp z_8 p1).toInt = 0 := fun h9 => c_9 (Int32.toInt_inj.mp h9)
        obtain ⟨y_10, ey_10⟩ : ∃ y : Int32, y = v11_4 + 1 := ⟨_, rfl⟩
        have ty_10 : y_10.toInt = v11_4.toInt + 1 := by rw [ey_10]; exact zaddc (by decide +kernel) (by omega) (by omega)
        refine lv_iinc (v := y_10) (lv' := [(4, .int y_10), (0, .ref h2), (1, .long p1), (3, .int p2)]) hx hb d_8_6_33 hl (k := 0) rfl (by rw [ey_10]; rfl) (by decide +kernel) rfl (fun ls hl => ?_)
        refine lv_goto (tgt := 11) hx hb d_8_6_36 (by decide +kernel) ?_
        exact ih_5 _ _ _ _ (by omega) ⟨y_10, (show 1 ≤ y_10.toInt from (by first | assumption | omega)), (show y_10.toInt ≤ 27 from (by first | assumption | omega)), rfl, hP.sub (ws' := [(h2, .inr (0, [.ref h9, .ref h10, .ref h11, .ref h12, .int tc, .int ta, .int td, .int tf])), (h9, .inl (kI, 3001, .inl f9)), (h10, .inl (kI, 3001, .inl f10)), (h11, .inl (kJ, 3001, .inr (.inl f11))), (h12, .inl (kJ, 27, .inr (.inl f12)))]) [0, 1, 2, 3, 4] rfl, hD.sub (ws' := [(h2, .inr (0, [.ref h9, .ref h10, .ref h11, .ref h12, .int tc, .int ta, .int td, .int tf])), (h9, .inl (kI, 3001, .inl f9)), (h10, .inl (kI, 3001, .inl f10)), (h11, .inl (kJ, 3001, .inr (.inl f11))), (h12, .inl (kJ, 27, .inr (.inl f12)))]) [0, 1, 2, 3, 4] (by decide) rfl, hS, lv_sub hl [0, 1, 2, 3] rfl⟩
      · skip
        have tc_9 : (lg_cmp z_8 p1).toInt = 0 := congrArg Int32.toInt c_9
        refine lv_iload hx hb d_8_6_30 (lv_at hl 0 rfl) ?_
        have hP9 := hP.sub (ws' := [(h2, .inr (0, [.ref h9, .ref h10, .ref h11, .ref h12, .int tc, .int ta, .int td, .int tf])), (h9, .inl (kI, 3001, .inl f9)), (h10, .inl (kI, 3001, .inl f10)), (h11, .inl (kJ, 3001, .inr (.inl f11))), (h12, .inl (kJ, 27, .inr (.inl f12)))]) [0, 1, 2, 3, 4] rfl
        have hD9 := hD.sub (ws' := [(h2, .inr (0, [.ref h9, .ref h10, .ref h11, .ref h12, .int tc, .int ta, .int td, .int tf])), (h9, .inl (kI, 3001, .inl f9)), (h10, .inl (kI, 3001, .inl f10)), (h11, .inl (kJ, 3001, .inr (.inl f11))), (h12, .inl (kJ, 27, .inr (.inl f12)))]) [0, 1, 2, 3, 4] (by decide) rfl
        exact W.iret (v := v11_4) hx hb hr (fun t ht hW => ⟨⟨v11_4, (), rfl, trivial, xEnd hK hP9 hD9 ht hW⟩, hS.F ht⟩) hS.2.2 d_8_6_32
  · skip
    have tc_1 : ¬ p2.toInt ≤ 9 := fun h9 => c_1 (Int32.le_iff_toInt_le.mpr h9)
    refine lv_iconst (v := (-1)) hx hb d_8_6_6 (by decide +kernel) ?_
    have hP9 := hP.sub (ws' := [(h2, .inr (0, [.ref h9, .ref h10, .ref h11, .ref h12, .int tc, .int ta, .int td, .int tf])), (h9, .inl (kI, 3001, .inl f9)), (h10, .inl (kI, 3001, .inl f10)), (h11, .inl (kJ, 3001, .inr (.inl f11))), (h12, .inl (kJ, 27, .inr (.inl f12)))]) [0, 1, 2, 3, 4] rfl
    have hD9 := hD.sub (ws' := [(h2, .inr (0, [.ref h9, .ref h10, .ref h11, .ref h12, .int tc, .int ta, .int td, .int tf])), (h9, .inl (kI, 3001, .inl f9)), (h10, .inl (kI, 3001, .inl f10)), (h11, .inl (kJ, 3001, .inr (.inl f11))), (h12, .inl (kJ, 27, .inr (.inl f12)))]) [0, 1, 2, 3, 4] (by decide) rfl
    exact W.iret (v := (-1)) hx hb hr (fun t ht hW => ⟨⟨(-1), (), rfl, trivial, xEnd hK hP9 hD9 ht hW⟩, hS.F ht⟩) hS.2.2 d_8_6_7
set_option maxHeartbeats 8000000 in
set_option maxRecDepth 100000 in
theorem g_Tokens_scanWord (l : Launch) (D : va_G) (kI kJ kB kZ : ClassId) (sz : Nat) (h1 : Nat) (h2 : Nat) (h9 : Nat) (h10 : Nat) (h11 : Nat) (h12 : Nat) (tc : Int32) (ta : Int32) (td : Int32) (tf : Int32) (f9 : Nat → Int32) (f10 : Nat → Int32) (f11 : Nat → Int64) (f12 : Nat → Int64) (f1 : Nat → Int32) (p2 : Int32) (p3 : Int32) (hf_C1 : 0 ≤ tc.toInt) (hf_C2 : tc.toInt ≤ 3001) (hf_T6 : ∀ j : Nat, 0 ≤ (f10 j).toInt) (hq_0 : 0 ≤ p3.toInt) (hq_1 : p3.toInt < p2.toInt) (hq_2 : p2.toInt ≤ 3000) : Met l (⟨"AlgolJudge$Tokens", "scanWord", "([BII)I"⟩ : MethodName) (Cond.code (⟨"AlgolJudge$Tokens", "scanWord", "([BII)I"⟩ : MethodName) prog_8_method_5_code 7 (some .int) :: gT) ({ frames := 2, cells := 0, slots := 0, locals := 42 }) (va_Pc [.ref h2, .ref h1, .int p2, .int p3] (xP D (xT kI kJ kB kZ) xN [(h2, .inr (0, [.ref h9, .ref h10, .ref h11, .ref h12, .int tc, .int ta, .int td, .int tf])), (h9, .inl (kI, 3001, .inl f9)), (h10, .inl (kI, 3001, .inl f10)), (h11, .inl (kJ, 3001, .inr (.inl f11))), (h12, .inl (kJ, 27, .inr (.inl f12))), (h1, .inl (kB, 3000, .inl f1))] sz)) (va_Qi (fun (r : Int32) (_ : Unit) => 0 ≤ r.toInt) (fun _ t => ∃ tc' : Int32, ∃ f9' : Nat → Int32, ∃ f10' : Nat → Int32, ∃ f11' : Nat → Int64, (0 ≤ tc'.toInt) ∧ (tc'.toInt ≤ 3001) ∧ (∀ j : Nat, 0 ≤ (f10' j).toInt) ∧ xQ D (xT kI kJ kB kZ) (va_A [(h2, .inr (0, [.ref h9, .ref h10, .ref h11, .ref h12, .int tc, .int ta, .int td, .int tf])), (h9, .inl (kI, 3001, .inl f9)), (h10, .inl (kI, 3001, .inl f10)), (h11, .inl (kJ, 3001, .inr (.inl f11))), (h12, .inl (kJ, 27, .inr (.inl f12))), (h1, .inl (kB, 3000, .inl f1))] sz) [(h2, .inr (0, [.ref h9, .ref h10, .ref h11, .ref h12, .int tc', .int ta, .int td, .int tf])), (h9, .inl (kI, 3001, .inl f9')), (h10, .inl (kI, 3001, .inl f10')), (h11, .inl (kJ, 3001, .inr (.inl f11'))), (h12, .inl (kJ, 27, .inr (.inl f12))), (h1, .inl (kB, 3000, .inl f1))] t) (va_A [(h2, .inr (0, [.ref h9, .ref h10, .ref h11, .ref h12, .int tc, .int ta, .int td, .int tf])), (h9, .inl (kI, 3001, .inl f9)), (h10, .inl (kI, 3001, .inl f10)), (h11, .inl (kJ, 3001, .inr (.inl f11))), (h12, .inl (kJ, 27, .inr (.inl f12))), (h1, .inl (kB, 3000, .inl f1))] sz)) 0 0 (va_A [(h2, .inr (0, [.ref h9, .ref h10, .ref h11, .ref h12, .int tc, .int ta, .int td, .int tf])), (h9, .inl (kI, 3001, .inl f9)), (h10, .inl (kI, 3001, .inl f10)), (h11, .inl (kJ, 3001, .inr (.inl f11))), (h12, .inl (kJ, 27, .inr (.inl f12))), (h1, .inl (kB, 3000, .inl f1))] sz) := by
  refine Met.ofW (cc := prog_8_method_5_code) (maxL := 7) (ret := some .int) (by decide +kernel) rfl ?_
  intro p e s m args below meth c s₁ B hml hv
  obtain ⟨rfl, hsz, hP, hK, hD0, hE⟩ := hv
  have hx := B.exec
  have hb := B.bytes
  have hr := B.returns
  have hts : ∀ w ∈ gT, w.before _ s = true := fun w h => atoms_spec (ws := Cond.code (⟨"AlgolJudge$Tokens", "scanWord", "([BII)I"⟩ : MethodName) prog_8_method_5_code 7 (some .int) :: gT) B.pre w (List.mem_cons_of_mem _ h)
  have hown : s.vm.findClass "AlgolJudge$Tokens" = some m.cls := findClass_of_methodNamed B.named
  have hlocks := B.notSynchronized
  subst hsz
  have hD := hD0.self (sz := s.heap.size)
  generalize hAe : va_A [(h2, .inr (0, [.ref h9, .ref h10, .ref h11, .ref h12, .int tc, .int ta, .int td, .int tf])), (h9, .inl (kI, 3001, .inl f9)), (h10, .inl (kI, 3001, .inl f10)), (h11, .inl (kJ, 3001, .inr (.inl f11))), (h12, .inl (kJ, 27, .inr (.inl f12))), (h1, .inl (kB, 3000, .inl f1))] s.heap.size = A at hD hE ⊢
  have hA : ∀ q : Nat, s.heap.size ≤ q → A q := fun q h => by rw [← hAe]; exact Or.inr h
  have hS : va_S A s.heap s.heap [] := va_S.rf
  have hP : va_P D cls9 [(h2, .inr (0, [.ref h9, .ref h10, .ref h11, .ref h12, .int tc, .int ta, .int td, .int tf])), (h9, .inl (kI, 3001, .inl f9)), (h10, .inl (kI, 3001, .inl f10)), (h11, .inl (kJ, 3001, .inr (.inl f11))), (h12, .inl (kJ, 27, .inr (.inl f12))), (h1, .inl (kB, 3000, .inl f1))] s.heap := hP
  have hl := lv_entry ([.ref h2, .ref h1, .int p2, .int p3]) (n := 7) (Nat.le_of_ble_eq_true rfl)
  rw [lg_entry_eq]
  generalize (lg_sl ([.ref h2, .ref h1, .int p2, .int p3]) ++ List.replicate (7 - (lg_sl ([.ref h2, .ref h1, .int p2, .int p3])).length) Slot.unset).toArray = ls at hl ⊢
  have hl : lv_has ls 7 [(0, .ref h2), (1, .ref h1), (2, .int p2), (3, .int p3)] := hl
  refine lv_lconst (v := 0) hx hb d_8_5_0 (by decide +kernel) ?_
  refine lv_lstore (lv' := [(4, .long 0), (0, .ref h2), (1, .ref h1), (2, .int p2), (3, .int p3)]) hx hb d_8_5_1 hl (by decide +kernel) rfl (fun ls hl => ?_)
  refine lv_iload_n hx hb d_8_5_3 rfl (lv_at hl 4 rfl) ?_
  refine lv_istore (lv' := [(6, .int p3), (4, .long 0), (0, .ref h2), (1, .ref h1), (2, .int p2), (3, .int p3)]) hx hb d_8_5_4 hl (by decide +kernel) rfl (fun ls hl => ?_)
  refine xLoop (I := fun n H locs ls => ∃ v6_6 : Int32, ∃ v6_4 : Int64, (p3.toInt ≤ v6_6.toInt) ∧ (v6_6.toInt ≤ p2.toInt) ∧ n = (p2.toInt - v6_6.toInt).toNat ∧ va_P D cls9 [(h2, .inr (0, [.ref h9, .ref h10, .ref h11, .ref h12, .int tc, .int ta, .int td, .int tf])), (h9, .inl (kI, 3001, .inl f9)), (h10, .inl (kI, 3001, .inl f10)), (h11, .inl (kJ, 3001, .inr (.inl f11))), (h12, .inl (kJ, 27, .inr (.inl f12))), (h1, .inl (kB, 3000, .inl f1))] H ∧ va_D A [(h2, .inr (0, [.ref h9, .ref h10, .ref h11, .ref h12, .int tc, .int ta, .int td, .int tf])), (h9, .inl (kI, 3001, .inl f9)), (h10, .inl (kI, 3001, .inl f10)), (h11, .inl (kJ, 3001, .inr (.inl f11))), (h12, .inl (kJ, 27, .inr (.inl f12))), (h1, .inl (kB, 3000, .inl f1))] ∧ va_S A s.heap H locs ∧ lv_has ls 7 [(6, .int v6_6), (4, .long v6_4), (0, .ref h2), (1, .ref h1), (2, .int p2), (3, .int p3)]) ?_ _ _ _ _ ⟨p3, 0, (show p3.toInt ≤ p3.toInt from (by first | assumption | omega)), (show p3.toInt ≤ p2.toInt from (by first | assumption | omega)), rfl, hP.sub (ws' := [(h2, .inr (0, [.ref h9, .ref h10, .ref h11, .ref h12, .int tc, .int ta, .int td, .int tf])), (h9, .inl (kI, 3001, .inl f9)), (h10, .inl (kI, 3001, .inl f10)), (h11, .inl (kJ, 3001, .inr (.inl f11))), (h12, .inl (kJ, 27, .inr (.inl f12))), (h1, .inl (kB, 3000, .inl f1))]) [0, 1, 2, 3, 4, 5] rfl, hD.sub (ws' := [(h2, .inr (0, [.ref h9, .ref h10, .ref h11, .ref h12, .int tc, .int ta, .int td, .int tf])), (h9, .inl (kI, 3001, .inl f9)), (h10, .inl (kI, 3001, .inl f10)), (h11, .inl (kJ, 3001, .inr (.inl f11))), (h12, .inl (kJ, 27, .inr (.inl f12))), (h1, .inl (kB, 3000, .inl f1))]) [0, 1, 2, 3, 4, 5] (by decide) rfl, hS, lv_sub hl [0, 1, 2, 3, 4, 5] rfl⟩
  intro n_3 H locs ls hI9 ih_4
  obtain ⟨v6_6, v6_4, hl_1, hl_2, hn_3, hP, hD, hS, hl⟩ := hI9
  refine lv_iload hx hb d_8_5_6 (lv_at hl 0 rfl) ?_
  refine lv_iload_n hx hb d_8_5_8 rfl (lv_at hl 4 rfl) ?_
  refine lv_icmp_ge (tgt := 48) hx hb d_8_5_9 (by decide +kernel) (fun c_5 => ?_) (fun c_5 => ?_)
  · skip
    have tc_5 : p2.toInt ≤ v6_6.toInt := Int32.le_iff_toInt_le.mp c_5
    refine lv_aload_n hx hb d_8_5_48 rfl (lv_at hl 2 rfl) ?_
    refine lv_aload_n hx hb d_8_5_49 rfl (lv_at hl 2 rfl) ?_
    refine lv_lload hx hb d_8_5_50 (lv_at hl 1 rfl) ?_
    refine lv_iload hx hb d_8_5_52 (lv_at hl 0 rfl) ?_
    refine lv_iload_n hx hb d_8_5_54 rfl (lv_at hl 5 rfl) ?_
    refine lv_isub hx hb d_8_5_55 ?_
    refine lv_topi (fun y_6 ey_6 => ?_)
    have ty_6 : y_6.toInt = v6_6.toInt - p3.toInt := by rw [ey_6]; exact zsub (by omega) (by omega)
    have hPc := hP.sub (ws' := [(h2, .inr (0, [.ref h9, .ref h10, .ref h11, .ref h12, .int tc, .int ta, .int td, .int tf])), (h9, .inl (kI, 3001, .inl f9)), (h10, .inl (kI, 3001, .inl f10)), (h11, .inl (kJ, 3001, .inr (.inl f11))), (h12, .inl (kJ, 27, .inr (.inl f12)))]) [0, 1, 2, 3, 4] rfl
    have hDc := hD.sub (ws' := [(h2, .inr (0, [.ref h9, .ref h10, .ref h11, .ref h12, .int tc, .int ta, .int td, .int tf])), (h9, .inl (kI, 3001, .inl f9)), (h10, .inl (kI, 3001, .inl f10)), (h11, .inl (kJ, 3001, .inr (.inl f11))), (h12, .inl (kJ, 27, .inr (.inl f12)))]) [0, 1, 2, 3, 4] (by decide) rfl
    have hFc := va_free (wc := [(h2, .inr (0, [.ref h9, .ref h10, .ref h11, .ref h12, .int tc, .int ta, .int td, .int tf])), (h9, .inl (kI, 3001, .inl f9)), (h10, .inl (kI, 3001, .inl f10)), (h11, .inl (kJ, 3001, .inr (.inl f11))), (h12, .inl (kJ, 27, .inr (.inl f12)))]) hD hS hA [0, 1, 2, 3, 4] rfl
    refine va_calli (va_runV (As := [.long v6_4, .int y_6]) (rest := [.ref h2]) ⟨hx, hb, hml, hown, hts⟩ (g_Tokens_kindOfWord l D kI kJ kB kZ _ (h2) (h9) (h10) (h11) (h12) (tc) (ta) (td) (tf) (f9) (f10) (f11) (f12) (v6_4) (y_6) (by first | assumption | omega) (by first | assumption | omega) (by first | assumption | exact zpl (by assumption) (by omega))) (cwV 2 hts (gT_V m_466 m_468 m_4 m_121 (gT_ws m_469)) rfl rfl rfl (by decide +kernel) ⟨(Nat.le_of_ble_eq_true rfl), (Nat.le_of_ble_eq_true rfl)⟩) ⟨xBlind xOk_N, va_recv hK hP (ci := 0) (q0 := 0) rfl rfl, xAtN hK hPc hDc⟩ rfl rfl hl.1 rfl (lv_room (Nat.le_of_ble_eq_true rfl)) d_8_5_56 ⟨(Nat.le_of_ble_eq_true rfl), (Nat.le_of_ble_eq_true rfl)⟩) hS (fun q _ h => hFc q h) hFc (fun r_7 u t H1 locs ht hvm hw_8 hB hz1 hk1 hS => ?_)
    clear hz1
    obtain ⟨hP, hD⟩ := xJoin (wr := [(h1, .inl (kB, 3000, .inl f1))]) (w1 := [(h2, .inr (0, [.ref h9, .ref h10, .ref h11, .ref h12, .int tc, .int ta, .int td, .int tf])), (h9, .inl (kI, 3001, .inl f9)), (h10, .inl (kI, 3001, .inl f10)), (h11, .inl (kJ, 3001, .inr (.inl f11))), (h12, .inl (kJ, 27, .inr (.inl f12)))]) hP hD [0, 1, 2, 3, 4] [5] rfl rfl (by decide) (by decide) hk1 hFc ht hB
    generalize H1 = H at hP hS ⊢
    have hP : va_P D cls9 [(h1, .inl (kB, 3000, .inl f1)), (h2, .inr (0, [.ref h9, .ref h10, .ref h11, .ref h12, .int tc, .int ta, .int td, .int tf])), (h9, .inl (kI, 3001, .inl f9)), (h10, .inl (kI, 3001, .inl f10)), (h11, .inl (kJ, 3001, .inr (.inl f11))), (h12, .inl (kJ, 27, .inr (.inl f12)))] H := hP
    have hD : va_D A [(h1, .inl (kB, 3000, .inl f1)), (h2, .inr (0, [.ref h9, .ref h10, .ref h11, .ref h12, .int tc, .int ta, .int td, .int tf])), (h9, .inl (kI, 3001, .inl f9)), (h10, .inl (kI, 3001, .inl f10)), (h11, .inl (kJ, 3001, .inr (.inl f11))), (h12, .inl (kJ, 27, .inr (.inl f12)))] := hD
    refine lv_iload_n hx hb d_8_5_59 rfl (lv_at hl 5 rfl) ?_
    refine lv_lload hx hb d_8_5_60 (lv_at hl 1 rfl) ?_
    have hPc := hP.sub (ws' := [(h2, .inr (0, [.ref h9, .ref h10, .ref h11, .ref h12, .int tc, .int ta, .int td, .int tf])), (h9, .inl (kI, 3001, .inl f9)), (h10, .inl (kI, 3001, .inl f10)), (h11, .inl (kJ, 3001, .inr (.inl f11))), (h12, .inl (kJ, 27, .inr (.inl f12)))]) [1, 2, 3, 4, 5] rfl
    have hDc := hD.sub (ws' := [(h2, .inr (0, [.ref h9, .ref h10, .ref h11, .ref h12, .int tc, .int ta, .int td, .int tf])), (h9, .inl (kI, 3001, .inl f9)), (h10, .inl (kI, 3001, .inl f10)), (h11, .inl (kJ, 3001, .inr (.inl f11))), (h12, .inl (kJ, 27, .inr (.inl f12)))]) [1, 2, 3, 4, 5] (by decide) rfl
    have hFc := va_free (wc := [(h2, .inr (0, [.ref h9, .ref h10, .ref h11, .ref h12, .int tc, .int ta, .int td, .int tf])), (h9, .inl (kI, 3001, .inl f9)), (h10, .inl (kI, 3001, .inl f10)), (h11, .inl (kJ, 3001, .inr (.inl f11))), (h12, .inl (kJ, 27, .inr (.inl f12)))]) hD hS hA [1, 2, 3, 4, 5] rfl
    refine va_callv (va_runV (As := [.int r_7, .int p3, .long v6_4]) (rest := []) ⟨hx, hb, hml, hown, hts⟩ (g_Tokens_add l D kI kJ kB kZ _ (h2) (h9) (h10) (h11) (h12) (tc) (ta) (td) (tf) (f9) (f10) (f11) (f12) (r_7) (p3) (v6_4) (by first | assumption | omega) (by first | assumption | omega) (by first | assumption | exact zpl (by assumption) (by omega)) (by first | assumption | omega)) (cwV 3 hts (gT_V m_470 m_472 m_5 m_121 (gT_ws m_473)) rfl rfl rfl (by decide +kernel) ⟨(Nat.le_of_ble_eq_true rfl), (Nat.le_of_ble_eq_true rfl)⟩) ⟨xBlind xOk_N, va_recv hK hP (ci := 0) (q0 := 1) rfl rfl, xAtN hK hPc hDc⟩ rfl rfl hl.1 rfl (lv_room (Nat.le_of_ble_eq_true rfl)) d_8_5_62 ⟨(Nat.le_of_ble_eq_true rfl), (Nat.le_of_ble_eq_true rfl)⟩) hS (fun q _ h => hFc q h) hFc (fun u t H1 locs ht hvm hw_10 hB hz1 hk1 hS => ?_)
    clear hz1
    obtain ⟨x_11, x_12, x_13, x_14, hb_15, hb_16, hb_17, hb_18, hB⟩ := hB
    obtain ⟨hP, hD⟩ := xJoin (wr := [(h1, .inl (kB, 3000, .inl f1))]) (w1 := [(h2, .inr (0, [.ref h9, .ref h10, .ref h11, .ref h12, .int x_11, .int ta, .int td, .int tf])), (h9, .inl (kI, 3001, .inl x_12)), (h10, .inl (kI, 3001, .inl x_13)), (h11, .inl (kJ, 3001, .inr (.inl x_14))), (h12, .inl (kJ, 27, .inr (.inl f12)))]) hP hD [1, 2, 3, 4, 5] [0] rfl rfl (by decide) (by decide) hk1 hFc ht hB
    generalize H1 = H at hP hS ⊢
    have hP : va_P D cls9 [(h1, .inl (kB, 3000, .inl f1)), (h2, .inr (0, [.ref h9, .ref h10, .ref h11, .ref h12, .int x_11, .int ta, .int td, .int tf])), (h9, .inl (kI, 3001, .inl x_12)), (h10, .inl (kI, 3001, .inl x_13)), (h11, .inl (kJ, 3001, .inr (.inl x_14))), (h12, .inl (kJ, 27, .inr (.inl f12)))] H := hP
    have hD : va_D A [(h1, .inl (kB, 3000, .inl f1)), (h2, .inr (0, [.ref h9, .ref h10, .ref h11, .ref h12, .int x_11, .int ta, .int td, .int tf])), (h9, .inl (kI, 3001, .inl x_12)), (h10, .inl (kI, 3001, .inl x_13)), (h11, .inl (kJ, 3001, .inr (.inl x_14))), (h12, .inl (kJ, 27, .inr (.inl f12)))] := hD
    refine lv_iload hx hb d_8_5_65 (lv_at hl 0 rfl) ?_
    have hP9 := hP.sub (ws' := [(h2, .inr (0, [.ref h9, .ref h10, .ref h11, .ref h12, .int x_11, .int ta, .int td, .int tf])), (h9, .inl (kI, 3001, .inl x_12)), (h10, .inl (kI, 3001, .inl x_13)), (h11, .inl (kJ, 3001, .inr (.inl x_14))), (h12, .inl (kJ, 27, .inr (.inl f12))), (h1, .inl (kB, 3000, .inl f1))]) [1, 2, 3, 4, 5, 0] rfl
    have hD9 := hD.sub (ws' := [(h2, .inr (0, [.ref h9, .ref h10, .ref h11, .ref h12, .int x_11, .int ta, .int td, .int tf])), (h9, .inl (kI, 3001, .inl x_12)), (h10, .inl (kI, 3001, .inl x_13)), (h11, .inl (kJ, 3001, .inr (.inl x_14))), (h12, .inl (kJ, 27, .inr (.inl f12))), (h1, .inl (kB, 3000, .inl f1))]) [1, 2, 3, 4, 5, 0] (by decide) rfl
    have hz_0 : 0 ≤ x_11.toInt := (by first | assumption | omega)
    have hz_1 : x_11.toInt ≤ 3001 := (by first | assumption | omega)
    have hz_2 : ∀ j : Nat, 0 ≤ (x_13 j).toInt := (by first | assumption | exact zpl (by assumption) (by omega))
    have hrp : 0 ≤ v6_6.toInt := by first |  omega | assumption | exact pk_nc _ | exact Or.inl ⟨by omega, by omega, by assumption⟩ | exact Or.inr ⟨by omega, by decide +kernel⟩ | exact fun h9 => absurd h9 (by omega) | exact fun _ => isH_no1 (by omega) | exact fun _ => isH_no2 (by assumption) (by assumption) (by omega) | (intro h9; omega) | (intro h8 h9; omega)
    exact W.iret (v := v6_6) hx hb hr (fun t ht hW => ⟨⟨v6_6, (), rfl, hrp, x_11, x_12, x_13, x_14, hz_0, hz_1, hz_2, xEnd hK hP9 hD9 ht hW⟩, hS.F ht⟩) hS.2.2 d_8_5_67
  · skip
    have tc_5 : ¬ p2.toInt ≤ v6_6.toInt := fun h9 => c_5 (Int32.le_iff_toInt_le.mpr h9)
    refine lv_aload_n hx hb d_8_5_12 rfl (lv_at hl 3 rfl) ?_
    refine lv_iload hx hb d_8_5_13 (lv_at hl 0 rfl) ?_
    refine va_bald hx hb hK hP 5 2 rfl rfl (vp_in_iff.mpr ⟨by omega, by omega⟩) d_8_5_15 ?_
    refine lv_topi (fun z_19 ez_19 => ?_)
    have hPc := hP.sub (ws' := []) [] rfl
    have hDc := hD.sub (ws' := []) [] (by decide) rfl
    have hFc := va_free (wc := []) hD hS hA [] rfl
    refine va_calli (va_runS (As := [.int z_19]) (rest := []) ⟨hx, hb, hml, hown, hts⟩ (g_Tokens_isLetterOrDigit l D kI kJ kB kZ _ (z_19) ) (va_cwS 1 hts (gT_S m_460 m_461 m_121 (gT_ws m_462)) rfl rfl rfl (by decide +kernel) ⟨(Nat.le_of_ble_eq_true rfl), (Nat.le_of_ble_eq_true rfl)⟩) ⟨xBlind xOk_N, xAtN hK hPc hDc⟩ rfl rfl hl.1 rfl (lv_room (Nat.le_of_ble_eq_true rfl)) d_8_5_16 ⟨(Nat.le_of_ble_eq_true rfl), (Nat.le_of_ble_eq_true rfl)⟩) hS (fun q _ h => hFc q h) hFc (fun r_20 u t H1 locs ht hvm hw_21 hB hz1 hk1 hS => ?_)
    clear hz1
    obtain ⟨hP, hD⟩ := xJoin (wr := [(h2, .inr (0, [.ref h9, .ref h10, .ref h11, .ref h12, .int tc, .int ta, .int td, .int tf])), (h9, .inl (kI, 3001, .inl f9)), (h10, .inl (kI, 3001, .inl f10)), (h11, .inl (kJ, 3001, .inr (.inl f11))), (h12, .inl (kJ, 27, .inr (.inl f12))), (h1, .inl (kB, 3000, .inl f1))]) (w1 := []) hP hD [] [0, 1, 2, 3, 4, 5] rfl rfl (by decide) (by decide) hk1 hFc ht hB
    generalize H1 = H at hP hS ⊢
    have hP : va_P D cls9 [(h2, .inr (0, [.ref h9, .ref h10, .ref h11, .ref h12, .int tc, .int ta, .int td, .int tf])), (h9, .inl (kI, 3001, .inl f9)), (h10, .inl (kI, 3001, .inl f10)), (h11, .inl (kJ, 3001, .inr (.inl f11))), (h12, .inl (kJ, 27, .inr (.inl f12))), (h1, .inl (kB, 3000, .inl f1))] H := hP
    have hD : va_D A [(h2, .inr (0, [.ref h9, .ref h10, .ref h11, .ref h12, .int tc, .int ta, .int td, .int tf])), (h9, .inl (kI, 3001, .inl f9)), (h10, .inl (kI, 3001, .inl f10)), (h11, .inl (kJ, 3001, .inr (.inl f11))), (h12, .inl (kJ, 27, .inr (.inl f12))), (h1, .inl (kB, 3000, .inl f1))] := hD
    refine lv_if_eq (tgt := 48) hx hb d_8_5_19 (by decide +kernel) (fun c_22 => ?_) (fun c_22 => ?_)
    · skip
      have tc_22 : r_20.toInt = 0 := congrArg Int32.toInt c_22
      refine lv_aload_n hx hb d_8_5_48 rfl (lv_at hl 2 rfl) ?_
      refine lv_aload_n hx hb d_8_5_49 rfl (lv_at hl 2 rfl) ?_
      refine lv_lload hx hb d_8_5_50 (lv_at hl 1 rfl) ?_
      refine lv_iload hx hb d_8_5_52 (lv_at hl 0 rfl) ?_
      refine lv_iload_n hx hb d_8_5_54 rfl (lv_at hl 5 rfl) ?_
      refine lv_isub hx hb d_8_5_55 ?_
      refine lv_topi (fun y_23 ey_23 => ?_)
      have ty_23 : y_23.toInt = v6_6.toInt - p3.toInt := by rw [ey_23]; exact zsub (by omega) (by omega)
      have hPc := hP.sub (ws' := [(h2, .inr (0, [.ref h9, .ref h10, .ref h11, .ref h12, .int tc, .int ta, .int td, .int tf])), (h9, .inl (kI, 3001, .inl f9)), (h10, .inl (kI, 3001, .inl f10)), (h11, .inl (kJ, 3001, .inr (.inl f11))), (h12, .inl (kJ, 27, .inr (.inl f12)))]) [0, 1, 2, 3, 4] rfl
      have hDc := hD.sub (ws' := [(h2, .inr (0, [.ref h9, .ref h10, .ref h11, .ref h12, .int tc, .int ta, .int td, .int tf])), (h9, .inl (kI, 3001, .inl f9)), (h10, .inl (kI, 3001, .inl f10)), (h11, .inl (kJ, 3001, .inr (.inl f11))), (h12, .inl (kJ, 27, .inr (.inl f12)))]) [0, 1, 2, 3, 4] (by decide) rfl
      have hFc := va_free (wc := [(h2, .inr (0, [.ref h9, .ref h10, .ref h11, .ref h12, .int tc, .int ta, .int td, .int tf])), (h9, .inl (kI, 3001, .inl f9)), (h10, .inl (kI, 3001, .inl f10)), (h11, .inl (kJ, 3001, .inr (.inl f11))), (h12, .inl (kJ, 27, .inr (.inl f12)))]) hD hS hA [0, 1, 2, 3, 4] rfl
      refine va_calli (va_runV (As := [.long v6_4, .int y_23]) (rest := [.ref h2]) ⟨hx, hb, hml, hown, hts⟩ (g_Tokens_kindOfWord l D kI kJ kB kZ _ (h2) (h9) (h10) (h11) (h12) (tc) (ta) (td) (tf) (f9) (f10) (f11) (f12) (v6_4) (y_23) (by first | assumption | omega) (by first | assumption | omega) (by first | assumption | exact zpl (by assumption) (by omega))) (cwV 2 hts (gT_V m_466 m_468 m_4 m_121 (gT_ws m_469)) rfl rfl rfl (by decide +kernel) ⟨(Nat.le_of_ble_eq_true rfl), (Nat.le_of_ble_eq_true rfl)⟩) ⟨xBlind xOk_N, va_recv hK hP (ci := 0) (q0 := 0) rfl rfl, xAtN hK hPc hDc⟩ rfl rfl hl.1 rfl (lv_room (Nat.le_of_ble_eq_true rfl)) d_8_5_56 ⟨(Nat.le_of_ble_eq_true rfl), (Nat.le_of_ble_eq_true rfl)⟩) hS (fun q _ h => hFc q h) hFc (fun r_24 u t H1 locs ht hvm hw_25 hB hz1 hk1 hS => ?_)
      clear hz1
      obtain ⟨hP, hD⟩ := xJoin (wr := [(h1, .inl (kB, 3000, .inl f1))]) (w1 := [(h2, .inr (0, [.ref h9, .ref h10, .ref h11, .ref h12, .int tc, .int ta, .int td, .int tf])), (h9, .inl (kI, 3001, .inl f9)), (h10, .inl (kI, 3001, .inl f10)), (h11, .inl (kJ, 3001, .inr (.inl f11))), (h12, .inl (kJ, 27, .inr (.inl f12)))]) hP hD [0, 1, 2, 3, 4] [5] rfl rfl (by decide) (by decide) hk1 hFc ht hB
      generalize H1 = H at hP hS ⊢
      have hP : va_P D cls9 [(h1, .inl (kB, 3000, .inl f1)), (h2, .inr (0, [.ref h9, .ref h10, .ref h11, .ref h12, .int tc, .int ta, .int td, .int tf])), (h9, .inl (kI, 3001, .inl f9)), (h10, .inl (kI, 3001, .inl f10)), (h11, .inl (kJ, 3001, .inr (.inl f11))), (h12, .inl (kJ, 27, .inr (.inl f12)))] H := hP
      have hD : va_D A [(h1, .inl (kB, 3000, .inl f1)), (h2, .inr (0, [.ref h9, .ref h10, .ref h11, .ref h12, .int tc, .int ta, .int td, .int tf])), (h9, .inl (kI, 3001, .inl f9)), (h10, .inl (kI, 3001, .inl f10)), (h11, .inl (kJ, 3001, .inr (.inl f11))), (h12, .inl (kJ, 27, .inr (.inl f12)))] := hD
      refine lv_iload_n hx hb d_8_5_59 rfl (lv_at hl 5 rfl) ?_
      refine lv_lload hx hb d_8_5_60 (lv_at hl 1 rfl) ?_
      have hPc := hP.sub (ws' := [(h2, .inr (0, [.ref h9, .ref h10, .ref h11, .ref h12, .int tc, .int ta, .int td, .int tf])), (h9, .inl (kI, 3001, .inl f9)), (h10, .inl (kI, 3001, .inl f10)), (h11, .inl (kJ, 3001, .inr (.inl f11))), (h12, .inl (kJ, 27, .inr (.inl f12)))]) [1, 2, 3, 4, 5] rfl
      have hDc := hD.sub (ws' := [(h2, .inr (0, [.ref h9, .ref h10, .ref h11, .ref h12, .int tc, .int ta, .int td, .int tf])), (h9, .inl (kI, 3001, .inl f9)), (h10, .inl (kI, 3001, .inl f10)), (h11, .inl (kJ, 3001, .inr (.inl f11))), (h12, .inl (kJ, 27, .inr (.inl f12)))]) [1, 2, 3, 4, 5] (by decide) rfl
      have hFc := va_free (wc := [(h2, .inr (0, [.ref h9, .ref h10, .ref h11, .ref h12, .int tc, .int ta, .int td, .int tf])), (h9, .inl (kI, 3001, .inl f9)), (h10, .inl (kI, 3001, .inl f10)), (h11, .inl (kJ, 3001, .inr (.inl f11))), (h12, .inl (kJ, 27, .inr (.inl f12)))]) hD hS hA [1, 2, 3, 4, 5] rfl
      refine va_callv (va_runV (As := [.int r_24, .int p3, .long v6_4]) (rest := []) ⟨hx, hb, hml, hown, hts⟩ (g_Tokens_add l D kI kJ kB kZ _ (h2) (h9) (h10) (h11) (h12) (tc) (ta) (td) (tf) (f9) (f10) (f11) (f12) (r_24) (p3) (v6_4) (by first | assumption | omega) (by first | assumption | omega) (by first | assumption | exact zpl (by assumption) (by omega)) (by first | assumption | omega)) (cwV 3 hts (gT_V m_470 m_472 m_5 m_121 (gT_ws m_473)) rfl rfl rfl (by decide +kernel) ⟨(Nat.le_of_ble_eq_true rfl), (Nat.le_of_ble_eq_true rfl)⟩) ⟨xBlind xOk_N, va_recv hK hP (ci := 0) (q0 := 1) rfl rfl, xAtN hK hPc hDc⟩ rfl rfl hl.1 rfl (lv_room (Nat.le_of_ble_eq_true rfl)) d_8_5_62 ⟨(Nat.le_of_ble_eq_true rfl), (Nat.le_of_ble_eq_true rfl)⟩) hS (fun q _ h => hFc q h) hFc (fun u t H1 locs ht hvm hw_27 hB hz1 hk1 hS => ?_)
      clear hz1
      obtain ⟨x_28, x_29, x_30, x_31, hb_32, hb_33, hb_34, hb_35, hB⟩ := hB
      obtain ⟨hP, hD⟩ := xJoin (wr := [(h1, .inl (kB, 3000, .inl f1))]) (w1 := [(h2, .inr (0, [.ref h9, .ref h10, .ref h11, .ref h12, .int x_28, .int ta, .int td, .int tf])), (h9, .inl (kI, 3001, .inl x_29)), (h10, .inl (kI, 3001, .inl x_30)), (h11, .inl (kJ, 3001, .inr (.inl x_31))), (h12, .inl (kJ, 27, .inr (.inl f12)))]) hP hD [1, 2, 3, 4, 5] [0] rfl rfl (by decide) (by decide) hk1 hFc ht hB
      generalize H1 = H at hP hS ⊢
      have hP : va_P D cls9 [(h1, .inl (kB, 3000, .inl f1)), (h2, .inr (0, [.ref h9, .ref h10, .ref h11, .ref h12, .int x_28, .int ta, .int td, .int tf])), (h9, .inl (kI, 3001, .inl x_29)), (h10, .inl (kI, 3001, .inl x_30)), (h11, .inl (kJ, 3001, .inr (.inl x_31))), (h12, .inl (kJ, 27, .inr (.inl f12)))] H := hP
      have hD : va_D A [(h1, .inl (kB, 3000, .inl f1)), (h2, .inr (0, [.ref h9, .ref h10, .ref h11, .ref h12, .int x_28, .int ta, .int td, .int tf])), (h9, .inl (kI, 3001, .inl x_29)), (h10, .inl (kI, 3001, .inl x_30)), (h11, .inl (kJ, 3001, .inr (.inl x_31))), (h12, .inl (kJ, 27, .inr (.inl f12)))] := hD
      refine lv_iload hx hb d_8_5_65 (lv_at hl 0 rfl) ?_
      have hP9 := hP.sub (ws' := [(h2, .inr (0, [.ref h9, .ref h10, .ref h11, .ref h12, .int x_28, .int ta, .int td, .int tf])), (h9, .inl (kI, 3001, .inl x_29)), (h10, .inl (kI, 3001, .inl x_30)), (h11, .inl (kJ, 3001, .inr (.inl x_31))), (h12, .inl (kJ, 27, .inr (.inl f12))), (h1, .inl (kB, 3000, .inl f1))]) [1, 2, 3, 4, 5, 0] rfl
      have hD9 := hD.sub (ws' := [(h2, .inr (0, [.ref h9, .ref h10, .ref h11, .ref h12, .int x_28, .int ta, .int td, .int tf])), (h9, .inl (kI, 3001, .inl x_29)), (h10, .inl (kI, 3001, .inl x_30)), (h11, .inl (kJ, 3001, .inr (.inl x_31))), (h12, .inl (kJ, 27, .inr (.inl f12))), (h1, .inl (kB, 3000, .inl f1))]) [1, 2, 3, 4, 5, 0] (by decide) rfl
      have hz_0 : 0 ≤ x_28.toInt := (by first | assumption | omega)
      have hz_1 : x_28.toInt ≤ 3001 := (by first | assumption | omega)
      have hz_2 : ∀ j : Nat, 0 ≤ (x_30 j).toInt := (by first | assumption | exact zpl (by assumption) (by omega))
      have hrp : 0 ≤ v6_6.toInt := by first |  omega | assumption | exact pk_nc _ | exact Or.inl ⟨by omega, by omega, by assumption⟩ | exact Or.inr ⟨by omega, by decide +kernel⟩ | exact fun h9 => absurd h9 (by omega) | exact fun _ => isH_no1 (by omega) | exact fun _ => isH_no2 (by assumption) (by assumption) (by omega) | (intro h9; omega) | (intro h8 h9; omega)
      exact W.iret (v := v6_6) hx hb hr (fun t ht hW => ⟨⟨v6_6, (), rfl, hrp, x_28, x_29, x_30, x_31, hz_0, hz_1, hz_2, xEnd hK hP9 hD9 ht hW⟩, hS.F ht⟩) hS.2.2 d_8_5_67
    · skip
      have tc_22 : ¬ r_20.toInt = 0 := fun h9 => c_22 (Int32.toInt_inj.mp h9)
      refine lv_iload hx hb d_8_5_22 (lv_at hl 0 rfl) ?_
      refine lv_iload_n hx hb d_8_5_24 rfl (lv_at hl 5 rfl) ?_
      refine lv_isub hx hb d_8_5_25 ?_
      refine lv_topi (fun y_36 ey_36 => ?_)
      have ty_36 : y_36.toInt = v6_6.toInt - p3.toInt := by rw [ey_36]; exact zsub (by omega) (by omega)
      refine lv_bipush (v := 9) hx hb d_8_5_26 (by decide +kernel) ?_
      refine lv_icmp_ge (tgt := 42) hx hb d_8_5_28 (by decide +kernel) (fun c_37 => ?_) (fun c_37 => ?_)
      · skip
        have tc_37 : 9 ≤ y_36.toInt := Int32.le_iff_toInt_le.mp c_37
        obtain ⟨y_38, ey_38⟩ : ∃ y : Int32, y = v6_6 + 1 := ⟨_, rfl⟩
        have ty_38 : y_38.toInt = v6_6.toInt + 1 := by rw [ey_38]; exact zaddc (by decide +kernel) (by omega) (by omega)
        refine lv_iinc (v := y_38) (lv' := [(6, .int y_38), (4, .long v6_4), (0, .ref h2), (1, .ref h1), (2, .int p2), (3, .int p3)]) hx hb d_8_5_42 hl (k := 0) rfl (by rw [ey_38]; rfl) (by decide +kernel) rfl (fun ls hl => ?_)
        refine lv_goto (tgt := 6) hx hb d_8_5_45 (by decide +kernel) ?_
        exact ih_4 _ _ _ _ (by omega) ⟨y_38, v6_4, (show p3.toInt ≤ y_38.toInt from (by first | assumption | omega)), (show y_38.toInt ≤ p2.toInt from (by first | assumption | omega)), rfl, hP.sub (ws' := [(h2, .inr (0, [.ref h9, .ref h10, .ref h11, .ref h12, .int tc, .int ta, .int td, .int tf])), (h9, .inl (kI, 3001, .inl f9)), (h10, .inl (kI, 3001, .inl f10)), (h11, .inl (kJ, 3001, .inr (.inl f11))), (h12, .inl (kJ, 27, .inr (.inl f12))), (h1, .inl (kB, 3000, .inl f1))]) [0, 1, 2, 3, 4, 5] rfl, hD.sub (ws' := [(h2, .inr (0, [.ref h9, .ref h10, .ref h11, .ref h12, .int tc, .int ta, .int td, .int tf])), (h9, .inl (kI, 3001, .inl f9)), (h10, .inl (kI, 3001, .inl f10)), (h11, .inl (kJ, 3001, .inr (.inl f11))), (h12, .inl (kJ, 27, .inr (.inl f12))), (h1, .inl (kB, 3000, .inl f1))]) [0, 1, 2, 3, 4, 5] (by decide) rfl, hS, lv_sub hl [0, 1, 2, 3, 4, 5] rfl⟩
      · skip
        have tc_37 : ¬ 9 ≤ y_36.toInt := fun h9 => c_37 (Int32.le_iff_toInt_le.mpr h9)
        refine lv_lload hx hb d_8_5_31 (lv_at hl 1 rfl) ?_
        refine lv_aload_n hx hb d_8_5_33 rfl (lv_at hl 3 rfl) ?_
        refine lv_iload hx hb d_8_5_34 (lv_at hl 0 rfl) ?_
        refine va_bald hx hb hK hP 5 2 rfl rfl (vp_in_iff.mpr ⟨by omega, by omega⟩) d_8_5_36 ?_
        refine lv_topi (fun z_39 ez_39 => ?_)
        have hPc := hP.sub (ws' := []) [] rfl
        have hDc := hD.sub (ws' := []) [] (by decide) rfl
        have hFc := va_free (wc := []) hD hS hA [] rfl
        refine va_calll (va_runS (As := [.long v6_4, .int z_39]) (rest := []) ⟨hx, hb, hml, hown, hts⟩ (g_Tokens_longer l D kI kJ kB kZ _ (v6_4) (z_39) ) (va_cwS 2 hts (gT_S m_203 m_204 m_121 (gT_ws m_205)) rfl rfl rfl (by decide +kernel) ⟨(Nat.le_of_ble_eq_true rfl), (Nat.le_of_ble_eq_true rfl)⟩) ⟨xBlind xOk_N, xAtN hK hPc hDc⟩ rfl rfl hl.1 rfl (lv_room (Nat.le_of_ble_eq_true rfl)) d_8_5_37 ⟨(Nat.le_of_ble_eq_true rfl), (Nat.le_of_ble_eq_true rfl)⟩) hS (fun q _ h => hFc q h) hFc (fun r_40 u t H1 locs ht hvm hw_41 hB hz1 hk1 hS => ?_)
        clear hz1
        obtain ⟨hP, hD⟩ := xJoin (wr := [(h2, .inr (0, [.ref h9, .ref h10, .ref h11, .ref h12, .int tc, .int ta, .int td, .int tf])), (h9, .inl (kI, 3001, .inl f9)), (h10, .inl (kI, 3001, .inl f10)), (h11, .inl (kJ, 3001, .inr (.inl f11))), (h12, .inl (kJ, 27, .inr (.inl f12))), (h1, .inl (kB, 3000, .inl f1))]) (w1 := []) hP hD [] [0, 1, 2, 3, 4, 5] rfl rfl (by decide) (by decide) hk1 hFc ht hB
        generalize H1 = H at hP hS ⊢
        have hP : va_P D cls9 [(h2, .inr (0, [.ref h9, .ref h10, .ref h11, .ref h12, .int tc, .int ta, .int td, .int tf])), (h9, .inl (kI, 3001, .inl f9)), (h10, .inl (kI, 3001, .inl f10)), (h11, .inl (kJ, 3001, .inr (.inl f11))), (h12, .inl (kJ, 27, .inr (.inl f12))), (h1, .inl (kB, 3000, .inl f1))] H := hP
        have hD : va_D A [(h2, .inr (0, [.ref h9, .ref h10, .ref h11, .ref h12, .int tc, .int ta, .int td, .int tf])), (h9, .inl (kI, 3001, .inl f9)), (h10, .inl (kI, 3001, .inl f10)), (h11, .inl (kJ, 3001, .inr (.inl f11))), (h12, .inl (kJ, 27, .inr (.inl f12))), (h1, .inl (kB, 3000, .inl f1))] := hD
        refine lv_lstore (lv' := [(4, .long r_40), (6, .int v6_6), (0, .ref h2), (1, .ref h1), (2, .int p2), (3, .int p3)]) hx hb d_8_5_40 hl (by decide +kernel) rfl (fun ls hl => ?_)
        obtain ⟨y_42, ey_42⟩ : ∃ y : Int32, y = v6_6 + 1 := ⟨_, rfl⟩
        have ty_42 : y_42.toInt = v6_6.toInt + 1 := by rw [ey_42]; exact zaddc (by decide +kernel) (by omega) (by omega)
        refine lv_iinc (v := y_42) (lv' := [(6, .int y_42), (4, .long r_40), (0, .ref h2), (1, .ref h1), (2, .int p2), (3, .int p3)]) hx hb d_8_5_42 hl (k := 1) rfl (by rw [ey_42]; rfl) (by decide +kernel) rfl (fun ls hl => ?_)
        refine lv_goto (tgt := 6) hx hb d_8_5_45 (by decide +kernel) ?_
        exact ih_4 _ _ _ _ (by omega) ⟨y_42, r_40, (show p3.toInt ≤ y_42.toInt from (by first | assumption | omega)), (show y_42.toInt ≤ p2.toInt from (by first | assumption | omega)), rfl, hP.sub (ws' := [(h2, .inr (0, [.ref h9, .ref h10, .ref h11, .ref h12, .int tc, .int ta, .int td, .int tf])), (h9, .inl (kI, 3001, .inl f9)), (h10, .inl (kI, 3001, .inl f10)), (h11, .inl (kJ, 3001, .inr (.inl f11))), (h12, .inl (kJ, 27, .inr (.inl f12))), (h1, .inl (kB, 3000, .inl f1))]) [0, 1, 2, 3, 4, 5] rfl, hD.sub (ws' := [(h2, .inr (0, [.ref h9, .ref h10, .ref h11, .ref h12, .int tc, .int ta, .int td, .int tf])), (h9, .inl (kI, 3001, .inl f9)), (h10, .inl (kI, 3001, .inl f10)), (h11, .inl (kJ, 3001, .inr (.inl f11))), (h12, .inl (kJ, 27, .inr (.inl f12))), (h1, .inl (kB, 3000, .inl f1))]) [0, 1, 2, 3, 4, 5] (by decide) rfl, hS, lv_sub hl [0, 1, 2, 3, 4, 5] rfl⟩
set_option maxHeartbeats 8000000 in
set_option maxRecDepth 100000 in
theorem g_Tokens_scanNumber (l : Launch) (D : va_G) (kI kJ kB kZ : ClassId) (sz : Nat) (h1 : Nat) (h2 : Nat) (h9 : Nat) (h10 : Nat) (h11 : Nat) (h12 : Nat) (tc : Int32) (ta : Int32) (td : Int32) (tf : Int32) (f9 : Nat → Int32) (f10 : Nat → Int32) (f11 : Nat → Int64) (f12 : Nat → Int64) (f1 : Nat → Int32) (p2 : Int32) (p3 : Int32) (hf_C1 : 0 ≤ tc.toInt) (hf_C2 : tc.toInt ≤ 3001) (hf_T6 : ∀ j : Nat, 0 ≤ (f10 j).toInt) (hq_0 : 0 ≤ p3.toInt) (hq_1 : p3.toInt < p2.toInt) (hq_2 : p2.toInt ≤ 3000) : Met l (⟨"AlgolJudge$Tokens", "scanNumber", "([BII)I"⟩ : MethodName) (Cond.code (⟨"AlgolJudge$Tokens", "scanNumber", "([BII)I"⟩ : MethodName) prog_8_method_7_code 7 (some .int) :: gT) ({ frames := 1, cells := 0, slots := 0, locals := 24 }) (va_Pc [.ref h2, .ref h1, .int p2, .int p3] (xP D (xT kI kJ kB kZ) xN [(h2, .inr (0, [.ref h9, .ref h10, .ref h11, .ref h12, .int tc, .int ta, .int td, .int tf])), (h9, .inl (kI, 3001, .inl f9)), (h10, .inl (kI, 3001, .inl f10)), (h11, .inl (kJ, 3001, .inr (.inl f11))), (h12, .inl (kJ, 27, .inr (.inl f12))), (h1, .inl (kB, 3000, .inl f1))] sz)) (va_Qi (fun (r : Int32) (_ : Unit) => 0 ≤ r.toInt) (fun _ t => ∃ tc' : Int32, ∃ f9' : Nat → Int32, ∃ f10' : Nat → Int32, ∃ f11' : Nat → Int64, (0 ≤ tc'.toInt) ∧ (tc'.toInt ≤ 3001) ∧ (∀ j : Nat, 0 ≤ (f10' j).toInt) ∧ xQ D (xT kI kJ kB kZ) (va_A [(h2, .inr (0, [.ref h9, .ref h10, .ref h11, .ref h12, .int tc, .int ta, .int td, .int tf])), (h9, .inl (kI, 3001, .inl f9)), (h10, .inl (kI, 3001, .inl f10)), (h11, .inl (kJ, 3001, .inr (.inl f11))), (h12, .inl (kJ, 27, .inr (.inl f12))), (h1, .inl (kB, 3000, .inl f1))] sz) [(h2, .inr (0, [.ref h9, .ref h10, .ref h11, .ref h12, .int tc', .int ta, .int td, .int tf])), (h9, .inl (kI, 3001, .inl f9')), (h10, .inl (kI, 3001, .inl f10')), (h11, .inl (kJ, 3001, .inr (.inl f11'))), (h12, .inl (kJ, 27, .inr (.inl f12))), (h1, .inl (kB, 3000, .inl f1))] t) (va_A [(h2, .inr (0, [.ref h9, .ref h10, .ref h11, .ref h12, .int tc, .int ta, .int td, .int tf])), (h9, .inl (kI, 3001, .inl f9)), (h10, .inl (kI, 3001, .inl f10)), (h11, .inl (kJ, 3001, .inr (.inl f11))), (h12, .inl (kJ, 27, .inr (.inl f12))), (h1, .inl (kB, 3000, .inl f1))] sz)) 0 0 (va_A [(h2, .inr (0, [.ref h9, .ref h10, .ref h11, .ref h12, .int tc, .int ta, .int td, .int tf])), (h9, .inl (kI, 3001, .inl f9)), (h10, .inl (kI, 3001, .inl f10)), (h11, .inl (kJ, 3001, .inr (.inl f11))), (h12, .inl (kJ, 27, .inr (.inl f12))), (h1, .inl (kB, 3000, .inl f1))] sz) := by
  refine Met.ofW (cc := prog_8_method_7_code) (maxL := 7) (ret := some .int) (by decide +kernel) rfl ?_
  intro p e s m args below meth c s₁ B hml hv
  obtain ⟨rfl, hsz, hP, hK, hD0, hE⟩ := hv
  have hx := B.exec
  have hb := B.bytes
  have hr := B.returns
  have hts : ∀ w ∈ gT, w.before _ s = true := fun w h => atoms_spec (ws := Cond.code (⟨"AlgolJudge$Tokens", "scanNumber", "([BII)I"⟩ : MethodName) prog_8_method_7_code 7 (some .int) :: gT) B.pre w (List.mem_cons_of_mem _ h)
  have hown : s.vm.findClass "AlgolJudge$Tokens" = some m.cls := findClass_of_methodNamed B.named
  have hlocks := B.notSynchronized
  subst hsz
  have hD := hD0.self (sz := s.heap.size)
  generalize hAe : va_A [(h2, .inr (0, [.ref h9, .ref h10, .ref h11, .ref h12, .int tc, .int ta, .int td, .int tf])), (h9, .inl (kI, 3001, .inl f9)), (h10, .inl (kI, 3001, .inl f10)), (h11, .inl (kJ, 3001, .inr (.inl f11))), (h12, .inl (kJ, 27, .inr (.inl f12))), (h1, .inl (kB, 3000, .inl f1))] s.heap.size = A at hD hE ⊢
  have hA : ∀ q : Nat, s.heap.size ≤ q → A q := fun q h => by rw [← hAe]; exact Or.inr h
  have hS : va_S A s.heap s.heap [] := va_S.rf
  have hP : va_P D cls9 [(h2, .inr (0, [.ref h9, .ref h10, .ref h11, .ref h12, .int tc, .int ta, .int td, .int tf])), (h9, .inl (kI, 3001, .inl f9)), (h10, .inl (kI, 3001, .inl f10)), (h11, .inl (kJ, 3001, .inr (.inl f11))), (h12, .inl (kJ, 27, .inr (.inl f12))), (h1, .inl (kB, 3000, .inl f1))] s.heap := hP
  have hl := lv_entry ([.ref h2, .ref h1, .int p2, .int p3]) (n := 7) (Nat.le_of_ble_eq_true rfl)
  rw [lg_entry_eq]
  generalize (lg_sl ([.ref h2, .ref h1, .int p2, .int p3]) ++ List.replicate (7 - (lg_sl ([.ref h2, .ref h1, .int p2, .int p3])).length) Slot.unset).toArray = ls at hl ⊢
  have hl : lv_has ls 7 [(0, .ref h2), (1, .ref h1), (2, .int p2), (3, .int p3)] := hl
  refine lv_lconst (v := 0) hx hb d_8_7_0 (by decide +kernel) ?_
  refine lv_lstore (lv' := [(4, .long 0), (0, .ref h2), (1, .ref h1), (2, .int p2), (3, .int p3)]) hx hb d_8_7_1 hl (by decide +kernel) rfl (fun ls hl => ?_)
  refine lv_iload_n hx hb d_8_7_3 rfl (lv_at hl 4 rfl) ?_
  refine lv_istore (lv' := [(6, .int p3), (4, .long 0), (0, .ref h2), (1, .ref h1), (2, .int p2), (3, .int p3)]) hx hb d_8_7_4 hl (by decide +kernel) rfl (fun ls hl => ?_)
  refine xLoop (I := fun n H locs ls => ∃ v6_6 : Int32, ∃ v6_4 : Int64, (p3.toInt ≤ v6_6.toInt) ∧ (v6_6.toInt ≤ p2.toInt) ∧ n = (p2.toInt - v6_6.toInt).toNat ∧ va_P D cls9 [(h2, .inr (0, [.ref h9, .ref h10, .ref h11, .ref h12, .int tc, .int ta, .int td, .int tf])), (h9, .inl (kI, 3001, .inl f9)), (h10, .inl (kI, 3001, .inl f10)), (h11, .inl (kJ, 3001, .inr (.inl f11))), (h12, .inl (kJ, 27, .inr (.inl f12))), (h1, .inl (kB, 3000, .inl f1))] H ∧ va_D A [(h2, .inr (0, [.ref h9, .ref h10, .ref h11, .ref h12, .int tc, .int ta, .int td, .int tf])), (h9, .inl (kI, 3001, .inl f9)), (h10, .inl (kI, 3001, .inl f10)), (h11, .inl (kJ, 3001, .inr (.inl f11))), (h12, .inl (kJ, 27, .inr (.inl f12))), (h1, .inl (kB, 3000, .inl f1))] ∧ va_S A s.heap H locs ∧ lv_has ls 7 [(6, .int v6_6), (4, .long v6_4), (0, .ref h2), (1, .ref h1), (2, .int p2), (3, .int p3)]) ?_ _ _ _ _ ⟨p3, 0, (show p3.toInt ≤ p3.toInt from (by first | assumption | omega)), (show p3.toInt ≤ p2.toInt from (by first | assumption | omega)), rfl, hP.sub (ws' := [(h2, .inr (0, [.ref h9, .ref h10, .ref h11, .ref h12, .int tc, .int ta, .int td, .int tf])), (h9, .inl (kI, 3001, .inl f9)), (h10, .inl (kI, 3001, .inl f10)), (h11, .inl (kJ, 3001, .inr (.inl f11))), (h12, .inl (kJ, 27, .inr (.inl f12))), (h1, .inl (kB, 3000, .inl f1))]) [0, 1, 2, 3, 4, 5] rfl, hD.sub (ws' := [(h2, .inr (0, [.ref h9, .ref h10, .ref h11, .ref h12, .int tc, .int ta, .int td, .int tf])), (h9, .inl (kI, 3001, .inl f9)), (h10, .inl (kI, 3001, .inl f10)), (h11, .inl (kJ, 3001, .inr (.inl f11))), (h12, .inl (kJ, 27, .inr (.inl f12))), (h1, .inl (kB, 3000, .inl f1))]) [0, 1, 2, 3, 4, 5] (by decide) rfl, hS, lv_sub hl [0, 1, 2, 3, 4, 5] rfl⟩
  intro n_3 H locs ls hI9 ih_4
  obtain ⟨v6_6, v6_4, hl_1, hl_2, hn_3, hP, hD, hS, hl⟩ := hI9
  refine lv_iload hx hb d_8_7_6 (lv_at hl 0 rfl) ?_
  refine lv_iload_n hx hb d_8_7_8 rfl (lv_at hl 4 rfl) ?_
  refine lv_icmp_ge (tgt := 54) hx hb d_8_7_9 (by decide +kernel) (fun c_5 => ?_) (fun c_5 => ?_)
  · skip
    have tc_5 : p2.toInt ≤ v6_6.toInt := Int32.le_iff_toInt_le.mp c_5
    refine lv_aload_n hx hb d_8_7_54 rfl (lv_at hl 2 rfl) ?_
    refine lv_lload hx hb d_8_7_55 (lv_at hl 1 rfl) ?_
    refine lv_ldc2 (v := 34359738367) hx hb hown (hts _ m_478) d_8_7_57 ?_
    refine W.lcmp hx hb d_8_7_60 ?_
    refine lv_if_gt (tgt := 69) hx hb d_8_7_61 (by decide +kernel) (fun c_6 => ?_) (fun c_6 => ?_)
    · skip
      have tc_6 : 0 < (lg_cmp v6_4 34359738367).toInt := Int32.lt_iff_toInt_lt.mp c_6
      refine lv_iconst (v := (-1)) hx hb d_8_7_69 (by decide +kernel) ?_
      refine lv_iload_n hx hb d_8_7_70 rfl (lv_at hl 5 rfl) ?_
      refine lv_lconst (v := 0) hx hb d_8_7_71 (by decide +kernel) ?_
      have hPc := hP.sub (ws' := [(h2, .inr (0, [.ref h9, .ref h10, .ref h11, .ref h12, .int tc, .int ta, .int td, .int tf])), (h9, .inl (kI, 3001, .inl f9)), (h10, .inl (kI, 3001, .inl f10)), (h11, .inl (kJ, 3001, .inr (.inl f11))), (h12, .inl (kJ, 27, .inr (.inl f12)))]) [0, 1, 2, 3, 4] rfl
      have hDc := hD.sub (ws' := [(h2, .inr (0, [.ref h9, .ref h10, .ref h11, .ref h12, .int tc, .int ta, .int td, .int tf])), (h9, .inl (kI, 3001, .inl f9)), (h10, .inl (kI, 3001, .inl f10)), (h11, .inl (kJ, 3001, .inr (.inl f11))), (h12, .inl (kJ, 27, .inr (.inl f12)))]) [0, 1, 2, 3, 4] (by decide) rfl
      have hFc := va_free (wc := [(h2, .inr (0, [.ref h9, .ref h10, .ref h11, .ref h12, .int tc, .int ta, .int td, .int tf])), (h9, .inl (kI, 3001, .inl f9)), (h10, .inl (kI, 3001, .inl f10)), (h11, .inl (kJ, 3001, .inr (.inl f11))), (h12, .inl (kJ, 27, .inr (.inl f12)))]) hD hS hA [0, 1, 2, 3, 4] rfl
      refine va_callv (va_runV (As := [.int (-1), .int p3, .long 0]) (rest := []) ⟨hx, hb, hml, hown, hts⟩ (g_Tokens_add l D kI kJ kB kZ _ (h2) (h9) (h10) (h11) (h12) (tc) (ta) (td) (tf) (f9) (f10) (f11) (f12) (((-1) : Int32)) (p3) ((0 : Int64)) (by first | assumption | omega) (by first | assumption | omega) (by first | assumption | exact zpl (by assumption) (by omega)) (by first | assumption | omega)) (cwV 3 hts (gT_V m_470 m_472 m_5 m_121 (gT_ws m_473)) rfl rfl rfl (by decide +kernel) ⟨(Nat.le_of_ble_eq_true rfl), (Nat.le_of_ble_eq_true rfl)⟩) ⟨xBlind xOk_N, va_recv hK hP (ci := 0) (q0 := 0) rfl rfl, xAtN hK hPc hDc⟩ rfl rfl hl.1 rfl (lv_room (Nat.le_of_ble_eq_true rfl)) d_8_7_72 ⟨(Nat.le_of_ble_eq_true rfl), (Nat.le_of_ble_eq_true rfl)⟩) hS (fun q _ h => hFc q h) hFc (fun u t H1 locs ht hvm hw_8 hB hz1 hk1 hS => ?_)
      clear hz1
      obtain ⟨x_9, x_10, x_11, x_12, hb_13, hb_14, hb_15, hb_16, hB⟩ := hB
      obtain ⟨hP, hD⟩ := xJoin (wr := [(h1, .inl (kB, 3000, .inl f1))]) (w1 := [(h2, .inr (0, [.ref h9, .ref h10, .ref h11, .ref h12, .int x_9, .int ta, .int td, .int tf])), (h9, .inl (kI, 3001, .inl x_10)), (h10, .inl (kI, 3001, .inl x_11)), (h11, .inl (kJ, 3001, .inr (.inl x_12))), (h12, .inl (kJ, 27, .inr (.inl f12)))]) hP hD [0, 1, 2, 3, 4] [5] rfl rfl (by decide) (by decide) hk1 hFc ht hB
      generalize H1 = H at hP hS ⊢
      have hP : va_P D cls9 [(h1, .inl (kB, 3000, .inl f1)), (h2, .inr (0, [.ref h9, .ref h10, .ref h11, .ref h12, .int x_9, .int ta, .int td, .int tf])), (h9, .inl (kI, 3001, .inl x_10)), (h10, .inl (kI, 3001, .inl x_11)), (h11, .inl (kJ, 3001, .inr (.inl x_12))), (h12, .inl (kJ, 27, .inr (.inl f12)))] H := hP
      have hD : va_D A [(h1, .inl (kB, 3000, .inl f1)), (h2, .inr (0, [.ref h9, .ref h10, .ref h11, .ref h12, .int x_9, .int ta, .int td, .int tf])), (h9, .inl (kI, 3001, .inl x_10)), (h10, .inl (kI, 3001, .inl x_11)), (h11, .inl (kJ, 3001, .inr (.inl x_12))), (h12, .inl (kJ, 27, .inr (.inl f12)))] := hD
      refine lv_iload hx hb d_8_7_75 (lv_at hl 0 rfl) ?_
      have hP9 := hP.sub (ws' := [(h2, .inr (0, [.ref h9, .ref h10, .ref h11, .ref h12, .int x_9, .int ta, .int td, .int tf])), (h9, .inl (kI, 3001, .inl x_10)), (h10, .inl (kI, 3001, .inl x_11)), (h11, .inl (kJ, 3001, .inr (.inl x_12))), (h12, .inl (kJ, 27, .inr (.inl f12))), (h1, .inl (kB, 3000, .inl f1))]) [1, 2, 3, 4, 5, 0] rfl
      have hD9 := hD.sub (ws' := [(h2, .inr (0, [.ref h9, .ref h10, .ref h11, .ref h12, .int x_9, .int ta, .int td, .int tf])), (h9, .inl (kI, 3001, .inl x_10)), (h10, .inl (kI, 3001, .inl x_11)), (h11, .inl (kJ, 3001, .inr (.inl x_12))), (h12, .inl (kJ, 27, .inr (.inl f12))), (h1, .inl (kB, 3000, .inl f1))]) [1, 2, 3, 4, 5, 0] (by decide) rfl
      have hz_0 : 0 ≤ x_9.toInt := (by first | assumption | omega)
      have hz_1 : x_9.toInt ≤ 3001 := (by first | assumption | omega)
      have hz_2 : ∀ j : Nat, 0 ≤ (x_11 j).toInt := (by first | assumption | exact zpl (by assumption) (by omega))
      have hrp : 0 ≤ v6_6.toInt := by first |  omega | assumption | exact pk_nc _ | exact Or.inl ⟨by omega, by omega, by assumption⟩ | exact Or.inr ⟨by omega, by decide +kernel⟩ | exact fun h9 => absurd h9 (by omega) | exact fun _ => isH_no1 (by omega) | exact fun _ => isH_no2 (by assumption) (by assumption) (by omega) | (intro h9; omega) | (intro h8 h9; omega)
      exact W.iret (v := v6_6) hx hb hr (fun t ht hW => ⟨⟨v6_6, (), rfl, hrp, x_9, x_10, x_11, x_12, hz_0, hz_1, hz_2, xEnd hK hP9 hD9 ht hW⟩, hS.F ht⟩) hS.2.2 d_8_7_77
    · skip
      have tc_6 : ¬ 0 < (lg_cmp v6_4 34359738367).toInt := fun h9 => c_6 (Int32.lt_iff_toInt_lt.mpr h9)
      refine lv_bipush (v := 28) hx hb d_8_7_64 (by decide +kernel) ?_
      refine lv_goto (tgt := 70) hx hb d_8_7_66 (by decide +kernel) ?_
      refine lv_iload_n hx hb d_8_7_70 rfl (lv_at hl 5 rfl) ?_
      refine lv_lconst (v := 0) hx hb d_8_7_71 (by decide +kernel) ?_
      have hPc := hP.sub (ws' := [(h2, .inr (0, [.ref h9, .ref h10, .ref h11, .ref h12, .int tc, .int ta, .int td, .int tf])), (h9, .inl (kI, 3001, .inl f9)), (h10, .inl (kI, 3001, .inl f10)), (h11, .inl (kJ, 3001, .inr (.inl f11))), (h12, .inl (kJ, 27, .inr (.inl f12)))]) [0, 1, 2, 3, 4] rfl
      have hDc := hD.sub (ws' := [(h2, .inr (0, [.ref h9, .ref h10, .ref h11, .ref h12, .int tc, .int ta, .int td, .int tf])), (h9, .inl (kI, 3001, .inl f9)), (h10, .inl (kI, 3001, .inl f10)), (h11, .inl (kJ, 3001, .inr (.inl f11))), (h12, .inl (kJ, 27, .inr (.inl f12)))]) [0, 1, 2, 3, 4] (by decide) rfl
      have hFc := va_free (wc := [(h2, .inr (0, [.ref h9, .ref h10, .ref h11, .ref h12, .int tc, .int ta, .int td, .int tf])), (h9, .inl (kI, 3001, .inl f9)), (h10, .inl (kI, 3001, .inl f10)), (h11, .inl (kJ, 3001, .inr (.inl f11))), (h12, .inl (kJ, 27, .inr (.inl f12)))]) hD hS hA [0, 1, 2, 3, 4] rfl
      refine va_callv (va_runV (As := [.int 28, .int p3, .long 0]) (rest := []) ⟨hx, hb, hml, hown, hts⟩ (g_Tokens_add l D kI kJ kB kZ _ (h2) (h9) (h10) (h11) (h12) (tc) (ta) (td) (tf) (f9) (f10) (f11) (f12) ((28 : Int32)) (p3) ((0 : Int64)) (by first | assumption | omega) (by first | assumption | omega) (by first | assumption | exact zpl (by assumption) (by omega)) (by first | assumption | omega)) (cwV 3 hts (gT_V m_470 m_472 m_5 m_121 (gT_ws m_473)) rfl rfl rfl (by decide +kernel) ⟨(Nat.le_of_ble_eq_true rfl), (Nat.le_of_ble_eq_true rfl)⟩) ⟨xBlind xOk_N, va_recv hK hP (ci := 0) (q0 := 0) rfl rfl, xAtN hK hPc hDc⟩ rfl rfl hl.1 rfl (lv_room (Nat.le_of_ble_eq_true rfl)) d_8_7_72 ⟨(Nat.le_of_ble_eq_true rfl), (Nat.le_of_ble_eq_true rfl)⟩) hS (fun q _ h => hFc q h) hFc (fun u t H1 locs ht hvm hw_18 hB hz1 hk1 hS => ?_)
      clear hz1
      obtain ⟨x_19, x_20, x_21, x_22, hb_23, hb_24, hb_25, hb_26, hB⟩ := hB
      obtain ⟨hP, hD⟩ := xJoin (wr := [(h1, .inl (kB, 3000, .inl f1))]) (w1 := [(h2, .inr (0, [.ref h9, .ref h10, .ref h11, .ref h12, .int x_19, .int ta, .int td, .int tf])), (h9, .inl (kI, 3001, .inl x_20)), (h10, .inl (kI, 3001, .inl x_21)), (h11, .inl (kJ, 3001, .inr (.inl x_22))), (h12, .inl (kJ, 27, .inr (.inl f12)))]) hP hD [0, 1, 2, 3, 4] [5] rfl rfl (by decide) (by decide) hk1 hFc ht hB
      generalize H1 = H at hP hS ⊢
      have hP : va_P D cls9 [(h1, .inl (kB, 3000, .inl f1)), (h2, .inr (0, [.ref h9, .ref h10, .ref h11, .ref h12, .int x_19, .int ta, .int td, .int tf])), (h9, .inl (kI, 3001, .inl x_20)), (h10, .inl (kI, 3001, .inl x_21)), (h11, .inl (kJ, 3001, .inr (.inl x_22))), (h12, .inl (kJ, 27, .inr (.inl f12)))] H := hP
      have hD : va_D A [(h1, .inl (kB, 3000, .inl f1)), (h2, .inr (0, [.ref h9, .ref h10, .ref h11, .ref h12, .int x_19, .int ta, .int td, .int tf])), (h9, .inl (kI, 3001, .inl x_20)), (h10, .inl (kI, 3001, .inl x_21)), (h11, .inl (kJ, 3001, .inr (.inl x_22))), (h12, .inl (kJ, 27, .inr (.inl f12)))] := hD
      refine lv_iload hx hb d_8_7_75 (lv_at hl 0 rfl) ?_
      have hP9 := hP.sub (ws' := [(h2, .inr (0, [.ref h9, .ref h10, .ref h11, .ref h12, .int x_19, .int ta, .int td, .int tf])), (h9, .inl (kI, 3001, .inl x_20)), (h10, .inl (kI, 3001, .inl x_21)), (h11, .inl (kJ, 3001, .inr (.inl x_22))), (h12, .inl (kJ, 27, .inr (.inl f12))), (h1, .inl (kB, 3000, .inl f1))]) [1, 2, 3, 4, 5, 0] rfl
      have hD9 := hD.sub (ws' := [(h2, .inr (0, [.ref h9, .ref h10, .ref h11, .ref h12, .int x_19, .int ta, .int td, .int tf])), (h9, .inl (kI, 3001, .inl x_20)), (h10, .inl (kI, 3001, .inl x_21)), (h11, .inl (kJ, 3001, .inr (.inl x_22))), (h12, .inl (kJ, 27, .inr (.inl f12))), (h1, .inl (kB, 3000, .inl f1))]) [1, 2, 3, 4, 5, 0] (by decide) rfl
      have hz_0 : 0 ≤ x_19.toInt := (by first | assumption | omega)
      have hz_1 : x_19.toInt ≤ 3001 := (by first | assumption | omega)
      have hz_2 : ∀ j : Nat, 0 ≤ (x_21 j).toInt := (by first | assumption | exact zpl (by assumption) (by omega))
      have hrp : 0 ≤ v6_6.toInt := by first |  omega | assumption | exact pk_nc _ | exact Or.inl ⟨by omega, by omega, by assumption⟩ | exact Or.inr ⟨by omega, by decide +kernel⟩ | exact fun h9 => absurd h9 (by omega) | exact fun _ => isH_no1 (by omega) | exact fun _ => isH_no2 (by assumption) (by assumption) (by omega) | (intro h9; omega) | (intro h8 h9; omega)
      exact W.iret (v := v6_6) hx hb hr (fun t ht hW => ⟨⟨v6_6, (), rfl, hrp, x_19, x_20, x_21, x_22, hz_0, hz_1, hz_2, xEnd hK hP9 hD9 ht hW⟩, hS.F ht⟩) hS.2.2 d_8_7_77
  · skip
    have tc_5 : ¬ p2.toInt ≤ v6_6.toInt := fun h9 => c_5 (Int32.le_iff_toInt_le.mpr h9)
    refine lv_aload_n hx hb d_8_7_12 rfl (lv_at hl 3 rfl) ?_
    refine lv_iload hx hb d_8_7_13 (lv_at hl 0 rfl) ?_
    refine va_bald hx hb hK hP 5 2 rfl rfl (vp_in_iff.mpr ⟨by omega, by omega⟩) d_8_7_15 ?_
    refine lv_topi (fun z_27 ez_27 => ?_)
    have hPc := hP.sub (ws' := []) [] rfl
    have hDc := hD.sub (ws' := []) [] (by decide) rfl
    have hFc := va_free (wc := []) hD hS hA [] rfl
    refine va_calli (va_runS (As := [.int z_27]) (rest := []) ⟨hx, hb, hml, hown, hts⟩ (g_Tokens_isDigit l D kI kJ kB kZ _ (z_27) ) (va_cwS 1 hts (gT_S m_463 m_464 m_121 (gT_ws m_465)) rfl rfl rfl (by decide +kernel) ⟨(Nat.le_of_ble_eq_true rfl), (Nat.le_of_ble_eq_true rfl)⟩) ⟨xBlind xOk_N, xAtN hK hPc hDc⟩ rfl rfl hl.1 rfl (lv_room (Nat.le_of_ble_eq_true rfl)) d_8_7_16 ⟨(Nat.le_of_ble_eq_true rfl), (Nat.le_of_ble_eq_true rfl)⟩) hS (fun q _ h => hFc q h) hFc (fun r_28 u t H1 locs ht hvm hw_29 hB hz1 hk1 hS => ?_)
    clear hz1
    obtain ⟨hP, hD⟩ := xJoin (wr := [(h2, .inr (0, [.ref h9, .ref h10, .ref h11, .ref h12, .int tc, .int ta, .int td, .int tf])), (h9, .inl (kI, 3001, .inl f9)), (h10, .inl (kI, 3001, .inl f10)), (h11, .inl (kJ, 3001, .inr (.inl f11))), (h12, .inl (kJ, 27, .inr (.inl f12))), (h1, .inl (kB, 3000, .inl f1))]) (w1 := []) hP hD [] [0, 1, 2, 3, 4, 5] rfl rfl (by decide) (by decide) hk1 hFc ht hB
    generalize H1 = H at hP hS ⊢
    have hP : va_P D cls9 [(h2, .inr (0, [.ref h9, .ref h10, .ref h11, .ref h12, .int tc, .int ta, .int td, .int tf])), (h9, .inl (kI, 3001, .inl f9)), (h10, .inl (kI, 3001, .inl f10)), (h11, .inl (kJ, 3001, .inr (.inl f11))), (h12, .inl (kJ, 27, .inr (.inl f12))), (h1, .inl (kB, 3000, .inl f1))] H := hP
    have hD : va_D A [(h2, .inr (0, [.ref h9, .ref h10, .ref h11, .ref h12, .int tc, .int ta, .int td, .int tf])), (h9, .inl (kI, 3001, .inl f9)), (h10, .inl (kI, 3001, .inl f10)), (h11, .inl (kJ, 3001, .inr (.inl f11))), (h12, .inl (kJ, 27, .inr (.inl f12))), (h1, .inl (kB, 3000, .inl f1))] := hD
    refine lv_if_eq (tgt := 54) hx hb d_8_7_19 (by decide +kernel) (fun c_30 => ?_) (fun c_30 => ?_)
    · skip
      have tc_30 : r_28.toInt = 0 := congrArg Int32.toInt c_30
      refine lv_aload_n hx hb d_8_7_54 rfl (lv_at hl 2 rfl) ?_
      refine lv_lload hx hb d_8_7_55 (lv_at hl 1 rfl) ?_
      refine lv_ldc2 (v := 34359738367) hx hb hown (hts _ m_478) d_8_7_57 ?_
      refine W.lcmp hx hb d_8_7_60 ?_
      refine lv_if_gt (tgt := 69) hx hb d_8_7_61 (by decide +kernel) (fun c_31 => ?_) (fun c_31 => ?_)
      · skip
        have tc_31 : 0 < (lg_cmp v6_4 34359738367).toInt := Int32.lt_iff_toInt_lt.mp c_31
        refine lv_iconst (v := (-1)) hx hb d_8_7_69 (by decide +kernel) ?_
        refine lv_iload_n hx hb d_8_7_70 rfl (lv_at hl 5 rfl) ?_
        refine lv_lconst (v := 0) hx hb d_8_7_71 (by decide +kernel) ?_
        have hPc := hP.sub (ws' := [(h2, .inr (0, [.ref h9, .ref h10, .ref h11, .ref h12, .int tc, .int ta, .int td, .int tf])), (h9, .inl (kI, 3001, .inl f9)), (h10, .inl (kI, 3001, .inl f10)), (h11, .inl (kJ, 3001, .inr (.inl f11))), (h12, .inl (kJ, 27, .inr (.inl f12)))]) [0, 1, 2, 3, 4] rfl
        have hDc := hD.sub (ws' := [(h2, .inr (0, [.ref h9, .ref h10, .ref h11, .ref h12, .int tc, .int ta, .int td, .int tf])), (h9, .inl (kI, 3001, .inl f9)), (h10, .inl (kI, 3001, .inl f10)), (h11, .inl (kJ, 3001, .inr (.inl f11))), (h12, .inl (kJ, 27, .inr (.inl f12)))]) [0, 1, 2, 3, 4] (by decide) rfl
        have hFc := va_free (wc := [(h2, .inr (0, [.ref h9, .ref h10, .ref h11, .ref h12, .int tc, .int ta, .int td, .int tf])), (h9, .inl (kI, 3001, .inl f9)), (h10, .inl (kI, 3001, .inl f10)), (h11, .inl (kJ, 3001, .inr (.inl f11))), (h12, .inl (kJ, 27, .inr (.inl f12)))]) hD hS hA [0, 1, 2, 3, 4] rfl
        refine va_callv (va_runV (As := [.int (-1), .int p3, .long 0]) (rest := []) ⟨hx, hb, hml, hown, hts⟩ (g_Tokens_add l D kI kJ kB kZ _ (h2) (h9) (h10) (h11) (h12) (tc) (ta) (td) (tf) (f9) (f10) (f11) (f12) (((-1) : Int32)) (p3) ((0 : Int64)) (by first | assumption | omega) (by first | assumption | omega) (by first | assumption | exact zpl (by assumption) (by omega)) (by first | assumption | omega)) (cwV 3 hts (gT_V m_470 m_472 m_5 m_121 (gT_ws m_473)) rfl rfl rfl (by decide +kernel) ⟨(Nat.le_of_ble_eq_true rfl), (Nat.le_of_ble_eq_true rfl)⟩) ⟨xBlind xOk_N, va_recv hK hP (ci := 0) (q0 := 0) rfl rfl, xAtN hK hPc hDc⟩ rfl rfl hl.1 rfl (lv_room (Nat.le_of_ble_eq_true rfl)) d_8_7_72 ⟨(Nat.le_of_ble_eq_true rfl), (Nat.le_of_ble_eq_true rfl)⟩) hS (fun q _ h => hFc q h) hFc (fun u t H1 locs ht hvm hw_33 hB hz1 hk1 hS => ?_)
        clear hz1
        obtain ⟨x_34, x_35, x_36, x_37, hb_38, hb_39, hb_40, hb_41, hB⟩ := hB
        obtain ⟨hP, hD⟩ := xJoin (wr := [(h1, .inl (kB, 3000, .inl f1))]) (w1 := [(h2, .inr (0, [.ref h9, .ref h10, .ref h11, .ref h12, .int x_34, .int ta, .int td, .int tf])), (h9, .inl (kI, 3001, .inl x_35)), (h10, .inl (kI, 3001, .inl x_36)), (h11, .inl (kJ, 3001, .inr (.inl x_37))), (h12, .inl (kJ, 27, .inr (.inl f12)))]) hP hD [0, 1, 2, 3, 4] [5] rfl rfl (by decide) (by decide) hk1 hFc ht hB
        generalize H1 = H at hP hS ⊢
        have hP : va_P D cls9 [(h1, .inl (kB, 3000, .inl f1)), (h2, .inr (0, [.ref h9, .ref h10, .ref h11, .ref h12, .int x_34, .int ta, .int td, .int tf])), (h9, .inl (kI, 3001, .inl x_35)), (h10, .inl (kI, 3001, .inl x_36)), (h11, .inl (kJ, 3001, .inr (.inl x_37))), (h12, .inl (kJ, 27, .inr (.inl f12)))] H := hP
        have hD : va_D A [(h1, .inl (kB, 3000, .inl f1)), (h2, .inr (0, [.ref h9, .ref h10, .ref h11, .ref h12, .int x_34, .int ta, .int td, .int tf])), (h9, .inl (kI, 3001, .inl x_35)), (h10, .inl (kI, 3001, .inl x_36)), (h11, .inl (kJ, 3001, .inr (.inl x_37))), (h12, .inl (kJ, 27, .inr (.inl f12)))] := hD
        refine lv_iload hx hb d_8_7_75 (lv_at hl 0 rfl) ?_
        have hP9 := hP.sub (ws' := [(h2, .inr (0, [.ref h9, .ref h10, .ref h11, .ref h12, .int x_34, .int ta, .int td, .int tf])), (h9, .inl (kI, 3001, .inl x_35)), (h10, .inl (kI, 3001, .inl x_36)), (h11, .inl (kJ, 3001, .inr (.inl x_37))), (h12, .inl (kJ, 27, .inr (.inl f12))), (h1, .inl (kB, 3000, .inl f1))]) [1, 2, 3, 4, 5, 0] rfl
        have hD9 := hD.sub (ws' := [(h2, .inr (0, [.ref h9, .ref h10, .ref h11, .ref h12, .int x_34, .int ta, .int td, .int tf])), (h9, .inl (kI, 3001, .inl x_35)), (h10, .inl (kI, 3001, .inl x_36)), (h11, .inl (kJ, 3001, .inr (.inl x_37))), (h12, .inl (kJ, 27, .inr (.inl f12))), (h1, .inl (kB, 3000, .inl f1))]) [1, 2, 3, 4, 5, 0] (by decide) rfl
        have hz_0 : 0 ≤ x_34.toInt := (by first | assumption | omega)
        have hz_1 : x_34.toInt ≤ 3001 := (by first | assumption | omega)
        have hz_2 : ∀ j : Nat, 0 ≤ (x_36 j).toInt := (by first | assumption | exact zpl (by assumption) (by omega))
        have hrp : 0 ≤ v6_6.toInt := by first |  omega | assumption | exact pk_nc _ | exact Or.inl ⟨by omega, by omega, by assumption⟩ | exact Or.inr ⟨by omega, by decide +kernel⟩ | exact fun h9 => absurd h9 (by omega) | exact fun _ => isH_no1 (by omega) | exact fun _ => isH_no2 (by assumption) (by assumption) (by omega) | (intro h9; omega) | (intro h8 h9; omega)
        exact W.iret (v := v6_6) hx hb hr (fun t ht hW => ⟨⟨v6_6, (), rfl, hrp, x_34, x_35, x_36, x_37, hz_0, hz_1, hz_2, xEnd hK hP9 hD9 ht hW⟩, hS.F ht⟩) hS.2.2 d_8_7_77
      · skip
        have tc_31 : ¬ 0 < (lg_cmp v6_4 34359738367).toInt := fun h9 => c_31 (Int32.lt_iff_toInt_lt.mpr h9)
        refine lv_bipush (v := 28) hx hb d_8_7_64 (by decide +kernel) ?_
        refine lv_goto (tgt := 70) hx hb d_8_7_66 (by decide +kernel) ?_
        refine lv_iload_n hx hb d_8_7_70 rfl (lv_at hl 5 rfl) ?_
        refine lv_lconst (v := 0) hx hb d_8_7_71 (by decide +kernel) ?_
        have hPc := hP.sub (ws' := [(h2, .inr (0, [.ref h9, .ref h10, .ref h11, .ref h12, .int tc, .int ta, .int td, .int tf])), (h9, .inl (kI, 3001, .inl f9)), (h10, .inl (kI, 3001, .inl f10)), (h11, .inl (kJ, 3001, .inr (.inl f11))), (h12, .inl (kJ, 27, .inr (.inl f12)))]) [0, 1, 2, 3, 4] rfl
        have hDc := hD.sub (ws' := [(h2, .inr (0, [.ref h9, .ref h10, .ref h11, .ref h12, .int tc, .int ta, .int td, .int tf])), (h9, .inl (kI, 3001, .inl f9)), (h10, .inl (kI, 3001, .inl f10)), (h11, .inl (kJ, 3001, .inr (.inl f11))), (h12, .inl (kJ, 27, .inr (.inl f12)))]) [0, 1, 2, 3, 4] (by decide) rfl
        have hFc := va_free (wc := [(h2, .inr (0, [.ref h9, .ref h10, .ref h11, .ref h12, .int tc, .int ta, .int td, .int tf])), (h9, .inl (kI, 3001, .inl f9)), (h10, .inl (kI, 3001, .inl f10)), (h11, .inl (kJ, 3001, .inr (.inl f11))), (h12, .inl (kJ, 27, .inr (.inl f12)))]) hD hS hA [0, 1, 2, 3, 4] rfl
        refine va_callv (va_runV (As := [.int 28, .int p3, .long 0]) (rest := []) ⟨hx, hb, hml, hown, hts⟩ (g_Tokens_add l D kI kJ kB kZ _ (h2) (h9) (h10) (h11) (h12) (tc) (ta) (td) (tf) (f9) (f10) (f11) (f12) ((28 : Int32)) (p3) ((0 : Int64)) (by first | assumption | omega) (by first | assumption | omega) (by first | assumption | exact zpl (by assumption) (by omega)) (by first | assumption | omega)) (cwV 3 hts (gT_V m_470 m_472 m_5 m_121 (gT_ws m_473)) rfl rfl rfl (by decide +kernel) ⟨(Nat.le_of_ble_eq_true rfl), (Nat.le_of_ble_eq_true rfl)⟩) ⟨xBlind xOk_N, va_recv hK hP (ci := 0) (q0 := 0) rfl rfl, xAtN hK hPc hDc⟩ rfl rfl hl.1 rfl (lv_room (Nat.le_of_ble_eq_true rfl)) d_8_7_72 ⟨(Nat.le_of_ble_eq_true rfl), (Nat.le_of_ble_eq_true rfl)⟩) hS (fun q _ h => hFc q h) hFc (fun u t H1 locs ht hvm hw_43 hB hz1 hk1 hS => ?_)
        clear hz1
        obtain ⟨x_44, x_45, x_46, x_47, hb_48, hb_49, hb_50, hb_51, hB⟩ := hB
        obtain ⟨hP, hD⟩ := xJoin (wr := [(h1, .inl (kB, 3000, .inl f1))]) (w1 := [(h2, .inr (0, [.ref h9, .ref h10, .ref h11, .ref h12, .int x_44, .int ta, .int td, .int tf])), (h9, .inl (kI, 3001, .inl x_45)), (h10, .inl (kI, 3001, .inl x_46)), (h11, .inl (kJ, 3001, .inr (.inl x_47))), (h12, .inl (kJ, 27, .inr (.inl f12)))]) hP hD [0, 1, 2, 3, 4] [5] rfl rfl (by decide) (by decide) hk1 hFc ht hB
        generalize H1 = H at hP hS ⊢
        have hP : va_P D cls9 [(h1, .inl (kB, 3000, .inl f1)), (h2, .inr (0, [.ref h9, .ref h10, .ref h11, .ref h12, .int x_44, .int ta, .int td, .int tf])), (h9, .inl (kI, 3001, .inl x_45)), (h10, .inl (kI, 3001, .inl x_46)), (h11, .inl (kJ, 3001, .inr (.inl x_47))), (h12, .inl (kJ, 27, .inr (.inl f12)))] H := hP
        have hD : va_D A [(h1, .inl (kB, 3000, .inl f1)), (h2, .inr (0, [.ref h9, .ref h10, .ref h11, .ref h12, .int x_44, .int ta, .int td, .int tf])), (h9, .inl (kI, 3001, .inl x_45)), (h10, .inl (kI, 3001, .inl x_46)), (h11, .inl (kJ, 3001, .inr (.inl x_47))), (h12, .inl (kJ, 27, .inr (.inl f12)))] := hD
        refine lv_iload hx hb d_8_7_75 (lv_at hl 0 rfl) ?_
        have hP9 := hP.sub (ws' := [(h2, .inr (0, [.ref h9, .ref h10, .ref h11, .ref h12, .int x_44, .int ta, .int td, .int tf])), (h9, .inl (kI, 3001, .inl x_45)), (h10, .inl (kI, 3001, .inl x_46)), (h11, .inl (kJ, 3001, .inr (.inl x_47))), (h12, .inl (kJ, 27, .inr (.inl f12))), (h1, .inl (kB, 3000, .inl f1))]) [1, 2, 3, 4, 5, 0] rfl
        have hD9 := hD.sub (ws' := [(h2, .inr (0, [.ref h9, .ref h10, .ref h11, .ref h12, .int x_44, .int ta, .int td, .int tf])), (h9, .inl (kI, 3001, .inl x_45)), (h10, .inl (kI, 3001, .inl x_46)), (h11, .inl (kJ, 3001, .inr (.inl x_47))), (h12, .inl (kJ, 27, .inr (.inl f12))), (h1, .inl (kB, 3000, .inl f1))]) [1, 2, 3, 4, 5, 0] (by decide) rfl
        have hz_0 : 0 ≤ x_44.toInt := (by first | assumption | omega)
        have hz_1 : x_44.toInt ≤ 3001 := (by first | assumption | omega)
        have hz_2 : ∀ j : Nat, 0 ≤ (x_46 j).toInt := (by first | assumption | exact zpl (by assumption) (by omega))
        have hrp : 0 ≤ v6_6.toInt := by first |  omega | assumption | exact pk_nc _ | exact Or.inl ⟨by omega, by omega, by assumption⟩ | exact Or.inr ⟨by omega, by decide +kernel⟩ | exact fun h9 => absurd h9 (by omega) | exact fun _ => isH_no1 (by omega) | exact fun _ => isH_no2 (by assumption) (by assumption) (by omega) | (intro h9; omega) | (intro h8 h9; omega)
        exact W.iret (v := v6_6) hx hb hr (fun t ht hW => ⟨⟨v6_6, (), rfl, hrp, x_44, x_45, x_46, x_47, hz_0, hz_1, hz_2, xEnd hK hP9 hD9 ht hW⟩, hS.F ht⟩) hS.2.2 d_8_7_77
    · skip
      have tc_30 : ¬ r_28.toInt = 0 := fun h9 => c_30 (Int32.toInt_inj.mp h9)
      refine lv_lload hx hb d_8_7_22 (lv_at hl 1 rfl) ?_
      refine lv_ldc2 (v := 34359738367) hx hb hown (hts _ m_478) d_8_7_24 ?_
      refine W.lcmp hx hb d_8_7_27 ?_
      refine lv_if_gt (tgt := 48) hx hb d_8_7_28 (by decide +kernel) (fun c_52 => ?_) (fun c_52 => ?_)
      · skip
        have tc_52 : 0 < (lg_cmp v6_4 34359738367).toInt := Int32.lt_iff_toInt_lt.mp c_52
        obtain ⟨y_53, ey_53⟩ : ∃ y : Int32, y = v6_6 + 1 := ⟨_, rfl⟩
        have ty_53 : y_53.toInt = v6_6.toInt + 1 := by rw [ey_53]; exact zaddc (by decide +kernel) (by omega) (by omega)
        refine lv_iinc (v := y_53) (lv' := [(6, .int y_53), (4, .long v6_4), (0, .ref h2), (1, .ref h1), (2, .int p2), (3, .int p3)]) hx hb d_8_7_48 hl (k := 0) rfl (by rw [ey_53]; rfl) (by decide +kernel) rfl (fun ls hl => ?_)
        refine lv_goto (tgt := 6) hx hb d_8_7_51 (by decide +kernel) ?_
        exact ih_4 _ _ _ _ (by omega) ⟨y_53, v6_4, (show p3.toInt ≤ y_53.toInt from (by first | assumption | omega)), (show y_53.toInt ≤ p2.toInt from (by first | assumption | omega)), rfl, hP.sub (ws' := [(h2, .inr (0, [.ref h9, .ref h10, .ref h11, .ref h12, .int tc, .int ta, .int td, .int tf])), (h9, .inl (kI, 3001, .inl f9)), (h10, .inl (kI, 3001, .inl f10)), (h11, .inl (kJ, 3001, .inr (.inl f11))), (h12, .inl (kJ, 27, .inr (.inl f12))), (h1, .inl (kB, 3000, .inl f1))]) [0, 1, 2, 3, 4, 5] rfl, hD.sub (ws' := [(h2, .inr (0, [.ref h9, .ref h10, .ref h11, .ref h12, .int tc, .int ta, .int td, .int tf])), (h9, .inl (kI, 3001, .inl f9)), (h10, .inl (kI, 3001, .inl f10)), (h11, .inl (kJ, 3001, .inr (.inl f11))), (h12, .inl (kJ, 27, .inr (.inl f12))), (h1, .inl (kB, 3000, .inl f1))]) [0, 1, 2, 3, 4, 5] (by decide) rfl, hS, lv_sub hl [0, 1, 2, 3, 4, 5] rfl⟩
      · skip
        have tc_52 : ¬ 0 < (lg_cmp v6_4 34359738367).toInt := fun h9 => c_52 (Int32.lt_iff_toInt_lt.mpr h9)
        refine lv_lload hx hb d_8_7_31 (lv_at hl 1 rfl) ?_
        refine lv_ldc2 (v := 10) hx hb hown (hts _ m_479) d_8_7_33 ?_
        refine lv_lmul hx hb d_8_7_36 ?_
        refine lv_aload_n hx hb d_8_7_37 rfl (lv_at hl 3 rfl) ?_
        refine lv_iload hx hb d_8_7_38 (lv_at hl 0 rfl) ?_
        refine va_bald hx hb hK hP 5 2 rfl rfl (vp_in_iff.mpr ⟨by omega, by omega⟩) d_8_7_40 ?_
        refine lv_topi (fun z_54 ez_54 => ?_)
        refine lv_bipush (v := 48) hx hb d_8_7_41 (by decide +kernel) ?_
        refine lv_isub hx hb d_8_7_43 ?_
        refine lv_topi (fun y_55 ey_55 => ?_)
        refine lv_i2l (v := (y_55.toInt64)) hx hb d_8_7_44 rfl ?_
        refine lv_ladd hx hb d_8_7_45 ?_
        refine lv_lstore (lv' := [(4, .long ((v6_4 * 10) + (y_55.toInt64))), (6, .int v6_6), (0, .ref h2), (1, .ref h1), (2, .int p2), (3, .int p3)]) hx hb d_8_7_46 hl (by decide +kernel) rfl (fun ls hl => ?_)
        obtain ⟨y_56, ey_56⟩ : ∃ y : Int32, y = v6_6 + 1 := ⟨_, rfl⟩
        have ty_56 : y_56.toInt = v6_6.toInt + 1 := by rw [ey_56]; exact zaddc (by decide +kernel) (by omega) (by omega)
        refine lv_iinc (v := y_56) (lv' := [(6, .int y_56), (4, .long ((v6_4 * 10) + (y_55.toInt64))), (0, .ref h2), (1, .ref h1), (2, .int p2), (3, .int p3)]) hx hb d_8_7_48 hl (k := 1) rfl (by rw [ey_56]; rfl) (by decide +kernel) rfl (fun ls hl => ?_)
        refine lv_goto (tgt := 6) hx hb d_8_7_51 (by decide +kernel) ?_
        exact ih_4 _ _ _ _ (by omega) ⟨y_56, ((v6_4 * 10) + (y_55.toInt64)), (show p3.toInt ≤ y_56.toInt from (by first | assumption | omega)), (show y_56.toInt ≤ p2.toInt from (by first | assumption | omega)), rfl, hP.sub (ws' := [(h2, .inr (0, [.ref h9, .ref h10, .ref h11, .ref h12, .int tc, .int ta, .int td, .int tf])), (h9, .inl (kI, 3001, .inl f9)), (h10, .inl (kI, 3001, .inl f10)), (h11, .inl (kJ, 3001, .inr (.inl f11))), (h12, .inl (kJ, 27, .inr (.inl f12))), (h1, .inl (kB, 3000, .inl f1))]) [0, 1, 2, 3, 4, 5] rfl, hD.sub (ws' := [(h2, .inr (0, [.ref h9, .ref h10, .ref h11, .ref h12, .int tc, .int ta, .int td, .int tf])), (h9, .inl (kI, 3001, .inl f9)), (h10, .inl (kI, 3001, .inl f10)), (h11, .inl (kJ, 3001, .inr (.inl f11))), (h12, .inl (kJ, 27, .inr (.inl f12))), (h1, .inl (kB, 3000, .inl f1))]) [0, 1, 2, 3, 4, 5] (by decide) rfl, hS, lv_sub hl [0, 1, 2, 3, 4, 5] rfl⟩
