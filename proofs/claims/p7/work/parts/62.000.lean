set_option maxHeartbeats 4000000 in
set_option maxRecDepth 100000 in
theorem c_String_coder_0 (l : Launch) (D : va_G) (kI kJ kB kZ : ClassId) (sz : Nat)  (sA sV : Nat → Nat) : Met l (⟨"java/lang/String", "coder", "()B"⟩ : MethodName) (Cond.code (⟨"java/lang/String", "coder", "()B"⟩ : MethodName) prog_13_method_152_code 1 (some .byte) :: gT) ({ frames := 0, cells := 0, slots := 0, locals := 0 }) (va_Pc [.ref (sA 0)] (xP D (xT kI kJ kB kZ) (xE sA sV) [] sz)) (va_Qi (fun (r : Int32) (_ : Unit) => r = 0) (fun _ t => xQ D (xT kI kJ kB kZ) (va_A [] sz) [] t) (va_A [] sz)) 0 0 (va_A [] sz) := by
  refine Met.ofW (cc := prog_13_method_152_code) (maxL := 1) (ret := some .byte) (by decide +kernel) rfl ?_
  intro p e s m args below meth c s₁ B hml hv
  obtain ⟨rfl, hsz, hP, hK, hD0, hE⟩ := hv
  have hx := B.exec
  have hb := B.bytes
  have hr := B.returns
  have hts : ∀ w ∈ gT, w.before _ s = true := fun w h => atoms_spec (ws := Cond.code (⟨"java/lang/String", "coder", "()B"⟩ : MethodName) prog_13_method_152_code 1 (some .byte) :: gT) B.pre w (List.mem_cons_of_mem _ h)
  have hown : s.vm.findClass "java/lang/String" = some m.cls := findClass_of_methodNamed B.named
  have hlocks := B.notSynchronized
  subst hsz
  have hD := hD0.self (sz := s.heap.size)
  generalize hAe : va_A [] s.heap.size = A at hD hE ⊢
  have hA : ∀ q : Nat, s.heap.size ≤ q → A q := fun q h => by rw [← hAe]; exact Or.inr h
  have hS : va_S A s.heap s.heap [] := va_S.rf
  have hP : va_P D cls9 [] s.heap := hP
  have hl := lv_entry ([.ref (sA 0)]) (n := 1) (Nat.le_of_ble_eq_true rfl)
  rw [lg_entry_eq]
  generalize (lg_sl ([.ref (sA 0)]) ++ List.replicate (1 - (lg_sl ([.ref (sA 0)])).length) Slot.unset).toArray = ls at hl ⊢
  have hl : lv_has ls 1 [(0, .ref (sA 0))] := hl
  refine va_gets hx hb (xE_Z hE) hS hown (hts _ m_163) (fun _ h9 => h9) d_13_152_0 ?_
  refine lv_if_eq (tgt := 13) hx hb d_13_152_3 (by decide +kernel) (fun c_1 => ?_) (fun c_1 => ?_)
  · exact absurd c_1 (by decide +kernel)
  refine lv_aload_n hx hb d_13_152_6 rfl (lv_at hl 0 rfl) ?_
  refine vk_getf hx hb (xE_c hE 0 (by decide)) hS hown (hts _ m_1652) (fun _ h9 => h9) d_13_152_7 ?_
  refine lv_goto (tgt := 14) hx hb d_13_152_10 (by decide +kernel) ?_
  have hP9 := hP.sub (ws' := []) [] rfl
  have hD9 := hD.sub (ws' := []) [] (by decide +kernel) rfl
  exact W.zret (v := 0) (ty := .byte) hx hb hr (by decide +kernel) (fun t ht hW => ⟨⟨0, (), rfl, rfl, xEnd hK hP9 hD9 ht hW⟩, hS.F ht⟩) hS.2.2 d_13_152_14
set_option maxHeartbeats 4000000 in
set_option maxRecDepth 100000 in
theorem c_String_length_0 (l : Launch) (D : va_G) (kI kJ kB kZ : ClassId) (sz : Nat)  (sA sV : Nat → Nat) : Met l (⟨"java/lang/String", "length", "()I"⟩ : MethodName) (Cond.code (⟨"java/lang/String", "length", "()I"⟩ : MethodName) prog_13_method_54_code 1 (some .int) :: gT) ({ frames := 1, cells := 0, slots := 0, locals := 20 }) (va_Pc [.ref (sA 0)] (xP D (xT kI kJ kB kZ) (xE sA sV) [] sz)) (va_Qi (fun (r : Int32) (_ : Unit) => r = 138) (fun _ t => xQ D (xT kI kJ kB kZ) (va_A [] sz) [] t) (va_A [] sz)) 0 0 (va_A [] sz) := by
  refine Met.ofW (cc := prog_13_method_54_code) (maxL := 1) (ret := some .int) (by decide +kernel) rfl ?_
  intro p e s m args below meth c s₁ B hml hv
  obtain ⟨rfl, hsz, hP, hK, hD0, hE⟩ := hv
  have hx := B.exec
  have hb := B.bytes
  have hr := B.returns
  have hts : ∀ w ∈ gT, w.before _ s = true := fun w h => atoms_spec (ws := Cond.code (⟨"java/lang/String", "length", "()I"⟩ : MethodName) prog_13_method_54_code 1 (some .int) :: gT) B.pre w (List.mem_cons_of_mem _ h)
  have hown : s.vm.findClass "java/lang/String" = some m.cls := findClass_of_methodNamed B.named
  have hlocks := B.notSynchronized
  subst hsz
  have hD := hD0.self (sz := s.heap.size)
  generalize hAe : va_A [] s.heap.size = A at hD hE ⊢
  have hA : ∀ q : Nat, s.heap.size ≤ q → A q := fun q h => by rw [← hAe]; exact Or.inr h
  have hS : va_S A s.heap s.heap [] := va_S.rf
  have hP : va_P D cls9 [] s.heap := hP
  have hl := lv_entry ([.ref (sA 0)]) (n := 1) (Nat.le_of_ble_eq_true rfl)
  rw [lg_entry_eq]
  generalize (lg_sl ([.ref (sA 0)]) ++ List.replicate (1 - (lg_sl ([.ref (sA 0)])).length) Slot.unset).toArray = ls at hl ⊢
  have hl : lv_has ls 1 [(0, .ref (sA 0))] := hl
  refine lv_aload_n hx hb d_13_54_0 rfl (lv_at hl 0 rfl) ?_
  refine vk_getf hx hb (xE_v hE 0 (by decide)) hS hown (hts _ m_1651) (fun _ h9 => h9) d_13_54_1 ?_
  refine va_tlen (v := 138) hx hb (xE_T hE 0 (by decide)) hS (by decide +kernel) d_13_54_4 ?_
  refine lv_aload_n hx hb d_13_54_5 rfl (lv_at hl 0 rfl) ?_
  have hPc := hP.sub (ws' := []) [] rfl
  have hDc := hD.sub (ws' := []) [] (by decide +kernel) rfl
  have hFc := va_free (wc := []) hD hS hA [] rfl
  refine va_calli (va_runV (As := []) (rest := [.int 138]) ⟨hx, hb, hml, hown, hts⟩ (c_String_coder_0 l D kI kJ kB kZ _  sA sV ) (cwV 0 hts (gT_V m_159 m_160 m_161 m_122 (gT_ws m_162)) rfl rfl rfl (by decide +kernel) ⟨(Nat.le_of_ble_eq_true rfl), (Nat.le_of_ble_eq_true rfl)⟩) ⟨xBlind (xOk_E sA sV), (xE_O hE 0 (by decide) hS), xAt (xOk_E sA sV) hK hPc hDc hS hFc hE⟩ rfl rfl hl.1 rfl (lv_room (Nat.le_of_ble_eq_true rfl)) d_13_54_6 ⟨(Nat.le_of_ble_eq_true rfl), (Nat.le_of_ble_eq_true rfl)⟩) hS (fun q _ h => hFc q h) hFc (fun r_1 u t H1 locs ht hvm hw hB hz1 hk1 hS => ?_)
  obtain ⟨hP, hD⟩ := xJoin (wr := []) (w1 := []) hP hD [] [] rfl rfl (by decide +kernel) (by decide +kernel) hk1 hFc ht hB
  generalize H1 = H at hP hS ⊢
  replace hP : va_P D cls9 [] H := hP
  replace hD : va_D A [] := hD
  obtain rfl : r_1 = 0 := hw
  refine lv_ishr hx hb d_13_54_9 ?_
  refine xtopi (v := 138) (by decide +kernel) ?_
  have hP9 := hP.sub (ws' := []) [] rfl
  have hD9 := hD.sub (ws' := []) [] (by decide +kernel) rfl
  exact W.iret (v := 138) hx hb hr (fun t ht hW => ⟨⟨138, (), rfl, rfl, xEnd hK hP9 hD9 ht hW⟩, hS.F ht⟩) hS.2.2 d_13_54_10
set_option maxHeartbeats 4000000 in
set_option maxRecDepth 100000 in
theorem c_String_isLatin1_0 (l : Launch) (D : va_G) (kI kJ kB kZ : ClassId) (sz : Nat)  (sA sV : Nat → Nat) : Met l (⟨"java/lang/String", "isLatin1", "()Z"⟩ : MethodName) (Cond.code (⟨"java/lang/String", "isLatin1", "()Z"⟩ : MethodName) prog_13_method_154_code 1 (some .boolean) :: gT) ({ frames := 0, cells := 0, slots := 0, locals := 0 }) (va_Pc [.ref (sA 0)] (xP D (xT kI kJ kB kZ) (xE sA sV) [] sz)) (va_Qi (fun (r : Int32) (_ : Unit) => r = 1) (fun _ t => xQ D (xT kI kJ kB kZ) (va_A [] sz) [] t) (va_A [] sz)) 0 0 (va_A [] sz) := by
  refine Met.ofW (cc := prog_13_method_154_code) (maxL := 1) (ret := some .boolean) (by decide +kernel) rfl ?_
  intro p e s m args below meth c s₁ B hml hv
  obtain ⟨rfl, hsz, hP, hK, hD0, hE⟩ := hv
  have hx := B.exec
  have hb := B.bytes
  have hr := B.returns
  have hts : ∀ w ∈ gT, w.before _ s = true := fun w h => atoms_spec (ws := Cond.code (⟨"java/lang/String", "isLatin1", "()Z"⟩ : MethodName) prog_13_method_154_code 1 (some .boolean) :: gT) B.pre w (List.mem_cons_of_mem _ h)
  have hown : s.vm.findClass "java/lang/String" = some m.cls := findClass_of_methodNamed B.named
  have hlocks := B.notSynchronized
  subst hsz
  have hD := hD0.self (sz := s.heap.size)
  generalize hAe : va_A [] s.heap.size = A at hD hE ⊢
  have hA : ∀ q : Nat, s.heap.size ≤ q → A q := fun q h => by rw [← hAe]; exact Or.inr h
  have hS : va_S A s.heap s.heap [] := va_S.rf
  have hP : va_P D cls9 [] s.heap := hP
  have hl := lv_entry ([.ref (sA 0)]) (n := 1) (Nat.le_of_ble_eq_true rfl)
  rw [lg_entry_eq]
  generalize (lg_sl ([.ref (sA 0)]) ++ List.replicate (1 - (lg_sl ([.ref (sA 0)])).length) Slot.unset).toArray = ls at hl ⊢
  have hl : lv_has ls 1 [(0, .ref (sA 0))] := hl
  refine va_gets hx hb (xE_Z hE) hS hown (hts _ m_163) (fun _ h9 => h9) d_13_154_0 ?_
  refine lv_if_eq (tgt := 17) hx hb d_13_154_3 (by decide +kernel) (fun c_1 => ?_) (fun c_1 => ?_)
  · exact absurd c_1 (by decide +kernel)
  refine lv_aload_n hx hb d_13_154_6 rfl (lv_at hl 0 rfl) ?_
  refine vk_getf hx hb (xE_c hE 0 (by decide)) hS hown (hts _ m_1652) (fun _ h9 => h9) d_13_154_7 ?_
  refine lv_if_ne (tgt := 17) hx hb d_13_154_10 (by decide +kernel) (fun c_2 => ?_) (fun c_2 => ?_)
  · exact absurd c_2 (by decide +kernel)
  refine lv_iconst (v := 1) hx hb d_13_154_13 (by decide +kernel) ?_
  refine lv_goto (tgt := 18) hx hb d_13_154_14 (by decide +kernel) ?_
  have hP9 := hP.sub (ws' := []) [] rfl
  have hD9 := hD.sub (ws' := []) [] (by decide +kernel) rfl
  exact W.zret (v := 1) (ty := .boolean) hx hb hr (by decide +kernel) (fun t ht hW => ⟨⟨1, (), rfl, rfl, xEnd hK hP9 hD9 ht hW⟩, hS.F ht⟩) hS.2.2 d_13_154_18
set_option maxHeartbeats 4000000 in
set_option maxRecDepth 100000 in
theorem c_Preconditions_checkIndex_0 (l : Launch) (D : va_G) (kI kJ kB kZ : ClassId) (sz : Nat) (j : Nat) (hj : j < 138) : Met l (⟨"jdk/internal/util/Preconditions", "checkIndex", "(IILjava/util/function/BiFunction;)I"⟩ : MethodName) (Cond.code (⟨"jdk/internal/util/Preconditions", "checkIndex", "(IILjava/util/function/BiFunction;)I"⟩ : MethodName) prog_17_method_11_code 3 (some .int) :: gT) ({ frames := 0, cells := 0, slots := 0, locals := 0 }) (va_Pc [.int (nI j), .int 138, .null] (xP D (xT kI kJ kB kZ) xN [] sz)) (va_Qi (fun (r : Int32) (_ : Unit) => r = (nI j)) (fun _ t => xQ D (xT kI kJ kB kZ) (va_A [] sz) [] t) (va_A [] sz)) 0 0 (va_A [] sz) := by
  refine Met.ofW (cc := prog_17_method_11_code) (maxL := 3) (ret := some .int) (by decide +kernel) rfl ?_
  intro p e s m args below meth c s₁ B hml hv
  obtain ⟨rfl, hsz, hP, hK, hD0, hE⟩ := hv
  have hx := B.exec
  have hb := B.bytes
  have hr := B.returns
  have hts : ∀ w ∈ gT, w.before _ s = true := fun w h => atoms_spec (ws := Cond.code (⟨"jdk/internal/util/Preconditions", "checkIndex", "(IILjava/util/function/BiFunction;)I"⟩ : MethodName) prog_17_method_11_code 3 (some .int) :: gT) B.pre w (List.mem_cons_of_mem _ h)
  have hown : s.vm.findClass "jdk/internal/util/Preconditions" = some m.cls := findClass_of_methodNamed B.named
  have hlocks := B.notSynchronized
  subst hsz
  have hD := hD0.self (sz := s.heap.size)
  generalize hAe : va_A [] s.heap.size = A at hD hE ⊢
  have hA : ∀ q : Nat, s.heap.size ≤ q → A q := fun q h => by rw [← hAe]; exact Or.inr h
  have hS : va_S A s.heap s.heap [] := va_S.rf
  have hP : va_P D cls9 [] s.heap := hP
  have hl := lv_entry ([.int (nI j), .int 138, .null]) (n := 3) (Nat.le_of_ble_eq_true rfl)
  rw [lg_entry_eq]
  generalize (lg_sl ([.int (nI j), .int 138, .null]) ++ List.replicate (3 - (lg_sl ([.int (nI j), .int 138, .null])).length) Slot.unset).toArray = ls at hl ⊢
  have hl : lv_has ls 3 [(0, .int (nI j)), (1, .int 138), (2, .null)] := hl
  refine lv_iload_n hx hb d_17_11_0 rfl (lv_at hl 0 rfl) ?_
  refine lv_if_lt (tgt := 9) hx hb d_17_11_1 (by decide +kernel) (fun c_1 => ?_) (fun c_1 => ?_)
  · exact absurd c_1 (nI_pos (by omega))
  refine lv_iload_n hx hb d_17_11_4 rfl (lv_at hl 0 rfl) ?_
  refine lv_iload_n hx hb d_17_11_5 rfl (lv_at hl 1 rfl) ?_
  refine lv_icmp_lt (tgt := 16) hx hb d_17_11_6 (by decide +kernel) (fun c_2 => ?_) (fun c_2 => ?_)
  rotate_left
  · exact absurd (show nI j < 138 from nI_lt hj (by decide)) c_2
  refine lv_iload_n hx hb d_17_11_16 rfl (lv_at hl 0 rfl) ?_
  have hP9 := hP.sub (ws' := []) [] rfl
  have hD9 := hD.sub (ws' := []) [] (by decide +kernel) rfl
  exact W.iret (v := (nI j)) hx hb hr (fun t ht hW => ⟨⟨(nI j), (), rfl, rfl, xEnd hK hP9 hD9 ht hW⟩, hS.F ht⟩) hS.2.2 d_17_11_17
set_option maxHeartbeats 4000000 in
set_option maxRecDepth 100000 in
theorem c_Preconditions_checkIndex_1 (l : Launch) (D : va_G) (kI kJ kB kZ : ClassId) (sz : Nat) (j : Nat) (h0 : Nat) (hj : j < 138) : Met l (⟨"jdk/internal/util/Preconditions", "checkIndex", "(IILjava/util/function/BiFunction;)I"⟩ : MethodName) (Cond.code (⟨"jdk/internal/util/Preconditions", "checkIndex", "(IILjava/util/function/BiFunction;)I"⟩ : MethodName) prog_17_method_11_code 3 (some .int) :: gT) ({ frames := 0, cells := 0, slots := 0, locals := 0 }) (va_Pc [.int (nI j), .int 138, .ref h0] (xP D (xT kI kJ kB kZ) xN [] sz)) (va_Qi (fun (r : Int32) (_ : Unit) => r = (nI j)) (fun _ t => xQ D (xT kI kJ kB kZ) (va_A [] sz) [] t) (va_A [] sz)) 0 0 (va_A [] sz) := by
  refine Met.ofW (cc := prog_17_method_11_code) (maxL := 3) (ret := some .int) (by decide +kernel) rfl ?_
  intro p e s m args below meth c s₁ B hml hv
  obtain ⟨rfl, hsz, hP, hK, hD0, hE⟩ := hv
  have hx := B.exec
  have hb := B.bytes
  have hr := B.returns
  have hts : ∀ w ∈ gT, w.before _ s = true := fun w h => atoms_spec (ws := Cond.code (⟨"jdk/internal/util/Preconditions", "checkIndex", "(IILjava/util/function/BiFunction;)I"⟩ : MethodName) prog_17_method_11_code 3 (some .int) :: gT) B.pre w (List.mem_cons_of_mem _ h)
  have hown : s.vm.findClass "jdk/internal/util/Preconditions" = some m.cls := findClass_of_methodNamed B.named
  have hlocks := B.notSynchronized
  subst hsz
  have hD := hD0.self (sz := s.heap.size)
  generalize hAe : va_A [] s.heap.size = A at hD hE ⊢
  have hA : ∀ q : Nat, s.heap.size ≤ q → A q := fun q h => by rw [← hAe]; exact Or.inr h
  have hS : va_S A s.heap s.heap [] := va_S.rf
  have hP : va_P D cls9 [] s.heap := hP
  have hl := lv_entry ([.int (nI j), .int 138, .ref h0]) (n := 3) (Nat.le_of_ble_eq_true rfl)
  rw [lg_entry_eq]
  generalize (lg_sl ([.int (nI j), .int 138, .ref h0]) ++ List.replicate (3 - (lg_sl ([.int (nI j), .int 138, .ref h0])).length) Slot.unset).toArray = ls at hl ⊢
  have hl : lv_has ls 3 [(0, .int (nI j)), (1, .int 138), (2, .ref h0)] := hl
  refine lv_iload_n hx hb d_17_11_0 rfl (lv_at hl 0 rfl) ?_
  refine lv_if_lt (tgt := 9) hx hb d_17_11_1 (by decide +kernel) (fun c_1 => ?_) (fun c_1 => ?_)
  · exact absurd c_1 (nI_pos (by omega))
  refine lv_iload_n hx hb d_17_11_4 rfl (lv_at hl 0 rfl) ?_
  refine lv_iload_n hx hb d_17_11_5 rfl (lv_at hl 1 rfl) ?_
  refine lv_icmp_lt (tgt := 16) hx hb d_17_11_6 (by decide +kernel) (fun c_2 => ?_) (fun c_2 => ?_)
  rotate_left
  · exact absurd (show nI j < 138 from nI_lt hj (by decide)) c_2
  refine lv_iload_n hx hb d_17_11_16 rfl (lv_at hl 0 rfl) ?_
  have hP9 := hP.sub (ws' := []) [] rfl
  have hD9 := hD.sub (ws' := []) [] (by decide +kernel) rfl
  exact W.iret (v := (nI j)) hx hb hr (fun t ht hW => ⟨⟨(nI j), (), rfl, rfl, xEnd hK hP9 hD9 ht hW⟩, hS.F ht⟩) hS.2.2 d_17_11_17
set_option maxHeartbeats 4000000 in
set_option maxRecDepth 100000 in
theorem c_String_checkIndex_0 (l : Launch) (D : va_G) (kI kJ kB kZ : ClassId) (sz : Nat) (j : Nat) (sA sV : Nat → Nat) (hj : j < 138) : Met l (⟨"java/lang/String", "checkIndex", "(II)V"⟩ : MethodName) (Cond.code (⟨"java/lang/String", "checkIndex", "(II)V"⟩ : MethodName) prog_13_method_155_code 2 (none) :: gT) ({ frames := 1, cells := 0, slots := 0, locals := 22 }) (va_Pc [.int (nI j), .int 138] (xP D (xT kI kJ kB kZ) (xE sA sV) [] sz)) (va_Qv (fun _ : Unit => True) (fun _ t => xQ D (xT kI kJ kB kZ) (va_A [] sz) [] t) (va_A [] sz)) 0 0 (va_A [] sz) := by
  refine Met.ofW (cc := prog_13_method_155_code) (maxL := 2) (ret := none) (by decide +kernel) rfl ?_
  intro p e s m args below meth c s₁ B hml hv
  obtain ⟨rfl, hsz, hP, hK, hD0, hE⟩ := hv
  have hx := B.exec
  have hb := B.bytes
  have hr := B.returns
  have hts : ∀ w ∈ gT, w.before _ s = true := fun w h => atoms_spec (ws := Cond.code (⟨"java/lang/String", "checkIndex", "(II)V"⟩ : MethodName) prog_13_method_155_code 2 (none) :: gT) B.pre w (List.mem_cons_of_mem _ h)
  have hown : s.vm.findClass "java/lang/String" = some m.cls := findClass_of_methodNamed B.named
  have hlocks := B.notSynchronized
  subst hsz
  have hD := hD0.self (sz := s.heap.size)
  generalize hAe : va_A [] s.heap.size = A at hD hE ⊢
  have hA : ∀ q : Nat, s.heap.size ≤ q → A q := fun q h => by rw [← hAe]; exact Or.inr h
  have hS : va_S A s.heap s.heap [] := va_S.rf
  have hP : va_P D cls9 [] s.heap := hP
  have hl := lv_entry ([.int (nI j), .int 138]) (n := 2) (Nat.le_of_ble_eq_true rfl)
  rw [lg_entry_eq]
  generalize (lg_sl ([.int (nI j), .int 138]) ++ List.replicate (2 - (lg_sl ([.int (nI j), .int 138])).length) Slot.unset).toArray = ls at hl ⊢
  have hl : lv_has ls 2 [(0, .int (nI j)), (1, .int 138)] := hl
  refine lv_iload_n hx hb d_13_155_0 rfl (lv_at hl 0 rfl) ?_
  refine lv_iload_n hx hb d_13_155_1 rfl (lv_at hl 1 rfl) ?_
  rcases xE_Zq hE with hz | ⟨sF, hz⟩
  · skip
    refine va_gets hx hb hz hS hown (hts _ m_179) (fun _ h9 => h9) d_13_155_2 ?_
    have hPc := hP.sub (ws' := []) [] rfl
    have hDc := hD.sub (ws' := []) [] (by decide +kernel) rfl
    have hFc := va_free (wc := []) hD hS hA [] rfl
    refine va_calli (va_runS (As := [.int (nI j), .int 138, .null]) (rest := []) ⟨hx, hb, hml, hown, hts⟩ (c_Preconditions_checkIndex_0 l D kI kJ kB kZ _ (j) hj) (va_cwS 3 hts (gT_S m_181 m_182 m_124 (gT_ws m_183)) rfl rfl rfl (by decide +kernel) ⟨(Nat.le_of_ble_eq_true rfl), (Nat.le_of_ble_eq_true rfl)⟩) ⟨xBlind xOk_N, xAtN hK hPc hDc⟩ rfl rfl hl.1 rfl (lv_room (Nat.le_of_ble_eq_true rfl)) d_13_155_5 ⟨(Nat.le_of_ble_eq_true rfl), (Nat.le_of_ble_eq_true rfl)⟩) hS (fun q _ h => hFc q h) hFc (fun r_1 u t H1 locs ht hvm hw hB hz1 hk1 hS => ?_)
    obtain ⟨hP, hD⟩ := xJoin (wr := []) (w1 := []) hP hD [] [] rfl rfl (by decide +kernel) (by decide +kernel) hk1 hFc ht hB
    generalize H1 = H at hP hS ⊢
    replace hP : va_P D cls9 [] H := hP
    replace hD : va_D A [] := hD
    obtain rfl : r_1 = (nI j) := hw
    refine lv_pop hx hb d_13_155_8 rfl ?_
    have hP9 := hP.sub (ws' := []) [] rfl
    have hD9 := hD.sub (ws' := []) [] (by decide +kernel) rfl
    exact W.vret hx hb hr (fun t ht hW => ⟨⟨(), rfl, trivial, xEnd hK hP9 hD9 ht hW⟩, hS.F ht⟩) hS.2.2 d_13_155_9
  · skip
    refine va_gets hx hb hz hS hown (hts _ m_179) (fun _ h9 => h9) d_13_155_2 ?_
    have hPc := hP.sub (ws' := []) [] rfl
    have hDc := hD.sub (ws' := []) [] (by decide +kernel) rfl
    have hFc := va_free (wc := []) hD hS hA [] rfl
    refine va_calli (va_runS (As := [.int (nI j), .int 138, .ref sF]) (rest := []) ⟨hx, hb, hml, hown, hts⟩ (c_Preconditions_checkIndex_1 l D kI kJ kB kZ _ (j) (sF) hj) (va_cwS 3 hts (gT_S m_181 m_182 m_124 (gT_ws m_183)) rfl rfl rfl (by decide +kernel) ⟨(Nat.le_of_ble_eq_true rfl), (Nat.le_of_ble_eq_true rfl)⟩) ⟨xBlind xOk_N, xAtN hK hPc hDc⟩ rfl rfl hl.1 rfl (lv_room (Nat.le_of_ble_eq_true rfl)) d_13_155_5 ⟨(Nat.le_of_ble_eq_true rfl), (Nat.le_of_ble_eq_true rfl)⟩) hS (fun q _ h => hFc q h) hFc (fun r_2 u t H1 locs ht hvm hw hB hz1 hk1 hS => ?_)
    obtain ⟨hP, hD⟩ := xJoin (wr := []) (w1 := []) hP hD [] [] rfl rfl (by decide +kernel) (by decide +kernel) hk1 hFc ht hB
    generalize H1 = H at hP hS ⊢
    replace hP : va_P D cls9 [] H := hP
    replace hD : va_D A [] := hD
    obtain rfl : r_2 = (nI j) := hw
    refine lv_pop hx hb d_13_155_8 rfl ?_
    have hP9 := hP.sub (ws' := []) [] rfl
    have hD9 := hD.sub (ws' := []) [] (by decide +kernel) rfl
    exact W.vret hx hb hr (fun t ht hW => ⟨⟨(), rfl, trivial, xEnd hK hP9 hD9 ht hW⟩, hS.F ht⟩) hS.2.2 d_13_155_9
set_option maxHeartbeats 4000000 in
set_option maxRecDepth 100000 in
theorem c_StringLatin1_charAt_0 (l : Launch) (D : va_G) (kI kJ kB kZ : ClassId) (sz : Nat) (j : Nat) (sA sV : Nat → Nat) (hj : j < 138) : Met l (⟨"java/lang/StringLatin1", "charAt", "([BI)C"⟩ : MethodName) (Cond.code (⟨"java/lang/StringLatin1", "charAt", "([BI)C"⟩ : MethodName) prog_14_method_2_code 2 (some .char) :: gT) ({ frames := 2, cells := 0, slots := 0, locals := 43 }) (va_Pc [.ref (sV 0), .int (nI j)] (xP D (xT kI kJ kB kZ) (xE sA sV) [] sz)) (va_Qi (fun (r : Int32) (_ : Unit) => narrow .char (.int r) = .int r ∧ r = lwc j) (fun _ t => xQ D (xT kI kJ kB kZ) (va_A [] sz) [] t) (va_A [] sz)) 0 0 (va_A [] sz) := by
  refine Met.ofW (cc := prog_14_method_2_code) (maxL := 2) (ret := some .char) (by decide +kernel) rfl ?_
  intro p e s m args below meth c s₁ B hml hv
  obtain ⟨rfl, hsz, hP, hK, hD0, hE⟩ := hv
  have hx := B.exec
  have hb := B.bytes
  have hr := B.returns
  have hts : ∀ w ∈ gT, w.before _ s = true := fun w h => atoms_spec (ws := Cond.code (⟨"java/lang/StringLatin1", "charAt", "([BI)C"⟩ : MethodName) prog_14_method_2_code 2 (some .char) :: gT) B.pre w (List.mem_cons_of_mem _ h)
  have hown : s.vm.findClass "java/lang/StringLatin1" = some m.cls := findClass_of_methodNamed B.named
  have hlocks := B.notSynchronized
  subst hsz
  have hD := hD0.self (sz := s.heap.size)
  generalize hAe : va_A [] s.heap.size = A at hD hE ⊢
  have hA : ∀ q : Nat, s.heap.size ≤ q → A q := fun q h => by rw [← hAe]; exact Or.inr h
  have hS : va_S A s.heap s.heap [] := va_S.rf
  have hP : va_P D cls9 [] s.heap := hP
  have hl := lv_entry ([.ref (sV 0), .int (nI j)]) (n := 2) (Nat.le_of_ble_eq_true rfl)
  rw [lg_entry_eq]
  generalize (lg_sl ([.ref (sV 0), .int (nI j)]) ++ List.replicate (2 - (lg_sl ([.ref (sV 0), .int (nI j)])).length) Slot.unset).toArray = ls at hl ⊢
  have hl : lv_has ls 2 [(0, .ref (sV 0)), (1, .int (nI j))] := hl
  refine lv_iload_n hx hb d_14_2_0 rfl (lv_at hl 1 rfl) ?_
  refine lv_aload_n hx hb d_14_2_1 rfl (lv_at hl 0 rfl) ?_
  refine va_tlen (v := 138) hx hb (xE_T hE 0 (by decide)) hS (by decide +kernel) d_14_2_2 ?_
  have hPc := hP.sub (ws' := []) [] rfl
  have hDc := hD.sub (ws' := []) [] (by decide +kernel) rfl
  have hFc := va_free (wc := []) hD hS hA [] rfl
  refine va_callv (va_runS (As := [.int (nI j), .int 138]) (rest := []) ⟨hx, hb, hml, hown, hts⟩ (c_String_checkIndex_0 l D kI kJ kB kZ _ (j) sA sV hj) (va_cwS 2 hts (gT_S m_176 m_177 m_122 (gT_ws m_178)) rfl rfl rfl (by decide +kernel) ⟨(Nat.le_of_ble_eq_true rfl), (Nat.le_of_ble_eq_true rfl)⟩) ⟨xBlind (xOk_E sA sV), xAt (xOk_E sA sV) hK hPc hDc hS hFc hE⟩ rfl rfl hl.1 rfl (lv_room (Nat.le_of_ble_eq_true rfl)) d_14_2_3 ⟨(Nat.le_of_ble_eq_true rfl), (Nat.le_of_ble_eq_true rfl)⟩) hS (fun q _ h => hFc q h) hFc (fun u t H1 locs ht hvm hw hB hz1 hk1 hS => ?_)
  obtain ⟨hP, hD⟩ := xJoin (wr := []) (w1 := []) hP hD [] [] rfl rfl (by decide +kernel) (by decide +kernel) hk1 hFc ht hB
  generalize H1 = H at hP hS ⊢
  replace hP : va_P D cls9 [] H := hP
  replace hD : va_D A [] := hD
  refine lv_aload_n hx hb d_14_2_6 rfl (lv_at hl 0 rfl) ?_
  refine lv_iload_n hx hb d_14_2_7 rfl (lv_at hl 1 rfl) ?_
  refine va_tb hx hb (xE_T hE 0 (by decide)) hS (vp_in_nI (N := sN 0) hj (by decide)) rfl d_14_2_8 ?_
  refine lv_topi (fun z_2 ez_2 => ?_)
  refine lv_sipush (v := 255) hx hb d_14_2_9 (by decide +kernel) ?_
  refine lv_iand hx hb d_14_2_12 ?_
  refine lv_i2c (v := (((z_2 &&& 255).toUInt32 % 65536).toInt32)) hx hb d_14_2_13 rfl ?_
  have hP9 := hP.sub (ws' := []) [] rfl
  have hD9 := hD.sub (ws' := []) [] (by decide +kernel) rfl
  exact W.zret (v := (((z_2 &&& 255).toUInt32 % 65536).toInt32)) (ty := .char) hx hb hr (pk_nc _) (fun t ht hW => ⟨⟨(((z_2 &&& 255).toUInt32 % 65536).toInt32), (), rfl, ⟨pk_nc _, by show _ = lwc j; unfold lwc; rw [ez_2, lw_n hj]⟩, xEnd hK hP9 hD9 ht hW⟩, hS.F ht⟩) hS.2.2 d_14_2_14
set_option maxHeartbeats 4000000 in
set_option maxRecDepth 100000 in
theorem c_String_charAt_0 (l : Launch) (D : va_G) (kI kJ kB kZ : ClassId) (sz : Nat) (j : Nat) (sA sV : Nat → Nat) (hj : j < 138) : Met l (⟨"java/lang/String", "charAt", "(I)C"⟩ : MethodName) (Cond.code (⟨"java/lang/String", "charAt", "(I)C"⟩ : MethodName) prog_13_method_56_code 2 (some .char) :: gT) ({ frames := 3, cells := 0, slots := 0, locals := 64 }) (va_Pc [.ref (sA 0), .int (nI j)] (xP D (xT kI kJ kB kZ) (xE sA sV) [] sz)) (va_Qi (fun (r : Int32) (_ : Unit) => narrow .char (.int r) = .int r ∧ r = lwc j) (fun _ t => xQ D (xT kI kJ kB kZ) (va_A [] sz) [] t) (va_A [] sz)) 0 0 (va_A [] sz) := by
  refine Met.ofW (cc := prog_13_method_56_code) (maxL := 2) (ret := some .char) (by decide +kernel) rfl ?_
  intro p e s m args below meth c s₁ B hml hv
  obtain ⟨rfl, hsz, hP, hK, hD0, hE⟩ := hv
  have hx := B.exec
  have hb := B.bytes
  have hr := B.returns
  have hts : ∀ w ∈ gT, w.before _ s = true := fun w h => atoms_spec (ws := Cond.code (⟨"java/lang/String", "charAt", "(I)C"⟩ : MethodName) prog_13_method_56_code 2 (some .char) :: gT) B.pre w (List.mem_cons_of_mem _ h)
  have hown : s.vm.findClass "java/lang/String" = some m.cls := findClass_of_methodNamed B.named
  have hlocks := B.notSynchronized
  subst hsz
  have hD := hD0.self (sz := s.heap.size)
  generalize hAe : va_A [] s.heap.size = A at hD hE ⊢
  have hA : ∀ q : Nat, s.heap.size ≤ q → A q := fun q h => by rw [← hAe]; exact Or.inr h
  have hS : va_S A s.heap s.heap [] := va_S.rf
  have hP : va_P D cls9 [] s.heap := hP
  have hl := lv_entry ([.ref (sA 0), .int (nI j)]) (n := 2) (Nat.le_of_ble_eq_true rfl)
  rw [lg_entry_eq]
  generalize (lg_sl ([.ref (sA 0), .int (nI j)]) ++ List.replicate (2 - (lg_sl ([.ref (sA 0), .int (nI j)])).length) Slot.unset).toArray = ls at hl ⊢
  have hl : lv_has ls 2 [(0, .ref (sA 0)), (1, .int (nI j))] := hl
  refine lv_aload_n hx hb d_13_56_0 rfl (lv_at hl 0 rfl) ?_
  have hPc := hP.sub (ws' := []) [] rfl
  have hDc := hD.sub (ws' := []) [] (by decide +kernel) rfl
  have hFc := va_free (wc := []) hD hS hA [] rfl
  refine va_calli (va_runV (As := []) (rest := []) ⟨hx, hb, hml, hown, hts⟩ (c_String_isLatin1_0 l D kI kJ kB kZ _  sA sV ) (cwV 0 hts (gT_V m_169 m_170 m_171 m_122 (gT_ws m_172)) rfl rfl rfl (by decide +kernel) ⟨(Nat.le_of_ble_eq_true rfl), (Nat.le_of_ble_eq_true rfl)⟩) ⟨xBlind (xOk_E sA sV), (xE_O hE 0 (by decide) hS), xAt (xOk_E sA sV) hK hPc hDc hS hFc hE⟩ rfl rfl hl.1 rfl (lv_room (Nat.le_of_ble_eq_true rfl)) d_13_56_1 ⟨(Nat.le_of_ble_eq_true rfl), (Nat.le_of_ble_eq_true rfl)⟩) hS (fun q _ h => hFc q h) hFc (fun r_1 u t H1 locs ht hvm hw hB hz1 hk1 hS => ?_)
  obtain ⟨hP, hD⟩ := xJoin (wr := []) (w1 := []) hP hD [] [] rfl rfl (by decide +kernel) (by decide +kernel) hk1 hFc ht hB
  generalize H1 = H at hP hS ⊢
  replace hP : va_P D cls9 [] H := hP
  replace hD : va_D A [] := hD
  obtain rfl : r_1 = 1 := hw
  refine lv_if_eq (tgt := 16) hx hb d_13_56_4 (by decide +kernel) (fun c_2 => ?_) (fun c_2 => ?_)
  · exact absurd c_2 (by decide +kernel)
  refine lv_aload_n hx hb d_13_56_7 rfl (lv_at hl 0 rfl) ?_
  refine vk_getf hx hb (xE_v hE 0 (by decide)) hS hown (hts _ m_1651) (fun _ h9 => h9) d_13_56_8 ?_
  refine lv_iload_n hx hb d_13_56_11 rfl (lv_at hl 1 rfl) ?_
  have hPc := hP.sub (ws' := []) [] rfl
  have hDc := hD.sub (ws' := []) [] (by decide +kernel) rfl
  have hFc := va_free (wc := []) hD hS hA [] rfl
  refine va_calli (va_runS (As := [.ref (sV 0), .int (nI j)]) (rest := []) ⟨hx, hb, hml, hown, hts⟩ (c_StringLatin1_charAt_0 l D kI kJ kB kZ _ (j) sA sV hj) (va_cwS 2 hts (gT_S m_173 m_174 m_123 (gT_ws m_175)) rfl rfl rfl (by decide +kernel) ⟨(Nat.le_of_ble_eq_true rfl), (Nat.le_of_ble_eq_true rfl)⟩) ⟨xBlind (xOk_E sA sV), xAt (xOk_E sA sV) hK hPc hDc hS hFc hE⟩ rfl rfl hl.1 rfl (lv_room (Nat.le_of_ble_eq_true rfl)) d_13_56_12 ⟨(Nat.le_of_ble_eq_true rfl), (Nat.le_of_ble_eq_true rfl)⟩) hS (fun q _ h => hFc q h) hFc (fun r_3 u t H1 locs ht hvm hw hB hz1 hk1 hS => ?_)
  obtain ⟨hP, hD⟩ := xJoin (wr := []) (w1 := []) hP hD [] [] rfl rfl (by decide +kernel) (by decide +kernel) hk1 hFc ht hB
  generalize H1 = H at hP hS ⊢
  replace hP : va_P D cls9 [] H := hP
  replace hD : va_D A [] := hD
  have hw9 := hw
  have hP9 := hP.sub (ws' := []) [] rfl
  have hD9 := hD.sub (ws' := []) [] (by decide +kernel) rfl
  exact W.zret (v := r_3) (ty := .char) hx hb hr hw9.1 (fun t ht hW => ⟨⟨r_3, (), rfl, hw9, xEnd hK hP9 hD9 ht hW⟩, hS.F ht⟩) hS.2.2 d_13_56_15
