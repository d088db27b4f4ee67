set_option maxHeartbeats 8000000 in
set_option maxRecDepth 100000 in
theorem g_String_coder (l : Launch) (D : va_G) (kI kJ kB kZ : ClassId) (sz : Nat) (sA : Nat → Nat) (sV : Nat → Nat) (i : Nat) (hi : i < 47) : Met l (⟨"java/lang/String", "coder", "()B"⟩ : MethodName) (Cond.code (⟨"java/lang/String", "coder", "()B"⟩ : MethodName) prog_13_method_152_code 1 (some .byte) :: gT) ({ frames := 0, cells := 0, slots := 0, locals := 0 }) (va_Pc [.ref (sA i)] (xP D (xT kI kJ kB kZ) (xE sA sV) [] sz)) (va_Qi (fun (r : Int32) (_ : Unit) => r = 0) (fun _ t => xQ D (xT kI kJ kB kZ) (va_A [] sz) [] t) (va_A [] sz)) 0 0 (va_A [] sz) := by
  refine Met.ofW (cc := prog_13_method_152_code) (maxL := 1) (ret := some .byte) (by decide +kernel) rfl ?_
  intro p e s m args below meth c s₁ B hml hv
  obtain ⟨rfl, hsz, hP, hK, hD0, hE⟩ := hv
  have hx := B.exec
  have hb := B.bytes
  have hr := B.returns
  have hts : ∀ w ∈ gT, w.before _ s = true := fun w h => atoms_spec (ws := Cond.code (⟨"java/lang/String", "coder", "()B"⟩ : MethodName) prog_13_method_152_code 1 (some .byte) :: gT) B.pre w (List.mem_cons_of_mem _ h)
  have hown : s.vm.findClass "java/lang/String" = some m.cls := findClass_of_methodNamed B.named
  have hlocks := B.notSynchronized
  subst hsz
  have hD := hD0.self (sz := s.heap.size)
  generalize hAe : va_A [] s.heap.size = A at hD hE ⊢
  have hA : ∀ q : Nat, s.heap.size ≤ q → A q := fun q h => by rw [← hAe]; exact Or.inr h
  have hS : va_S A s.heap s.heap [] := va_S.rf
  have hP : va_P D cls9 [] s.heap := hP
  have hl := lv_entry ([.ref (sA i)]) (n := 1) (Nat.le_of_ble_eq_true rfl)
  rw [lg_entry_eq]
  generalize (lg_sl ([.ref (sA i)]) ++ List.replicate (1 - (lg_sl ([.ref (sA i)])).length) Slot.unset).toArray = ls at hl ⊢
  have hl : lv_has ls 1 [(0, .ref (sA i))] := hl
  refine va_gets hx hb (xE_Z hE) hS hown (hts _ m_163) (fun _ h9 => h9) d_13_152_0 ?_
  refine lv_if_eq (tgt := 13) hx hb d_13_152_3 (by decide +kernel) (fun c_1 => ?_) (fun c_1 => ?_)
  · exact absurd c_1 (by decide +kernel)
  refine lv_aload_n hx hb d_13_152_6 rfl (lv_at hl 0 rfl) ?_
  refine vk_getf hx hb (xE_c hE i hi) hS hown (hts _ m_1652) (fun _ h9 => h9) d_13_152_7 ?_
  refine lv_goto (tgt := 14) hx hb d_13_152_10 (by decide +kernel) ?_
  have hP9 := hP.sub (ws' := []) [] rfl
  have hD9 := hD.sub (ws' := []) [] (by decide) rfl
  exact W.zret (v := 0) (ty := .byte) hx hb hr (by decide +kernel) (fun t ht hW => ⟨⟨0, (), rfl, rfl, xEnd hK hP9 hD9 ht hW⟩, hS.F ht⟩) hS.2.2 d_13_152_14
set_option maxHeartbeats 8000000 in
set_option maxRecDepth 100000 in
theorem g_String_isLatin1 (l : Launch) (D : va_G) (kI kJ kB kZ : ClassId) (sz : Nat) (sA : Nat → Nat) (sV : Nat → Nat) (i : Nat) (hi : i < 47) : Met l (⟨"java/lang/String", "isLatin1", "()Z"⟩ : MethodName) (Cond.code (⟨"java/lang/String", "isLatin1", "()Z"⟩ : MethodName) prog_13_method_154_code 1 (some .boolean) :: gT) ({ frames := 0, cells := 0, slots := 0, locals := 0 }) (va_Pc [.ref (sA i)] (xP D (xT kI kJ kB kZ) (xE sA sV) [] sz)) (va_Qi (fun (r : Int32) (_ : Unit) => r = 1) (fun _ t => xQ D (xT kI kJ kB kZ) (va_A [] sz) [] t) (va_A [] sz)) 0 0 (va_A [] sz) := by
  refine Met.ofW (cc := prog_13_method_154_code) (maxL := 1) (ret := some .boolean) (by decide +kernel) rfl ?_
  intro p e s m args below meth c s₁ B hml hv
  obtain ⟨rfl, hsz, hP, hK, hD0, hE⟩ := hv
  have hx := B.exec
  have hb := B.bytes
  have hr := B.returns
  have hts : ∀ w ∈ gT, w.before _ s = true := fun w h => atoms_spec (ws := Cond.code (⟨"java/lang/String", "isLatin1", "()Z"⟩ : MethodName) prog_13_method_154_code 1 (some .boolean) :: gT) B.pre w (List.mem_cons_of_mem _ h)
  have hown : s.vm.findClass "java/lang/String" = some m.cls := findClass_of_methodNamed B.named
  have hlocks := B.notSynchronized
  subst hsz
  have hD := hD0.self (sz := s.heap.size)
  generalize hAe : va_A [] s.heap.size = A at hD hE ⊢
  have hA : ∀ q : Nat, s.heap.size ≤ q → A q := fun q h => by rw [← hAe]; exact Or.inr h
  have hS : va_S A s.heap s.heap [] := va_S.rf
  have hP : va_P D cls9 [] s.heap := hP
  have hl := lv_entry ([.ref (sA i)]) (n := 1) (Nat.le_of_ble_eq_true rfl)
  rw [lg_entry_eq]
  generalize (lg_sl ([.ref (sA i)]) ++ List.replicate (1 - (lg_sl ([.ref (sA i)])).length) Slot.unset).toArray = ls at hl ⊢
  have hl : lv_has ls 1 [(0, .ref (sA i))] := hl
  refine va_gets hx hb (xE_Z hE) hS hown (hts _ m_163) (fun _ h9 => h9) d_13_154_0 ?_
  refine lv_if_eq (tgt := 17) hx hb d_13_154_3 (by decide +kernel) (fun c_1 => ?_) (fun c_1 => ?_)
  · exact absurd c_1 (by decide +kernel)
  refine lv_aload_n hx hb d_13_154_6 rfl (lv_at hl 0 rfl) ?_
  refine vk_getf hx hb (xE_c hE i hi) hS hown (hts _ m_1652) (fun _ h9 => h9) d_13_154_7 ?_
  refine lv_if_ne (tgt := 17) hx hb d_13_154_10 (by decide +kernel) (fun c_2 => ?_) (fun c_2 => ?_)
  · exact absurd c_2 (by decide +kernel)
  refine lv_iconst (v := 1) hx hb d_13_154_13 (by decide +kernel) ?_
  refine lv_goto (tgt := 18) hx hb d_13_154_14 (by decide +kernel) ?_
  have hP9 := hP.sub (ws' := []) [] rfl
  have hD9 := hD.sub (ws' := []) [] (by decide) rfl
  exact W.zret (v := 1) (ty := .boolean) hx hb hr (by decide +kernel) (fun t ht hW => ⟨⟨1, (), rfl, rfl, xEnd hK hP9 hD9 ht hW⟩, hS.F ht⟩) hS.2.2 d_13_154_18
set_option maxHeartbeats 8000000 in
set_option maxRecDepth 100000 in
theorem g_String_length (l : Launch) (D : va_G) (kI kJ kB kZ : ClassId) (sz : Nat) (sA : Nat → Nat) (sV : Nat → Nat) (i : Nat) (hi : i < 47) : Met l (⟨"java/lang/String", "length", "()I"⟩ : MethodName) (Cond.code (⟨"java/lang/String", "length", "()I"⟩ : MethodName) prog_13_method_54_code 1 (some .int) :: gT) ({ frames := 1, cells := 0, slots := 0, locals := 20 }) (va_Pc [.ref (sA i)] (xP D (xT kI kJ kB kZ) (xE sA sV) [] sz)) (va_Qi (fun (r : Int32) (_ : Unit) => r.toInt = sN i) (fun _ t => xQ D (xT kI kJ kB kZ) (va_A [] sz) [] t) (va_A [] sz)) 0 0 (va_A [] sz) := by
  refine Met.ofW (cc := prog_13_method_54_code) (maxL := 1) (ret := some .int) (by decide +kernel) rfl ?_
  intro p e s m args below meth c s₁ B hml hv
  obtain ⟨rfl, hsz, hP, hK, hD0, hE⟩ := hv
  have hx := B.exec
  have hb := B.bytes
  have hr := B.returns
  have hts : ∀ w ∈ gT, w.before _ s = true := fun w h => atoms_spec (ws := Cond.code (⟨"java/lang/String", "length", "()I"⟩ : MethodName) prog_13_method_54_code 1 (some .int) :: gT) B.pre w (List.mem_cons_of_mem _ h)
  have hown : s.vm.findClass "java/lang/String" = some m.cls := findClass_of_methodNamed B.named
  have hlocks := B.notSynchronized
  subst hsz
  have hD := hD0.self (sz := s.heap.size)
  generalize hAe : va_A [] s.heap.size = A at hD hE ⊢
  have hA : ∀ q : Nat, s.heap.size ≤ q → A q := fun q h => by rw [← hAe]; exact Or.inr h
  have hS : va_S A s.heap s.heap [] := va_S.rf
  have hP : va_P D cls9 [] s.heap := hP
  have hl := lv_entry ([.ref (sA i)]) (n := 1) (Nat.le_of_ble_eq_true rfl)
  rw [lg_entry_eq]
  generalize (lg_sl ([.ref (sA i)]) ++ List.replicate (1 - (lg_sl ([.ref (sA i)])).length) Slot.unset).toArray = ls at hl ⊢
  have hl : lv_has ls 1 [(0, .ref (sA i))] := hl
  refine lv_aload_n hx hb d_13_54_0 rfl (lv_at hl 0 rfl) ?_
  refine vk_getf hx hb (xE_v hE i hi) hS hown (hts _ m_1651) (fun _ h9 => h9) d_13_54_1 ?_
  refine va_tlen (v := nI (sN i)) hx hb (xE_T hE i hi) hS rfl d_13_54_4 ?_
  refine lv_topi (fun y_1 ey_1 => ?_)
  have ty_1 : y_1.toInt = sN i := by rw [ey_1]; exact sN_toInt i hi
  have uy_1 : sN i ≤ 140 := sN_le i hi
  refine lv_aload_n hx hb d_13_54_5 rfl (lv_at hl 0 rfl) ?_
  have hPc := hP.sub (ws' := []) [] rfl
  have hDc := hD.sub (ws' := []) [] (by decide) rfl
  have hFc := va_free (wc := []) hD hS hA [] rfl
  refine va_calli (va_runV (As := []) (rest := [.int y_1]) ⟨hx, hb, hml, hown, hts⟩ (g_String_coder l D kI kJ kB kZ _ (sA) (sV) (i) hi) (cwV 0 hts (gT_V m_159 m_160 m_161 m_122 (gT_ws m_162)) rfl rfl rfl (by decide +kernel) ⟨(Nat.le_of_ble_eq_true rfl), (Nat.le_of_ble_eq_true rfl)⟩) ⟨xBlind (xOk_E sA sV), (xE_O hE i hi hS), xAt (xOk_E sA sV) hK hPc hDc hS hFc hE⟩ rfl rfl hl.1 rfl (lv_room (Nat.le_of_ble_eq_true rfl)) d_13_54_6 ⟨(Nat.le_of_ble_eq_true rfl), (Nat.le_of_ble_eq_true rfl)⟩) hS (fun q _ h => hFc q h) hFc (fun r_2 u t H locs ht hvm hw_3 hB hz1 hk1 hS => ?_)
  clear hz1
  have hPD := xJoin (wr := []) (w1 := []) hP hD [] [] rfl rfl (by decide) (by decide) hk1 hFc ht hB
  replace hP : va_P D cls9 [] H := hPD.1
  replace hD : va_D A [] := hPD.2
  clear hPD hB hk1 hPc hDc hFc
  refine xtopi (v := 0) hw_3 ?_
  refine lv_ishr hx hb d_13_54_9 ?_
  refine xtopi (v := y_1) (sb_shr0 _) ?_
  have hP9 := hP.sub (ws' := []) [] rfl
  have hD9 := hD.sub (ws' := []) [] (by decide) rfl
  have hrp : y_1.toInt = sN i := by first |  omega | assumption | exact pk_nc _ | exact Or.inl ⟨by omega, by omega, by assumption⟩ | exact Or.inr ⟨by omega, by decide +kernel⟩ | exact fun h9 => absurd h9 (by omega) | exact fun _ => isH_no1 (by omega) | exact fun _ => isH_no2 (by assumption) (by assumption) (by omega) | (intro h9; omega) | (intro h8 h9; omega)
  exact W.iret (v := y_1) hx hb hr (fun t ht hW => ⟨⟨y_1, (), rfl, hrp, xEnd hK hP9 hD9 ht hW⟩, hS.F ht⟩) hS.2.2 d_13_54_10
set_option maxHeartbeats 8000000 in
set_option maxRecDepth 100000 in
theorem g_Preconditions_checkIndex_null (l : Launch) (D : va_G) (kI kJ kB kZ : ClassId) (sz : Nat) (p1 : Int32) (p2 : Int32) (hq_0 : 0 ≤ p1.toInt) (hq_1 : p1.toInt < p2.toInt) : Met l (⟨"jdk/internal/util/Preconditions", "checkIndex", "(IILjava/util/function/BiFunction;)I"⟩ : MethodName) (Cond.code (⟨"jdk/internal/util/Preconditions", "checkIndex", "(IILjava/util/function/BiFunction;)I"⟩ : MethodName) prog_17_method_11_code 3 (some .int) :: gT) ({ frames := 0, cells := 0, slots := 0, locals := 0 }) (va_Pc [.int p1, .int p2, .null] (xP D (xT kI kJ kB kZ) xN [] sz)) (va_Qi (fun (r : Int32) (_ : Unit) => r = p1) (fun _ t => xQ D (xT kI kJ kB kZ) (va_A [] sz) [] t) (va_A [] sz)) 0 0 (va_A [] sz) := by
  refine Met.ofW (cc := prog_17_method_11_code) (maxL := 3) (ret := some .int) (by decide +kernel) rfl ?_
  intro p e s m args below meth c s₁ B hml hv
  obtain ⟨rfl, hsz, hP, hK, hD0, hE⟩ := hv
  have hx := B.exec
  have hb := B.bytes
  have hr := B.returns
  have hts : ∀ w ∈ gT, w.before _ s = true := fun w h => atoms_spec (ws := Cond.code (⟨"jdk/internal/util/Preconditions", "checkIndex", "(IILjava/util/function/BiFunction;)I"⟩ : MethodName) prog_17_method_11_code 3 (some .int) :: gT) B.pre w (List.mem_cons_of_mem _ h)
  have hown : s.vm.findClass "jdk/internal/util/Preconditions" = some m.cls := findClass_of_methodNamed B.named
  have hlocks := B.notSynchronized
  subst hsz
  have hD := hD0.self (sz := s.heap.size)
  generalize hAe : va_A [] s.heap.size = A at hD hE ⊢
  have hA : ∀ q : Nat, s.heap.size ≤ q → A q := fun q h => by rw [← hAe]; exact Or.inr h
  have hS : va_S A s.heap s.heap [] := va_S.rf
  have hP : va_P D cls9 [] s.heap := hP
  have hl := lv_entry ([.int p1, .int p2, .null]) (n := 3) (Nat.le_of_ble_eq_true rfl)
  rw [lg_entry_eq]
  generalize (lg_sl ([.int p1, .int p2, .null]) ++ List.replicate (3 - (lg_sl ([.int p1, .int p2, .null])).length) Slot.unset).toArray = ls at hl ⊢
  have hl : lv_has ls 3 [(0, .int p1), (1, .int p2), (2, .null)] := hl
  refine lv_iload_n hx hb d_17_11_0 rfl (lv_at hl 0 rfl) ?_
  refine lv_if_lt (tgt := 9) hx hb d_17_11_1 (by decide +kernel) (fun c_1 => ?_) (fun c_1 => ?_)
  · skip
    have tc_1 : p1.toInt < 0 := Int32.lt_iff_toInt_lt.mp c_1
    exfalso
    omega
  · skip
    have tc_1 : ¬ p1.toInt < 0 := fun h9 => c_1 (Int32.lt_iff_toInt_lt.mpr h9)
    refine lv_iload_n hx hb d_17_11_4 rfl (lv_at hl 0 rfl) ?_
    refine lv_iload_n hx hb d_17_11_5 rfl (lv_at hl 1 rfl) ?_
    refine lv_icmp_lt (tgt := 16) hx hb d_17_11_6 (by decide +kernel) (fun c_2 => ?_) (fun c_2 => ?_)
    · skip
      have tc_2 : p1.toInt < p2.toInt := Int32.lt_iff_toInt_lt.mp c_2
      refine lv_iload_n hx hb d_17_11_16 rfl (lv_at hl 0 rfl) ?_
      have hP9 := hP.sub (ws' := []) [] rfl
      have hD9 := hD.sub (ws' := []) [] (by decide) rfl
      exact W.iret (v := p1) hx hb hr (fun t ht hW => ⟨⟨p1, (), rfl, rfl, xEnd hK hP9 hD9 ht hW⟩, hS.F ht⟩) hS.2.2 d_17_11_17
    · skip
      have tc_2 : ¬ p1.toInt < p2.toInt := fun h9 => c_2 (Int32.lt_iff_toInt_lt.mpr h9)
      exfalso
      omega
set_option maxHeartbeats 8000000 in
set_option maxRecDepth 100000 in
theorem g_Preconditions_checkIndex_ref (l : Launch) (D : va_G) (kI kJ kB kZ : ClassId) (sz : Nat) (p1 : Int32) (p2 : Int32) (sF : Nat) (hq_0 : 0 ≤ p1.toInt) (hq_1 : p1.toInt < p2.toInt) : Met l (⟨"jdk/internal/util/Preconditions", "checkIndex", "(IILjava/util/function/BiFunction;)I"⟩ : MethodName) (Cond.code (⟨"jdk/internal/util/Preconditions", "checkIndex", "(IILjava/util/function/BiFunction;)I"⟩ : MethodName) prog_17_method_11_code 3 (some .int) :: gT) ({ frames := 0, cells := 0, slots := 0, locals := 0 }) (va_Pc [.int p1, .int p2, .ref sF] (xP D (xT kI kJ kB kZ) xN [] sz)) (va_Qi (fun (r : Int32) (_ : Unit) => r = p1) (fun _ t => xQ D (xT kI kJ kB kZ) (va_A [] sz) [] t) (va_A [] sz)) 0 0 (va_A [] sz) := by
  refine Met.ofW (cc := prog_17_method_11_code) (maxL := 3) (ret := some .int) (by decide +kernel) rfl ?_
  intro p e s m args below meth c s₁ B hml hv
  obtain ⟨rfl, hsz, hP, hK, hD0, hE⟩ := hv
  have hx := B.exec
  have hb := B.bytes
  have hr := B.returns
  have hts : ∀ w ∈ gT, w.before _ s = true := fun w h => atoms_spec (ws := Cond.code (⟨"jdk/internal/util/Preconditions", "checkIndex", "(IILjava/util/function/BiFunction;)I"⟩ : MethodName) prog_17_method_11_code 3 (some .int) :: gT) B.pre w (List.mem_cons_of_mem _ h)
  have hown : s.vm.findClass "jdk/internal/util/Preconditions" = some m.cls := findClass_of_methodNamed B.named
  have hlocks := B.notSynchronized
  subst hsz
  have hD := hD0.self (sz := s.heap.size)
  generalize hAe : va_A [] s.heap.size = A at hD hE ⊢
  have hA : ∀ q : Nat, s.heap.size ≤ q → A q := fun q h => by rw [← hAe]; exact Or.inr h
  have hS : va_S A s.heap s.heap [] := va_S.rf
  have hP : va_P D cls9 [] s.heap := hP
  have hl := lv_entry ([.int p1, .int p2, .ref sF]) (n := 3) (Nat.le_of_ble_eq_true rfl)
  rw [lg_entry_eq]
  generalize (lg_sl ([.int p1, .int p2, .ref sF]) ++ List.replicate (3 - (lg_sl ([.int p1, .int p2, .ref sF])).length) Slot.unset).toArray = ls at hl ⊢
  have hl : lv_has ls 3 [(0, .int p1), (1, .int p2), (2, .ref sF)] := hl
  refine lv_iload_n hx hb d_17_11_0 rfl (lv_at hl 0 rfl) ?_
  refine lv_if_lt (tgt := 9) hx hb d_17_11_1 (by decide +kernel) (fun c_1 => ?_) (fun c_1 => ?_)
  · skip
    have tc_1 : p1.toInt < 0 := Int32.lt_iff_toInt_lt.mp c_1
    exfalso
    omega
  · skip
    have tc_1 : ¬ p1.toInt < 0 := fun h9 => c_1 (Int32.lt_iff_toInt_lt.mpr h9)
    refine lv_iload_n hx hb d_17_11_4 rfl (lv_at hl 0 rfl) ?_
    refine lv_iload_n hx hb d_17_11_5 rfl (lv_at hl 1 rfl) ?_
    refine lv_icmp_lt (tgt := 16) hx hb d_17_11_6 (by decide +kernel) (fun c_2 => ?_) (fun c_2 => ?_)
    · skip
      have tc_2 : p1.toInt < p2.toInt := Int32.lt_iff_toInt_lt.mp c_2
      refine lv_iload_n hx hb d_17_11_16 rfl (lv_at hl 0 rfl) ?_
      have hP9 := hP.sub (ws' := []) [] rfl
      have hD9 := hD.sub (ws' := []) [] (by decide) rfl
      exact W.iret (v := p1) hx hb hr (fun t ht hW => ⟨⟨p1, (), rfl, rfl, xEnd hK hP9 hD9 ht hW⟩, hS.F ht⟩) hS.2.2 d_17_11_17
    · skip
      have tc_2 : ¬ p1.toInt < p2.toInt := fun h9 => c_2 (Int32.lt_iff_toInt_lt.mpr h9)
      exfalso
      omega
set_option maxHeartbeats 8000000 in
set_option maxRecDepth 100000 in
theorem g_String_checkIndex (l : Launch) (D : va_G) (kI kJ kB kZ : ClassId) (sz : Nat) (p1 : Int32) (p2 : Int32) (sA : Nat → Nat) (sV : Nat → Nat) (hq_0 : 0 ≤ p1.toInt) (hq_1 : p1.toInt < p2.toInt) : Met l (⟨"java/lang/String", "checkIndex", "(II)V"⟩ : MethodName) (Cond.code (⟨"java/lang/String", "checkIndex", "(II)V"⟩ : MethodName) prog_13_method_155_code 2 (none) :: gT) ({ frames := 1, cells := 0, slots := 0, locals := 22 }) (va_Pc [.int p1, .int p2] (xP D (xT kI kJ kB kZ) (xE sA sV) [] sz)) (va_Qv (fun _ : Unit => True) (fun _ t => xQ D (xT kI kJ kB kZ) (va_A [] sz) [] t) (va_A [] sz)) 0 0 (va_A [] sz) := by
  refine Met.ofW (cc := prog_13_method_155_code) (maxL := 2) (ret := none) (by decide +kernel) rfl ?_
  intro p e s m args below meth c s₁ B hml hv
  obtain ⟨rfl, hsz, hP, hK, hD0, hE⟩ := hv
  have hx := B.exec
  have hb := B.bytes
  have hr := B.returns
  have hts : ∀ w ∈ gT, w.before _ s = true := fun w h => atoms_spec (ws := Cond.code (⟨"java/lang/String", "checkIndex", "(II)V"⟩ : MethodName) prog_13_method_155_code 2 (none) :: gT) B.pre w (List.mem_cons_of_mem _ h)
  have hown : s.vm.findClass "java/lang/String" = some m.cls := findClass_of_methodNamed B.named
  have hlocks := B.notSynchronized
  subst hsz
  have hD := hD0.self (sz := s.heap.size)
  generalize hAe : va_A [] s.heap.size = A at hD hE ⊢
  have hA : ∀ q : Nat, s.heap.size ≤ q → A q := fun q h => by rw [← hAe]; exact Or.inr h
  have hS : va_S A s.heap s.heap [] := va_S.rf
  have hP : va_P D cls9 [] s.heap := hP
  have hl := lv_entry ([.int p1, .int p2]) (n := 2) (Nat.le_of_ble_eq_true rfl)
  rw [lg_entry_eq]
  generalize (lg_sl ([.int p1, .int p2]) ++ List.replicate (2 - (lg_sl ([.int p1, .int p2])).length) Slot.unset).toArray = ls at hl ⊢
  have hl : lv_has ls 2 [(0, .int p1), (1, .int p2)] := hl
  refine lv_iload_n hx hb d_13_155_0 rfl (lv_at hl 0 rfl) ?_
  refine lv_iload_n hx hb d_13_155_1 rfl (lv_at hl 1 rfl) ?_
  rcases xE_Zq hE with hz | ⟨sF, hz⟩
  · skip
    refine va_gets hx hb hz hS hown (hts _ m_179) (fun _ h9 => h9) d_13_155_2 ?_
    have hPc := hP.sub (ws' := []) [] rfl
    have hDc := hD.sub (ws' := []) [] (by decide) rfl
    have hFc := va_free (wc := []) hD hS hA [] rfl
    refine va_calli (va_runS (As := [.int p1, .int p2, .null]) (rest := []) ⟨hx, hb, hml, hown, hts⟩ (g_Preconditions_checkIndex_null l D kI kJ kB kZ _ (p1) (p2) hq_0 hq_1) (va_cwS 3 hts (gT_S m_181 m_182 m_124 (gT_ws m_183)) rfl rfl rfl (by decide +kernel) ⟨(Nat.le_of_ble_eq_true rfl), (Nat.le_of_ble_eq_true rfl)⟩) ⟨xBlind xOk_N, xAtN hK hPc hDc⟩ rfl rfl hl.1 rfl (lv_room (Nat.le_of_ble_eq_true rfl)) d_13_155_5 ⟨(Nat.le_of_ble_eq_true rfl), (Nat.le_of_ble_eq_true rfl)⟩) hS (fun q _ h => hFc q h) hFc (fun r_1 u t H locs ht hvm hw_2 hB hz1 hk1 hS => ?_)
    clear hz1
    have hPD := xJoin (wr := []) (w1 := []) hP hD [] [] rfl rfl (by decide) (by decide) hk1 hFc ht hB
    replace hP : va_P D cls9 [] H := hPD.1
    replace hD : va_D A [] := hPD.2
    clear hPD hB hk1 hPc hDc hFc
    refine xtopi (v := p1) hw_2 ?_
    refine lv_pop hx hb d_13_155_8 rfl ?_
    have hP9 := hP.sub (ws' := []) [] rfl
    have hD9 := hD.sub (ws' := []) [] (by decide) rfl
    exact W.vret hx hb hr (fun t ht hW => ⟨⟨(), rfl, trivial, xEnd hK hP9 hD9 ht hW⟩, hS.F ht⟩) hS.2.2 d_13_155_9
  · skip
    refine va_gets hx hb hz hS hown (hts _ m_179) (fun _ h9 => h9) d_13_155_2 ?_
    have hPc := hP.sub (ws' := []) [] rfl
    have hDc := hD.sub (ws' := []) [] (by decide) rfl
    have hFc := va_free (wc := []) hD hS hA [] rfl
    refine va_calli (va_runS (As := [.int p1, .int p2, .ref sF]) (rest := []) ⟨hx, hb, hml, hown, hts⟩ (g_Preconditions_checkIndex_ref l D kI kJ kB kZ _ (p1) (p2) (sF) hq_0 hq_1) (va_cwS 3 hts (gT_S m_181 m_182 m_124 (gT_ws m_183)) rfl rfl rfl (by decide +kernel) ⟨(Nat.le_of_ble_eq_true rfl), (Nat.le_of_ble_eq_true rfl)⟩) ⟨xBlind xOk_N, xAtN hK hPc hDc⟩ rfl rfl hl.1 rfl (lv_room (Nat.le_of_ble_eq_true rfl)) d_13_155_5 ⟨(Nat.le_of_ble_eq_true rfl), (Nat.le_of_ble_eq_true rfl)⟩) hS (fun q _ h => hFc q h) hFc (fun r_3 u t H locs ht hvm hw_4 hB hz1 hk1 hS => ?_)
    clear hz1
    have hPD := xJoin (wr := []) (w1 := []) hP hD [] [] rfl rfl (by decide) (by decide) hk1 hFc ht hB
    replace hP : va_P D cls9 [] H := hPD.1
    replace hD : va_D A [] := hPD.2
    clear hPD hB hk1 hPc hDc hFc
    refine xtopi (v := p1) hw_4 ?_
    refine lv_pop hx hb d_13_155_8 rfl ?_
    have hP9 := hP.sub (ws' := []) [] rfl
    have hD9 := hD.sub (ws' := []) [] (by decide) rfl
    exact W.vret hx hb hr (fun t ht hW => ⟨⟨(), rfl, trivial, xEnd hK hP9 hD9 ht hW⟩, hS.F ht⟩) hS.2.2 d_13_155_9
set_option maxHeartbeats 8000000 in
set_option maxRecDepth 100000 in
theorem g_StringLatin1_charAt (l : Launch) (D : va_G) (kI kJ kB kZ : ClassId) (sz : Nat) (p2 : Int32) (sA : Nat → Nat) (sV : Nat → Nat) (i : Nat) (hq_0 : 0 ≤ p2.toInt) (hq_1 : p2.toInt < sN i) (hi : i < 47) : Met l (⟨"java/lang/StringLatin1", "charAt", "([BI)C"⟩ : MethodName) (Cond.code (⟨"java/lang/StringLatin1", "charAt", "([BI)C"⟩ : MethodName) prog_14_method_2_code 2 (some .char) :: gT) ({ frames := 2, cells := 0, slots := 0, locals := 43 }) (va_Pc [.ref (sV i), .int p2] (xP D (xT kI kJ kB kZ) (xE sA sV) [] sz)) (va_Qi (fun (r : Int32) (u : Int32) => r = u ∧ (narrow .char (.int r) = .int r)) (fun u t => (u.toInt = sCh i p2.toInt) ∧ xQ D (xT kI kJ kB kZ) (va_A [] sz) [] t) (va_A [] sz)) 0 0 (va_A [] sz) := by
  refine Met.ofW (cc := prog_14_method_2_code) (maxL := 2) (ret := some .char) (by decide +kernel) rfl ?_
  intro p e s m args below meth c s₁ B hml hv
  obtain ⟨rfl, hsz, hP, hK, hD0, hE⟩ := hv
  have hx := B.exec
  have hb := B.bytes
  have hr := B.returns
  have hts : ∀ w ∈ gT, w.before _ s = true := fun w h => atoms_spec (ws := Cond.code (⟨"java/lang/StringLatin1", "charAt", "([BI)C"⟩ : MethodName) prog_14_method_2_code 2 (some .char) :: gT) B.pre w (List.mem_cons_of_mem _ h)
  have hown : s.vm.findClass "java/lang/StringLatin1" = some m.cls := findClass_of_methodNamed B.named
  have hlocks := B.notSynchronized
  subst hsz
  have hD := hD0.self (sz := s.heap.size)
  generalize hAe : va_A [] s.heap.size = A at hD hE ⊢
  have hA : ∀ q : Nat, s.heap.size ≤ q → A q := fun q h => by rw [← hAe]; exact Or.inr h
  have hS : va_S A s.heap s.heap [] := va_S.rf
  have hP : va_P D cls9 [] s.heap := hP
  have hl := lv_entry ([.ref (sV i), .int p2]) (n := 2) (Nat.le_of_ble_eq_true rfl)
  rw [lg_entry_eq]
  generalize (lg_sl ([.ref (sV i), .int p2]) ++ List.replicate (2 - (lg_sl ([.ref (sV i), .int p2])).length) Slot.unset).toArray = ls at hl ⊢
  have hl : lv_has ls 2 [(0, .ref (sV i)), (1, .int p2)] := hl
  refine lv_iload_n hx hb d_14_2_0 rfl (lv_at hl 1 rfl) ?_
  refine lv_aload_n hx hb d_14_2_1 rfl (lv_at hl 0 rfl) ?_
  refine va_tlen (v := nI (sN i)) hx hb (xE_T hE i hi) hS rfl d_14_2_2 ?_
  refine lv_topi (fun y_1 ey_1 => ?_)
  have ty_1 : y_1.toInt = sN i := by rw [ey_1]; exact sN_toInt i hi
  have uy_1 : sN i ≤ 140 := sN_le i hi
  have hPc := hP.sub (ws' := []) [] rfl
  have hDc := hD.sub (ws' := []) [] (by decide) rfl
  have hFc := va_free (wc := []) hD hS hA [] rfl
  refine va_callv (va_runS (As := [.int p2, .int y_1]) (rest := []) ⟨hx, hb, hml, hown, hts⟩ (g_String_checkIndex l D kI kJ kB kZ _ (p2) (y_1) (sA) (sV) hq_0 (by first | assumption | omega)) (va_cwS 2 hts (gT_S m_176 m_177 m_122 (gT_ws m_178)) rfl rfl rfl (by decide +kernel) ⟨(Nat.le_of_ble_eq_true rfl), (Nat.le_of_ble_eq_true rfl)⟩) ⟨xBlind (xOk_E sA sV), xAt (xOk_E sA sV) hK hPc hDc hS hFc hE⟩ rfl rfl hl.1 rfl (lv_room (Nat.le_of_ble_eq_true rfl)) d_14_2_3 ⟨(Nat.le_of_ble_eq_true rfl), (Nat.le_of_ble_eq_true rfl)⟩) hS (fun q _ h => hFc q h) hFc (fun u t H locs ht hvm hw_3 hB hz1 hk1 hS => ?_)
  clear hz1
  have hPD := xJoin (wr := []) (w1 := []) hP hD [] [] rfl rfl (by decide) (by decide) hk1 hFc ht hB
  replace hP : va_P D cls9 [] H := hPD.1
  replace hD : va_D A [] := hPD.2
  clear hPD hB hk1 hPc hDc hFc
  refine lv_aload_n hx hb d_14_2_6 rfl (lv_at hl 0 rfl) ?_
  refine lv_iload_n hx hb d_14_2_7 rfl (lv_at hl 1 rfl) ?_
  refine va_tb hx hb (xE_T hE i hi) hS (vp_in_iff.mpr ⟨by omega, by omega⟩) rfl d_14_2_8 ?_
  refine lv_topi (fun z_4 ez_4 => ?_)
  refine lv_sipush (v := 255) hx hb d_14_2_9 (by decide +kernel) ?_
  refine lv_iand hx hb d_14_2_12 ?_
  refine lv_topi (fun y_5 ey_5 => ?_)
  refine lv_i2c (v := ((y_5.toUInt32 % 65536).toInt32)) hx hb d_14_2_13 rfl ?_
  have hP9 := hP.sub (ws' := []) [] rfl
  have hD9 := hD.sub (ws' := []) [] (by decide) rfl
  have hz_0 : ((y_5.toUInt32 % 65536).toInt32).toInt = sCh i p2.toInt := (sC_at hi ez_4 ey_5 hq_0 hq_1)
  have hrp : narrow .char (.int ((y_5.toUInt32 % 65536).toInt32)) = .int ((y_5.toUInt32 % 65536).toInt32) := by first |  omega | assumption | exact pk_nc _ | exact Or.inl ⟨by omega, by omega, by assumption⟩ | exact Or.inr ⟨by omega, by decide +kernel⟩ | exact fun h9 => absurd h9 (by omega) | exact fun _ => isH_no1 (by omega) | exact fun _ => isH_no2 (by assumption) (by assumption) (by omega) | (intro h9; omega) | (intro h8 h9; omega)
  exact W.zret (v := ((y_5.toUInt32 % 65536).toInt32)) (ty := .char) hx hb hr (by first | assumption | exact pk_nc _) (fun t ht hW => ⟨⟨((y_5.toUInt32 % 65536).toInt32), ((y_5.toUInt32 % 65536).toInt32), rfl, ⟨rfl, hrp⟩, hz_0, xEnd hK hP9 hD9 ht hW⟩, hS.F ht⟩) hS.2.2 d_14_2_14
set_option maxHeartbeats 8000000 in
set_option maxRecDepth 100000 in
theorem g_String_charAt (l : Launch) (D : va_G) (kI kJ kB kZ : ClassId) (sz : Nat) (p1 : Int32) (sA : Nat → Nat) (sV : Nat → Nat) (i : Nat) (hq_0 : 0 ≤ p1.toInt) (hq_1 : p1.toInt < sN i) (hi : i < 47) : Met l (⟨"java/lang/String", "charAt", "(I)C"⟩ : MethodName) (Cond.code (⟨"java/lang/String", "charAt", "(I)C"⟩ : MethodName) prog_13_method_56_code 2 (some .char) :: gT) ({ frames := 3, cells := 0, slots := 0, locals := 64 }) (va_Pc [.ref (sA i), .int p1] (xP D (xT kI kJ kB kZ) (xE sA sV) [] sz)) (va_Qi (fun (r : Int32) (u : Int32) => r = u ∧ (narrow .char (.int r) = .int r)) (fun u t => (u.toInt = sCh i p1.toInt) ∧ xQ D (xT kI kJ kB kZ) (va_A [] sz) [] t) (va_A [] sz)) 0 0 (va_A [] sz) := by
  refine Met.ofW (cc := prog_13_method_56_code) (maxL := 2) (ret := some .char) (by decide +kernel) rfl ?_
  intro p e s m args below meth c s₁ B hml hv
  obtain ⟨rfl, hsz, hP, hK, hD0, hE⟩ := hv
  have hx := B.exec
  have hb := B.bytes
  have hr := B.returns
  have hts : ∀ w ∈ gT, w.before _ s = true := fun w h => atoms_spec (ws := Cond.code (⟨"java/lang/String", "charAt", "(I)C"⟩ : MethodName) prog_13_method_56_code 2 (some .char) :: gT) B.pre w (List.mem_cons_of_mem _ h)
  have hown : s.vm.findClass "java/lang/String" = some m.cls := findClass_of_methodNamed B.named
  have hlocks := B.notSynchronized
  subst hsz
  have hD := hD0.self (sz := s.heap.size)
  generalize hAe : va_A [] s.heap.size = A at hD hE ⊢
  have hA : ∀ q : Nat, s.heap.size ≤ q → A q := fun q h => by rw [← hAe]; exact Or.inr h
  have hS : va_S A s.heap s.heap [] := va_S.rf
  have hP : va_P D cls9 [] s.heap := hP
  have hl := lv_entry ([.ref (sA i), .int p1]) (n := 2) (Nat.le_of_ble_eq_true rfl)
  rw [lg_entry_eq]
  generalize (lg_sl ([.ref (sA i), .int p1]) ++ List.replicate (2 - (lg_sl ([.ref (sA i), .int p1])).length) Slot.unset).toArray = ls at hl ⊢
  have hl : lv_has ls 2 [(0, .ref (sA i)), (1, .int p1)] := hl
  refine lv_aload_n hx hb d_13_56_0 rfl (lv_at hl 0 rfl) ?_
  have hPc := hP.sub (ws' := []) [] rfl
  have hDc := hD.sub (ws' := []) [] (by decide) rfl
  have hFc := va_free (wc := []) hD hS hA [] rfl
  refine va_calli (va_runV (As := []) (rest := []) ⟨hx, hb, hml, hown, hts⟩ (g_String_isLatin1 l D kI kJ kB kZ _ (sA) (sV) (i) hi) (cwV 0 hts (gT_V m_169 m_170 m_171 m_122 (gT_ws m_172)) rfl rfl rfl (by decide +kernel) ⟨(Nat.le_of_ble_eq_true rfl), (Nat.le_of_ble_eq_true rfl)⟩) ⟨xBlind (xOk_E sA sV), (xE_O hE i hi hS), xAt (xOk_E sA sV) hK hPc hDc hS hFc hE⟩ rfl rfl hl.1 rfl (lv_room (Nat.le_of_ble_eq_true rfl)) d_13_56_1 ⟨(Nat.le_of_ble_eq_true rfl), (Nat.le_of_ble_eq_true rfl)⟩) hS (fun q _ h => hFc q h) hFc (fun r_1 u t H locs ht hvm hw_2 hB hz1 hk1 hS => ?_)
  clear hz1
  have hPD := xJoin (wr := []) (w1 := []) hP hD [] [] rfl rfl (by decide) (by decide) hk1 hFc ht hB
  replace hP : va_P D cls9 [] H := hPD.1
  replace hD : va_D A [] := hPD.2
  clear hPD hB hk1 hPc hDc hFc
  refine xtopi (v := 1) hw_2 ?_
  refine lv_if_eq (tgt := 16) hx hb d_13_56_4 (by decide +kernel) (fun c_3 => ?_) (fun c_3 => ?_)
  · exact absurd c_3 (by decide +kernel)
  refine lv_aload_n hx hb d_13_56_7 rfl (lv_at hl 0 rfl) ?_
  refine vk_getf hx hb (xE_v hE i hi) hS hown (hts _ m_1651) (fun _ h9 => h9) d_13_56_8 ?_
  refine lv_iload_n hx hb d_13_56_11 rfl (lv_at hl 1 rfl) ?_
  have hPc := hP.sub (ws' := []) [] rfl
  have hDc := hD.sub (ws' := []) [] (by decide) rfl
  have hFc := va_free (wc := []) hD hS hA [] rfl
  refine va_calli (va_runS (As := [.ref (sV i), .int p1]) (rest := []) ⟨hx, hb, hml, hown, hts⟩ (g_StringLatin1_charAt l D kI kJ kB kZ _ (p1) (sA) (sV) (i) hq_0 hq_1 hi) (va_cwS 2 hts (gT_S m_173 m_174 m_123 (gT_ws m_175)) rfl rfl rfl (by decide +kernel) ⟨(Nat.le_of_ble_eq_true rfl), (Nat.le_of_ble_eq_true rfl)⟩) ⟨xBlind (xOk_E sA sV), xAt (xOk_E sA sV) hK hPc hDc hS hFc hE⟩ rfl rfl hl.1 rfl (lv_room (Nat.le_of_ble_eq_true rfl)) d_13_56_12 ⟨(Nat.le_of_ble_eq_true rfl), (Nat.le_of_ble_eq_true rfl)⟩) hS (fun q _ h => hFc q h) hFc (fun r_4 u t H locs ht hvm hw_5 hB hz1 hk1 hS => ?_)
  clear hz1
  obtain ⟨hu9, hw_5⟩ := hw_5
  subst hu9
  revert hB
  refine anI fun hb_6 => fun hB => ?_
  have hb_6 : r_4.toInt = sCh i p1.toInt := hb_6
  have hPD := xJoin (wr := []) (w1 := []) hP hD [] [] rfl rfl (by decide) (by decide) hk1 hFc ht hB
  replace hP : va_P D cls9 [] H := hPD.1
  replace hD : va_D A [] := hPD.2
  clear hPD hB hk1 hPc hDc hFc
  have hw_5 : narrow .char (.int r_4) = .int r_4 := hw_5
  have hP9 := hP.sub (ws' := []) [] rfl
  have hD9 := hD.sub (ws' := []) [] (by decide) rfl
  have hz_0 : r_4.toInt = sCh i p1.toInt := hb_6
  have hrp : narrow .char (.int r_4) = .int r_4 := by first |  omega | assumption | exact pk_nc _ | exact Or.inl ⟨by omega, by omega, by assumption⟩ | exact Or.inr ⟨by omega, by decide +kernel⟩ | exact fun h9 => absurd h9 (by omega) | exact fun _ => isH_no1 (by omega) | exact fun _ => isH_no2 (by assumption) (by assumption) (by omega) | (intro h9; omega) | (intro h8 h9; omega)
  exact W.zret (v := r_4) (ty := .char) hx hb hr (by first | assumption | exact pk_nc _) (fun t ht hW => ⟨⟨r_4, r_4, rfl, ⟨rfl, hrp⟩, hz_0, xEnd hK hP9 hD9 ht hW⟩, hS.F ht⟩) hS.2.2 d_13_56_15
set_option maxHeartbeats 8000000 in
set_option maxRecDepth 100000 in
theorem g_StringLatin1_canEncode (l : Launch) (D : va_G) (kI kJ kB kZ : ClassId) (sz : Nat) (p1 : Int32)  : Met l (⟨"java/lang/StringLatin1", "canEncode", "(I)Z"⟩ : MethodName) (Cond.code (⟨"java/lang/StringLatin1", "canEncode", "(I)Z"⟩ : MethodName) prog_14_method_4_code 1 (some .boolean) :: gT) ({ frames := 0, cells := 0, slots := 0, locals := 0 }) (va_Pc [.int p1] (xP D (xT kI kJ kB kZ) xN [] sz)) (va_Qi (fun (r : Int32) (u : Int32) => r = u ∧ (True)) (fun u t => ((u.toInt = 1 ∧ (0 ≤ p1.toInt ∧ p1.toInt ≤ 255)) ∨ (u.toInt = 0 ∧ ¬ (0 ≤ p1.toInt ∧ p1.toInt ≤ 255))) ∧ xQ D (xT kI kJ kB kZ) (va_A [] sz) [] t) (va_A [] sz)) 0 0 (va_A [] sz) := by
  refine Met.ofW (cc := prog_14_method_4_code) (maxL := 1) (ret := some .boolean) (by decide +kernel) rfl ?_
  intro p e s m args below meth c s₁ B hml hv
  obtain ⟨rfl, hsz, hP, hK, hD0, hE⟩ := hv
  have hx := B.exec
  have hb := B.bytes
  have hr := B.returns
  have hts : ∀ w ∈ gT, w.before _ s = true := fun w h => atoms_spec (ws := Cond.code (⟨"java/lang/StringLatin1", "canEncode", "(I)Z"⟩ : MethodName) prog_14_method_4_code 1 (some .boolean) :: gT) B.pre w (List.mem_cons_of_mem _ h)
  have hown : s.vm.findClass "java/lang/StringLatin1" = some m.cls := findClass_of_methodNamed B.named
  have hlocks := B.notSynchronized
  subst hsz
  have hD := hD0.self (sz := s.heap.size)
  generalize hAe : va_A [] s.heap.size = A at hD hE ⊢
  have hA : ∀ q : Nat, s.heap.size ≤ q → A q := fun q h => by rw [← hAe]; exact Or.inr h
  have hS : va_S A s.heap s.heap [] := va_S.rf
  have hP : va_P D cls9 [] s.heap := hP
  have hl := lv_entry ([.int p1]) (n := 1) (Nat.le_of_ble_eq_true rfl)
  rw [lg_entry_eq]
  generalize (lg_sl ([.int p1]) ++ List.replicate (1 - (lg_sl ([.int p1])).length) Slot.unset).toArray = ls at hl ⊢
  have hl : lv_has ls 1 [(0, .int p1)] := hl
  refine lv_iload_n hx hb d_14_4_0 rfl (lv_at hl 0 rfl) ?_
  refine lv_if_lt (tgt := 15) hx hb d_14_4_1 (by decide +kernel) (fun c_1 => ?_) (fun c_1 => ?_)
  · skip
    have tc_1 : p1.toInt < 0 := Int32.lt_iff_toInt_lt.mp c_1
    refine lv_iconst (v := 0) hx hb d_14_4_15 (by decide +kernel) ?_
    have hP9 := hP.sub (ws' := []) [] rfl
    have hD9 := hD.sub (ws' := []) [] (by decide) rfl
    have hz_0 : ((0 : Int) = 1 ∧ (0 ≤ p1.toInt ∧ p1.toInt ≤ 255)) ∨ ((0 : Int) = 0 ∧ ¬ (0 ≤ p1.toInt ∧ p1.toInt ≤ 255)) := (by omega)
    exact W.zret (v := 0) (ty := .boolean) hx hb hr (by decide +kernel) (fun t ht hW => ⟨⟨0, 0, rfl, ⟨rfl, trivial⟩, hz_0, xEnd hK hP9 hD9 ht hW⟩, hS.F ht⟩) hS.2.2 d_14_4_16
  · skip
    have tc_1 : ¬ p1.toInt < 0 := fun h9 => c_1 (Int32.lt_iff_toInt_lt.mpr h9)
    refine lv_iload_n hx hb d_14_4_4 rfl (lv_at hl 0 rfl) ?_
    refine lv_sipush (v := 255) hx hb d_14_4_5 (by decide +kernel) ?_
    refine lv_icmp_gt (tgt := 15) hx hb d_14_4_8 (by decide +kernel) (fun c_2 => ?_) (fun c_2 => ?_)
    · skip
      have tc_2 : 255 < p1.toInt := Int32.lt_iff_toInt_lt.mp c_2
      refine lv_iconst (v := 0) hx hb d_14_4_15 (by decide +kernel) ?_
      have hP9 := hP.sub (ws' := []) [] rfl
      have hD9 := hD.sub (ws' := []) [] (by decide) rfl
      have hz_0 : ((0 : Int) = 1 ∧ (0 ≤ p1.toInt ∧ p1.toInt ≤ 255)) ∨ ((0 : Int) = 0 ∧ ¬ (0 ≤ p1.toInt ∧ p1.toInt ≤ 255)) := (by omega)
      exact W.zret (v := 0) (ty := .boolean) hx hb hr (by decide +kernel) (fun t ht hW => ⟨⟨0, 0, rfl, ⟨rfl, trivial⟩, hz_0, xEnd hK hP9 hD9 ht hW⟩, hS.F ht⟩) hS.2.2 d_14_4_16
    · skip
      have tc_2 : ¬ 255 < p1.toInt := fun h9 => c_2 (Int32.lt_iff_toInt_lt.mpr h9)
      refine lv_iconst (v := 1) hx hb d_14_4_11 (by decide +kernel) ?_
      refine lv_goto (tgt := 16) hx hb d_14_4_12 (by decide +kernel) ?_
      have hP9 := hP.sub (ws' := []) [] rfl
      have hD9 := hD.sub (ws' := []) [] (by decide) rfl
      have hz_0 : ((1 : Int) = 1 ∧ (0 ≤ p1.toInt ∧ p1.toInt ≤ 255)) ∨ ((1 : Int) = 0 ∧ ¬ (0 ≤ p1.toInt ∧ p1.toInt ≤ 255)) := (by omega)
      exact W.zret (v := 1) (ty := .boolean) hx hb hr (by decide +kernel) (fun t ht hW => ⟨⟨1, 1, rfl, ⟨rfl, trivial⟩, hz_0, xEnd hK hP9 hD9 ht hW⟩, hS.F ht⟩) hS.2.2 d_14_4_16
set_option maxHeartbeats 8000000 in
set_option maxRecDepth 100000 in
theorem g_StringLatin1_indexOfChar (l : Launch) (D : va_G) (kI kJ kB kZ : ClassId) (sz : Nat) (p2 : Int32) (p3 : Int32) (p4 : Int32) (sA : Nat → Nat) (sV : Nat → Nat) (i : Nat) (hq_0 : 0 ≤ p3.toInt) (hq_1 : p4.toInt ≤ sN i) (hi : i < 47) : Met l (⟨"java/lang/StringLatin1", "indexOfChar", "([BIII)I"⟩ : MethodName) (Cond.code (⟨"java/lang/StringLatin1", "indexOfChar", "([BIII)I"⟩ : MethodName) prog_14_method_23_code 6 (some .int) :: gT) ({ frames := 0, cells := 0, slots := 0, locals := 0 }) (va_Pc [.ref (sV i), .int p2, .int p3, .int p4] (xP D (xT kI kJ kB kZ) (xE sA sV) [] sz)) (va_Qi (fun (r : Int32) (u : Int32) => r = u ∧ (True)) (fun u t => (u.toInt = fIx (sCh i) (p2.toInt8.toInt32).toInt (p4.toInt - p3.toInt).toNat p3.toInt) ∧ xQ D (xT kI kJ kB kZ) (va_A [] sz) [] t) (va_A [] sz)) 0 0 (va_A [] sz) := by
  refine Met.ofW (cc := prog_14_method_23_code) (maxL := 6) (ret := some .int) (by decide +kernel) rfl ?_
  intro p e s m args below meth c s₁ B hml hv
  obtain ⟨rfl, hsz, hP, hK, hD0, hE⟩ := hv
  have hx := B.exec
  have hb := B.bytes
  have hr := B.returns
  have hts : ∀ w ∈ gT, w.before _ s = true := fun w h => atoms_spec (ws := Cond.code (⟨"java/lang/StringLatin1", "indexOfChar", "([BIII)I"⟩ : MethodName) prog_14_method_23_code 6 (some .int) :: gT) B.pre w (List.mem_cons_of_mem _ h)
  have hown : s.vm.findClass "java/lang/StringLatin1" = some m.cls := findClass_of_methodNamed B.named
  have hlocks := B.notSynchronized
  subst hsz
  have hD := hD0.self (sz := s.heap.size)
  generalize hAe : va_A [] s.heap.size = A at hD hE ⊢
  have hA : ∀ q : Nat, s.heap.size ≤ q → A q := fun q h => by rw [← hAe]; exact Or.inr h
  have hS : va_S A s.heap s.heap [] := va_S.rf
  have hP : va_P D cls9 [] s.heap := hP
  have hl := lv_entry ([.ref (sV i), .int p2, .int p3, .int p4]) (n := 6) (Nat.le_of_ble_eq_true rfl)
  rw [lg_entry_eq]
  generalize (lg_sl ([.ref (sV i), .int p2, .int p3, .int p4]) ++ List.replicate (6 - (lg_sl ([.ref (sV i), .int p2, .int p3, .int p4])).length) Slot.unset).toArray = ls at hl ⊢
  have hl : lv_has ls 6 [(0, .ref (sV i)), (1, .int p2), (2, .int p3), (3, .int p4)] := hl
  have hsn := sN_le i hi
  refine lv_iload_n hx hb d_14_23_0 rfl (lv_at hl 1 rfl) ?_
  refine lv_i2b (v := (p2.toInt8.toInt32)) hx hb d_14_23_1 rfl ?_
  refine lv_istore (lv' := [(4, .int (p2.toInt8.toInt32)), (0, .ref (sV i)), (1, .int p2), (2, .int p3), (3, .int p4)]) hx hb d_14_23_2 hl (by decide +kernel) rfl (fun ls hl => ?_)
  refine lv_iload_n hx hb d_14_23_4 rfl (lv_at hl 3 rfl) ?_
  refine lv_istore (lv' := [(5, .int p3), (4, .int (p2.toInt8.toInt32)), (0, .ref (sV i)), (1, .int p2), (2, .int p3), (3, .int p4)]) hx hb d_14_23_5 hl (by decide +kernel) rfl (fun ls hl => ?_)
  refine xLoop (I := fun n H locs ls => ∃ v7_5 : Int32, (0 ≤ v7_5.toInt) ∧ (fIx (sCh i) (p2.toInt8.toInt32).toInt (p4.toInt - p3.toInt).toNat p3.toInt = fIx (sCh i) (p2.toInt8.toInt32).toInt (p4.toInt - v7_5.toInt).toNat v7_5.toInt) ∧ n = (p4.toInt - v7_5.toInt).toNat ∧ va_P D cls9 [] H ∧ va_D A [] ∧ va_S A s.heap H locs ∧ lv_has ls 6 [(5, .int v7_5), (4, .int (p2.toInt8.toInt32)), (0, .ref (sV i)), (1, .int p2), (2, .int p3), (3, .int p4)]) ?_ _ _ _ _ ⟨p3, hq_0, (show fIx (sCh i) (p2.toInt8.toInt32).toInt (p4.toInt - p3.toInt).toNat p3.toInt = fIx (sCh i) (p2.toInt8.toInt32).toInt (p4.toInt - p3.toInt).toNat p3.toInt from rfl), rfl, hP.sub (ws' := []) [] rfl, hD.sub (ws' := []) [] (by decide) rfl, hS, lv_sub hl [0, 1, 2, 3, 4, 5] rfl⟩
  intro n_3 H locs ls hI9 ih_4
  revert hI9
  refine exI fun v7_5 => anI fun hl_1 => anI fun hl_2 => anI fun hn_3 => anI fun hP => anI fun hD => anI fun hS => fun hl => ?_
  refine lv_iload hx hb d_14_23_7 (lv_at hl 0 rfl) ?_
  refine lv_iload_n hx hb d_14_23_9 rfl (lv_at hl 5 rfl) ?_
  refine lv_icmp_ge (tgt := 31) hx hb d_14_23_10 (by decide +kernel) (fun c_5 => ?_) (fun c_5 => ?_)
  · skip
    have tc_5 : p4.toInt ≤ v7_5.toInt := Int32.le_iff_toInt_le.mp c_5
    refine lv_iconst (v := (-1)) hx hb d_14_23_31 (by decide +kernel) ?_
    have hP9 := hP.sub (ws' := []) [] rfl
    have hD9 := hD.sub (ws' := []) [] (by decide) rfl
    have hz_0 : ((-1) : Int) = fIx (sCh i) (p2.toInt8.toInt32).toInt (p4.toInt - p3.toInt).toNat p3.toInt := (by rw [hl_2, fI_n (by omega)])
    exact W.iret (v := (-1)) hx hb hr (fun t ht hW => ⟨⟨(-1), (-1), rfl, ⟨rfl, trivial⟩, hz_0, xEnd hK hP9 hD9 ht hW⟩, hS.F ht⟩) hS.2.2 d_14_23_32
  · skip
    have tc_5 : ¬ p4.toInt ≤ v7_5.toInt := fun h9 => c_5 (Int32.le_iff_toInt_le.mpr h9)
    refine lv_aload_n hx hb d_14_23_13 rfl (lv_at hl 2 rfl) ?_
    refine lv_iload hx hb d_14_23_14 (lv_at hl 0 rfl) ?_
    refine va_tb hx hb (xE_T hE i hi) hS (vp_in_iff.mpr ⟨by omega, by omega⟩) rfl d_14_23_16 ?_
    refine lv_topi (fun z_6 ez_6 => ?_)
    refine lv_iload hx hb d_14_23_17 (lv_at hl 1 rfl) ?_
    refine lv_icmp_ne (tgt := 25) hx hb d_14_23_19 (by decide +kernel) (fun c_7 => ?_) (fun c_7 => ?_)
    · skip
      have tc_7 : ¬ z_6.toInt = (p2.toInt8.toInt32).toInt := fun h9 => c_7 (Int32.toInt_inj.mp h9)
      obtain ⟨y_8, ey_8⟩ : ∃ y : Int32, y = v7_5 + 1 := ⟨_, rfl⟩
      have ty_8 : y_8.toInt = v7_5.toInt + 1 := by rw [ey_8]; exact zaddc (by decide +kernel) (by omega) (by omega)
      refine lv_iinc (v := y_8) (lv' := [(5, .int y_8), (4, .int (p2.toInt8.toInt32)), (0, .ref (sV i)), (1, .int p2), (2, .int p3), (3, .int p4)]) hx hb d_14_23_25 hl (k := 0) rfl (by rw [ey_8]; rfl) (by decide +kernel) rfl (fun ls hl => ?_)
      refine lv_goto (tgt := 7) hx hb d_14_23_28 (by decide +kernel) ?_
      exact ih_4 _ _ _ _ (by omega) ⟨y_8, (show 0 ≤ y_8.toInt from (by first | assumption | omega)), (show fIx (sCh i) (p2.toInt8.toInt32).toInt (p4.toInt - p3.toInt).toNat p3.toInt = fIx (sCh i) (p2.toInt8.toInt32).toInt (p4.toInt - y_8.toInt).toNat y_8.toInt from (hl_2.trans (fI_s (by omega) (by rw [sC_z ez_6]; assumption) (by omega)))), rfl, hP.sub (ws' := []) [] rfl, hD.sub (ws' := []) [] (by decide) rfl, hS, lv_sub hl [0, 1, 2, 3, 4, 5] rfl⟩
    · skip
      have tc_7 : z_6.toInt = (p2.toInt8.toInt32).toInt := congrArg Int32.toInt c_7
      refine lv_iload hx hb d_14_23_22 (lv_at hl 0 rfl) ?_
      have hP9 := hP.sub (ws' := []) [] rfl
      have hD9 := hD.sub (ws' := []) [] (by decide) rfl
      have hz_0 : v7_5.toInt = fIx (sCh i) (p2.toInt8.toInt32).toInt (p4.toInt - p3.toInt).toNat p3.toInt := (by rw [hl_2, fI_h (by omega) (by rw [sC_z ez_6]; assumption)])
      exact W.iret (v := v7_5) hx hb hr (fun t ht hW => ⟨⟨v7_5, v7_5, rfl, ⟨rfl, trivial⟩, hz_0, xEnd hK hP9 hD9 ht hW⟩, hS.F ht⟩) hS.2.2 d_14_23_24
set_option maxHeartbeats 8000000 in
set_option maxRecDepth 100000 in
theorem g_StringLatin1_indexOf (l : Launch) (D : va_G) (kI kJ kB kZ : ClassId) (sz : Nat) (p2 : Int32) (p3 : Int32) (p4 : Int32) (sA : Nat → Nat) (sV : Nat → Nat) (i : Nat) (hi : i < 47) : Met l (⟨"java/lang/StringLatin1", "indexOf", "([BIII)I"⟩ : MethodName) (Cond.code (⟨"java/lang/StringLatin1", "indexOf", "([BIII)I"⟩ : MethodName) prog_14_method_22_code 4 (some .int) :: gT) ({ frames := 1, cells := 0, slots := 0, locals := 25 }) (va_Pc [.ref (sV i), .int p2, .int p3, .int p4] (xP D (xT kI kJ kB kZ) (xE sA sV) [] sz)) (va_Qi (fun (r : Int32) (u : Int32) => r = u ∧ (True)) (fun u t => (0 ≤ p2.toInt ∧ p2.toInt ≤ 255 ∧ p3.toInt = 0 ∧ p4.toInt = sN i → u.toInt = fIx (sCh i) (p2.toInt8.toInt32).toInt (sN i) 0) ∧ xQ D (xT kI kJ kB kZ) (va_A [] sz) [] t) (va_A [] sz)) 0 0 (va_A [] sz) := by
  refine Met.ofW (cc := prog_14_method_22_code) (maxL := 4) (ret := some .int) (by decide +kernel) rfl ?_
  intro p e s m args below meth c s₁ B hml hv
  obtain ⟨rfl, hsz, hP, hK, hD0, hE⟩ := hv
  have hx := B.exec
  have hb := B.bytes
  have hr := B.returns
  have hts : ∀ w ∈ gT, w.before _ s = true := fun w h => atoms_spec (ws := Cond.code (⟨"java/lang/StringLatin1", "indexOf", "([BIII)I"⟩ : MethodName) prog_14_method_22_code 4 (some .int) :: gT) B.pre w (List.mem_cons_of_mem _ h)
  have hown : s.vm.findClass "java/lang/StringLatin1" = some m.cls := findClass_of_methodNamed B.named
  have hlocks := B.notSynchronized
  subst hsz
  have hD := hD0.self (sz := s.heap.size)
  generalize hAe : va_A [] s.heap.size = A at hD hE ⊢
  have hA : ∀ q : Nat, s.heap.size ≤ q → A q := fun q h => by rw [← hAe]; exact Or.inr h
  have hS : va_S A s.heap s.heap [] := va_S.rf
  have hP : va_P D cls9 [] s.heap := hP
  have hl := lv_entry ([.ref (sV i), .int p2, .int p3, .int p4]) (n := 4) (Nat.le_of_ble_eq_true rfl)
  rw [lg_entry_eq]
  generalize (lg_sl ([.ref (sV i), .int p2, .int p3, .int p4]) ++ List.replicate (4 - (lg_sl ([.ref (sV i), .int p2, .int p3, .int p4])).length) Slot.unset).toArray = ls at hl ⊢
  have hl : lv_has ls 4 [(0, .ref (sV i)), (1, .int p2), (2, .int p3), (3, .int p4)] := hl
  refine lv_iload_n hx hb d_14_22_0 rfl (lv_at hl 1 rfl) ?_
  have hPc := hP.sub (ws' := []) [] rfl
  have hDc := hD.sub (ws' := []) [] (by decide) rfl
  have hFc := va_free (wc := []) hD hS hA [] rfl
  refine va_calli (va_runS (As := [.int p2]) (rest := []) ⟨hx, hb, hml, hown, hts⟩ (g_StringLatin1_canEncode l D kI kJ kB kZ _ (p2) ) (va_cwS 1 hts (gT_S m_497 m_498 m_123 (gT_ws m_499)) rfl rfl rfl (by decide +kernel) ⟨(Nat.le_of_ble_eq_true rfl), (Nat.le_of_ble_eq_true rfl)⟩) ⟨xBlind xOk_N, xAtN hK hPc hDc⟩ rfl rfl hl.1 rfl (lv_room (Nat.le_of_ble_eq_true rfl)) d_14_22_1 ⟨(Nat.le_of_ble_eq_true rfl), (Nat.le_of_ble_eq_true rfl)⟩) hS (fun q _ h => hFc q h) hFc (fun r_1 u t H locs ht hvm hw_2 hB hz1 hk1 hS => ?_)
  clear hz1
  obtain ⟨hu9, hw_2⟩ := hw_2
  subst hu9
  revert hB
  refine anI fun hb_3 => fun hB => ?_
  have hb_3 : (r_1.toInt = 1 ∧ (0 ≤ p2.toInt ∧ p2.toInt ≤ 255)) ∨ (r_1.toInt = 0 ∧ ¬ (0 ≤ p2.toInt ∧ p2.toInt ≤ 255)) := hb_3
  have hPD := xJoin (wr := []) (w1 := []) hP hD [] [] rfl rfl (by decide) (by decide) hk1 hFc ht hB
  replace hP : va_P D cls9 [] H := hPD.1
  replace hD : va_D A [] := hPD.2
  clear hPD hB hk1 hPc hDc hFc
  refine lv_if_ne (tgt := 9) hx hb d_14_22_4 (by decide +kernel) (fun c_4 => ?_) (fun c_4 => ?_)
  · skip
    have tc_4 : ¬ r_1.toInt = 0 := fun h9 => c_4 (Int32.toInt_inj.mp h9)
    refine lv_iload_n hx hb d_14_22_9 rfl (lv_at hl 2 rfl) ?_
    refine lv_iconst (v := 0) hx hb d_14_22_10 (by decide +kernel) ?_
    refine va_mmax hx hb (by rw [hml]; exact hl.1.symm) hown (hts _ m_500) (hts _ m_501) (hts _ m_133) (hts _ m_max) (Nat.le_of_ble_eq_true rfl) (Nat.le_of_ble_eq_true rfl) (Nat.le_of_ble_eq_true rfl) (Nat.le_of_ble_eq_true rfl) d_14_22_11 ?_
    refine lv_topi (fun y_5 ey_5 => ?_)
    have ty_5 := zmaxb ey_5
    rw [show (0 : Int32).toInt = 0 from (by decide +kernel)] at ty_5
    refine lv_istore_n (lv' := [(2, .int y_5), (0, .ref (sV i)), (1, .int p2), (3, .int p4)]) hx hb d_14_22_14 rfl hl (by decide +kernel) rfl (fun ls hl => ?_)
    refine lv_iload_n hx hb d_14_22_15 rfl (lv_at hl 3 rfl) ?_
    refine lv_aload_n hx hb d_14_22_16 rfl (lv_at hl 1 rfl) ?_
    refine va_tlen (v := nI (sN i)) hx hb (xE_T hE i hi) hS rfl d_14_22_17 ?_
    refine lv_topi (fun y_6 ey_6 => ?_)
    have ty_6 : y_6.toInt = sN i := by rw [ey_6]; exact sN_toInt i hi
    have uy_6 : sN i ≤ 140 := sN_le i hi
    refine va_mmin hx hb (by rw [hml]; exact hl.1.symm) hown (hts _ m_503) (hts _ m_504) (hts _ m_133) (hts _ m_min) (Nat.le_of_ble_eq_true rfl) (Nat.le_of_ble_eq_true rfl) (Nat.le_of_ble_eq_true rfl) (Nat.le_of_ble_eq_true rfl) d_14_22_18 ?_
    refine lv_topi (fun y_7 ey_7 => ?_)
    have ty_7 := zminb ey_7
    refine lv_istore_n (lv' := [(3, .int y_7), (2, .int y_5), (0, .ref (sV i)), (1, .int p2)]) hx hb d_14_22_21 rfl hl (by decide +kernel) rfl (fun ls hl => ?_)
    refine lv_iload_n hx hb d_14_22_22 rfl (lv_at hl 1 rfl) ?_
    refine lv_iload_n hx hb d_14_22_23 rfl (lv_at hl 0 rfl) ?_
    refine lv_icmp_lt (tgt := 29) hx hb d_14_22_24 (by decide +kernel) (fun c_8 => ?_) (fun c_8 => ?_)
    · skip
      have tc_8 : y_5.toInt < y_7.toInt := Int32.lt_iff_toInt_lt.mp c_8
      refine lv_aload_n hx hb d_14_22_29 rfl (lv_at hl 2 rfl) ?_
      refine lv_iload_n hx hb d_14_22_30 rfl (lv_at hl 3 rfl) ?_
      refine lv_iload_n hx hb d_14_22_31 rfl (lv_at hl 1 rfl) ?_
      refine lv_iload_n hx hb d_14_22_32 rfl (lv_at hl 0 rfl) ?_
      have hPc := hP.sub (ws' := []) [] rfl
      have hDc := hD.sub (ws' := []) [] (by decide) rfl
      have hFc := va_free (wc := []) hD hS hA [] rfl
      refine va_calli (va_runS (As := [.ref (sV i), .int p2, .int y_5, .int y_7]) (rest := []) ⟨hx, hb, hml, hown, hts⟩ (g_StringLatin1_indexOfChar l D kI kJ kB kZ _ (p2) (y_5) (y_7) (sA) (sV) (i) (by first | assumption | omega) (by first | assumption | omega) hi) (va_cwS 4 hts (gT_S m_506 m_507 m_123 (gT_ws m_508)) rfl rfl rfl (by decide +kernel) ⟨(Nat.le_of_ble_eq_true rfl), (Nat.le_of_ble_eq_true rfl)⟩) ⟨xBlind (xOk_E sA sV), xAt (xOk_E sA sV) hK hPc hDc hS hFc hE⟩ rfl rfl hl.1 rfl (lv_room (Nat.le_of_ble_eq_true rfl)) d_14_22_33 ⟨(Nat.le_of_ble_eq_true rfl), (Nat.le_of_ble_eq_true rfl)⟩) hS (fun q _ h => hFc q h) hFc (fun r_9 u t H locs ht hvm hw_10 hB hz1 hk1 hS => ?_)
      clear hz1
      obtain ⟨hu9, hw_10⟩ := hw_10
      subst hu9
      revert hB
      refine anI fun hb_11 => fun hB => ?_
      have hb_11 : r_9.toInt = fIx (sCh i) (p2.toInt8.toInt32).toInt (y_7.toInt - y_5.toInt).toNat y_5.toInt := hb_11
      have hPD := xJoin (wr := []) (w1 := []) hP hD [] [] rfl rfl (by decide) (by decide) hk1 hFc ht hB
      replace hP : va_P D cls9 [] H := hPD.1
      replace hD : va_D A [] := hPD.2
      clear hPD hB hk1 hPc hDc hFc
      have hP9 := hP.sub (ws' := []) [] rfl
      have hD9 := hD.sub (ws' := []) [] (by decide) rfl
      have hz_0 : 0 ≤ p2.toInt ∧ p2.toInt ≤ 255 ∧ p3.toInt = 0 ∧ p4.toInt = sN i → r_9.toInt = fIx (sCh i) (p2.toInt8.toInt32).toInt (sN i) 0 := (fun h9 => by have q9 := hb_11; rw [show y_5.toInt = 0 from by omega, show (y_7.toInt - 0).toNat = sN i from by omega] at q9; exact q9)
      exact W.iret (v := r_9) hx hb hr (fun t ht hW => ⟨⟨r_9, r_9, rfl, ⟨rfl, trivial⟩, hz_0, xEnd hK hP9 hD9 ht hW⟩, hS.F ht⟩) hS.2.2 d_14_22_36
    · skip
      have tc_8 : ¬ y_5.toInt < y_7.toInt := fun h9 => c_8 (Int32.lt_iff_toInt_lt.mpr h9)
      refine lv_iconst (v := (-1)) hx hb d_14_22_27 (by decide +kernel) ?_
      have hP9 := hP.sub (ws' := []) [] rfl
      have hD9 := hD.sub (ws' := []) [] (by decide) rfl
      have hz_0 : 0 ≤ p2.toInt ∧ p2.toInt ≤ 255 ∧ p3.toInt = 0 ∧ p4.toInt = sN i → ((-1) : Int) = fIx (sCh i) (p2.toInt8.toInt32).toInt (sN i) 0 := (fun h9 => by first | (exfalso; omega) | (rw [show sN i = 0 from by omega]; rfl))
      exact W.iret (v := (-1)) hx hb hr (fun t ht hW => ⟨⟨(-1), (-1), rfl, ⟨rfl, trivial⟩, hz_0, xEnd hK hP9 hD9 ht hW⟩, hS.F ht⟩) hS.2.2 d_14_22_28
  · skip
    have tc_4 : r_1.toInt = 0 := congrArg Int32.toInt c_4
    refine lv_iconst (v := (-1)) hx hb d_14_22_7 (by decide +kernel) ?_
    have hP9 := hP.sub (ws' := []) [] rfl
    have hD9 := hD.sub (ws' := []) [] (by decide) rfl
    have hz_0 : 0 ≤ p2.toInt ∧ p2.toInt ≤ 255 ∧ p3.toInt = 0 ∧ p4.toInt = sN i → ((-1) : Int) = fIx (sCh i) (p2.toInt8.toInt32).toInt (sN i) 0 := (fun h9 => by first | (exfalso; omega) | (rw [show sN i = 0 from by omega]; rfl))
    exact W.iret (v := (-1)) hx hb hr (fun t ht hW => ⟨⟨(-1), (-1), rfl, ⟨rfl, trivial⟩, hz_0, xEnd hK hP9 hD9 ht hW⟩, hS.F ht⟩) hS.2.2 d_14_22_8
set_option maxHeartbeats 8000000 in
set_option maxRecDepth 100000 in
theorem g_String_indexOf_2 (l : Launch) (D : va_G) (kI kJ kB kZ : ClassId) (sz : Nat) (p1 : Int32) (p2 : Int32) (sA : Nat → Nat) (sV : Nat → Nat) (i : Nat) (hi : i < 47) : Met l (⟨"java/lang/String", "indexOf", "(II)I"⟩ : MethodName) (Cond.code (⟨"java/lang/String", "indexOf", "(II)I"⟩ : MethodName) prog_13_method_80_code 3 (some .int) :: gT) ({ frames := 2, cells := 0, slots := 0, locals := 48 }) (va_Pc [.ref (sA i), .int p1, .int p2] (xP D (xT kI kJ kB kZ) (xE sA sV) [] sz)) (va_Qi (fun (r : Int32) (u : Int32) => r = u ∧ (True)) (fun u t => (0 ≤ p1.toInt ∧ p1.toInt ≤ 255 ∧ p2.toInt = 0 → u.toInt = fIx (sCh i) (p1.toInt8.toInt32).toInt (sN i) 0) ∧ xQ D (xT kI kJ kB kZ) (va_A [] sz) [] t) (va_A [] sz)) 0 0 (va_A [] sz) := by
  refine Met.ofW (cc := prog_13_method_80_code) (maxL := 3) (ret := some .int) (by decide +kernel) rfl ?_
  intro p e s m args below meth c s₁ B hml hv
  obtain ⟨rfl, hsz, hP, hK, hD0, hE⟩ := hv
  have hx := B.exec
  have hb := B.bytes
  have hr := B.returns
  have hts : ∀ w ∈ gT, w.before _ s = true := fun w h => atoms_spec (ws := Cond.code (⟨"java/lang/String", "indexOf", "(II)I"⟩ : MethodName) prog_13_method_80_code 3 (some .int) :: gT) B.pre w (List.mem_cons_of_mem _ h)
  have hown : s.vm.findClass "java/lang/String" = some m.cls := findClass_of_methodNamed B.named
  have hlocks := B.notSynchronized
  subst hsz
  have hD := hD0.self (sz := s.heap.size)
  generalize hAe : va_A [] s.heap.size = A at hD hE ⊢
  have hA : ∀ q : Nat, s.heap.size ≤ q → A q := fun q h => by rw [← hAe]; exact Or.inr h
  have hS : va_S A s.heap s.heap [] := va_S.rf
  have hP : va_P D cls9 [] s.heap := hP
  have hl := lv_entry ([.ref (sA i), .int p1, .int p2]) (n := 3) (Nat.le_of_ble_eq_true rfl)
  rw [lg_entry_eq]
  generalize (lg_sl ([.ref (sA i), .int p1, .int p2]) ++ List.replicate (3 - (lg_sl ([.ref (sA i), .int p1, .int p2])).length) Slot.unset).toArray = ls at hl ⊢
  have hl : lv_has ls 3 [(0, .ref (sA i)), (1, .int p1), (2, .int p2)] := hl
  refine lv_aload_n hx hb d_13_80_0 rfl (lv_at hl 0 rfl) ?_
  have hPc := hP.sub (ws' := []) [] rfl
  have hDc := hD.sub (ws' := []) [] (by decide) rfl
  have hFc := va_free (wc := []) hD hS hA [] rfl
  refine va_calli (va_runV (As := []) (rest := []) ⟨hx, hb, hml, hown, hts⟩ (g_String_isLatin1 l D kI kJ kB kZ _ (sA) (sV) (i) hi) (cwV 0 hts (gT_V m_169 m_170 m_171 m_122 (gT_ws m_172)) rfl rfl rfl (by decide +kernel) ⟨(Nat.le_of_ble_eq_true rfl), (Nat.le_of_ble_eq_true rfl)⟩) ⟨xBlind (xOk_E sA sV), (xE_O hE i hi hS), xAt (xOk_E sA sV) hK hPc hDc hS hFc hE⟩ rfl rfl hl.1 rfl (lv_room (Nat.le_of_ble_eq_true rfl)) d_13_80_1 ⟨(Nat.le_of_ble_eq_true rfl), (Nat.le_of_ble_eq_true rfl)⟩) hS (fun q _ h => hFc q h) hFc (fun r_1 u t H locs ht hvm hw_2 hB hz1 hk1 hS => ?_)
  clear hz1
  have hPD := xJoin (wr := []) (w1 := []) hP hD [] [] rfl rfl (by decide) (by decide) hk1 hFc ht hB
  replace hP : va_P D cls9 [] H := hPD.1
  replace hD : va_D A [] := hPD.2
  clear hPD hB hk1 hPc hDc hFc
  refine xtopi (v := 1) hw_2 ?_
  refine lv_if_eq (tgt := 23) hx hb d_13_80_4 (by decide +kernel) (fun c_3 => ?_) (fun c_3 => ?_)
  · exact absurd c_3 (by decide +kernel)
  refine lv_aload_n hx hb d_13_80_7 rfl (lv_at hl 0 rfl) ?_
  refine vk_getf hx hb (xE_v hE i hi) hS hown (hts _ m_1651) (fun _ h9 => h9) d_13_80_8 ?_
  refine lv_iload_n hx hb d_13_80_11 rfl (lv_at hl 1 rfl) ?_
  refine lv_iload_n hx hb d_13_80_12 rfl (lv_at hl 2 rfl) ?_
  refine lv_aload_n hx hb d_13_80_13 rfl (lv_at hl 0 rfl) ?_
  have hPc := hP.sub (ws' := []) [] rfl
  have hDc := hD.sub (ws' := []) [] (by decide) rfl
  have hFc := va_free (wc := []) hD hS hA [] rfl
  refine va_calli (va_runV (As := []) (rest := [.int p2, .int p1, .ref (sV i)]) ⟨hx, hb, hml, hown, hts⟩ (g_String_length l D kI kJ kB kZ _ (sA) (sV) (i) hi) (cwV 0 hts (gT_V m_493 m_156 m_157 m_122 (gT_ws m_158)) rfl rfl rfl (by decide +kernel) ⟨(Nat.le_of_ble_eq_true rfl), (Nat.le_of_ble_eq_true rfl)⟩) ⟨xBlind (xOk_E sA sV), (xE_O hE i hi hS), xAt (xOk_E sA sV) hK hPc hDc hS hFc hE⟩ rfl rfl hl.1 rfl (lv_room (Nat.le_of_ble_eq_true rfl)) d_13_80_14 ⟨(Nat.le_of_ble_eq_true rfl), (Nat.le_of_ble_eq_true rfl)⟩) hS (fun q _ h => hFc q h) hFc (fun r_4 u t H locs ht hvm hw_5 hB hz1 hk1 hS => ?_)
  clear hz1
  have hPD := xJoin (wr := []) (w1 := []) hP hD [] [] rfl rfl (by decide) (by decide) hk1 hFc ht hB
  replace hP : va_P D cls9 [] H := hPD.1
  replace hD : va_D A [] := hPD.2
  clear hPD hB hk1 hPc hDc hFc
  have hw_5 : r_4.toInt = sN i := hw_5
  have hPc := hP.sub (ws' := []) [] rfl
  have hDc := hD.sub (ws' := []) [] (by decide) rfl
  have hFc := va_free (wc := []) hD hS hA [] rfl
  refine va_calli (va_runS (As := [.ref (sV i), .int p1, .int p2, .int r_4]) (rest := []) ⟨hx, hb, hml, hown, hts⟩ (g_StringLatin1_indexOf l D kI kJ kB kZ _ (p1) (p2) (r_4) (sA) (sV) (i) hi) (va_cwS 4 hts (gT_S m_494 m_495 m_123 (gT_ws m_496)) rfl rfl rfl (by decide +kernel) ⟨(Nat.le_of_ble_eq_true rfl), (Nat.le_of_ble_eq_true rfl)⟩) ⟨xBlind (xOk_E sA sV), xAt (xOk_E sA sV) hK hPc hDc hS hFc hE⟩ rfl rfl hl.1 rfl (lv_room (Nat.le_of_ble_eq_true rfl)) d_13_80_17 ⟨(Nat.le_of_ble_eq_true rfl), (Nat.le_of_ble_eq_true rfl)⟩) hS (fun q _ h => hFc q h) hFc (fun r_6 u t H locs ht hvm hw_7 hB hz1 hk1 hS => ?_)
  clear hz1
  obtain ⟨hu9, hw_7⟩ := hw_7
  subst hu9
  revert hB
  refine anI fun hb_8 => fun hB => ?_
  have hb_8 : 0 ≤ p1.toInt ∧ p1.toInt ≤ 255 ∧ p2.toInt = 0 ∧ r_4.toInt = sN i → r_6.toInt = fIx (sCh i) (p1.toInt8.toInt32).toInt (sN i) 0 := hb_8
  have hPD := xJoin (wr := []) (w1 := []) hP hD [] [] rfl rfl (by decide) (by decide) hk1 hFc ht hB
  replace hP : va_P D cls9 [] H := hPD.1
  replace hD : va_D A [] := hPD.2
  clear hPD hB hk1 hPc hDc hFc
  refine lv_goto (tgt := 36) hx hb d_13_80_20 (by decide +kernel) ?_
  have hP9 := hP.sub (ws' := []) [] rfl
  have hD9 := hD.sub (ws' := []) [] (by decide) rfl
  have hz_0 : 0 ≤ p1.toInt ∧ p1.toInt ≤ 255 ∧ p2.toInt = 0 → r_6.toInt = fIx (sCh i) (p1.toInt8.toInt32).toInt (sN i) 0 := (fun h9 => hb_8 ⟨h9.1, h9.2.1, h9.2.2, by assumption⟩)
  exact W.iret (v := r_6) hx hb hr (fun t ht hW => ⟨⟨r_6, r_6, rfl, ⟨rfl, trivial⟩, hz_0, xEnd hK hP9 hD9 ht hW⟩, hS.F ht⟩) hS.2.2 d_13_80_36
set_option maxHeartbeats 8000000 in
set_option maxRecDepth 100000 in
theorem g_String_indexOf_1 (l : Launch) (D : va_G) (kI kJ kB kZ : ClassId) (sz : Nat) (p1 : Int32) (sA : Nat → Nat) (sV : Nat → Nat) (i : Nat) (hi : i < 47) : Met l (⟨"java/lang/String", "indexOf", "(I)I"⟩ : MethodName) (Cond.code (⟨"java/lang/String", "indexOf", "(I)I"⟩ : MethodName) prog_13_method_79_code 2 (some .int) :: gT) ({ frames := 3, cells := 0, slots := 0, locals := 70 }) (va_Pc [.ref (sA i), .int p1] (xP D (xT kI kJ kB kZ) (xE sA sV) [] sz)) (va_Qi (fun (r : Int32) (u : Int32) => r = u ∧ (True)) (fun u t => (0 ≤ p1.toInt ∧ p1.toInt ≤ 255 → u.toInt = fIx (sCh i) (p1.toInt8.toInt32).toInt (sN i) 0) ∧ xQ D (xT kI kJ kB kZ) (va_A [] sz) [] t) (va_A [] sz)) 0 0 (va_A [] sz) := by
  refine Met.ofW (cc := prog_13_method_79_code) (maxL := 2) (ret := some .int) (by decide +kernel) rfl ?_
  intro p e s m args below meth c s₁ B hml hv
  obtain ⟨rfl, hsz, hP, hK, hD0, hE⟩ := hv
  have hx := B.exec
  have hb := B.bytes
  have hr := B.returns
  have hts : ∀ w ∈ gT, w.before _ s = true := fun w h => atoms_spec (ws := Cond.code (⟨"java/lang/String", "indexOf", "(I)I"⟩ : MethodName) prog_13_method_79_code 2 (some .int) :: gT) B.pre w (List.mem_cons_of_mem _ h)
  have hown : s.vm.findClass "java/lang/String" = some m.cls := findClass_of_methodNamed B.named
  have hlocks := B.notSynchronized
  subst hsz
  have hD := hD0.self (sz := s.heap.size)
  generalize hAe : va_A [] s.heap.size = A at hD hE ⊢
  have hA : ∀ q : Nat, s.heap.size ≤ q → A q := fun q h => by rw [← hAe]; exact Or.inr h
  have hS : va_S A s.heap s.heap [] := va_S.rf
  have hP : va_P D cls9 [] s.heap := hP
  have hl := lv_entry ([.ref (sA i), .int p1]) (n := 2) (Nat.le_of_ble_eq_true rfl)
  rw [lg_entry_eq]
  generalize (lg_sl ([.ref (sA i), .int p1]) ++ List.replicate (2 - (lg_sl ([.ref (sA i), .int p1])).length) Slot.unset).toArray = ls at hl ⊢
  have hl : lv_has ls 2 [(0, .ref (sA i)), (1, .int p1)] := hl
  refine lv_aload_n hx hb d_13_79_0 rfl (lv_at hl 0 rfl) ?_
  refine lv_iload_n hx hb d_13_79_1 rfl (lv_at hl 1 rfl) ?_
  refine lv_iconst (v := 0) hx hb d_13_79_2 (by decide +kernel) ?_
  have hPc := hP.sub (ws' := []) [] rfl
  have hDc := hD.sub (ws' := []) [] (by decide) rfl
  have hFc := va_free (wc := []) hD hS hA [] rfl
  refine va_calli (va_runV (As := [.int p1, .int 0]) (rest := []) ⟨hx, hb, hml, hown, hts⟩ (g_String_indexOf_2 l D kI kJ kB kZ _ (p1) ((0 : Int32)) (sA) (sV) (i) hi) (cwV 2 hts (gT_V m_489 m_490 m_491 m_122 (gT_ws m_492)) rfl rfl rfl (by decide +kernel) ⟨(Nat.le_of_ble_eq_true rfl), (Nat.le_of_ble_eq_true rfl)⟩) ⟨xBlind (xOk_E sA sV), (xE_O hE i hi hS), xAt (xOk_E sA sV) hK hPc hDc hS hFc hE⟩ rfl rfl hl.1 rfl (lv_room (Nat.le_of_ble_eq_true rfl)) d_13_79_3 ⟨(Nat.le_of_ble_eq_true rfl), (Nat.le_of_ble_eq_true rfl)⟩) hS (fun q _ h => hFc q h) hFc (fun r_1 u t H locs ht hvm hw_2 hB hz1 hk1 hS => ?_)
  clear hz1
  obtain ⟨hu9, hw_2⟩ := hw_2
  subst hu9
  revert hB
  refine anI fun hb_3 => fun hB => ?_
  have hb_3 : 0 ≤ p1.toInt ∧ p1.toInt ≤ 255 ∧ (0 : Int) = 0 → r_1.toInt = fIx (sCh i) (p1.toInt8.toInt32).toInt (sN i) 0 := hb_3
  have hPD := xJoin (wr := []) (w1 := []) hP hD [] [] rfl rfl (by decide) (by decide) hk1 hFc ht hB
  replace hP : va_P D cls9 [] H := hPD.1
  replace hD : va_D A [] := hPD.2
  clear hPD hB hk1 hPc hDc hFc
  have hP9 := hP.sub (ws' := []) [] rfl
  have hD9 := hD.sub (ws' := []) [] (by decide) rfl
  have hz_0 : 0 ≤ p1.toInt ∧ p1.toInt ≤ 255 → r_1.toInt = fIx (sCh i) (p1.toInt8.toInt32).toInt (sN i) 0 := (fun h9 => hb_3 ⟨h9.1, h9.2, rfl⟩)
  exact W.iret (v := r_1) hx hb hr (fun t ht hW => ⟨⟨r_1, r_1, rfl, ⟨rfl, trivial⟩, hz_0, xEnd hK hP9 hD9 ht hW⟩, hS.F ht⟩) hS.2.2 d_13_79_6
set_option maxHeartbeats 8000000 in
set_option maxRecDepth 100000 in
theorem g_Tokens_isLetterOrDigit (l : Launch) (D : va_G) (kI kJ kB kZ : ClassId) (sz : Nat) (p1 : Int32)  : Met l (⟨"AlgolJudge$Tokens", "isLetterOrDigit", "(I)Z"⟩ : MethodName) (Cond.code (⟨"AlgolJudge$Tokens", "isLetterOrDigit", "(I)Z"⟩ : MethodName) prog_8_method_12_code 1 (some .boolean) :: gT) ({ frames := 1, cells := 0, slots := 0, locals := 20 }) (va_Pc [.int p1] (xP D (xT kI kJ kB kZ) xN [] sz)) (va_Qi (fun (r : Int32) (u : Int32) => r = u ∧ (True)) (fun u t => ((u.toInt = 1 ∧ ((97 ≤ p1.toInt ∧ p1.toInt ≤ 122) ∨ (48 ≤ p1.toInt ∧ p1.toInt ≤ 57))) ∨ (u.toInt = 0 ∧ ¬ ((97 ≤ p1.toInt ∧ p1.toInt ≤ 122) ∨ (48 ≤ p1.toInt ∧ p1.toInt ≤ 57)))) ∧ xQ D (xT kI kJ kB kZ) (va_A [] sz) [] t) (va_A [] sz)) 0 0 (va_A [] sz) := by
  refine Met.ofW (cc := prog_8_method_12_code) (maxL := 1) (ret := some .boolean) (by decide +kernel) rfl ?_
  intro p e s m args below meth c s₁ B hml hv
  obtain ⟨rfl, hsz, hP, hK, hD0, hE⟩ := hv
  have hx := B.exec
  have hb := B.bytes
  have hr := B.returns
  have hts : ∀ w ∈ gT, w.before _ s = true := fun w h => atoms_spec (ws := Cond.code (⟨"AlgolJudge$Tokens", "isLetterOrDigit", "(I)Z"⟩ : MethodName) prog_8_method_12_code 1 (some .boolean) :: gT) B.pre w (List.mem_cons_of_mem _ h)
  have hown : s.vm.findClass "AlgolJudge$Tokens" = some m.cls := findClass_of_methodNamed B.named
  have hlocks := B.notSynchronized
  subst hsz
  have hD := hD0.self (sz := s.heap.size)
  generalize hAe : va_A [] s.heap.size = A at hD hE ⊢
  have hA : ∀ q : Nat, s.heap.size ≤ q → A q := fun q h => by rw [← hAe]; exact Or.inr h
  have hS : va_S A s.heap s.heap [] := va_S.rf
  have hP : va_P D cls9 [] s.heap := hP
  have hl := lv_entry ([.int p1]) (n := 1) (Nat.le_of_ble_eq_true rfl)
  rw [lg_entry_eq]
  generalize (lg_sl ([.int p1]) ++ List.replicate (1 - (lg_sl ([.int p1])).length) Slot.unset).toArray = ls at hl ⊢
  have hl : lv_has ls 1 [(0, .int p1)] := hl
  refine lv_iload_n hx hb d_8_12_0 rfl (lv_at hl 0 rfl) ?_
  have hPc := hP.sub (ws' := []) [] rfl
  have hDc := hD.sub (ws' := []) [] (by decide) rfl
  have hFc := va_free (wc := []) hD hS hA [] rfl
  refine va_calli (va_runS (As := [.int p1]) (rest := []) ⟨hx, hb, hml, hown, hts⟩ (g_Tokens_isLetter l D kI kJ kB kZ _ (p1) ) (va_cwS 1 hts (gT_S m_207 m_208 m_121 (gT_ws m_209)) rfl rfl rfl (by decide +kernel) ⟨(Nat.le_of_ble_eq_true rfl), (Nat.le_of_ble_eq_true rfl)⟩) ⟨xBlind xOk_N, xAtN hK hPc hDc⟩ rfl rfl hl.1 rfl (lv_room (Nat.le_of_ble_eq_true rfl)) d_8_12_1 ⟨(Nat.le_of_ble_eq_true rfl), (Nat.le_of_ble_eq_true rfl)⟩) hS (fun q _ h => hFc q h) hFc (fun r_1 u t H locs ht hvm hw_2 hB hz1 hk1 hS => ?_)
  clear hz1
  obtain ⟨hu9, hw_2⟩ := hw_2
  subst hu9
  revert hB
  refine anI fun hb_3 => fun hB => ?_
  have hb_3 : (r_1.toInt = 1 ∧ (97 ≤ p1.toInt ∧ p1.toInt ≤ 122)) ∨ (r_1.toInt = 0 ∧ ¬ (97 ≤ p1.toInt ∧ p1.toInt ≤ 122)) := hb_3
  have hPD := xJoin (wr := []) (w1 := []) hP hD [] [] rfl rfl (by decide) (by decide) hk1 hFc ht hB
  replace hP : va_P D cls9 [] H := hPD.1
  replace hD : va_D A [] := hPD.2
  clear hPD hB hk1 hPc hDc hFc
  refine lv_if_ne (tgt := 14) hx hb d_8_12_4 (by decide +kernel) (fun c_4 => ?_) (fun c_4 => ?_)
  · skip
    have tc_4 : ¬ r_1.toInt = 0 := fun h9 => c_4 (Int32.toInt_inj.mp h9)
    refine lv_iconst (v := 1) hx hb d_8_12_14 (by decide +kernel) ?_
    refine lv_goto (tgt := 19) hx hb d_8_12_15 (by decide +kernel) ?_
    have hP9 := hP.sub (ws' := []) [] rfl
    have hD9 := hD.sub (ws' := []) [] (by decide) rfl
    have hz_0 : ((1 : Int) = 1 ∧ ((97 ≤ p1.toInt ∧ p1.toInt ≤ 122) ∨ (48 ≤ p1.toInt ∧ p1.toInt ≤ 57))) ∨ ((1 : Int) = 0 ∧ ¬ ((97 ≤ p1.toInt ∧ p1.toInt ≤ 122) ∨ (48 ≤ p1.toInt ∧ p1.toInt ≤ 57))) := (by omega)
    exact W.zret (v := 1) (ty := .boolean) hx hb hr (by decide +kernel) (fun t ht hW => ⟨⟨1, 1, rfl, ⟨rfl, trivial⟩, hz_0, xEnd hK hP9 hD9 ht hW⟩, hS.F ht⟩) hS.2.2 d_8_12_19
  · skip
    have tc_4 : r_1.toInt = 0 := congrArg Int32.toInt c_4
    refine lv_iload_n hx hb d_8_12_7 rfl (lv_at hl 0 rfl) ?_
    have hPc := hP.sub (ws' := []) [] rfl
    have hDc := hD.sub (ws' := []) [] (by decide) rfl
    have hFc := va_free (wc := []) hD hS hA [] rfl
    refine va_calli (va_runS (As := [.int p1]) (rest := []) ⟨hx, hb, hml, hown, hts⟩ (g_Tokens_isDigit l D kI kJ kB kZ _ (p1) ) (va_cwS 1 hts (gT_S m_463 m_464 m_121 (gT_ws m_465)) rfl rfl rfl (by decide +kernel) ⟨(Nat.le_of_ble_eq_true rfl), (Nat.le_of_ble_eq_true rfl)⟩) ⟨xBlind xOk_N, xAtN hK hPc hDc⟩ rfl rfl hl.1 rfl (lv_room (Nat.le_of_ble_eq_true rfl)) d_8_12_8 ⟨(Nat.le_of_ble_eq_true rfl), (Nat.le_of_ble_eq_true rfl)⟩) hS (fun q _ h => hFc q h) hFc (fun r_5 u t H locs ht hvm hw_6 hB hz1 hk1 hS => ?_)
    clear hz1
    obtain ⟨hu9, hw_6⟩ := hw_6
    subst hu9
    revert hB
    refine anI fun hb_7 => fun hB => ?_
    have hb_7 : (r_5.toInt = 1 ∧ (48 ≤ p1.toInt ∧ p1.toInt ≤ 57)) ∨ (r_5.toInt = 0 ∧ ¬ (48 ≤ p1.toInt ∧ p1.toInt ≤ 57)) := hb_7
    have hPD := xJoin (wr := []) (w1 := []) hP hD [] [] rfl rfl (by decide) (by decide) hk1 hFc ht hB
    replace hP : va_P D cls9 [] H := hPD.1
    replace hD : va_D A [] := hPD.2
    clear hPD hB hk1 hPc hDc hFc
    refine lv_if_eq (tgt := 18) hx hb d_8_12_11 (by decide +kernel) (fun c_8 => ?_) (fun c_8 => ?_)
    · skip
      have tc_8 : r_5.toInt = 0 := congrArg Int32.toInt c_8
      refine lv_iconst (v := 0) hx hb d_8_12_18 (by decide +kernel) ?_
      have hP9 := hP.sub (ws' := []) [] rfl
      have hD9 := hD.sub (ws' := []) [] (by decide) rfl
      have hz_0 : ((0 : Int) = 1 ∧ ((97 ≤ p1.toInt ∧ p1.toInt ≤ 122) ∨ (48 ≤ p1.toInt ∧ p1.toInt ≤ 57))) ∨ ((0 : Int) = 0 ∧ ¬ ((97 ≤ p1.toInt ∧ p1.toInt ≤ 122) ∨ (48 ≤ p1.toInt ∧ p1.toInt ≤ 57))) := (by omega)
      exact W.zret (v := 0) (ty := .boolean) hx hb hr (by decide +kernel) (fun t ht hW => ⟨⟨0, 0, rfl, ⟨rfl, trivial⟩, hz_0, xEnd hK hP9 hD9 ht hW⟩, hS.F ht⟩) hS.2.2 d_8_12_19
    · skip
      have tc_8 : ¬ r_5.toInt = 0 := fun h9 => c_8 (Int32.toInt_inj.mp h9)
      refine lv_iconst (v := 1) hx hb d_8_12_14 (by decide +kernel) ?_
      refine lv_goto (tgt := 19) hx hb d_8_12_15 (by decide +kernel) ?_
      have hP9 := hP.sub (ws' := []) [] rfl
      have hD9 := hD.sub (ws' := []) [] (by decide) rfl
      have hz_0 : ((1 : Int) = 1 ∧ ((97 ≤ p1.toInt ∧ p1.toInt ≤ 122) ∨ (48 ≤ p1.toInt ∧ p1.toInt ≤ 57))) ∨ ((1 : Int) = 0 ∧ ¬ ((97 ≤ p1.toInt ∧ p1.toInt ≤ 122) ∨ (48 ≤ p1.toInt ∧ p1.toInt ≤ 57))) := (by omega)
      exact W.zret (v := 1) (ty := .boolean) hx hb hr (by decide +kernel) (fun t ht hW => ⟨⟨1, 1, rfl, ⟨rfl, trivial⟩, hz_0, xEnd hK hP9 hD9 ht hW⟩, hS.F ht⟩) hS.2.2 d_8_12_19
set_option maxHeartbeats 8000000 in
set_option maxRecDepth 100000 in
theorem g_Tokens_withEqual (l : Launch) (D : va_G) (kI kJ kB kZ : ClassId) (sz : Nat) (p1 : Int32)  : Met l (⟨"AlgolJudge$Tokens", "withEqual", "(I)I"⟩ : MethodName) (Cond.code (⟨"AlgolJudge$Tokens", "withEqual", "(I)I"⟩ : MethodName) prog_8_method_9_code 1 (some .int) :: gT) ({ frames := 0, cells := 0, slots := 0, locals := 0 }) (va_Pc [.int p1] (xP D (xT kI kJ kB kZ) xN [] sz)) (va_Qi (fun (r : Int32) (u : Int32) => r = u ∧ (True)) (fun u t => (kPr p1.toInt = u.toInt) ∧ xQ D (xT kI kJ kB kZ) (va_A [] sz) [] t) (va_A [] sz)) 0 0 (va_A [] sz) := by
  refine Met.ofW (cc := prog_8_method_9_code) (maxL := 1) (ret := some .int) (by decide +kernel) rfl ?_
  intro p e s m args below meth c s₁ B hml hv
  obtain ⟨rfl, hsz, hP, hK, hD0, hE⟩ := hv
  have hx := B.exec
  have hb := B.bytes
  have hr := B.returns
  have hts : ∀ w ∈ gT, w.before _ s = true := fun w h => atoms_spec (ws := Cond.code (⟨"AlgolJudge$Tokens", "withEqual", "(I)I"⟩ : MethodName) prog_8_method_9_code 1 (some .int) :: gT) B.pre w (List.mem_cons_of_mem _ h)
  have hown : s.vm.findClass "AlgolJudge$Tokens" = some m.cls := findClass_of_methodNamed B.named
  have hlocks := B.notSynchronized
  subst hsz
  have hD := hD0.self (sz := s.heap.size)
  generalize hAe : va_A [] s.heap.size = A at hD hE ⊢
  have hA : ∀ q : Nat, s.heap.size ≤ q → A q := fun q h => by rw [← hAe]; exact Or.inr h
  have hS : va_S A s.heap s.heap [] := va_S.rf
  have hP : va_P D cls9 [] s.heap := hP
  have hl := lv_entry ([.int p1]) (n := 1) (Nat.le_of_ble_eq_true rfl)
  rw [lg_entry_eq]
  generalize (lg_sl ([.int p1]) ++ List.replicate (1 - (lg_sl ([.int p1])).length) Slot.unset).toArray = ls at hl ⊢
  have hl : lv_has ls 1 [(0, .int p1)] := hl
  refine lv_iload_n hx hb d_8_9_0 rfl (lv_at hl 0 rfl) ?_
  by_cases c_1 : p1 = 40
  · skip
    have tc_1 : p1.toInt = 40 := by rw [c_1]; rfl
    refine lv_tableIn (off := 31) (tgt := 32) hx hb d_8_9_1 (by omega) (by omega) (by rw [c_1]; decide +kernel) (by decide +kernel) ?_
    refine lv_bipush (v := 47) hx hb d_8_9_32 (by decide +kernel) ?_
    have hP9 := hP.sub (ws' := []) [] rfl
    have hD9 := hD.sub (ws' := []) [] (by decide) rfl
    have hz_0 : kPr p1.toInt = (47 : Int) := (by unfold kPr; (repeat (first | refine (if_pos (by omega)).trans ?_ | refine (if_neg (by omega)).trans ?_)); rfl)
    exact W.iret (v := 47) hx hb hr (fun t ht hW => ⟨⟨47, 47, rfl, ⟨rfl, trivial⟩, hz_0, xEnd hK hP9 hD9 ht hW⟩, hS.F ht⟩) hS.2.2 d_8_9_34
  have tc_1 : ¬ p1.toInt = 40 := fun h9 => c_1 (Int32.toInt_inj.mp h9)
  by_cases c_2 : p1 = 41
  · skip
    have tc_2 : p1.toInt = 41 := by rw [c_2]; rfl
    refine lv_tableIn (off := 34) (tgt := 35) hx hb d_8_9_1 (by omega) (by omega) (by rw [c_2]; decide +kernel) (by decide +kernel) ?_
    refine lv_bipush (v := 45) hx hb d_8_9_35 (by decide +kernel) ?_
    have hP9 := hP.sub (ws' := []) [] rfl
    have hD9 := hD.sub (ws' := []) [] (by decide) rfl
    have hz_0 : kPr p1.toInt = (45 : Int) := (by unfold kPr; (repeat (first | refine (if_pos (by omega)).trans ?_ | refine (if_neg (by omega)).trans ?_)); rfl)
    exact W.iret (v := 45) hx hb hr (fun t ht hW => ⟨⟨45, 45, rfl, ⟨rfl, trivial⟩, hz_0, xEnd hK hP9 hD9 ht hW⟩, hS.F ht⟩) hS.2.2 d_8_9_37
  have tc_2 : ¬ p1.toInt = 41 := fun h9 => c_2 (Int32.toInt_inj.mp h9)
  by_cases c_3 : p1 = 42
  · skip
    have tc_3 : p1.toInt = 42 := by rw [c_3]; rfl
    refine lv_tableIn (off := 40) (tgt := 41) hx hb d_8_9_1 (by omega) (by omega) (by rw [c_3]; decide +kernel) (by decide +kernel) ?_
    refine lv_iconst (v := (-1)) hx hb d_8_9_41 (by decide +kernel) ?_
    have hP9 := hP.sub (ws' := []) [] rfl
    have hD9 := hD.sub (ws' := []) [] (by decide) rfl
    have hz_0 : kPr p1.toInt = ((-1) : Int) := (by unfold kPr; (repeat (first | refine (if_pos (by omega)).trans ?_ | refine (if_neg (by omega)).trans ?_)); rfl)
    exact W.iret (v := (-1)) hx hb hr (fun t ht hW => ⟨⟨(-1), (-1), rfl, ⟨rfl, trivial⟩, hz_0, xEnd hK hP9 hD9 ht hW⟩, hS.F ht⟩) hS.2.2 d_8_9_42
  have tc_3 : ¬ p1.toInt = 42 := fun h9 => c_3 (Int32.toInt_inj.mp h9)
  by_cases c_4 : p1 = 43
  · skip
    have tc_4 : p1.toInt = 43 := by rw [c_4]; rfl
    refine lv_tableIn (off := 37) (tgt := 38) hx hb d_8_9_1 (by omega) (by omega) (by rw [c_4]; decide +kernel) (by decide +kernel) ?_
    refine lv_bipush (v := 46) hx hb d_8_9_38 (by decide +kernel) ?_
    have hP9 := hP.sub (ws' := []) [] rfl
    have hD9 := hD.sub (ws' := []) [] (by decide) rfl
    have hz_0 : kPr p1.toInt = (46 : Int) := (by unfold kPr; (repeat (first | refine (if_pos (by omega)).trans ?_ | refine (if_neg (by omega)).trans ?_)); rfl)
    exact W.iret (v := 46) hx hb hr (fun t ht hW => ⟨⟨46, 46, rfl, ⟨rfl, trivial⟩, hz_0, xEnd hK hP9 hD9 ht hW⟩, hS.F ht⟩) hS.2.2 d_8_9_40
  have tc_4 : ¬ p1.toInt = 43 := fun h9 => c_4 (Int32.toInt_inj.mp h9)
  refine lv_tableOut (tgt := 41) hx hb d_8_9_1 (by omega) (by decide +kernel) ?_
  refine lv_iconst (v := (-1)) hx hb d_8_9_41 (by decide +kernel) ?_
  have hP9 := hP.sub (ws' := []) [] rfl
  have hD9 := hD.sub (ws' := []) [] (by decide) rfl
  have hz_0 : kPr p1.toInt = ((-1) : Int) := (by unfold kPr; (repeat (first | refine (if_pos (by omega)).trans ?_ | refine (if_neg (by omega)).trans ?_)); rfl)
  exact W.iret (v := (-1)) hx hb hr (fun t ht hW => ⟨⟨(-1), (-1), rfl, ⟨rfl, trivial⟩, hz_0, xEnd hK hP9 hD9 ht hW⟩, hS.F ht⟩) hS.2.2 d_8_9_42
set_option maxHeartbeats 8000000 in
set_option maxRecDepth 100000 in
theorem g_Tokens_longer (l : Launch) (D : va_G) (kI kJ kB kZ : ClassId) (sz : Nat) (p1 : Int64) (p2 : Int32) (hq_0 : (97 ≤ p2.toInt ∧ p2.toInt ≤ 122) ∨ (48 ≤ p2.toInt ∧ p2.toInt ≤ 57)) (hq_1 : 0 ≤ p1.toInt) (hq_2 : p1.toInt ≤ 4000000000000) : Met l (⟨"AlgolJudge$Tokens", "longer", "(JI)J"⟩ : MethodName) (Cond.code (⟨"AlgolJudge$Tokens", "longer", "(JI)J"⟩ : MethodName) prog_8_method_13_code 3 (some .long) :: gT) ({ frames := 1, cells := 0, slots := 0, locals := 20 }) (va_Pc [.long p1, .int p2] (xP D (xT kI kJ kB kZ) xN [] sz)) (va_Ql (fun (r : Int64) (u : Int64) => r = u ∧ (True)) (fun u t => (u.toInt = p1.toInt * 37 + cCd p2.toInt) ∧ xQ D (xT kI kJ kB kZ) (va_A [] sz) [] t) (va_A [] sz)) 0 0 (va_A [] sz) := by
  refine Met.ofW (cc := prog_8_method_13_code) (maxL := 3) (ret := some .long) (by decide +kernel) rfl ?_
  intro p e s m args below meth c s₁ B hml hv
  obtain ⟨rfl, hsz, hP, hK, hD0, hE⟩ := hv
  have hx := B.exec
  have hb := B.bytes
  have hr := B.returns
  have hts : ∀ w ∈ gT, w.before _ s = true := fun w h => atoms_spec (ws := Cond.code (⟨"AlgolJudge$Tokens", "longer", "(JI)J"⟩ : MethodName) prog_8_method_13_code 3 (some .long) :: gT) B.pre w (List.mem_cons_of_mem _ h)
  have hown : s.vm.findClass "AlgolJudge$Tokens" = some m.cls := findClass_of_methodNamed B.named
  have hlocks := B.notSynchronized
  subst hsz
  have hD := hD0.self (sz := s.heap.size)
  generalize hAe : va_A [] s.heap.size = A at hD hE ⊢
  have hA : ∀ q : Nat, s.heap.size ≤ q → A q := fun q h => by rw [← hAe]; exact Or.inr h
  have hS : va_S A s.heap s.heap [] := va_S.rf
  have hP : va_P D cls9 [] s.heap := hP
  have hl := lv_entry ([.long p1, .int p2]) (n := 3) (Nat.le_of_ble_eq_true rfl)
  rw [lg_entry_eq]
  generalize (lg_sl ([.long p1, .int p2]) ++ List.replicate (3 - (lg_sl ([.long p1, .int p2])).length) Slot.unset).toArray = ls at hl ⊢
  have hl : lv_has ls 3 [(0, .long p1), (2, .int p2)] := hl
  refine lv_lload_n hx hb d_8_13_0 rfl (lv_at hl 0 rfl) ?_
  refine lv_ldc2 (v := 37) hx hb hown (hts _ m_206) d_8_13_1 ?_
  refine lv_lmul hx hb d_8_13_4 ?_
  refine lv_iload_n hx hb d_8_13_5 rfl (lv_at hl 1 rfl) ?_
  have hPc := hP.sub (ws' := []) [] rfl
  have hDc := hD.sub (ws' := []) [] (by decide) rfl
  have hFc := va_free (wc := []) hD hS hA [] rfl
  refine va_calli (va_runS (As := [.int p2]) (rest := [.long (p1 * 37)]) ⟨hx, hb, hml, hown, hts⟩ (g_Tokens_isLetter l D kI kJ kB kZ _ (p2) ) (va_cwS 1 hts (gT_S m_207 m_208 m_121 (gT_ws m_209)) rfl rfl rfl (by decide +kernel) ⟨(Nat.le_of_ble_eq_true rfl), (Nat.le_of_ble_eq_true rfl)⟩) ⟨xBlind xOk_N, xAtN hK hPc hDc⟩ rfl rfl hl.1 rfl (lv_room (Nat.le_of_ble_eq_true rfl)) d_8_13_6 ⟨(Nat.le_of_ble_eq_true rfl), (Nat.le_of_ble_eq_true rfl)⟩) hS (fun q _ h => hFc q h) hFc (fun r_1 u t H locs ht hvm hw_2 hB hz1 hk1 hS => ?_)
  clear hz1
  obtain ⟨hu9, hw_2⟩ := hw_2
  subst hu9
  revert hB
  refine anI fun hb_3 => fun hB => ?_
  have hb_3 : (r_1.toInt = 1 ∧ (97 ≤ p2.toInt ∧ p2.toInt ≤ 122)) ∨ (r_1.toInt = 0 ∧ ¬ (97 ≤ p2.toInt ∧ p2.toInt ≤ 122)) := hb_3
  have hPD := xJoin (wr := []) (w1 := []) hP hD [] [] rfl rfl (by decide) (by decide) hk1 hFc ht hB
  replace hP : va_P D cls9 [] H := hPD.1
  replace hD : va_D A [] := hPD.2
  clear hPD hB hk1 hPc hDc hFc
  refine lv_if_eq (tgt := 21) hx hb d_8_13_9 (by decide +kernel) (fun c_4 => ?_) (fun c_4 => ?_)
  · skip
    have tc_4 : r_1.toInt = 0 := congrArg Int32.toInt c_4
    refine lv_iload_n hx hb d_8_13_21 rfl (lv_at hl 1 rfl) ?_
    refine lv_bipush (v := 48) hx hb d_8_13_22 (by decide +kernel) ?_
    refine lv_isub hx hb d_8_13_24 ?_
    refine lv_topi (fun y_5 ey_5 => ?_)
    have ty_5 : y_5.toInt = p2.toInt - 48 := by rw [ey_5]; exact zsubc (by decide +kernel) (by omega) (by omega)
    refine lv_bipush (v := 27) hx hb d_8_13_25 (by decide +kernel) ?_
    refine lv_iadd hx hb d_8_13_27 ?_
    refine lv_topi (fun y_6 ey_6 => ?_)
    have ty_6 : y_6.toInt = y_5.toInt + 27 := by rw [ey_6]; exact zaddc (by decide +kernel) (by omega) (by omega)
    refine lv_i2l (v := (y_6.toInt64)) hx hb d_8_13_28 rfl ?_
    refine lv_ladd hx hb d_8_13_29 ?_
    have hP9 := hP.sub (ws' := []) [] rfl
    have hD9 := hD.sub (ws' := []) [] (by decide) rfl
    have hz_0 : ((p1 * 37) + (y_6.toInt64)).toInt = p1.toInt * 37 + cCd p2.toInt := (by rw [lo_1 hq_1 hq_2 (by omega) (by omega)]; unfold cCd cLe; first | (rw [if_pos (by omega)]; omega) | (rw [if_neg (by omega)]; omega))
    exact W.lret (v := ((p1 * 37) + (y_6.toInt64))) hx hb hr (fun t ht hW => ⟨⟨((p1 * 37) + (y_6.toInt64)), ((p1 * 37) + (y_6.toInt64)), rfl, ⟨rfl, trivial⟩, hz_0, xEnd hK hP9 hD9 ht hW⟩, hS.F ht⟩) hS.2.2 d_8_13_30
  · skip
    have tc_4 : ¬ r_1.toInt = 0 := fun h9 => c_4 (Int32.toInt_inj.mp h9)
    refine lv_iload_n hx hb d_8_13_12 rfl (lv_at hl 1 rfl) ?_
    refine lv_bipush (v := 97) hx hb d_8_13_13 (by decide +kernel) ?_
    refine lv_isub hx hb d_8_13_15 ?_
    refine lv_topi (fun y_7 ey_7 => ?_)
    have ty_7 : y_7.toInt = p2.toInt - 97 := by rw [ey_7]; exact zsubc (by decide +kernel) (by omega) (by omega)
    refine lv_iconst (v := 1) hx hb d_8_13_16 (by decide +kernel) ?_
    refine lv_iadd hx hb d_8_13_17 ?_
    refine lv_topi (fun y_8 ey_8 => ?_)
    have ty_8 : y_8.toInt = y_7.toInt + 1 := by rw [ey_8]; exact zaddc (by decide +kernel) (by omega) (by omega)
    refine lv_goto (tgt := 28) hx hb d_8_13_18 (by decide +kernel) ?_
    refine lv_i2l (v := (y_8.toInt64)) hx hb d_8_13_28 rfl ?_
    refine lv_ladd hx hb d_8_13_29 ?_
    have hP9 := hP.sub (ws' := []) [] rfl
    have hD9 := hD.sub (ws' := []) [] (by decide) rfl
    have hz_0 : ((p1 * 37) + (y_8.toInt64)).toInt = p1.toInt * 37 + cCd p2.toInt := (by rw [lo_1 hq_1 hq_2 (by omega) (by omega)]; unfold cCd cLe; first | (rw [if_pos (by omega)]; omega) | (rw [if_neg (by omega)]; omega))
    exact W.lret (v := ((p1 * 37) + (y_8.toInt64))) hx hb hr (fun t ht hW => ⟨⟨((p1 * 37) + (y_8.toInt64)), ((p1 * 37) + (y_8.toInt64)), rfl, ⟨rfl, trivial⟩, hz_0, xEnd hK hP9 hD9 ht hW⟩, hS.F ht⟩) hS.2.2 d_8_13_30
set_option maxHeartbeats 8000000 in
set_option maxRecDepth 100000 in
theorem g_Tokens_add (l : Launch) (D : va_G) (kI kJ kB kZ : ClassId) (sz : Nat) (h2 : Nat) (h9 : Nat) (h10 : Nat) (h11 : Nat) (h12 : Nat) (tc : Int32) (ta : Int32) (td : Int32) (tf : Int32) (f9 : Nat → Int32) (f10 : Nat → Int32) (f11 : Nat → Int64) (f12 : Nat → Int64) (p1 : Int32) (p2 : Int32) (p3 : Int64) (hf_C1 : 0 ≤ tc.toInt) (hf_C2 : tc.toInt ≤ 3001) (hf_T6 : ∀ j : Nat, 0 ≤ (f10 j).toInt ∧ (f10 j).toInt ≤ 3000) (hf_WK : wK f12) (hq_0 : 0 ≤ p2.toInt) (hq_1 : p2.toInt ≤ 3000) : Met l (⟨"AlgolJudge$Tokens", "add", "(IIJ)V"⟩ : MethodName) (Cond.code (⟨"AlgolJudge$Tokens", "add", "(IIJ)V"⟩ : MethodName) prog_8_method_14_code 5 (none) :: gT) ({ frames := 0, cells := 0, slots := 0, locals := 0 }) (va_Pc [.ref h2, .int p1, .int p2, .long p3] (xP D (xT kI kJ kB kZ) xN [(h2, .inr (0, [.ref h9, .ref h10, .ref h11, .ref h12, .int tc, .int ta, .int td, .int tf])), (h9, .inl (kI, 3001, .inl f9)), (h10, .inl (kI, 3001, .inl f10)), (h11, .inl (kJ, 3001, .inr (.inl f11))), (h12, .inl (kJ, 27, .inr (.inl f12)))] sz)) (va_Qv (fun _ : Unit => True) (fun _ t => ∃ tc' : Int32, ∃ f9' : Nat → Int32, ∃ f10' : Nat → Int32, ∃ f11' : Nat → Int64, (0 ≤ tc'.toInt) ∧ (tc'.toInt ≤ 3001) ∧ (∀ j : Nat, 0 ≤ (f10' j).toInt ∧ (f10' j).toInt ≤ 3000) ∧ (1 ≤ tc'.toInt) ∧ (zAk tc f9 f10 f11 p1 p2 p3 tc' f9' f10' f11') ∧ xQ D (xT kI kJ kB kZ) (va_A [(h2, .inr (0, [.ref h9, .ref h10, .ref h11, .ref h12, .int tc, .int ta, .int td, .int tf])), (h9, .inl (kI, 3001, .inl f9)), (h10, .inl (kI, 3001, .inl f10)), (h11, .inl (kJ, 3001, .inr (.inl f11))), (h12, .inl (kJ, 27, .inr (.inl f12)))] sz) [(h2, .inr (0, [.ref h9, .ref h10, .ref h11, .ref h12, .int tc', .int ta, .int td, .int tf])), (h9, .inl (kI, 3001, .inl f9')), (h10, .inl (kI, 3001, .inl f10')), (h11, .inl (kJ, 3001, .inr (.inl f11'))), (h12, .inl (kJ, 27, .inr (.inl f12)))] t) (va_A [(h2, .inr (0, [.ref h9, .ref h10, .ref h11, .ref h12, .int tc, .int ta, .int td, .int tf])), (h9, .inl (kI, 3001, .inl f9)), (h10, .inl (kI, 3001, .inl f10)), (h11, .inl (kJ, 3001, .inr (.inl f11))), (h12, .inl (kJ, 27, .inr (.inl f12)))] sz)) 0 0 (va_A [(h2, .inr (0, [.ref h9, .ref h10, .ref h11, .ref h12, .int tc, .int ta, .int td, .int tf])), (h9, .inl (kI, 3001, .inl f9)), (h10, .inl (kI, 3001, .inl f10)), (h11, .inl (kJ, 3001, .inr (.inl f11))), (h12, .inl (kJ, 27, .inr (.inl f12)))] sz) := by
  refine Met.ofW (cc := prog_8_method_14_code) (maxL := 5) (ret := none) (by decide +kernel) rfl ?_
  intro p e s m args below meth c s₁ B hml hv
  obtain ⟨rfl, hsz, hP, hK, hD0, hE⟩ := hv
  have hx := B.exec
  have hb := B.bytes
  have hr := B.returns
  have hts : ∀ w ∈ gT, w.before _ s = true := fun w h => atoms_spec (ws := Cond.code (⟨"AlgolJudge$Tokens", "add", "(IIJ)V"⟩ : MethodName) prog_8_method_14_code 5 (none) :: gT) B.pre w (List.mem_cons_of_mem _ h)
  have hown : s.vm.findClass "AlgolJudge$Tokens" = some m.cls := findClass_of_methodNamed B.named
  have hlocks := B.notSynchronized
  subst hsz
  have hD := hD0.self (sz := s.heap.size)
  generalize hAe : va_A [(h2, .inr (0, [.ref h9, .ref h10, .ref h11, .ref h12, .int tc, .int ta, .int td, .int tf])), (h9, .inl (kI, 3001, .inl f9)), (h10, .inl (kI, 3001, .inl f10)), (h11, .inl (kJ, 3001, .inr (.inl f11))), (h12, .inl (kJ, 27, .inr (.inl f12)))] s.heap.size = A at hD hE ⊢
  have hA : ∀ q : Nat, s.heap.size ≤ q → A q := fun q h => by rw [← hAe]; exact Or.inr h
  have hS : va_S A s.heap s.heap [] := va_S.rf
  have hP : va_P D cls9 [(h2, .inr (0, [.ref h9, .ref h10, .ref h11, .ref h12, .int tc, .int ta, .int td, .int tf])), (h9, .inl (kI, 3001, .inl f9)), (h10, .inl (kI, 3001, .inl f10)), (h11, .inl (kJ, 3001, .inr (.inl f11))), (h12, .inl (kJ, 27, .inr (.inl f12)))] s.heap := hP
  have hl := lv_entry ([.ref h2, .int p1, .int p2, .long p3]) (n := 5) (Nat.le_of_ble_eq_true rfl)
  rw [lg_entry_eq]
  generalize (lg_sl ([.ref h2, .int p1, .int p2, .long p3]) ++ List.replicate (5 - (lg_sl ([.ref h2, .int p1, .int p2, .long p3])).length) Slot.unset).toArray = ls at hl ⊢
  have hl : lv_has ls 5 [(0, .ref h2), (1, .int p1), (2, .int p2), (3, .long p3)] := hl
  refine lv_aload_n hx hb d_8_14_0 rfl (lv_at hl 0 rfl) ?_
  refine va_get (D := D) (ci := 0) (v := .int tc) (C := "AlgolJudge$Tokens") (T := T_Tokens) (N := 8) hx hb hts i_Tokens hown hK hP 0 rfl rfl 4 (by decide +kernel) (hts _ m_214) (fun _ h9 => h9) rfl d_8_14_1 ?_
  refine lv_sipush (v := 3001) hx hb d_8_14_4 (by decide +kernel) ?_
  refine lv_icmp_ge (tgt := 50) hx hb d_8_14_7 (by decide +kernel) (fun c_1 => ?_) (fun c_1 => ?_)
  · skip
    have tc_1 : 3001 ≤ tc.toInt := Int32.le_iff_toInt_le.mp c_1
    have hP9 := hP.sub (ws' := [(h2, .inr (0, [.ref h9, .ref h10, .ref h11, .ref h12, .int tc, .int ta, .int td, .int tf])), (h9, .inl (kI, 3001, .inl f9)), (h10, .inl (kI, 3001, .inl f10)), (h11, .inl (kJ, 3001, .inr (.inl f11))), (h12, .inl (kJ, 27, .inr (.inl f12)))]) [0, 1, 2, 3, 4] rfl
    have hD9 := hD.sub (ws' := [(h2, .inr (0, [.ref h9, .ref h10, .ref h11, .ref h12, .int tc, .int ta, .int td, .int tf])), (h9, .inl (kI, 3001, .inl f9)), (h10, .inl (kI, 3001, .inl f10)), (h11, .inl (kJ, 3001, .inr (.inl f11))), (h12, .inl (kJ, 27, .inr (.inl f12)))]) [0, 1, 2, 3, 4] (by decide) rfl
    have hz_3 : 1 ≤ tc.toInt := (by first | assumption | omega)
    have hz_4 : zAk tc f9 f10 f11 p1 p2 p3 tc f9 f10 f11 := (fun h9 => absurd h9 (by omega))
    exact W.vret hx hb hr (fun t ht hW => ⟨⟨(), rfl, trivial, tc, f9, f10, f11, hf_C1, hf_C2, hf_T6, hz_3, hz_4, xEnd hK hP9 hD9 ht hW⟩, hS.F ht⟩) hS.2.2 d_8_14_50
  · skip
    have tc_1 : ¬ 3001 ≤ tc.toInt := fun h9 => c_1 (Int32.le_iff_toInt_le.mpr h9)
    refine lv_aload_n hx hb d_8_14_10 rfl (lv_at hl 0 rfl) ?_
    refine va_get (D := D) (ci := 0) (v := .ref h9) (C := "AlgolJudge$Tokens") (T := T_Tokens) (N := 8) hx hb hts i_Tokens hown hK hP 0 rfl rfl 0 (by decide +kernel) (hts _ m_210) (fun _ h9 => h9) rfl d_8_14_11 ?_
    refine lv_aload_n hx hb d_8_14_14 rfl (lv_at hl 0 rfl) ?_
    refine va_get (D := D) (ci := 0) (v := .int tc) (C := "AlgolJudge$Tokens") (T := T_Tokens) (N := 8) hx hb hts i_Tokens hown hK hP 0 rfl rfl 4 (by decide +kernel) (hts _ m_214) (fun _ h9 => h9) rfl d_8_14_15 ?_
    refine lv_iload_n hx hb d_8_14_18 rfl (lv_at hl 1 rfl) ?_
    refine va_iast hx hb hK hP hD hS 1 0 rfl rfl (vp_in_iff.mpr ⟨by omega, by omega⟩) d_8_14_19 (fun H locs hP1 hD1 hS1 => ?_)
    replace hP : va_P D cls9 [(h2, .inr (0, [.ref h9, .ref h10, .ref h11, .ref h12, .int tc, .int ta, .int td, .int tf])), (h9, .inl (kI, 3001, .inl (upd f9 (Int32.toNatClampNeg tc) p1))), (h10, .inl (kI, 3001, .inl f10)), (h11, .inl (kJ, 3001, .inr (.inl f11))), (h12, .inl (kJ, 27, .inr (.inl f12)))] H := hP1
    replace hD : va_D A [(h2, .inr (0, [.ref h9, .ref h10, .ref h11, .ref h12, .int tc, .int ta, .int td, .int tf])), (h9, .inl (kI, 3001, .inl (upd f9 (Int32.toNatClampNeg tc) p1))), (h10, .inl (kI, 3001, .inl f10)), (h11, .inl (kJ, 3001, .inr (.inl f11))), (h12, .inl (kJ, 27, .inr (.inl f12)))] := hD1
    replace hS := hS1
    clear hP1 hD1 hS1
    refine lv_aload_n hx hb d_8_14_20 rfl (lv_at hl 0 rfl) ?_
    refine va_get (D := D) (ci := 0) (v := .ref h10) (C := "AlgolJudge$Tokens") (T := T_Tokens) (N := 8) hx hb hts i_Tokens hown hK hP 0 rfl rfl 1 (by decide +kernel) (hts _ m_211) (fun _ h9 => h9) rfl d_8_14_21 ?_
    refine lv_aload_n hx hb d_8_14_24 rfl (lv_at hl 0 rfl) ?_
    refine va_get (D := D) (ci := 0) (v := .int tc) (C := "AlgolJudge$Tokens") (T := T_Tokens) (N := 8) hx hb hts i_Tokens hown hK hP 0 rfl rfl 4 (by decide +kernel) (hts _ m_214) (fun _ h9 => h9) rfl d_8_14_25 ?_
    refine lv_iload_n hx hb d_8_14_28 rfl (lv_at hl 2 rfl) ?_
    refine va_iast hx hb hK hP hD hS 2 0 rfl rfl (vp_in_iff.mpr ⟨by omega, by omega⟩) d_8_14_29 (fun H locs hP1 hD1 hS1 => ?_)
    replace hP : va_P D cls9 [(h2, .inr (0, [.ref h9, .ref h10, .ref h11, .ref h12, .int tc, .int ta, .int td, .int tf])), (h9, .inl (kI, 3001, .inl (upd f9 (Int32.toNatClampNeg tc) p1))), (h10, .inl (kI, 3001, .inl (upd f10 (Int32.toNatClampNeg tc) p2))), (h11, .inl (kJ, 3001, .inr (.inl f11))), (h12, .inl (kJ, 27, .inr (.inl f12)))] H := hP1
    replace hD : va_D A [(h2, .inr (0, [.ref h9, .ref h10, .ref h11, .ref h12, .int tc, .int ta, .int td, .int tf])), (h9, .inl (kI, 3001, .inl (upd f9 (Int32.toNatClampNeg tc) p1))), (h10, .inl (kI, 3001, .inl (upd f10 (Int32.toNatClampNeg tc) p2))), (h11, .inl (kJ, 3001, .inr (.inl f11))), (h12, .inl (kJ, 27, .inr (.inl f12)))] := hD1
    replace hS := hS1
    clear hP1 hD1 hS1
    refine lv_aload_n hx hb d_8_14_30 rfl (lv_at hl 0 rfl) ?_
    refine va_get (D := D) (ci := 0) (v := .ref h11) (C := "AlgolJudge$Tokens") (T := T_Tokens) (N := 8) hx hb hts i_Tokens hown hK hP 0 rfl rfl 2 (by decide +kernel) (hts _ m_212) (fun _ h9 => h9) rfl d_8_14_31 ?_
    refine lv_aload_n hx hb d_8_14_34 rfl (lv_at hl 0 rfl) ?_
    refine va_get (D := D) (ci := 0) (v := .int tc) (C := "AlgolJudge$Tokens") (T := T_Tokens) (N := 8) hx hb hts i_Tokens hown hK hP 0 rfl rfl 4 (by decide +kernel) (hts _ m_214) (fun _ h9 => h9) rfl d_8_14_35 ?_
    refine lv_lload_n hx hb d_8_14_38 rfl (lv_at hl 3 rfl) ?_
    refine va_last hx hb hK hP hD hS 3 1 rfl rfl (vp_in_iff.mpr ⟨by omega, by omega⟩) d_8_14_39 (fun H locs hP1 hD1 hS1 => ?_)
    replace hP : va_P D cls9 [(h2, .inr (0, [.ref h9, .ref h10, .ref h11, .ref h12, .int tc, .int ta, .int td, .int tf])), (h9, .inl (kI, 3001, .inl (upd f9 (Int32.toNatClampNeg tc) p1))), (h10, .inl (kI, 3001, .inl (upd f10 (Int32.toNatClampNeg tc) p2))), (h11, .inl (kJ, 3001, .inr (.inl (vp_updL f11 (Int32.toNatClampNeg tc) p3)))), (h12, .inl (kJ, 27, .inr (.inl f12)))] H := hP1
    replace hD : va_D A [(h2, .inr (0, [.ref h9, .ref h10, .ref h11, .ref h12, .int tc, .int ta, .int td, .int tf])), (h9, .inl (kI, 3001, .inl (upd f9 (Int32.toNatClampNeg tc) p1))), (h10, .inl (kI, 3001, .inl (upd f10 (Int32.toNatClampNeg tc) p2))), (h11, .inl (kJ, 3001, .inr (.inl (vp_updL f11 (Int32.toNatClampNeg tc) p3)))), (h12, .inl (kJ, 27, .inr (.inl f12)))] := hD1
    replace hS := hS1
    clear hP1 hD1 hS1
    refine lv_aload_n hx hb d_8_14_40 rfl (lv_at hl 0 rfl) ?_
    refine lv_dup hx hb d_8_14_41 rfl ?_
    refine va_get (D := D) (ci := 0) (v := .int tc) (C := "AlgolJudge$Tokens") (T := T_Tokens) (N := 8) hx hb hts i_Tokens hown hK hP 0 rfl rfl 4 (by decide +kernel) (hts _ m_214) (fun _ h9 => h9) rfl d_8_14_42 ?_
    refine lv_iconst (v := 1) hx hb d_8_14_45 (by decide +kernel) ?_
    refine lv_iadd hx hb d_8_14_46 ?_
    refine lv_topi (fun y_2 ey_2 => ?_)
    have ty_2 : y_2.toInt = tc.toInt + 1 := by rw [ey_2]; exact zaddc (by decide +kernel) (by omega) (by omega)
    refine va_put (D := D) (ci := 0) (v := .int y_2) (ty := .int) (C := "AlgolJudge$Tokens") (T := T_Tokens) (N := 8) hx hb hts i_Tokens t_Tokens t_Tokens_ok n_Tokens hown hK hP hD hS 0 rfl rfl 4 (by decide +kernel) (hts _ m_214) (fun _ h9 => h9) rfl (by decide +kernel) rfl rfl (Nat.le_of_ble_eq_true rfl) d_8_14_47 (fun H locs hP1 hD1 hS1 => ?_)
    replace hP : va_P D cls9 [(h2, .inr (0, [.ref h9, .ref h10, .ref h11, .ref h12, .int y_2, .int ta, .int td, .int tf])), (h9, .inl (kI, 3001, .inl (upd f9 (Int32.toNatClampNeg tc) p1))), (h10, .inl (kI, 3001, .inl (upd f10 (Int32.toNatClampNeg tc) p2))), (h11, .inl (kJ, 3001, .inr (.inl (vp_updL f11 (Int32.toNatClampNeg tc) p3)))), (h12, .inl (kJ, 27, .inr (.inl f12)))] H := hP1
    replace hD : va_D A [(h2, .inr (0, [.ref h9, .ref h10, .ref h11, .ref h12, .int y_2, .int ta, .int td, .int tf])), (h9, .inl (kI, 3001, .inl (upd f9 (Int32.toNatClampNeg tc) p1))), (h10, .inl (kI, 3001, .inl (upd f10 (Int32.toNatClampNeg tc) p2))), (h11, .inl (kJ, 3001, .inr (.inl (vp_updL f11 (Int32.toNatClampNeg tc) p3)))), (h12, .inl (kJ, 27, .inr (.inl f12)))] := hD1
    replace hS := hS1
    clear hP1 hD1 hS1
    have hP9 := hP.sub (ws' := [(h2, .inr (0, [.ref h9, .ref h10, .ref h11, .ref h12, .int y_2, .int ta, .int td, .int tf])), (h9, .inl (kI, 3001, .inl (upd f9 (Int32.toNatClampNeg tc) p1))), (h10, .inl (kI, 3001, .inl (upd f10 (Int32.toNatClampNeg tc) p2))), (h11, .inl (kJ, 3001, .inr (.inl (vp_updL f11 (Int32.toNatClampNeg tc) p3)))), (h12, .inl (kJ, 27, .inr (.inl f12)))]) [0, 1, 2, 3, 4] rfl
    have hD9 := hD.sub (ws' := [(h2, .inr (0, [.ref h9, .ref h10, .ref h11, .ref h12, .int y_2, .int ta, .int td, .int tf])), (h9, .inl (kI, 3001, .inl (upd f9 (Int32.toNatClampNeg tc) p1))), (h10, .inl (kI, 3001, .inl (upd f10 (Int32.toNatClampNeg tc) p2))), (h11, .inl (kJ, 3001, .inr (.inl (vp_updL f11 (Int32.toNatClampNeg tc) p3)))), (h12, .inl (kJ, 27, .inr (.inl f12)))]) [0, 1, 2, 3, 4] (by decide) rfl
    have hz_0 : 0 ≤ y_2.toInt := (by first | assumption | omega)
    have hz_1 : y_2.toInt ≤ 3001 := (by first | assumption | omega)
    have hz_2 : ∀ j : Nat, 0 ≤ ((upd f10 (Int32.toNatClampNeg tc) p2) j).toInt ∧ ((upd f10 (Int32.toNatClampNeg tc) p2) j).toInt ≤ 3000 := (by first | assumption | exact zplb (by assumption) (by omega))
    have hz_3 : 1 ≤ y_2.toInt := (by first | assumption | omega)
    have hz_4 : zAk tc f9 f10 f11 p1 p2 p3 y_2 (upd f9 (Int32.toNatClampNeg tc) p1) (upd f10 (Int32.toNatClampNeg tc) p2) (vp_updL f11 (Int32.toNatClampNeg tc) p3) := (fun _ => ⟨by omega, rfl, rfl, rfl⟩)
    exact W.vret hx hb hr (fun t ht hW => ⟨⟨(), rfl, trivial, y_2, (upd f9 (Int32.toNatClampNeg tc) p1), (upd f10 (Int32.toNatClampNeg tc) p2), (vp_updL f11 (Int32.toNatClampNeg tc) p3), hz_0, hz_1, hz_2, hz_3, hz_4, xEnd hK hP9 hD9 ht hW⟩, hS.F ht⟩) hS.2.2 d_8_14_50
set_option maxHeartbeats 8000000 in
set_option maxRecDepth 100000 in
theorem g_Tokens_kindOfWord (l : Launch) (D : va_G) (kI kJ kB kZ : ClassId) (sz : Nat) (h2 : Nat) (h9 : Nat) (h10 : Nat) (h11 : Nat) (h12 : Nat) (tc : Int32) (ta : Int32) (td : Int32) (tf : Int32) (f9 : Nat → Int32) (f10 : Nat → Int32) (f11 : Nat → Int64) (f12 : Nat → Int64) (p1 : Int64) (p2 : Int32) (hf_C1 : 0 ≤ tc.toInt) (hf_C2 : tc.toInt ≤ 3001) (hf_T6 : ∀ j : Nat, 0 ≤ (f10 j).toInt ∧ (f10 j).toInt ≤ 3000) (hf_WK : wK f12) : Met l (⟨"AlgolJudge$Tokens", "kindOfWord", "(JI)I"⟩ : MethodName) (Cond.code (⟨"AlgolJudge$Tokens", "kindOfWord", "(JI)I"⟩ : MethodName) prog_8_method_6_code 5 (some .int) :: gT) ({ frames := 0, cells := 0, slots := 0, locals := 0 }) (va_Pc [.ref h2, .long p1, .int p2] (xP D (xT kI kJ kB kZ) xN [(h2, .inr (0, [.ref h9, .ref h10, .ref h11, .ref h12, .int tc, .int ta, .int td, .int tf])), (h9, .inl (kI, 3001, .inl f9)), (h10, .inl (kI, 3001, .inl f10)), (h11, .inl (kJ, 3001, .inr (.inl f11))), (h12, .inl (kJ, 27, .inr (.inl f12)))] sz)) (va_Qi (fun (r : Int32) (u : Int32) => r = u ∧ (True)) (fun u t => (kWd p1.toInt p2.toInt = u.toInt) ∧ xQ D (xT kI kJ kB kZ) (va_A [(h2, .inr (0, [.ref h9, .ref h10, .ref h11, .ref h12, .int tc, .int ta, .int td, .int tf])), (h9, .inl (kI, 3001, .inl f9)), (h10, .inl (kI, 3001, .inl f10)), (h11, .inl (kJ, 3001, .inr (.inl f11))), (h12, .inl (kJ, 27, .inr (.inl f12)))] sz) [(h2, .inr (0, [.ref h9, .ref h10, .ref h11, .ref h12, .int tc, .int ta, .int td, .int tf])), (h9, .inl (kI, 3001, .inl f9)), (h10, .inl (kI, 3001, .inl f10)), (h11, .inl (kJ, 3001, .inr (.inl f11))), (h12, .inl (kJ, 27, .inr (.inl f12)))] t) (va_A [(h2, .inr (0, [.ref h9, .ref h10, .ref h11, .ref h12, .int tc, .int ta, .int td, .int tf])), (h9, .inl (kI, 3001, .inl f9)), (h10, .inl (kI, 3001, .inl f10)), (h11, .inl (kJ, 3001, .inr (.inl f11))), (h12, .inl (kJ, 27, .inr (.inl f12)))] sz)) 0 0 (va_A [(h2, .inr (0, [.ref h9, .ref h10, .ref h11, .ref h12, .int tc, .int ta, .int td, .int tf])), (h9, .inl (kI, 3001, .inl f9)), (h10, .inl (kI, 3001, .inl f10)), (h11, .inl (kJ, 3001, .inr (.inl f11))), (h12, .inl (kJ, 27, .inr (.inl f12)))] sz) := by
  refine Met.ofW (cc := prog_8_method_6_code) (maxL := 5) (ret := some .int) (by decide +kernel) rfl ?_
  intro p e s m args below meth c s₁ B hml hv
  obtain ⟨rfl, hsz, hP, hK, hD0, hE⟩ := hv
  have hx := B.exec
  have hb := B.bytes
  have hr := B.returns
  have hts : ∀ w ∈ gT, w.before _ s = true := fun w h => atoms_spec (ws := Cond.code (⟨"AlgolJudge$Tokens", "kindOfWord", "(JI)I"⟩ : MethodName) prog_8_method_6_code 5 (some .int) :: gT) B.pre w (List.mem_cons_of_mem _ h)
  have hown : s.vm.findClass "AlgolJudge$Tokens" = some m.cls := findClass_of_methodNamed B.named
  have hlocks := B.notSynchronized
  subst hsz
  have hD := hD0.self (sz := s.heap.size)
  generalize hAe : va_A [(h2, .inr (0, [.ref h9, .ref h10, .ref h11, .ref h12, .int tc, .int ta, .int td, .int tf])), (h9, .inl (kI, 3001, .inl f9)), (h10, .inl (kI, 3001, .inl f10)), (h11, .inl (kJ, 3001, .inr (.inl f11))), (h12, .inl (kJ, 27, .inr (.inl f12)))] s.heap.size = A at hD hE ⊢
  have hA : ∀ q : Nat, s.heap.size ≤ q → A q := fun q h => by rw [← hAe]; exact Or.inr h
  have hS : va_S A s.heap s.heap [] := va_S.rf
  have hP : va_P D cls9 [(h2, .inr (0, [.ref h9, .ref h10, .ref h11, .ref h12, .int tc, .int ta, .int td, .int tf])), (h9, .inl (kI, 3001, .inl f9)), (h10, .inl (kI, 3001, .inl f10)), (h11, .inl (kJ, 3001, .inr (.inl f11))), (h12, .inl (kJ, 27, .inr (.inl f12)))] s.heap := hP
  have hl := lv_entry ([.ref h2, .long p1, .int p2]) (n := 5) (Nat.le_of_ble_eq_true rfl)
  rw [lg_entry_eq]
  generalize (lg_sl ([.ref h2, .long p1, .int p2]) ++ List.replicate (5 - (lg_sl ([.ref h2, .long p1, .int p2])).length) Slot.unset).toArray = ls at hl ⊢
  have hl : lv_has ls 5 [(0, .ref h2), (1, .long p1), (3, .int p2)] := hl
  refine lv_iload_n hx hb d_8_6_0 rfl (lv_at hl 2 rfl) ?_
  refine lv_bipush (v := 9) hx hb d_8_6_1 (by decide +kernel) ?_
  refine lv_icmp_le (tgt := 8) hx hb d_8_6_3 (by decide +kernel) (fun c_1 => ?_) (fun c_1 => ?_)
  · skip
    have tc_1 : p2.toInt ≤ 9 := Int32.le_iff_toInt_le.mp c_1
    refine lv_iconst (v := 1) hx hb d_8_6_8 (by decide +kernel) ?_
    refine lv_istore (lv' := [(4, .int 1), (0, .ref h2), (1, .long p1), (3, .int p2)]) hx hb d_8_6_9 hl (by decide +kernel) rfl (fun ls hl => ?_)
    refine xLoop (I := fun n H locs ls => ∃ v11_4 : Int32, (1 ≤ v11_4.toInt) ∧ (v11_4.toInt ≤ 27) ∧ (wFd p1.toInt wTb 1 = wFd p1.toInt (wTb.drop (v11_4.toInt - 1).toNat) v11_4.toInt) ∧ n = (27 - v11_4.toInt).toNat ∧ va_P D cls9 [(h2, .inr (0, [.ref h9, .ref h10, .ref h11, .ref h12, .int tc, .int ta, .int td, .int tf])), (h9, .inl (kI, 3001, .inl f9)), (h10, .inl (kI, 3001, .inl f10)), (h11, .inl (kJ, 3001, .inr (.inl f11))), (h12, .inl (kJ, 27, .inr (.inl f12)))] H ∧ va_D A [(h2, .inr (0, [.ref h9, .ref h10, .ref h11, .ref h12, .int tc, .int ta, .int td, .int tf])), (h9, .inl (kI, 3001, .inl f9)), (h10, .inl (kI, 3001, .inl f10)), (h11, .inl (kJ, 3001, .inr (.inl f11))), (h12, .inl (kJ, 27, .inr (.inl f12)))] ∧ va_S A s.heap H locs ∧ lv_has ls 5 [(4, .int v11_4), (0, .ref h2), (1, .long p1), (3, .int p2)]) ?_ _ _ _ _ ⟨1, (show 1 ≤ (1 : Int) from (by first | assumption | omega)), (show (1 : Int) ≤ 27 from (by first | assumption | omega)), (show wFd p1.toInt wTb 1 = wFd p1.toInt (wTb.drop ((1 : Int) - 1).toNat) (1 : Int) from rfl), rfl, hP.sub (ws' := [(h2, .inr (0, [.ref h9, .ref h10, .ref h11, .ref h12, .int tc, .int ta, .int td, .int tf])), (h9, .inl (kI, 3001, .inl f9)), (h10, .inl (kI, 3001, .inl f10)), (h11, .inl (kJ, 3001, .inr (.inl f11))), (h12, .inl (kJ, 27, .inr (.inl f12)))]) [0, 1, 2, 3, 4] rfl, hD.sub (ws' := [(h2, .inr (0, [.ref h9, .ref h10, .ref h11, .ref h12, .int tc, .int ta, .int td, .int tf])), (h9, .inl (kI, 3001, .inl f9)), (h10, .inl (kI, 3001, .inl f10)), (h11, .inl (kJ, 3001, .inr (.inl f11))), (h12, .inl (kJ, 27, .inr (.inl f12)))]) [0, 1, 2, 3, 4] (by decide) rfl, hS, lv_sub hl [0, 1, 2, 3] rfl⟩
    intro n_5 H locs ls hI9 ih_6
    revert hI9
    refine exI fun v11_4 => anI fun hl_2 => anI fun hl_3 => anI fun hl_4 => anI fun hn_5 => anI fun hP => anI fun hD => anI fun hS => fun hl => ?_
    refine lv_iload hx hb d_8_6_11 (lv_at hl 0 rfl) ?_
    refine lv_bipush (v := 26) hx hb d_8_6_13 (by decide +kernel) ?_
    refine lv_icmp_gt (tgt := 39) hx hb d_8_6_15 (by decide +kernel) (fun c_7 => ?_) (fun c_7 => ?_)
    · skip
      have tc_7 : 26 < v11_4.toInt := Int32.lt_iff_toInt_lt.mp c_7
      refine lv_iload_n hx hb d_8_6_39 rfl (lv_at hl 3 rfl) ?_
      refine lv_bipush (v := 8) hx hb d_8_6_40 (by decide +kernel) ?_
      refine lv_icmp_le (tgt := 49) hx hb d_8_6_42 (by decide +kernel) (fun c_8 => ?_) (fun c_8 => ?_)
      · skip
        have tc_8 : p2.toInt ≤ 8 := Int32.le_iff_toInt_le.mp c_8
        refine lv_bipush (v := 27) hx hb d_8_6_49 (by decide +kernel) ?_
        have hP9 := hP.sub (ws' := [(h2, .inr (0, [.ref h9, .ref h10, .ref h11, .ref h12, .int tc, .int ta, .int td, .int tf])), (h9, .inl (kI, 3001, .inl f9)), (h10, .inl (kI, 3001, .inl f10)), (h11, .inl (kJ, 3001, .inr (.inl f11))), (h12, .inl (kJ, 27, .inr (.inl f12)))]) [0, 1, 2, 3, 4] rfl
        have hD9 := hD.sub (ws' := [(h2, .inr (0, [.ref h9, .ref h10, .ref h11, .ref h12, .int tc, .int ta, .int td, .int tf])), (h9, .inl (kI, 3001, .inl f9)), (h10, .inl (kI, 3001, .inl f10)), (h11, .inl (kJ, 3001, .inr (.inl f11))), (h12, .inl (kJ, 27, .inr (.inl f12)))]) [0, 1, 2, 3, 4] (by decide) rfl
        have hz_0 : kWd p1.toInt p2.toInt = (27 : Int) := (kW_n (by omega) (hl_4.trans (wD_n (by omega) (by omega))) (by omega))
        exact W.iret (v := 27) hx hb hr (fun t ht hW => ⟨⟨27, 27, rfl, ⟨rfl, trivial⟩, hz_0, xEnd hK hP9 hD9 ht hW⟩, hS.F ht⟩) hS.2.2 d_8_6_51
      · skip
        have tc_8 : ¬ p2.toInt ≤ 8 := fun h9 => c_8 (Int32.le_iff_toInt_le.mpr h9)
        refine lv_iconst (v := (-1)) hx hb d_8_6_45 (by decide +kernel) ?_
        refine lv_goto (tgt := 51) hx hb d_8_6_46 (by decide +kernel) ?_
        have hP9 := hP.sub (ws' := [(h2, .inr (0, [.ref h9, .ref h10, .ref h11, .ref h12, .int tc, .int ta, .int td, .int tf])), (h9, .inl (kI, 3001, .inl f9)), (h10, .inl (kI, 3001, .inl f10)), (h11, .inl (kJ, 3001, .inr (.inl f11))), (h12, .inl (kJ, 27, .inr (.inl f12)))]) [0, 1, 2, 3, 4] rfl
        have hD9 := hD.sub (ws' := [(h2, .inr (0, [.ref h9, .ref h10, .ref h11, .ref h12, .int tc, .int ta, .int td, .int tf])), (h9, .inl (kI, 3001, .inl f9)), (h10, .inl (kI, 3001, .inl f10)), (h11, .inl (kJ, 3001, .inr (.inl f11))), (h12, .inl (kJ, 27, .inr (.inl f12)))]) [0, 1, 2, 3, 4] (by decide) rfl
        have hz_0 : kWd p1.toInt p2.toInt = ((-1) : Int) := (kW_b (by omega) (hl_4.trans (wD_n (by omega) (by omega))) (by omega))
        exact W.iret (v := (-1)) hx hb hr (fun t ht hW => ⟨⟨(-1), (-1), rfl, ⟨rfl, trivial⟩, hz_0, xEnd hK hP9 hD9 ht hW⟩, hS.F ht⟩) hS.2.2 d_8_6_51
    · skip
      have tc_7 : ¬ 26 < v11_4.toInt := fun h9 => c_7 (Int32.lt_iff_toInt_lt.mpr h9)
      refine lv_aload_n hx hb d_8_6_18 rfl (lv_at hl 1 rfl) ?_
      refine va_get (D := D) (ci := 0) (v := .ref h12) (C := "AlgolJudge$Tokens") (T := T_Tokens) (N := 8) hx hb hts i_Tokens hown hK hP 0 rfl rfl 3 (by decide +kernel) (hts _ m_213) (fun _ h9 => h9) rfl d_8_6_19 ?_
      refine lv_iload hx hb d_8_6_22 (lv_at hl 0 rfl) ?_
      refine va_lald hx hb hK hP 4 1 rfl rfl (vp_in_iff.mpr ⟨by omega, by omega⟩) d_8_6_24 ?_
      refine lv_topl (fun z_9 ez_9 => ?_)
      refine lv_lload_n hx hb d_8_6_25 rfl (lv_at hl 2 rfl) ?_
      refine W.lcmp hx hb d_8_6_26 ?_
      refine lv_if_ne (tgt := 33) hx hb d_8_6_27 (by decide +kernel) (fun c_10 => ?_) (fun c_10 => ?_)
      · skip
        have tc_10 : ¬ (lg_cmp z_9 p1).toInt = 0 := fun h9 => c_10 (Int32.toInt_inj.mp h9)
        obtain ⟨y_11, ey_11⟩ : ∃ y : Int32, y = v11_4 + 1 := ⟨_, rfl⟩
        have ty_11 : y_11.toInt = v11_4.toInt + 1 := by rw [ey_11]; exact zaddc (by decide +kernel) (by omega) (by omega)
        refine lv_iinc (v := y_11) (lv' := [(4, .int y_11), (0, .ref h2), (1, .long p1), (3, .int p2)]) hx hb d_8_6_33 hl (k := 0) rfl (by rw [ey_11]; rfl) (by decide +kernel) rfl (fun ls hl => ?_)
        refine lv_goto (tgt := 11) hx hb d_8_6_36 (by decide +kernel) ?_
        exact ih_6 _ _ _ _ (by omega) ⟨y_11, (show 1 ≤ y_11.toInt from (by first | assumption | omega)), (show y_11.toInt ≤ 27 from (by first | assumption | omega)), (show wFd p1.toInt wTb 1 = wFd p1.toInt (wTb.drop (y_11.toInt - 1).toNat) y_11.toInt from (hl_4.trans (wD_s hf_WK ez_9 (by omega) (by omega) (lc_n c_10) (by omega)))), rfl, hP.sub (ws' := [(h2, .inr (0, [.ref h9, .ref h10, .ref h11, .ref h12, .int tc, .int ta, .int td, .int tf])), (h9, .inl (kI, 3001, .inl f9)), (h10, .inl (kI, 3001, .inl f10)), (h11, .inl (kJ, 3001, .inr (.inl f11))), (h12, .inl (kJ, 27, .inr (.inl f12)))]) [0, 1, 2, 3, 4] rfl, hD.sub (ws' := [(h2, .inr (0, [.ref h9, .ref h10, .ref h11, .ref h12, .int tc, .int ta, .int td, .int tf])), (h9, .inl (kI, 3001, .inl f9)), (h10, .inl (kI, 3001, .inl f10)), (h11, .inl (kJ, 3001, .inr (.inl f11))), (h12, .inl (kJ, 27, .inr (.inl f12)))]) [0, 1, 2, 3, 4] (by decide) rfl, hS, lv_sub hl [0, 1, 2, 3] rfl⟩
      · skip
        have tc_10 : (lg_cmp z_9 p1).toInt = 0 := congrArg Int32.toInt c_10
        refine lv_iload hx hb d_8_6_30 (lv_at hl 0 rfl) ?_
        have hP9 := hP.sub (ws' := [(h2, .inr (0, [.ref h9, .ref h10, .ref h11, .ref h12, .int tc, .int ta, .int td, .int tf])), (h9, .inl (kI, 3001, .inl f9)), (h10, .inl (kI, 3001, .inl f10)), (h11, .inl (kJ, 3001, .inr (.inl f11))), (h12, .inl (kJ, 27, .inr (.inl f12)))]) [0, 1, 2, 3, 4] rfl
        have hD9 := hD.sub (ws' := [(h2, .inr (0, [.ref h9, .ref h10, .ref h11, .ref h12, .int tc, .int ta, .int td, .int tf])), (h9, .inl (kI, 3001, .inl f9)), (h10, .inl (kI, 3001, .inl f10)), (h11, .inl (kJ, 3001, .inr (.inl f11))), (h12, .inl (kJ, 27, .inr (.inl f12)))]) [0, 1, 2, 3, 4] (by decide) rfl
        have hz_0 : kWd p1.toInt p2.toInt = v11_4.toInt := (kW_f (by omega) (hl_4.trans (wD_f hf_WK ez_9 (by omega) (by omega) (lc_e c_10))) (by omega))
        exact W.iret (v := v11_4) hx hb hr (fun t ht hW => ⟨⟨v11_4, v11_4, rfl, ⟨rfl, trivial⟩, hz_0, xEnd hK hP9 hD9 ht hW⟩, hS.F ht⟩) hS.2.2 d_8_6_32
  · skip
    have tc_1 : ¬ p2.toInt ≤ 9 := fun h9 => c_1 (Int32.le_iff_toInt_le.mpr h9)
    refine lv_iconst (v := (-1)) hx hb d_8_6_6 (by decide +kernel) ?_
    have hP9 := hP.sub (ws' := [(h2, .inr (0, [.ref h9, .ref h10, .ref h11, .ref h12, .int tc, .int ta, .int td, .int tf])), (h9, .inl (kI, 3001, .inl f9)), (h10, .inl (kI, 3001, .inl f10)), (h11, .inl (kJ, 3001, .inr (.inl f11))), (h12, .inl (kJ, 27, .inr (.inl f12)))]) [0, 1, 2, 3, 4] rfl
    have hD9 := hD.sub (ws' := [(h2, .inr (0, [.ref h9, .ref h10, .ref h11, .ref h12, .int tc, .int ta, .int td, .int tf])), (h9, .inl (kI, 3001, .inl f9)), (h10, .inl (kI, 3001, .inl f10)), (h11, .inl (kJ, 3001, .inr (.inl f11))), (h12, .inl (kJ, 27, .inr (.inl f12)))]) [0, 1, 2, 3, 4] (by decide) rfl
    have hz_0 : kWd p1.toInt p2.toInt = ((-1) : Int) := (by unfold kWd; exact if_pos (by omega))
    exact W.iret (v := (-1)) hx hb hr (fun t ht hW => ⟨⟨(-1), (-1), rfl, ⟨rfl, trivial⟩, hz_0, xEnd hK hP9 hD9 ht hW⟩, hS.F ht⟩) hS.2.2 d_8_6_7
set_option maxHeartbeats 8000000 in
set_option maxRecDepth 100000 in
theorem g_Tokens_scanWord (l : Launch) (D : va_G) (kI kJ kB kZ : ClassId) (sz : Nat) (h1 : Nat) (h2 : Nat) (h9 : Nat) (h10 : Nat) (h11 : Nat) (h12 : Nat) (tc : Int32) (ta : Int32) (td : Int32) (tf : Int32) (f9 : Nat → Int32) (f10 : Nat → Int32) (f11 : Nat → Int64) (f12 : Nat → Int64) (f1 : Nat → Int32) (p2 : Int32) (p3 : Int32) (hf_C1 : 0 ≤ tc.toInt) (hf_C2 : tc.toInt ≤ 3001) (hf_T6 : ∀ j : Nat, 0 ≤ (f10 j).toInt ∧ (f10 j).toInt ≤ 3000) (hf_WK : wK f12) (hf_BR : bR f1) (hq_0 : 0 ≤ p3.toInt) (hq_1 : p3.toInt < p2.toInt) (hq_2 : p2.toInt ≤ 3000) (hq_3 : tc.toInt ≤ p3.toInt) : Met l (⟨"AlgolJudge$Tokens", "scanWord", "([BII)I"⟩ : MethodName) (Cond.code (⟨"AlgolJudge$Tokens", "scanWord", "([BII)I"⟩ : MethodName) prog_8_method_5_code 7 (some .int) :: gT) ({ frames := 2, cells := 0, slots := 0, locals := 42 }) (va_Pc [.ref h2, .ref h1, .int p2, .int p3] (xP D (xT kI kJ kB kZ) xN [(h2, .inr (0, [.ref h9, .ref h10, .ref h11, .ref h12, .int tc, .int ta, .int td, .int tf])), (h9, .inl (kI, 3001, .inl f9)), (h10, .inl (kI, 3001, .inl f10)), (h11, .inl (kJ, 3001, .inr (.inl f11))), (h12, .inl (kJ, 27, .inr (.inl f12))), (h1, .inl (kB, 3000, .inl f1))] sz)) (va_Qi (fun (r : Int32) (u : Int32) => r = u ∧ (0 ≤ r.toInt)) (fun u t => ∃ tc' : Int32, ∃ f9' : Nat → Int32, ∃ f10' : Nat → Int32, ∃ f11' : Nat → Int64, (0 ≤ tc'.toInt) ∧ (tc'.toInt ≤ 3001) ∧ (∀ j : Nat, 0 ≤ (f10' j).toInt ∧ (f10' j).toInt ≤ 3000) ∧ (tWd (tB f1) p2.toInt p3.toInt tc f9 f10 f11 tc' f9' f10' f11' u.toInt) ∧ xQ D (xT kI kJ kB kZ) (va_A [(h2, .inr (0, [.ref h9, .ref h10, .ref h11, .ref h12, .int tc, .int ta, .int td, .int tf])), (h9, .inl (kI, 3001, .inl f9)), (h10, .inl (kI, 3001, .inl f10)), (h11, .inl (kJ, 3001, .inr (.inl f11))), (h12, .inl (kJ, 27, .inr (.inl f12))), (h1, .inl (kB, 3000, .inl f1))] sz) [(h2, .inr (0, [.ref h9, .ref h10, .ref h11, .ref h12, .int tc', .int ta, .int td, .int tf])), (h9, .inl (kI, 3001, .inl f9')), (h10, .inl (kI, 3001, .inl f10')), (h11, .inl (kJ, 3001, .inr (.inl f11'))), (h12, .inl (kJ, 27, .inr (.inl f12))), (h1, .inl (kB, 3000, .inl f1))] t) (va_A [(h2, .inr (0, [.ref h9, .ref h10, .ref h11, .ref h12, .int tc, .int ta, .int td, .int tf])), (h9, .inl (kI, 3001, .inl f9)), (h10, .inl (kI, 3001, .inl f10)), (h11, .inl (kJ, 3001, .inr (.inl f11))), (h12, .inl (kJ, 27, .inr (.inl f12))), (h1, .inl (kB, 3000, .inl f1))] sz)) 0 0 (va_A [(h2, .inr (0, [.ref h9, .ref h10, .ref h11, .ref h12, .int tc, .int ta, .int td, .int tf])), (h9, .inl (kI, 3001, .inl f9)), (h10, .inl (kI, 3001, .inl f10)), (h11, .inl (kJ, 3001, .inr (.inl f11))), (h12, .inl (kJ, 27, .inr (.inl f12))), (h1, .inl (kB, 3000, .inl f1))] sz) := by
  refine Met.ofW (cc := prog_8_method_5_code) (maxL := 7) (ret := some .int) (by decide +kernel) rfl ?_
  intro p e s m args below meth c s₁ B hml hv
  obtain ⟨rfl, hsz, hP, hK, hD0, hE⟩ := hv
  have hx := B.exec
  have hb := B.bytes
  have hr := B.returns
  have hts : ∀ w ∈ gT, w.before _ s = true := fun w h => atoms_spec (ws := Cond.code (⟨"AlgolJudge$Tokens", "scanWord", "([BII)I"⟩ : MethodName) prog_8_method_5_code 7 (some .int) :: gT) B.pre w (List.mem_cons_of_mem _ h)
  have hown : s.vm.findClass "AlgolJudge$Tokens" = some m.cls := findClass_of_methodNamed B.named
  have hlocks := B.notSynchronized
  subst hsz
  have hD := hD0.self (sz := s.heap.size)
  generalize hAe : va_A [(h2, .inr (0, [.ref h9, .ref h10, .ref h11, .ref h12, .int tc, .int ta, .int td, .int tf])), (h9, .inl (kI, 3001, .inl f9)), (h10, .inl (kI, 3001, .inl f10)), (h11, .inl (kJ, 3001, .inr (.inl f11))), (h12, .inl (kJ, 27, .inr (.inl f12))), (h1, .inl (kB, 3000, .inl f1))] s.heap.size = A at hD hE ⊢
  have hA : ∀ q : Nat, s.heap.size ≤ q → A q := fun q h => by rw [← hAe]; exact Or.inr h
  have hS : va_S A s.heap s.heap [] := va_S.rf
  have hP : va_P D cls9 [(h2, .inr (0, [.ref h9, .ref h10, .ref h11, .ref h12, .int tc, .int ta, .int td, .int tf])), (h9, .inl (kI, 3001, .inl f9)), (h10, .inl (kI, 3001, .inl f10)), (h11, .inl (kJ, 3001, .inr (.inl f11))), (h12, .inl (kJ, 27, .inr (.inl f12))), (h1, .inl (kB, 3000, .inl f1))] s.heap := hP
  have hl := lv_entry ([.ref h2, .ref h1, .int p2, .int p3]) (n := 7) (Nat.le_of_ble_eq_true rfl)
  rw [lg_entry_eq]
  generalize (lg_sl ([.ref h2, .ref h1, .int p2, .int p3]) ++ List.replicate (7 - (lg_sl ([.ref h2, .ref h1, .int p2, .int p3])).length) Slot.unset).toArray = ls at hl ⊢
  have hl : lv_has ls 7 [(0, .ref h2), (1, .ref h1), (2, .int p2), (3, .int p3)] := hl
  refine lv_lconst (v := 0) hx hb d_8_5_0 (by decide +kernel) ?_
  refine lv_lstore (lv' := [(4, .long 0), (0, .ref h2), (1, .ref h1), (2, .int p2), (3, .int p3)]) hx hb d_8_5_1 hl (by decide +kernel) rfl (fun ls hl => ?_)
  refine lv_iload_n hx hb d_8_5_3 rfl (lv_at hl 4 rfl) ?_
  refine lv_istore (lv' := [(6, .int p3), (4, .long 0), (0, .ref h2), (1, .ref h1), (2, .int p2), (3, .int p3)]) hx hb d_8_5_4 hl (by decide +kernel) rfl (fun ls hl => ?_)
  refine xLoop (I := fun n H locs ls => ∃ v6_6 : Int32, ∃ v6_4 : Int64, (p3.toInt ≤ v6_6.toInt) ∧ (v6_6.toInt ≤ p2.toInt) ∧ (wIv (tB f1) p2.toInt p3.toInt v6_6.toInt v6_4.toInt) ∧ n = (p2.toInt - v6_6.toInt).toNat ∧ va_P D cls9 [(h2, .inr (0, [.ref h9, .ref h10, .ref h11, .ref h12, .int tc, .int ta, .int td, .int tf])), (h9, .inl (kI, 3001, .inl f9)), (h10, .inl (kI, 3001, .inl f10)), (h11, .inl (kJ, 3001, .inr (.inl f11))), (h12, .inl (kJ, 27, .inr (.inl f12))), (h1, .inl (kB, 3000, .inl f1))] H ∧ va_D A [(h2, .inr (0, [.ref h9, .ref h10, .ref h11, .ref h12, .int tc, .int ta, .int td, .int tf])), (h9, .inl (kI, 3001, .inl f9)), (h10, .inl (kI, 3001, .inl f10)), (h11, .inl (kJ, 3001, .inr (.inl f11))), (h12, .inl (kJ, 27, .inr (.inl f12))), (h1, .inl (kB, 3000, .inl f1))] ∧ va_S A s.heap H locs ∧ lv_has ls 7 [(6, .int v6_6), (4, .long v6_4), (0, .ref h2), (1, .ref h1), (2, .int p2), (3, .int p3)]) ?_ _ _ _ _ ⟨p3, 0, (show p3.toInt ≤ p3.toInt from (by first | assumption | omega)), (show p3.toInt ≤ p2.toInt from (by first | assumption | omega)), (show wIv (tB f1) p2.toInt p3.toInt p3.toInt (0 : Int) from (by exact wV_0)), rfl, hP.sub (ws' := [(h2, .inr (0, [.ref h9, .ref h10, .ref h11, .ref h12, .int tc, .int ta, .int td, .int tf])), (h9, .inl (kI, 3001, .inl f9)), (h10, .inl (kI, 3001, .inl f10)), (h11, .inl (kJ, 3001, .inr (.inl f11))), (h12, .inl (kJ, 27, .inr (.inl f12))), (h1, .inl (kB, 3000, .inl f1))]) [0, 1, 2, 3, 4, 5] rfl, hD.sub (ws' := [(h2, .inr (0, [.ref h9, .ref h10, .ref h11, .ref h12, .int tc, .int ta, .int td, .int tf])), (h9, .inl (kI, 3001, .inl f9)), (h10, .inl (kI, 3001, .inl f10)), (h11, .inl (kJ, 3001, .inr (.inl f11))), (h12, .inl (kJ, 27, .inr (.inl f12))), (h1, .inl (kB, 3000, .inl f1))]) [0, 1, 2, 3, 4, 5] (by decide) rfl, hS, lv_sub hl [0, 1, 2, 3, 4, 5] rfl⟩
  intro n_4 H locs ls hI9 ih_5
  revert hI9
  refine exI fun v6_6 => exI fun v6_4 => anI fun hl_1 => anI fun hl_2 => anI fun hl_3 => anI fun hn_4 => anI fun hP => anI fun hD => anI fun hS => fun hl => ?_
  refine lv_iload hx hb d_8_5_6 (lv_at hl 0 rfl) ?_
  refine lv_iload_n hx hb d_8_5_8 rfl (lv_at hl 4 rfl) ?_
  refine lv_icmp_ge (tgt := 48) hx hb d_8_5_9 (by decide +kernel) (fun c_6 => ?_) (fun c_6 => ?_)
  · skip
    have tc_6 : p2.toInt ≤ v6_6.toInt := Int32.le_iff_toInt_le.mp c_6
    refine lv_aload_n hx hb d_8_5_48 rfl (lv_at hl 2 rfl) ?_
    refine lv_aload_n hx hb d_8_5_49 rfl (lv_at hl 2 rfl) ?_
    refine lv_lload hx hb d_8_5_50 (lv_at hl 1 rfl) ?_
    refine lv_iload hx hb d_8_5_52 (lv_at hl 0 rfl) ?_
    refine lv_iload_n hx hb d_8_5_54 rfl (lv_at hl 5 rfl) ?_
    refine lv_isub hx hb d_8_5_55 ?_
    refine lv_topi (fun y_7 ey_7 => ?_)
    have ty_7 : y_7.toInt = v6_6.toInt - p3.toInt := by rw [ey_7]; exact zsub (by omega) (by omega)
    have hPc := hP.sub (ws' := [(h2, .inr (0, [.ref h9, .ref h10, .ref h11, .ref h12, .int tc, .int ta, .int td, .int tf])), (h9, .inl (kI, 3001, .inl f9)), (h10, .inl (kI, 3001, .inl f10)), (h11, .inl (kJ, 3001, .inr (.inl f11))), (h12, .inl (kJ, 27, .inr (.inl f12)))]) [0, 1, 2, 3, 4] rfl
    have hDc := hD.sub (ws' := [(h2, .inr (0, [.ref h9, .ref h10, .ref h11, .ref h12, .int tc, .int ta, .int td, .int tf])), (h9, .inl (kI, 3001, .inl f9)), (h10, .inl (kI, 3001, .inl f10)), (h11, .inl (kJ, 3001, .inr (.inl f11))), (h12, .inl (kJ, 27, .inr (.inl f12)))]) [0, 1, 2, 3, 4] (by decide) rfl
    have hFc := va_free (wc := [(h2, .inr (0, [.ref h9, .ref h10, .ref h11, .ref h12, .int tc, .int ta, .int td, .int tf])), (h9, .inl (kI, 3001, .inl f9)), (h10, .inl (kI, 3001, .inl f10)), (h11, .inl (kJ, 3001, .inr (.inl f11))), (h12, .inl (kJ, 27, .inr (.inl f12)))]) hD hS hA [0, 1, 2, 3, 4] rfl
    refine va_calli (va_runV (As := [.long v6_4, .int y_7]) (rest := [.ref h2]) ⟨hx, hb, hml, hown, hts⟩ (g_Tokens_kindOfWord l D kI kJ kB kZ _ (h2) (h9) (h10) (h11) (h12) (tc) (ta) (td) (tf) (f9) (f10) (f11) (f12) (v6_4) (y_7) hf_C1 hf_C2 hf_T6 hf_WK) (cwV 2 hts (gT_V m_466 m_468 m_4 m_121 (gT_ws m_469)) rfl rfl rfl (by decide +kernel) ⟨(Nat.le_of_ble_eq_true rfl), (Nat.le_of_ble_eq_true rfl)⟩) ⟨xBlind xOk_N, va_recv hK hP (ci := 0) (q0 := 0) rfl rfl, xAtN hK hPc hDc⟩ rfl rfl hl.1 rfl (lv_room (Nat.le_of_ble_eq_true rfl)) d_8_5_56 ⟨(Nat.le_of_ble_eq_true rfl), (Nat.le_of_ble_eq_true rfl)⟩) hS (fun q _ h => hFc q h) hFc (fun r_8 u t H locs ht hvm hw_9 hB hz1 hk1 hS => ?_)
    clear hz1
    obtain ⟨hu9, hw_9⟩ := hw_9
    subst hu9
    revert hB
    refine anI fun hb_10 => fun hB => ?_
    have hb_10 : kWd v6_4.toInt y_7.toInt = r_8.toInt := hb_10
    have hPD := xJoin (wr := [(h1, .inl (kB, 3000, .inl f1))]) (w1 := [(h2, .inr (0, [.ref h9, .ref h10, .ref h11, .ref h12, .int tc, .int ta, .int td, .int tf])), (h9, .inl (kI, 3001, .inl f9)), (h10, .inl (kI, 3001, .inl f10)), (h11, .inl (kJ, 3001, .inr (.inl f11))), (h12, .inl (kJ, 27, .inr (.inl f12)))]) hP hD [0, 1, 2, 3, 4] [5] rfl rfl (by decide) (by decide) hk1 hFc ht hB
    replace hP : va_P D cls9 [(h1, .inl (kB, 3000, .inl f1)), (h2, .inr (0, [.ref h9, .ref h10, .ref h11, .ref h12, .int tc, .int ta, .int td, .int tf])), (h9, .inl (kI, 3001, .inl f9)), (h10, .inl (kI, 3001, .inl f10)), (h11, .inl (kJ, 3001, .inr (.inl f11))), (h12, .inl (kJ, 27, .inr (.inl f12)))] H := hPD.1
    replace hD : va_D A [(h1, .inl (kB, 3000, .inl f1)), (h2, .inr (0, [.ref h9, .ref h10, .ref h11, .ref h12, .int tc, .int ta, .int td, .int tf])), (h9, .inl (kI, 3001, .inl f9)), (h10, .inl (kI, 3001, .inl f10)), (h11, .inl (kJ, 3001, .inr (.inl f11))), (h12, .inl (kJ, 27, .inr (.inl f12)))] := hPD.2
    clear hPD hB hk1 hPc hDc hFc
    refine lv_iload_n hx hb d_8_5_59 rfl (lv_at hl 5 rfl) ?_
    refine lv_lload hx hb d_8_5_60 (lv_at hl 1 rfl) ?_
    have hPc := hP.sub (ws' := [(h2, .inr (0, [.ref h9, .ref h10, .ref h11, .ref h12, .int tc, .int ta, .int td, .int tf])), (h9, .inl (kI, 3001, .inl f9)), (h10, .inl (kI, 3001, .inl f10)), (h11, .inl (kJ, 3001, .inr (.inl f11))), (h12, .inl (kJ, 27, .inr (.inl f12)))]) [1, 2, 3, 4, 5] rfl
    have hDc := hD.sub (ws' := [(h2, .inr (0, [.ref h9, .ref h10, .ref h11, .ref h12, .int tc, .int ta, .int td, .int tf])), (h9, .inl (kI, 3001, .inl f9)), (h10, .inl (kI, 3001, .inl f10)), (h11, .inl (kJ, 3001, .inr (.inl f11))), (h12, .inl (kJ, 27, .inr (.inl f12)))]) [1, 2, 3, 4, 5] (by decide) rfl
    have hFc := va_free (wc := [(h2, .inr (0, [.ref h9, .ref h10, .ref h11, .ref h12, .int tc, .int ta, .int td, .int tf])), (h9, .inl (kI, 3001, .inl f9)), (h10, .inl (kI, 3001, .inl f10)), (h11, .inl (kJ, 3001, .inr (.inl f11))), (h12, .inl (kJ, 27, .inr (.inl f12)))]) hD hS hA [1, 2, 3, 4, 5] rfl
    refine va_callv (va_runV (As := [.int r_8, .int p3, .long v6_4]) (rest := []) ⟨hx, hb, hml, hown, hts⟩ (g_Tokens_add l D kI kJ kB kZ _ (h2) (h9) (h10) (h11) (h12) (tc) (ta) (td) (tf) (f9) (f10) (f11) (f12) (r_8) (p3) (v6_4) hf_C1 hf_C2 hf_T6 hf_WK hq_0 (by first | assumption | omega)) (cwV 3 hts (gT_V m_470 m_472 m_5 m_121 (gT_ws m_473)) rfl rfl rfl (by decide +kernel) ⟨(Nat.le_of_ble_eq_true rfl), (Nat.le_of_ble_eq_true rfl)⟩) ⟨xBlind xOk_N, va_recv hK hP (ci := 0) (q0 := 1) rfl rfl, xAtN hK hPc hDc⟩ rfl rfl hl.1 rfl (lv_room (Nat.le_of_ble_eq_true rfl)) d_8_5_62 ⟨(Nat.le_of_ble_eq_true rfl), (Nat.le_of_ble_eq_true rfl)⟩) hS (fun q _ h => hFc q h) hFc (fun u t H locs ht hvm hw_12 hB hz1 hk1 hS => ?_)
    clear hz1
    revert hB
    refine exI fun x_13 => exI fun x_14 => exI fun x_15 => exI fun x_16 => anI fun hb_17 => anI fun hb_18 => anI fun hb_19 => anI fun hb_20 => anI fun hb_21 => fun hB => ?_
    have hb_21 : zAk tc f9 f10 f11 r_8 p3 v6_4 x_13 x_14 x_15 x_16 := hb_21
    have hPD := xJoin (wr := [(h1, .inl (kB, 3000, .inl f1))]) (w1 := [(h2, .inr (0, [.ref h9, .ref h10, .ref h11, .ref h12, .int x_13, .int ta, .int td, .int tf])), (h9, .inl (kI, 3001, .inl x_14)), (h10, .inl (kI, 3001, .inl x_15)), (h11, .inl (kJ, 3001, .inr (.inl x_16))), (h12, .inl (kJ, 27, .inr (.inl f12)))]) hP hD [1, 2, 3, 4, 5] [0] rfl rfl (by decide) (by decide) hk1 hFc ht hB
    replace hP : va_P D cls9 [(h1, .inl (kB, 3000, .inl f1)), (h2, .inr (0, [.ref h9, .ref h10, .ref h11, .ref h12, .int x_13, .int ta, .int td, .int tf])), (h9, .inl (kI, 3001, .inl x_14)), (h10, .inl (kI, 3001, .inl x_15)), (h11, .inl (kJ, 3001, .inr (.inl x_16))), (h12, .inl (kJ, 27, .inr (.inl f12)))] H := hPD.1
    replace hD : va_D A [(h1, .inl (kB, 3000, .inl f1)), (h2, .inr (0, [.ref h9, .ref h10, .ref h11, .ref h12, .int x_13, .int ta, .int td, .int tf])), (h9, .inl (kI, 3001, .inl x_14)), (h10, .inl (kI, 3001, .inl x_15)), (h11, .inl (kJ, 3001, .inr (.inl x_16))), (h12, .inl (kJ, 27, .inr (.inl f12)))] := hPD.2
    clear hPD hB hk1 hPc hDc hFc
    refine lv_iload hx hb d_8_5_65 (lv_at hl 0 rfl) ?_
    have hP9 := hP.sub (ws' := [(h2, .inr (0, [.ref h9, .ref h10, .ref h11, .ref h12, .int x_13, .int ta, .int td, .int tf])), (h9, .inl (kI, 3001, .inl x_14)), (h10, .inl (kI, 3001, .inl x_15)), (h11, .inl (kJ, 3001, .inr (.inl x_16))), (h12, .inl (kJ, 27, .inr (.inl f12))), (h1, .inl (kB, 3000, .inl f1))]) [1, 2, 3, 4, 5, 0] rfl
    have hD9 := hD.sub (ws' := [(h2, .inr (0, [.ref h9, .ref h10, .ref h11, .ref h12, .int x_13, .int ta, .int td, .int tf])), (h9, .inl (kI, 3001, .inl x_14)), (h10, .inl (kI, 3001, .inl x_15)), (h11, .inl (kJ, 3001, .inr (.inl x_16))), (h12, .inl (kJ, 27, .inr (.inl f12))), (h1, .inl (kB, 3000, .inl f1))]) [1, 2, 3, 4, 5, 0] (by decide) rfl
    have hz_3 : tWd (tB f1) p2.toInt p3.toInt tc f9 f10 f11 x_13 x_14 x_15 x_16 v6_6.toInt := (P_wrd hl_3 (fun q9 => by have q8 := q9.1; omega) hb_10 (by omega) hb_21 (by omega) rfl rfl)
    have hrp : 0 ≤ v6_6.toInt := by first |  omega | assumption | exact pk_nc _ | exact Or.inl ⟨by omega, by omega, by assumption⟩ | exact Or.inr ⟨by omega, by decide +kernel⟩ | exact fun h9 => absurd h9 (by omega) | exact fun _ => isH_no1 (by omega) | exact fun _ => isH_no2 (by assumption) (by assumption) (by omega) | (intro h9; omega) | (intro h8 h9; omega)
    exact W.iret (v := v6_6) hx hb hr (fun t ht hW => ⟨⟨v6_6, v6_6, rfl, ⟨rfl, hrp⟩, x_13, x_14, x_15, x_16, hb_17, hb_18, hb_19, hz_3, xEnd hK hP9 hD9 ht hW⟩, hS.F ht⟩) hS.2.2 d_8_5_67
  · skip
    have tc_6 : ¬ p2.toInt ≤ v6_6.toInt := fun h9 => c_6 (Int32.le_iff_toInt_le.mpr h9)
    refine lv_aload_n hx hb d_8_5_12 rfl (lv_at hl 3 rfl) ?_
    refine lv_iload hx hb d_8_5_13 (lv_at hl 0 rfl) ?_
    refine va_bald hx hb hK hP 5 2 rfl rfl (vp_in_iff.mpr ⟨by omega, by omega⟩) d_8_5_15 ?_
    refine lv_topi (fun z_22 ez_22 => ?_)
    have hPc := hP.sub (ws' := []) [] rfl
    have hDc := hD.sub (ws' := []) [] (by decide) rfl
    have hFc := va_free (wc := []) hD hS hA [] rfl
    refine va_calli (va_runS (As := [.int z_22]) (rest := []) ⟨hx, hb, hml, hown, hts⟩ (g_Tokens_isLetterOrDigit l D kI kJ kB kZ _ (z_22) ) (va_cwS 1 hts (gT_S m_460 m_461 m_121 (gT_ws m_462)) rfl rfl rfl (by decide +kernel) ⟨(Nat.le_of_ble_eq_true rfl), (Nat.le_of_ble_eq_true rfl)⟩) ⟨xBlind xOk_N, xAtN hK hPc hDc⟩ rfl rfl hl.1 rfl (lv_room (Nat.le_of_ble_eq_true rfl)) d_8_5_16 ⟨(Nat.le_of_ble_eq_true rfl), (Nat.le_of_ble_eq_true rfl)⟩) hS (fun q _ h => hFc q h) hFc (fun r_23 u t H locs ht hvm hw_24 hB hz1 hk1 hS => ?_)
    clear hz1
    obtain ⟨hu9, hw_24⟩ := hw_24
    subst hu9
    revert hB
    refine anI fun hb_25 => fun hB => ?_
    have hb_25 : (r_23.toInt = 1 ∧ ((97 ≤ z_22.toInt ∧ z_22.toInt ≤ 122) ∨ (48 ≤ z_22.toInt ∧ z_22.toInt ≤ 57))) ∨ (r_23.toInt = 0 ∧ ¬ ((97 ≤ z_22.toInt ∧ z_22.toInt ≤ 122) ∨ (48 ≤ z_22.toInt ∧ z_22.toInt ≤ 57))) := hb_25
    have hPD := xJoin (wr := [(h2, .inr (0, [.ref h9, .ref h10, .ref h11, .ref h12, .int tc, .int ta, .int td, .int tf])), (h9, .inl (kI, 3001, .inl f9)), (h10, .inl (kI, 3001, .inl f10)), (h11, .inl (kJ, 3001, .inr (.inl f11))), (h12, .inl (kJ, 27, .inr (.inl f12))), (h1, .inl (kB, 3000, .inl f1))]) (w1 := []) hP hD [] [0, 1, 2, 3, 4, 5] rfl rfl (by decide) (by decide) hk1 hFc ht hB
    replace hP : va_P D cls9 [(h2, .inr (0, [.ref h9, .ref h10, .ref h11, .ref h12, .int tc, .int ta, .int td, .int tf])), (h9, .inl (kI, 3001, .inl f9)), (h10, .inl (kI, 3001, .inl f10)), (h11, .inl (kJ, 3001, .inr (.inl f11))), (h12, .inl (kJ, 27, .inr (.inl f12))), (h1, .inl (kB, 3000, .inl f1))] H := hPD.1
    replace hD : va_D A [(h2, .inr (0, [.ref h9, .ref h10, .ref h11, .ref h12, .int tc, .int ta, .int td, .int tf])), (h9, .inl (kI, 3001, .inl f9)), (h10, .inl (kI, 3001, .inl f10)), (h11, .inl (kJ, 3001, .inr (.inl f11))), (h12, .inl (kJ, 27, .inr (.inl f12))), (h1, .inl (kB, 3000, .inl f1))] := hPD.2
    clear hPD hB hk1 hPc hDc hFc
    refine lv_if_eq (tgt := 48) hx hb d_8_5_19 (by decide +kernel) (fun c_26 => ?_) (fun c_26 => ?_)
    · skip
      have tc_26 : r_23.toInt = 0 := congrArg Int32.toInt c_26
      refine lv_aload_n hx hb d_8_5_48 rfl (lv_at hl 2 rfl) ?_
      refine lv_aload_n hx hb d_8_5_49 rfl (lv_at hl 2 rfl) ?_
      refine lv_lload hx hb d_8_5_50 (lv_at hl 1 rfl) ?_
      refine lv_iload hx hb d_8_5_52 (lv_at hl 0 rfl) ?_
      refine lv_iload_n hx hb d_8_5_54 rfl (lv_at hl 5 rfl) ?_
      refine lv_isub hx hb d_8_5_55 ?_
      refine lv_topi (fun y_27 ey_27 => ?_)
      have ty_27 : y_27.toInt = v6_6.toInt - p3.toInt := by rw [ey_27]; exact zsub (by omega) (by omega)
      have hPc := hP.sub (ws' := [(h2, .inr (0, [.ref h9, .ref h10, .ref h11, .ref h12, .int tc, .int ta, .int td, .int tf])), (h9, .inl (kI, 3001, .inl f9)), (h10, .inl (kI, 3001, .inl f10)), (h11, .inl (kJ, 3001, .inr (.inl f11))), (h12, .inl (kJ, 27, .inr (.inl f12)))]) [0, 1, 2, 3, 4] rfl
      have hDc := hD.sub (ws' := [(h2, .inr (0, [.ref h9, .ref h10, .ref h11, .ref h12, .int tc, .int ta, .int td, .int tf])), (h9, .inl (kI, 3001, .inl f9)), (h10, .inl (kI, 3001, .inl f10)), (h11, .inl (kJ, 3001, .inr (.inl f11))), (h12, .inl (kJ, 27, .inr (.inl f12)))]) [0, 1, 2, 3, 4] (by decide) rfl
      have hFc := va_free (wc := [(h2, .inr (0, [.ref h9, .ref h10, .ref h11, .ref h12, .int tc, .int ta, .int td, .int tf])), (h9, .inl (kI, 3001, .inl f9)), (h10, .inl (kI, 3001, .inl f10)), (h11, .inl (kJ, 3001, .inr (.inl f11))), (h12, .inl (kJ, 27, .inr (.inl f12)))]) hD hS hA [0, 1, 2, 3, 4] rfl
      refine va_calli (va_runV (As := [.long v6_4, .int y_27]) (rest := [.ref h2]) ⟨hx, hb, hml, hown, hts⟩ (g_Tokens_kindOfWord l D kI kJ kB kZ _ (h2) (h9) (h10) (h11) (h12) (tc) (ta) (td) (tf) (f9) (f10) (f11) (f12) (v6_4) (y_27) hf_C1 hf_C2 hf_T6 hf_WK) (cwV 2 hts (gT_V m_466 m_468 m_4 m_121 (gT_ws m_469)) rfl rfl rfl (by decide +kernel) ⟨(Nat.le_of_ble_eq_true rfl), (Nat.le_of_ble_eq_true rfl)⟩) ⟨xBlind xOk_N, va_recv hK hP (ci := 0) (q0 := 0) rfl rfl, xAtN hK hPc hDc⟩ rfl rfl hl.1 rfl (lv_room (Nat.le_of_ble_eq_true rfl)) d_8_5_56 ⟨(Nat.le_of_ble_eq_true rfl), (Nat.le_of_ble_eq_true rfl)⟩) hS (fun q _ h => hFc q h) hFc (fun r_28 u t H locs ht hvm hw_29 hB hz1 hk1 hS => ?_)
      clear hz1
      obtain ⟨hu9, hw_29⟩ := hw_29
      subst hu9
      revert hB
      refine anI fun hb_30 => fun hB => ?_
      have hb_30 : kWd v6_4.toInt y_27.toInt = r_28.toInt := hb_30
      have hPD := xJoin (wr := [(h1, .inl (kB, 3000, .inl f1))]) (w1 := [(h2, .inr (0, [.ref h9, .ref h10, .ref h11, .ref h12, .int tc, .int ta, .int td, .int tf])), (h9, .inl (kI, 3001, .inl f9)), (h10, .inl (kI, 3001, .inl f10)), (h11, .inl (kJ, 3001, .inr (.inl f11))), (h12, .inl (kJ, 27, .inr (.inl f12)))]) hP hD [0, 1, 2, 3, 4] [5] rfl rfl (by decide) (by decide) hk1 hFc ht hB
      replace hP : va_P D cls9 [(h1, .inl (kB, 3000, .inl f1)), (h2, .inr (0, [.ref h9, .ref h10, .ref h11, .ref h12, .int tc, .int ta, .int td, .int tf])), (h9, .inl (kI, 3001, .inl f9)), (h10, .inl (kI, 3001, .inl f10)), (h11, .inl (kJ, 3001, .inr (.inl f11))), (h12, .inl (kJ, 27, .inr (.inl f12)))] H := hPD.1
      replace hD : va_D A [(h1, .inl (kB, 3000, .inl f1)), (h2, .inr (0, [.ref h9, .ref h10, .ref h11, .ref h12, .int tc, .int ta, .int td, .int tf])), (h9, .inl (kI, 3001, .inl f9)), (h10, .inl (kI, 3001, .inl f10)), (h11, .inl (kJ, 3001, .inr (.inl f11))), (h12, .inl (kJ, 27, .inr (.inl f12)))] := hPD.2
      clear hPD hB hk1 hPc hDc hFc
      refine lv_iload_n hx hb d_8_5_59 rfl (lv_at hl 5 rfl) ?_
      refine lv_lload hx hb d_8_5_60 (lv_at hl 1 rfl) ?_
      have hPc := hP.sub (ws' := [(h2, .inr (0, [.ref h9, .ref h10, .ref h11, .ref h12, .int tc, .int ta, .int td, .int tf])), (h9, .inl (kI, 3001, .inl f9)), (h10, .inl (kI, 3001, .inl f10)), (h11, .inl (kJ, 3001, .inr (.inl f11))), (h12, .inl (kJ, 27, .inr (.inl f12)))]) [1, 2, 3, 4, 5] rfl
      have hDc := hD.sub (ws' := [(h2, .inr (0, [.ref h9, .ref h10, .ref h11, .ref h12, .int tc, .int ta, .int td, .int tf])), (h9, .inl (kI, 3001, .inl f9)), (h10, .inl (kI, 3001, .inl f10)), (h11, .inl (kJ, 3001, .inr (.inl f11))), (h12, .inl (kJ, 27, .inr (.inl f12)))]) [1, 2, 3, 4, 5] (by decide) rfl
      have hFc := va_free (wc := [(h2, .inr (0, [.ref h9, .ref h10, .ref h11, .ref h12, .int tc, .int ta, .int td, .int tf])), (h9, .inl (kI, 3001, .inl f9)), (h10, .inl (kI, 3001, .inl f10)), (h11, .inl (kJ, 3001, .inr (.inl f11))), (h12, .inl (kJ, 27, .inr (.inl f12)))]) hD hS hA [1, 2, 3, 4, 5] rfl
      refine va_callv (va_runV (As := [.int r_28, .int p3, .long v6_4]) (rest := []) ⟨hx, hb, hml, hown, hts⟩ (g_Tokens_add l D kI kJ kB kZ _ (h2) (h9) (h10) (h11) (h12) (tc) (ta) (td) (tf) (f9) (f10) (f11) (f12) (r_28) (p3) (v6_4) hf_C1 hf_C2 hf_T6 hf_WK hq_0 (by first | assumption | omega)) (cwV 3 hts (gT_V m_470 m_472 m_5 m_121 (gT_ws m_473)) rfl rfl rfl (by decide +kernel) ⟨(Nat.le_of_ble_eq_true rfl), (Nat.le_of_ble_eq_true rfl)⟩) ⟨xBlind xOk_N, va_recv hK hP (ci := 0) (q0 := 1) rfl rfl, xAtN hK hPc hDc⟩ rfl rfl hl.1 rfl (lv_room (Nat.le_of_ble_eq_true rfl)) d_8_5_62 ⟨(Nat.le_of_ble_eq_true rfl), (Nat.le_of_ble_eq_true rfl)⟩) hS (fun q _ h => hFc q h) hFc (fun u t H locs ht hvm hw_32 hB hz1 hk1 hS => ?_)
      clear hz1
      revert hB
      refine exI fun x_33 => exI fun x_34 => exI fun x_35 => exI fun x_36 => anI fun hb_37 => anI fun hb_38 => anI fun hb_39 => anI fun hb_40 => anI fun hb_41 => fun hB => ?_
      have hb_41 : zAk tc f9 f10 f11 r_28 p3 v6_4 x_33 x_34 x_35 x_36 := hb_41
      have hPD := xJoin (wr := [(h1, .inl (kB, 3000, .inl f1))]) (w1 := [(h2, .inr (0, [.ref h9, .ref h10, .ref h11, .ref h12, .int x_33, .int ta, .int td, .int tf])), (h9, .inl (kI, 3001, .inl x_34)), (h10, .inl (kI, 3001, .inl x_35)), (h11, .inl (kJ, 3001, .inr (.inl x_36))), (h12, .inl (kJ, 27, .inr (.inl f12)))]) hP hD [1, 2, 3, 4, 5] [0] rfl rfl (by decide) (by decide) hk1 hFc ht hB
      replace hP : va_P D cls9 [(h1, .inl (kB, 3000, .inl f1)), (h2, .inr (0, [.ref h9, .ref h10, .ref h11, .ref h12, .int x_33, .int ta, .int td, .int tf])), (h9, .inl (kI, 3001, .inl x_34)), (h10, .inl (kI, 3001, .inl x_35)), (h11, .inl (kJ, 3001, .inr (.inl x_36))), (h12, .inl (kJ, 27, .inr (.inl f12)))] H := hPD.1
      replace hD : va_D A [(h1, .inl (kB, 3000, .inl f1)), (h2, .inr (0, [.ref h9, .ref h10, .ref h11, .ref h12, .int x_33, .int ta, .int td, .int tf])), (h9, .inl (kI, 3001, .inl x_34)), (h10, .inl (kI, 3001, .inl x_35)), (h11, .inl (kJ, 3001, .inr (.inl x_36))), (h12, .inl (kJ, 27, .inr (.inl f12)))] := hPD.2
      clear hPD hB hk1 hPc hDc hFc
      refine lv_iload hx hb d_8_5_65 (lv_at hl 0 rfl) ?_
      have hP9 := hP.sub (ws' := [(h2, .inr (0, [.ref h9, .ref h10, .ref h11, .ref h12, .int x_33, .int ta, .int td, .int tf])), (h9, .inl (kI, 3001, .inl x_34)), (h10, .inl (kI, 3001, .inl x_35)), (h11, .inl (kJ, 3001, .inr (.inl x_36))), (h12, .inl (kJ, 27, .inr (.inl f12))), (h1, .inl (kB, 3000, .inl f1))]) [1, 2, 3, 4, 5, 0] rfl
      have hD9 := hD.sub (ws' := [(h2, .inr (0, [.ref h9, .ref h10, .ref h11, .ref h12, .int x_33, .int ta, .int td, .int tf])), (h9, .inl (kI, 3001, .inl x_34)), (h10, .inl (kI, 3001, .inl x_35)), (h11, .inl (kJ, 3001, .inr (.inl x_36))), (h12, .inl (kJ, 27, .inr (.inl f12))), (h1, .inl (kB, 3000, .inl f1))]) [1, 2, 3, 4, 5, 0] (by decide) rfl
      have hz_3 : tWd (tB f1) p2.toInt p3.toInt tc f9 f10 f11 x_33 x_34 x_35 x_36 v6_6.toInt := (P_wrd hl_3 (fun q9 => by have q8 := q9.2; rw [tB_z ez_22] at q8; have q7 : (97 ≤ z_22.toInt ∧ z_22.toInt ≤ 122) ∨ (48 ≤ z_22.toInt ∧ z_22.toInt ≤ 57) := q8; omega) hb_30 (by omega) hb_41 (by omega) rfl rfl)
      have hrp : 0 ≤ v6_6.toInt := by first |  omega | assumption | exact pk_nc _ | exact Or.inl ⟨by omega, by omega, by assumption⟩ | exact Or.inr ⟨by omega, by decide +kernel⟩ | exact fun h9 => absurd h9 (by omega) | exact fun _ => isH_no1 (by omega) | exact fun _ => isH_no2 (by assumption) (by assumption) (by omega) | (intro h9; omega) | (intro h8 h9; omega)
      exact W.iret (v := v6_6) hx hb hr (fun t ht hW => ⟨⟨v6_6, v6_6, rfl, ⟨rfl, hrp⟩, x_33, x_34, x_35, x_36, hb_37, hb_38, hb_39, hz_3, xEnd hK hP9 hD9 ht hW⟩, hS.F ht⟩) hS.2.2 d_8_5_67
    · skip
      have tc_26 : ¬ r_23.toInt = 0 := fun h9 => c_26 (Int32.toInt_inj.mp h9)
      refine lv_iload hx hb d_8_5_22 (lv_at hl 0 rfl) ?_
      refine lv_iload_n hx hb d_8_5_24 rfl (lv_at hl 5 rfl) ?_
      refine lv_isub hx hb d_8_5_25 ?_
      refine lv_topi (fun y_42 ey_42 => ?_)
      have ty_42 : y_42.toInt = v6_6.toInt - p3.toInt := by rw [ey_42]; exact zsub (by omega) (by omega)
      refine lv_bipush (v := 9) hx hb d_8_5_26 (by decide +kernel) ?_
      refine lv_icmp_ge (tgt := 42) hx hb d_8_5_28 (by decide +kernel) (fun c_43 => ?_) (fun c_43 => ?_)
      · skip
        have tc_43 : 9 ≤ y_42.toInt := Int32.le_iff_toInt_le.mp c_43
        obtain ⟨y_44, ey_44⟩ : ∃ y : Int32, y = v6_6 + 1 := ⟨_, rfl⟩
        have ty_44 : y_44.toInt = v6_6.toInt + 1 := by rw [ey_44]; exact zaddc (by decide +kernel) (by omega) (by omega)
        refine lv_iinc (v := y_44) (lv' := [(6, .int y_44), (4, .long v6_4), (0, .ref h2), (1, .ref h1), (2, .int p2), (3, .int p3)]) hx hb d_8_5_42 hl (k := 0) rfl (by rw [ey_44]; rfl) (by decide +kernel) rfl (fun ls hl => ?_)
        refine lv_goto (tgt := 6) hx hb d_8_5_45 (by decide +kernel) ?_
        exact ih_5 _ _ _ _ (by omega) ⟨y_44, v6_4, (show p3.toInt ≤ y_44.toInt from (by first | assumption | omega)), (show y_44.toInt ≤ p2.toInt from (by first | assumption | omega)), (show wIv (tB f1) p2.toInt p3.toInt y_44.toInt v6_4.toInt from (wV_t hl_3 (by omega) (by omega) (by rw [tB_z ez_22]; show (97 ≤ _ ∧ _ ≤ 122) ∨ (48 ≤ _ ∧ _ ≤ 57); omega) (by omega) (by omega))), rfl, hP.sub (ws' := [(h2, .inr (0, [.ref h9, .ref h10, .ref h11, .ref h12, .int tc, .int ta, .int td, .int tf])), (h9, .inl (kI, 3001, .inl f9)), (h10, .inl (kI, 3001, .inl f10)), (h11, .inl (kJ, 3001, .inr (.inl f11))), (h12, .inl (kJ, 27, .inr (.inl f12))), (h1, .inl (kB, 3000, .inl f1))]) [0, 1, 2, 3, 4, 5] rfl, hD.sub (ws' := [(h2, .inr (0, [.ref h9, .ref h10, .ref h11, .ref h12, .int tc, .int ta, .int td, .int tf])), (h9, .inl (kI, 3001, .inl f9)), (h10, .inl (kI, 3001, .inl f10)), (h11, .inl (kJ, 3001, .inr (.inl f11))), (h12, .inl (kJ, 27, .inr (.inl f12))), (h1, .inl (kB, 3000, .inl f1))]) [0, 1, 2, 3, 4, 5] (by decide) rfl, hS, lv_sub hl [0, 1, 2, 3, 4, 5] rfl⟩
      · skip
        have tc_43 : ¬ 9 ≤ y_42.toInt := fun h9 => c_43 (Int32.le_iff_toInt_le.mpr h9)
        refine lv_lload hx hb d_8_5_31 (lv_at hl 1 rfl) ?_
        refine lv_aload_n hx hb d_8_5_33 rfl (lv_at hl 3 rfl) ?_
        refine lv_iload hx hb d_8_5_34 (lv_at hl 0 rfl) ?_
        refine va_bald hx hb hK hP 5 2 rfl rfl (vp_in_iff.mpr ⟨by omega, by omega⟩) d_8_5_36 ?_
        refine lv_topi (fun z_45 ez_45 => ?_)
        have hwb := wV_b hl_3 (by omega)
        have hzz : z_45.toInt = z_22.toInt := by rw [ez_45, ez_22]
        have hPc := hP.sub (ws' := []) [] rfl
        have hDc := hD.sub (ws' := []) [] (by decide) rfl
        have hFc := va_free (wc := []) hD hS hA [] rfl
        refine va_calll (va_runS (As := [.long v6_4, .int z_45]) (rest := []) ⟨hx, hb, hml, hown, hts⟩ (g_Tokens_longer l D kI kJ kB kZ _ (v6_4) (z_45) (by first | assumption | omega) (by first | assumption | omega) (by first | assumption | omega)) (va_cwS 2 hts (gT_S m_203 m_204 m_121 (gT_ws m_205)) rfl rfl rfl (by decide +kernel) ⟨(Nat.le_of_ble_eq_true rfl), (Nat.le_of_ble_eq_true rfl)⟩) ⟨xBlind xOk_N, xAtN hK hPc hDc⟩ rfl rfl hl.1 rfl (lv_room (Nat.le_of_ble_eq_true rfl)) d_8_5_37 ⟨(Nat.le_of_ble_eq_true rfl), (Nat.le_of_ble_eq_true rfl)⟩) hS (fun q _ h => hFc q h) hFc (fun r_46 u t H locs ht hvm hw_47 hB hz1 hk1 hS => ?_)
        clear hz1
        obtain ⟨hu9, hw_47⟩ := hw_47
        subst hu9
        revert hB
        refine anI fun hb_48 => fun hB => ?_
        have hb_48 : r_46.toInt = v6_4.toInt * 37 + cCd z_45.toInt := hb_48
        have hPD := xJoin (wr := [(h2, .inr (0, [.ref h9, .ref h10, .ref h11, .ref h12, .int tc, .int ta, .int td, .int tf])), (h9, .inl (kI, 3001, .inl f9)), (h10, .inl (kI, 3001, .inl f10)), (h11, .inl (kJ, 3001, .inr (.inl f11))), (h12, .inl (kJ, 27, .inr (.inl f12))), (h1, .inl (kB, 3000, .inl f1))]) (w1 := []) hP hD [] [0, 1, 2, 3, 4, 5] rfl rfl (by decide) (by decide) hk1 hFc ht hB
        replace hP : va_P D cls9 [(h2, .inr (0, [.ref h9, .ref h10, .ref h11, .ref h12, .int tc, .int ta, .int td, .int tf])), (h9, .inl (kI, 3001, .inl f9)), (h10, .inl (kI, 3001, .inl f10)), (h11, .inl (kJ, 3001, .inr (.inl f11))), (h12, .inl (kJ, 27, .inr (.inl f12))), (h1, .inl (kB, 3000, .inl f1))] H := hPD.1
        replace hD : va_D A [(h2, .inr (0, [.ref h9, .ref h10, .ref h11, .ref h12, .int tc, .int ta, .int td, .int tf])), (h9, .inl (kI, 3001, .inl f9)), (h10, .inl (kI, 3001, .inl f10)), (h11, .inl (kJ, 3001, .inr (.inl f11))), (h12, .inl (kJ, 27, .inr (.inl f12))), (h1, .inl (kB, 3000, .inl f1))] := hPD.2
        clear hPD hB hk1 hPc hDc hFc
        refine lv_lstore (lv' := [(4, .long r_46), (6, .int v6_6), (0, .ref h2), (1, .ref h1), (2, .int p2), (3, .int p3)]) hx hb d_8_5_40 hl (by decide +kernel) rfl (fun ls hl => ?_)
        obtain ⟨y_49, ey_49⟩ : ∃ y : Int32, y = v6_6 + 1 := ⟨_, rfl⟩
        have ty_49 : y_49.toInt = v6_6.toInt + 1 := by rw [ey_49]; exact zaddc (by decide +kernel) (by omega) (by omega)
        refine lv_iinc (v := y_49) (lv' := [(6, .int y_49), (4, .long r_46), (0, .ref h2), (1, .ref h1), (2, .int p2), (3, .int p3)]) hx hb d_8_5_42 hl (k := 1) rfl (by rw [ey_49]; rfl) (by decide +kernel) rfl (fun ls hl => ?_)
        refine lv_goto (tgt := 6) hx hb d_8_5_45 (by decide +kernel) ?_
        exact ih_5 _ _ _ _ (by omega) ⟨y_49, r_46, (show p3.toInt ≤ y_49.toInt from (by first | assumption | omega)), (show y_49.toInt ≤ p2.toInt from (by first | assumption | omega)), (show wIv (tB f1) p2.toInt p3.toInt y_49.toInt r_46.toInt from (wV_s hl_3 (by omega) (by omega) (by rw [tB_z ez_22]; show (97 ≤ _ ∧ _ ≤ 122) ∨ (48 ≤ _ ∧ _ ≤ 57); omega) (by omega) (by omega) (by rw [tB_z ez_45]; exact hb_48))), rfl, hP.sub (ws' := [(h2, .inr (0, [.ref h9, .ref h10, .ref h11, .ref h12, .int tc, .int ta, .int td, .int tf])), (h9, .inl (kI, 3001, .inl f9)), (h10, .inl (kI, 3001, .inl f10)), (h11, .inl (kJ, 3001, .inr (.inl f11))), (h12, .inl (kJ, 27, .inr (.inl f12))), (h1, .inl (kB, 3000, .inl f1))]) [0, 1, 2, 3, 4, 5] rfl, hD.sub (ws' := [(h2, .inr (0, [.ref h9, .ref h10, .ref h11, .ref h12, .int tc, .int ta, .int td, .int tf])), (h9, .inl (kI, 3001, .inl f9)), (h10, .inl (kI, 3001, .inl f10)), (h11, .inl (kJ, 3001, .inr (.inl f11))), (h12, .inl (kJ, 27, .inr (.inl f12))), (h1, .inl (kB, 3000, .inl f1))]) [0, 1, 2, 3, 4, 5] (by decide) rfl, hS, lv_sub hl [0, 1, 2, 3, 4, 5] rfl⟩
