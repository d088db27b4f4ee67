set_option maxHeartbeats 8000000 in
set_option maxRecDepth 100000 in
theorem g_String_coder (l : Launch) (D : va_G) (kI kJ kB kZ : ClassId) (sz : Nat) (sA : Nat → Nat) (sV : Nat → Nat) (i : Nat) (hi : i < 47) : Met l (⟨"java/lang/String", "coder", "()B"⟩ : MethodName) (Cond.code (⟨"java/lang/String", "coder", "()B"⟩ : MethodName) prog_13_method_152_code 1 (some .byte) :: gT) ({ frames := 0, cells := 0, slots := 0, locals := 0 }) (va_Pc [.ref (sA i)] (xP D (xT kI kJ kB kZ) (xE sA sV) [] sz)) (va_Qi (fun (r : Int32) (_ : Unit) => r = 0) (fun _ t => xQ D (xT kI kJ kB kZ) (va_A [] sz) [] t) (va_A [] sz)) 0 0 (va_A [] sz) := by
  refine Met.ofW (cc := prog_13_method_152_code) (maxL := 1) (ret := some .byte) (by decide +kernel) rfl ?_
  intro p e s m args below meth c s₁ B hml hv
  obtain ⟨rfl, hsz, hP, hK, hD0, hE⟩ := hv
  have hx := B.exec
  have hb := B.bytes
  have hr := B.returns
  have hts : ∀ w ∈ gT, w.before _ s = true := fun w h => atoms_spec (ws := Cond.code (⟨"java/lang/String", "coder", "()B"⟩ : MethodName) prog_13_method_152_code 1 (some .byte) :: gT) B.pre w (List.mem_cons_of_mem _ h)
  have hown : s.vm.findClass "java/lang/String" = some m.cls := findClass_of_methodNamed B.named
  have hlocks := B.notSynchronized
  subst hsz
  have hD := hD0.self (sz := s.heap.size)
  generalize hAe : va_A [] s.heap.size = A at hD hE ⊢
  have hA : ∀ q : Nat, s.heap.size ≤ q → A q := fun q h => by rw [← hAe]; exact Or.inr h
  have hS : va_S A s.heap s.heap [] := va_S.rf
  have hP : va_P D cls9 [] s.heap := hP
  have hl := lv_entry ([.ref (sA i)]) (n := 1) (Nat.le_of_ble_eq_true rfl)
  rw [lg_entry_eq]
  generalize (lg_sl ([.ref (sA i)]) ++ List.replicate (1 - (lg_sl ([.ref (sA i)])).length) Slot.unset).toArray = ls at hl ⊢
  have hl : lv_has ls 1 [(0, .ref (sA i))] := hl
  refine va_gets hx hb (xE_Z hE) hS hown (hts _ m_163) (fun _ h9 => h9) d_13_152_0 ?_
  refine lv_if_eq (tgt := 13) hx hb d_13_152_3 (by decide +kernel) (fun c_1 => ?_) (fun c_1 => ?_)
  · exact absurd c_1 (by decide +kernel)
  refine lv_aload_n hx hb d_13_152_6 rfl (lv_at hl 0 rfl) ?_
  refine vk_getf hx hb (xE_c hE i hi) hS hown (hts _ m_1652) (fun _ h9 => h9) d_13_152_7 ?_
  refine lv_goto (tgt := 14) hx hb d_13_152_10 (by decide +kernel) ?_
  have hP9 := hP.sub (ws' := []) [] rfl
  have hD9 := hD.sub (ws' := []) [] (by decide) rfl
  exact W.zret (v := 0) (ty := .byte) hx hb hr (by decide +kernel) (fun t ht hW => ⟨⟨0, (), rfl, rfl, xEnd hK hP9 hD9 ht hW⟩, hS.F ht⟩) hS.2.2 d_13_152_14
set_option maxHeartbeats 8000000 in
set_option maxRecDepth 100000 in
theorem g_String_isLatin1 (l : Launch) (D : va_G) (kI kJ kB kZ : ClassId) (sz : Nat) (sA : Nat → Nat) (sV : Nat → Nat) (i : Nat) (hi : i < 47) : Met l (⟨"java/lang/String", "isLatin1", "()Z"⟩ : MethodName) (Cond.code (⟨"java/lang/String", "isLatin1", "()Z"⟩ : MethodName) prog_13_method_154_code 1 (some .boolean) :: gT) ({ frames := 0, cells := 0, slots := 0, locals := 0 }) (va_Pc [.ref (sA i)] (xP D (xT kI kJ kB kZ) (xE sA sV) [] sz)) (va_Qi (fun (r : Int32) (_ : Unit) => r = 1) (fun _ t => xQ D (xT kI kJ kB kZ) (va_A [] sz) [] t) (va_A [] sz)) 0 0 (va_A [] sz) := by
  refine Met.ofW (cc := prog_13_method_154_code) (maxL := 1) (ret := some .boolean) (by decide +kernel) rfl ?_
  intro p e s m args below meth c s₁ B hml hv
  obtain ⟨rfl, hsz, hP, hK, hD0, hE⟩ := hv
  have hx := B.exec
  have hb := B.bytes
  have hr := B.returns
  have hts : ∀ w ∈ gT, w.before _ s = true := fun w h => atoms_spec (ws := Cond.code (⟨"java/lang/String", "isLatin1", "()Z"⟩ : MethodName) prog_13_method_154_code 1 (some .boolean) :: gT) B.pre w (List.mem_cons_of_mem _ h)
  have hown : s.vm.findClass "java/lang/String" = some m.cls := findClass_of_methodNamed B.named
  have hlocks := B.notSynchronized
  subst hsz
  have hD := hD0.self (sz := s.heap.size)
  generalize hAe : va_A [] s.heap.size = A at hD hE ⊢
  have hA : ∀ q : Nat, s.heap.size ≤ q → A q := fun q h => by rw [← hAe]; exact Or.inr h
  have hS : va_S A s.heap s.heap [] := va_S.rf
  have hP : va_P D cls9 [] s.heap := hP
  have hl := lv_entry ([.ref (sA i)]) (n := 1) (Nat.le_of_ble_eq_true rfl)
  rw [lg_entry_eq]
  generalize (lg_sl ([.ref (sA i)]) ++ List.replicate (1 - (lg_sl ([.ref (sA i)])).length) Slot.unset).toArray = ls at hl ⊢
  have hl : lv_has ls 1 [(0, .ref (sA i))] := hl
  refine va_gets hx hb (xE_Z hE) hS hown (hts _ m_163) (fun _ h9 => h9) d_13_154_0 ?_
  refine lv_if_eq (tgt := 17) hx hb d_13_154_3 (by decide +kernel) (fun c_1 => ?_) (fun c_1 => ?_)
  · exact absurd c_1 (by decide +kernel)
  refine lv_aload_n hx hb d_13_154_6 rfl (lv_at hl 0 rfl) ?_
  refine vk_getf hx hb (xE_c hE i hi) hS hown (hts _ m_1652) (fun _ h9 => h9) d_13_154_7 ?_
  refine lv_if_ne (tgt := 17) hx hb d_13_154_10 (by decide +kernel) (fun c_2 => ?_) (fun c_2 => ?_)
  · exact absurd c_2 (by decide +kernel)
  refine lv_iconst (v := 1) hx hb d_13_154_13 (by decide +kernel) ?_
  refine lv_goto (tgt := 18) hx hb d_13_154_14 (by decide +kernel) ?_
  have hP9 := hP.sub (ws' := []) [] rfl
  have hD9 := hD.sub (ws' := []) [] (by decide) rfl
  exact W.zret (v := 1) (ty := .boolean) hx hb hr (by decide +kernel) (fun t ht hW => ⟨⟨1, (), rfl, rfl, xEnd hK hP9 hD9 ht hW⟩, hS.F ht⟩) hS.2.2 d_13_154_18
set_option maxHeartbeats 8000000 in
set_option maxRecDepth 100000 in
theorem g_String_length (l : Launch) (D : va_G) (kI kJ kB kZ : ClassId) (sz : Nat) (sA : Nat → Nat) (sV : Nat → Nat) (i : Nat) (hi : i < 47) : Met l (⟨"java/lang/String", "length", "()I"⟩ : MethodName) (Cond.code (⟨"java/lang/String", "length", "()I"⟩ : MethodName) prog_13_method_54_code 1 (some .int) :: gT) ({ frames := 1, cells := 0, slots := 0, locals := 20 }) (va_Pc [.ref (sA i)] (xP D (xT kI kJ kB kZ) (xE sA sV) [] sz)) (va_Qi (fun (r : Int32) (_ : Unit) => r.toInt = sN i) (fun _ t => xQ D (xT kI kJ kB kZ) (va_A [] sz) [] t) (va_A [] sz)) 0 0 (va_A [] sz) := by
  refine Met.ofW (cc := prog_13_method_54_code) (maxL := 1) (ret := some .int) (by decide +kernel) rfl ?_
  intro p e s m args below meth c s₁ B hml hv
  obtain ⟨rfl, hsz, hP, hK, hD0, hE⟩ := hv
  have hx := B.exec
  have hb := B.bytes
  have hr := B.returns
  have hts : ∀ w ∈ gT, w.before _ s = true := fun w h => atoms_spec (ws := Cond.code (⟨"java/lang/String", "length", "()I"⟩ : MethodName) prog_13_method_54_code 1 (some .int) :: gT) B.pre w (List.mem_cons_of_mem _ h)
  have hown : s.vm.findClass "java/lang/String" = some m.cls := findClass_of_methodNamed B.named
  have hlocks := B.notSynchronized
  subst hsz
  have hD := hD0.self (sz := s.heap.size)
  generalize hAe : va_A [] s.heap.size = A at hD hE ⊢
  have hA : ∀ q : Nat, s.heap.size ≤ q → A q := fun q h => by rw [← hAe]; exact Or.inr h
  have hS : va_S A s.heap s.heap [] := va_S.rf
  have hP : va_P D cls9 [] s.heap := hP
  have hl := lv_entry ([.ref (sA i)]) (n := 1) (Nat.le_of_ble_eq_true rfl)
  rw [lg_entry_eq]
  generalize (lg_sl ([.ref (sA i)]) ++ List.replicate (1 - (lg_sl ([.ref (sA i)])).length) Slot.unset).toArray = ls at hl ⊢
  have hl : lv_has ls 1 [(0, .ref (sA i))] := hl
  refine lv_aload_n hx hb d_13_54_0 rfl (lv_at hl 0 rfl) ?_
  refine vk_getf hx hb (xE_v hE i hi) hS hown (hts _ m_1651) (fun _ h9 => h9) d_13_54_1 ?_
  refine va_tlen (v := nI (sN i)) hx hb (xE_T hE i hi) hS rfl d_13_54_4 ?_
  refine lv_topi (fun y_1 ey_1 => ?_)
  have ty_1 : y_1.toInt = sN i := by rw [ey_1]; exact sN_toInt i hi
  have uy_1 : sN i ≤ 140 := sN_le i hi
  refine lv_aload_n hx hb d_13_54_5 rfl (lv_at hl 0 rfl) ?_
  have hPc := hP.sub (ws' := []) [] rfl
  have hDc := hD.sub (ws' := []) [] (by decide) rfl
  have hFc := va_free (wc := []) hD hS hA [] rfl
  refine va_calli (va_runV (As := []) (rest := [.int y_1]) ⟨hx, hb, hml, hown, hts⟩ (g_String_coder l D kI kJ kB kZ _ (sA) (sV) (i) (by first | assumption | omega)) (cwV 0 hts (gT_V m_159 m_160 m_161 m_122 (gT_ws m_162)) rfl rfl rfl (by decide +kernel) ⟨(Nat.le_of_ble_eq_true rfl), (Nat.le_of_ble_eq_true rfl)⟩) ⟨xBlind (xOk_E sA sV), (xE_O hE i hi hS), xAt (xOk_E sA sV) hK hPc hDc hS hFc hE⟩ rfl rfl hl.1 rfl (lv_room (Nat.le_of_ble_eq_true rfl)) d_13_54_6 ⟨(Nat.le_of_ble_eq_true rfl), (Nat.le_of_ble_eq_true rfl)⟩) hS (fun q _ h => hFc q h) hFc (fun r_2 u t H1 locs ht hvm hw_3 hB hz1 hk1 hS => ?_)
  clear hz1
  obtain ⟨hP, hD⟩ := xJoin (wr := []) (w1 := []) hP hD [] [] rfl rfl (by decide) (by decide) hk1 hFc ht hB
  generalize H1 = H at hP hS ⊢
  have hP : va_P D cls9 [] H := hP
  have hD : va_D A [] := hD
  refine xtopi (v := 0) hw_3 ?_
  refine lv_ishr hx hb d_13_54_9 ?_
  refine xtopi (v := y_1) (sb_shr0 _) ?_
  have hP9 := hP.sub (ws' := []) [] rfl
  have hD9 := hD.sub (ws' := []) [] (by decide) rfl
  have hrp : y_1.toInt = sN i := by first | omega | assumption | exact pk_nc _ | exact Or.inl ⟨by omega, by omega, by assumption⟩ | exact Or.inr ⟨by omega, by decide +kernel⟩ | exact fun h9 => absurd h9 (by omega) | exact fun _ => isH_no1 (by omega) | exact fun _ => isH_no2 (by assumption) (by assumption) (by omega) | (intro h9; omega) | (intro h8 h9; omega)
  exact W.iret (v := y_1) hx hb hr (fun t ht hW => ⟨⟨y_1, (), rfl, hrp, xEnd hK hP9 hD9 ht hW⟩, hS.F ht⟩) hS.2.2 d_13_54_10
set_option maxHeartbeats 8000000 in
set_option maxRecDepth 100000 in
theorem g_Preconditions_checkIndex_null (l : Launch) (D : va_G) (kI kJ kB kZ : ClassId) (sz : Nat) (p1 : Int32) (p2 : Int32) (hq_0 : 0 ≤ p1.toInt) (hq_1 : p1.toInt < p2.toInt) : Met l (⟨"jdk/internal/util/Preconditions", "checkIndex", "(IILjava/util/function/BiFunction;)I"⟩ : MethodName) (Cond.code (⟨"jdk/internal/util/Preconditions", "checkIndex", "(IILjava/util/function/BiFunction;)I"⟩ : MethodName) prog_17_method_11_code 3 (some .int) :: gT) ({ frames := 0, cells := 0, slots := 0, locals := 0 }) (va_Pc [.int p1, .int p2, .null] (xP D (xT kI kJ kB kZ) xN [] sz)) (va_Qi (fun (r : Int32) (_ : Unit) => r = p1) (fun _ t => xQ D (xT kI kJ kB kZ) (va_A [] sz) [] t) (va_A [] sz)) 0 0 (va_A [] sz) := by
  refine Met.ofW (cc := prog_17_method_11_code) (maxL := 3) (ret := some .int) (by decide +kernel) rfl ?_
  intro p e s m args below meth c s₁ B hml hv
  obtain ⟨rfl, hsz, hP, hK, hD0, hE⟩ := hv
  have hx := B.exec
  have hb := B.bytes
  have hr := B.returns
  have hts : ∀ w ∈ gT, w.before _ s = true := fun w h => atoms_spec (ws := Cond.code (⟨"jdk/internal/util/Preconditions", "checkIndex", "(IILjava/util/function/BiFunction;)I"⟩ : MethodName) prog_17_method_11_code 3 (some .int) :: gT) B.pre w (List.mem_cons_of_mem _ h)
  have hown : s.vm.findClass "jdk/internal/util/Preconditions" = some m.cls := findClass_of_methodNamed B.named
  have hlocks := B.notSynchronized
  subst hsz
  have hD := hD0.self (sz := s.heap.size)
  generalize hAe : va_A [] s.heap.size = A at hD hE ⊢
  have hA : ∀ q : Nat, s.heap.size ≤ q → A q := fun q h => by rw [← hAe]; exact Or.inr h
  have hS : va_S A s.heap s.heap [] := va_S.rf
  have hP : va_P D cls9 [] s.heap := hP
  have hl := lv_entry ([.int p1, .int p2, .null]) (n := 3) (Nat.le_of_ble_eq_true rfl)
  rw [lg_entry_eq]
  generalize (lg_sl ([.int p1, .int p2, .null]) ++ List.replicate (3 - (lg_sl ([.int p1, .int p2, .null])).length) Slot.unset).toArray = ls at hl ⊢
  have hl : lv_has ls 3 [(0, .int p1), (1, .int p2), (2, .null)] := hl
  refine lv_iload_n hx hb d_17_11_0 rfl (lv_at hl 0 rfl) ?_
  refine lv_if_lt (tgt := 9) hx hb d_17_11_1 (by decide +kernel) (fun c_1 => ?_) (fun c_1 => ?_)
  · skip
    have tc_1 : p1.toInt < 0 := Int32.lt_iff_toInt_lt.mp c_1
    exfalso
    omega
  · skip
    have tc_1 : ¬ p1.toInt < 0 := fun h9 => c_1 (Int32.lt_iff_toInt_lt.mpr h9)
    refine lv_iload_n hx hb d_17_11_4 rfl (lv_at hl 0 rfl) ?_
    refine lv_iload_n hx hb d_17_11_5 rfl (lv_at hl 1 rfl) ?_
    refine lv_icmp_lt (tgt := 16) hx hb d_17_11_6 (by decide +kernel) (fun c_2 => ?_) (fun c_2 => ?_)
    · skip
      have tc_2 : p1.toInt < p2.toInt := Int32.lt_iff_toInt_lt.mp c_2
      refine lv_iload_n hx hb d_17_11_16 rfl (lv_at hl 0 rfl) ?_
      have hP9 := hP.sub (ws' := []) [] rfl
      have hD9 := hD.sub (ws' := []) [] (by decide) rfl
      exact W.iret (v := p1) hx hb hr (fun t ht hW => ⟨⟨p1, (), rfl, rfl, xEnd hK hP9 hD9 ht hW⟩, hS.F ht⟩) hS.2.2 d_17_11_17
    · skip
      have tc_2 : ¬ p1.toInt < p2.toInt := fun h9 => c_2 (Int32.lt_iff_toInt_lt.mpr h9)
      exfalso
      omega
set_option maxHeartbeats 8000000 in
set_option maxRecDepth 100000 in
theorem g_Preconditions_checkIndex_ref (l : Launch) (D : va_G) (kI kJ kB kZ : ClassId) (sz : Nat) (p1 : Int32) (p2 : Int32) (sF : Nat) (hq_0 : 0 ≤ p1.toInt) (hq_1 : p1.toInt < p2.toInt) : Met l (⟨"jdk/internal/util/Preconditions", "checkIndex", "(IILjava/util/function/BiFunction;)I"⟩ : MethodName) (Cond.code (⟨"jdk/internal/util/Preconditions", "checkIndex", "(IILjava/util/function/BiFunction;)I"⟩ : MethodName) prog_17_method_11_code 3 (some .int) :: gT) ({ frames := 0, cells := 0, slots := 0, locals := 0 }) (va_Pc [.int p1, .int p2, .ref sF] (xP D (xT kI kJ kB kZ) xN [] sz)) (va_Qi (fun (r : Int32) (_ : Unit) => r = p1) (fun _ t => xQ D (xT kI kJ kB kZ) (va_A [] sz) [] t) (va_A [] sz)) 0 0 (va_A [] sz) := by
  refine Met.ofW (cc := prog_17_method_11_code) (maxL := 3) (ret := some .int) (by decide +kernel) rfl ?_
  intro p e s m args below meth c s₁ B hml hv
  obtain ⟨rfl, hsz, hP, hK, hD0, hE⟩ := hv
  have hx := B.exec
  have hb := B.bytes
  have hr := B.returns
  have hts : ∀ w ∈ gT, w.before _ s = true := fun w h => atoms_spec (ws := Cond.code (⟨"jdk/internal/util/Preconditions", "checkIndex", "(IILjava/util/function/BiFunction;)I"⟩ : MethodName) prog_17_method_11_code 3 (some .int) :: gT) B.pre w (List.mem_cons_of_mem _ h)
  have hown : s.vm.findClass "jdk/internal/util/Preconditions" = some m.cls := findClass_of_methodNamed B.named
  have hlocks := B.notSynchronized
  subst hsz
  have hD := hD0.self (sz := s.heap.size)
  generalize hAe : va_A [] s.heap.size = A at hD hE ⊢
  have hA : ∀ q : Nat, s.heap.size ≤ q → A q := fun q h => by rw [← hAe]; exact Or.inr h
  have hS : va_S A s.heap s.heap [] := va_S.rf
  have hP : va_P D cls9 [] s.heap := hP
  have hl := lv_entry ([.int p1, .int p2, .ref sF]) (n := 3) (Nat.le_of_ble_eq_true rfl)
  rw [lg_entry_eq]
  generalize (lg_sl ([.int p1, .int p2, .ref sF]) ++ List.replicate (3 - (lg_sl ([.int p1, .int p2, .ref sF])).length) Slot.unset).toArray = ls at hl ⊢
  have hl : lv_has ls 3 [(0, .int p1), (1, .int p2), (2, .ref sF)] := hl
  refine lv_iload_n hx hb d_17_11_0 rfl (lv_at hl 0 rfl) ?_
  refine lv_if_lt (tgt := 9) hx hb d_17_11_1 (by decide +kernel) (fun c_1 => ?_) (fun c_1 => ?_)
  · skip
    have tc_1 : p1.toInt < 0 := Int32.lt_iff_toInt_lt.mp c_1
    exfalso
    omega
  · skip
    have tc_1 : ¬ p1.toInt < 0 := fun h9 => c_1 (Int32.lt_iff_toInt_lt.mpr h9)
    refine lv_iload_n hx hb d_17_11_4 rfl (lv_at hl 0 rfl) ?_
    refine lv_iload_n hx hb d_17_11_5 rfl (lv_at hl 1 rfl) ?_
    refine lv_icmp_lt (tgt := 16) hx hb d_17_11_6 (by decide +kernel) (fun c_2 => ?_) (fun c_2 => ?_)
    · skip
      have tc_2 : p1.toInt < p2.toInt := Int32.lt_iff_toInt_lt.mp c_2
      refine lv_iload_n hx hb d_17_11_16 rfl (lv_at hl 0 rfl) ?_
      have hP9 := hP.sub (ws' := []) [] rfl
      have hD9 := hD.sub (ws' := []) [] (by decide) rfl
      exact W.iret (v := p1) hx hb hr (fun t ht hW => ⟨⟨p1, (), rfl, rfl, xEnd hK hP9 hD9 ht hW⟩, hS.F ht⟩) hS.2.2 d_17_11_17
    · skip
      have tc_2 : ¬ p1.toInt < p2.toInt := fun h9 => c_2 (Int32.lt_iff_toInt_lt.mpr h9)
      exfalso
      omega
set_option maxHeartbeats 8000000 in
set_option maxRecDepth 100000 in
theorem g_String_checkIndex (l : Launch) (D : va_G) (kI kJ kB kZ : ClassId) (sz : Nat) (p1 : Int32) (p2 : Int32) (sA : Nat → Nat) (sV : Nat → Nat) (hq_0 : 0 ≤ p1.toInt) (hq_1 : p1.toInt < p2.toInt) : Met l (⟨"java/lang/String", "checkIndex", "(II)V"⟩ : MethodName) (Cond.code (⟨"java/lang/String", "checkIndex", "(II)V"⟩ : MethodName) prog_13_method_155_code 2 (none) :: gT) ({ frames := 1, cells := 0, slots := 0, locals := 22 }) (va_Pc [.int p1, .int p2] (xP D (xT kI kJ kB kZ) (xE sA sV) [] sz)) (va_Qv (fun _ : Unit => True) (fun _ t => xQ D (xT kI kJ kB kZ) (va_A [] sz) [] t) (va_A [] sz)) 0 0 (va_A [] sz) := by
  refine Met.ofW (cc := prog_13_method_155_code) (maxL := 2) (ret := none) (by decide +kernel) rfl ?_
  intro p e s m args below meth c s₁ B hml hv
  obtain ⟨rfl, hsz, hP, hK, hD0, hE⟩ := hv
  have hx := B.exec
  have hb := B.bytes
  have hr := B.returns
  have hts : ∀ w ∈ gT, w.before _ s = true := fun w h => atoms_spec (ws := Cond.code (⟨"java/lang/String", "checkIndex", "(II)V"⟩ : MethodName) prog_13_method_155_code 2 (none) :: gT) B.pre w (List.mem_cons_of_mem _ h)
  have hown : s.vm.findClass "java/lang/String" = some m.cls := findClass_of_methodNamed B.named
  have hlocks := B.notSynchronized
  subst hsz
  have hD := hD0.self (sz := s.heap.size)
  generalize hAe : va_A [] s.heap.size = A at hD hE ⊢
  have hA : ∀ q : Nat, s.heap.size ≤ q → A q := fun q h => by rw [← hAe]; exact Or.inr h
  have hS : va_S A s.heap s.heap [] := va_S.rf
  have hP : va_P D cls9 [] s.heap := hP
  have hl := lv_entry ([.int p1, .int p2]) (n := 2) (Nat.le_of_ble_eq_true rfl)
  rw [lg_entry_eq]
  generalize (lg_sl ([.int p1, .int p2]) ++ List.replicate (2 - (lg_sl ([.int p1, .int p2])).length) Slot.unset).toArray = ls at hl ⊢
  have hl : lv_has ls 2 [(0, .int p1), (1, .int p2)] := hl
  refine lv_iload_n hx hb d_13_155_0 rfl (lv_at hl 0 rfl) ?_
  refine lv_iload_n hx hb d_13_155_1 rfl (lv_at hl 1 rfl) ?_
  rcases xE_Zq hE with hz | ⟨sF, hz⟩
  · skip
    refine va_gets hx hb hz hS hown (hts _ m_179) (fun _ h9 => h9) d_13_155_2 ?_
    have hPc := hP.sub (ws' := []) [] rfl
    have hDc := hD.sub (ws' := []) [] (by decide) rfl
    have hFc := va_free (wc := []) hD hS hA [] rfl
    refine va_calli (va_runS (As := [.int p1, .int p2, .null]) (rest := []) ⟨hx, hb, hml, hown, hts⟩ (g_Preconditions_checkIndex_null l D kI kJ kB kZ _ (p1) (p2) (by first | assumption | omega) (by first | assumption | omega)) (va_cwS 3 hts (gT_S m_181 m_182 m_124 (gT_ws m_183)) rfl rfl rfl (by decide +kernel) ⟨(Nat.le_of_ble_eq_true rfl), (Nat.le_of_ble_eq_true rfl)⟩) ⟨xBlind xOk_N, xAtN hK hPc hDc⟩ rfl rfl hl.1 rfl (lv_room (Nat.le_of_ble_eq_true rfl)) d_13_155_5 ⟨(Nat.le_of_ble_eq_true rfl), (Nat.le_of_ble_eq_true rfl)⟩) hS (fun q _ h => hFc q h) hFc (fun r_1 u t H1 locs ht hvm hw_2 hB hz1 hk1 hS => ?_)
    clear hz1
    obtain ⟨hP, hD⟩ := xJoin (wr := []) (w1 := []) hP hD [] [] rfl rfl (by decide) (by decide) hk1 hFc ht hB
    generalize H1 = H at hP hS ⊢
    have hP : va_P D cls9 [] H := hP
    have hD : va_D A [] := hD
    refine xtopi (v := p1) hw_2 ?_
    refine lv_pop hx hb d_13_155_8 rfl ?_
    have hP9 := hP.sub (ws' := []) [] rfl
    have hD9 := hD.sub (ws' := []) [] (by decide) rfl
    exact W.vret hx hb hr (fun t ht hW => ⟨⟨(), rfl, trivial, xEnd hK hP9 hD9 ht hW⟩, hS.F ht⟩) hS.2.2 d_13_155_9
  · skip
    refine va_gets hx hb hz hS hown (hts _ m_179) (fun _ h9 => h9) d_13_155_2 ?_
    have hPc := hP.sub (ws' := []) [] rfl
    have hDc := hD.sub (ws' := []) [] (by decide) rfl
    have hFc := va_free (wc := []) hD hS hA [] rfl
    refine va_calli (va_runS (As := [.int p1, .int p2, .ref sF]) (rest := []) ⟨hx, hb, hml, hown, hts⟩ (g_Preconditions_checkIndex_ref l D kI kJ kB kZ _ (p1) (p2) (sF) (by first | assumption | omega) (by first | assumption | omega)) (va_cwS 3 hts (gT_S m_181 m_182 m_124 (gT_ws m_183)) rfl rfl rfl (by decide +kernel) ⟨(Nat.le_of_ble_eq_true rfl), (Nat.le_of_ble_eq_true rfl)⟩) ⟨xBlind xOk_N, xAtN hK hPc hDc⟩ rfl rfl hl.1 rfl (lv_room (Nat.le_of_ble_eq_true rfl)) d_13_155_5 ⟨(Nat.le_of_ble_eq_true rfl), (Nat.le_of_ble_eq_true rfl)⟩) hS (fun q _ h => hFc q h) hFc (fun r_3 u t H1 locs ht hvm hw_4 hB hz1 hk1 hS => ?_)
    clear hz1
    obtain ⟨hP, hD⟩ := xJoin (wr := []) (w1 := []) hP hD [] [] rfl rfl (by decide) (by decide) hk1 hFc ht hB
    generalize H1 = H at hP hS ⊢
    have hP : va_P D cls9 [] H := hP
    have hD : va_D A [] := hD
    refine xtopi (v := p1) hw_4 ?_
    refine lv_pop hx hb d_13_155_8 rfl ?_
    have hP9 := hP.sub (ws' := []) [] rfl
    have hD9 := hD.sub (ws' := []) [] (by decide) rfl
    exact W.vret hx hb hr (fun t ht hW => ⟨⟨(), rfl, trivial, xEnd hK hP9 hD9 ht hW⟩, hS.F ht⟩) hS.2.2 d_13_155_9
