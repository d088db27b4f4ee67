set_option maxHeartbeats 8000000 in
set_option maxRecDepth 100000 in
theorem g_Arrays_fill_2 (l : Launch) (D : va_G) (kI kJ kB kZ : ClassId) (sz : Nat) (h27 : Nat) (f27 : Nat → Int32) (p2 : Int32)  : Met l (⟨"java/util/Arrays", "fill", "([II)V"⟩ : MethodName) (Cond.code (⟨"java/util/Arrays", "fill", "([II)V"⟩ : MethodName) prog_16_method_103_code 4 (none) :: gT) ({ frames := 0, cells := 0, slots := 0, locals := 0 }) (va_Pc [.ref h27, .int p2] (xP D (xT kI kJ kB kZ) xN [(h27, .inl (kI, 3000, .inl f27))] sz)) (va_Qv (fun _ : Unit => True) (fun _ t => ∃ f27' : Nat → Int32, xQ D (xT kI kJ kB kZ) (va_A [(h27, .inl (kI, 3000, .inl f27))] sz) [(h27, .inl (kI, 3000, .inl f27'))] t) (va_A [(h27, .inl (kI, 3000, .inl f27))] sz)) 0 0 (va_A [(h27, .inl (kI, 3000, .inl f27))] sz) := by
  refine Met.ofW (cc := prog_16_method_103_code) (maxL := 4) (ret := none) (by decide +kernel) rfl ?_
  intro p e s m args below meth c s₁ B hml hv
  obtain ⟨rfl, hsz, hP, hK, hD0, hE⟩ := hv
  have hx := B.exec
  have hb := B.bytes
  have hr := B.returns
  have hts : ∀ w ∈ gT, w.before _ s = true := fun w h => atoms_spec (ws := Cond.code (⟨"java/util/Arrays", "fill", "([II)V"⟩ : MethodName) prog_16_method_103_code 4 (none) :: gT) B.pre w (List.mem_cons_of_mem _ h)
  have hown : s.vm.findClass "java/util/Arrays" = some m.cls := findClass_of_methodNamed B.named
  have hlocks := B.notSynchronized
  subst hsz
  have hD := hD0.self (sz := s.heap.size)
  generalize hAe : va_A [(h27, .inl (kI, 3000, .inl f27))] s.heap.size = A at hD hE ⊢
  have hA : ∀ q : Nat, s.heap.size ≤ q → A q := fun q h => by rw [← hAe]; exact Or.inr h
  have hS : va_S A s.heap s.heap [] := va_S.rf
  have hP : va_P D cls9 [(h27, .inl (kI, 3000, .inl f27))] s.heap := hP
  have hl := lv_entry ([.ref h27, .int p2]) (n := 4) (Nat.le_of_ble_eq_true rfl)
  rw [lg_entry_eq]
  generalize (lg_sl ([.ref h27, .int p2]) ++ List.replicate (4 - (lg_sl ([.ref h27, .int p2])).length) Slot.unset).toArray = ls at hl ⊢
  have hl : lv_has ls 4 [(0, .ref h27), (1, .int p2)] := hl
  refine lv_iconst (v := 0) hx hb d_16_103_0 (by decide +kernel) ?_
  refine lv_istore_n (lv' := [(2, .int 0), (0, .ref h27), (1, .int p2)]) hx hb d_16_103_1 rfl hl (by decide +kernel) rfl (fun ls hl => ?_)
  refine lv_aload_n hx hb d_16_103_2 rfl (lv_at hl 1 rfl) ?_
  refine va_alen (v := 3000) hx hb hK hP 0 0 rfl rfl rfl d_16_103_3 ?_
  refine lv_istore_n (lv' := [(3, .int 3000), (2, .int 0), (0, .ref h27), (1, .int p2)]) hx hb d_16_103_4 rfl hl (by decide +kernel) rfl (fun ls hl => ?_)
  refine xLoop (I := fun n H locs ls => ∃ w5_h27 : Nat → Int32, ∃ v5_2 : Int32, (0 ≤ v5_2.toInt) ∧ (v5_2.toInt ≤ 3000) ∧ n = (3000 - v5_2.toInt).toNat ∧ va_P D cls9 [(h27, .inl (kI, 3000, .inl w5_h27))] H ∧ va_D A [(h27, .inl (kI, 3000, .inl w5_h27))] ∧ va_S A s.heap H locs ∧ lv_has ls 4 [(3, .int 3000), (2, .int v5_2), (0, .ref h27), (1, .int p2)]) ?_ _ _ _ _ ⟨f27, 0, (show 0 ≤ (0 : Int) from (by first | assumption | omega)), (show (0 : Int) ≤ 3000 from (by first | assumption | omega)), rfl, hP.sub (ws' := [(h27, .inl (kI, 3000, .inl f27))]) [0] rfl, hD.sub (ws' := [(h27, .inl (kI, 3000, .inl f27))]) [0] (by decide) rfl, hS, lv_sub hl [0, 1, 2, 3] rfl⟩
  intro n_3 H locs ls hI9 ih_4
  revert hI9
  refine exI fun w5_h27 => exI fun v5_2 => anI fun hl_1 => anI fun hl_2 => anI fun hn_3 => anI fun hP => anI fun hD => anI fun hS => fun hl => ?_
  refine lv_iload_n hx hb d_16_103_5 rfl (lv_at hl 1 rfl) ?_
  refine lv_iload_n hx hb d_16_103_6 rfl (lv_at hl 0 rfl) ?_
  refine lv_icmp_ge (tgt := 20) hx hb d_16_103_7 (by decide +kernel) (fun c_5 => ?_) (fun c_5 => ?_)
  · skip
    have tc_5 : 3000 ≤ v5_2.toInt := Int32.le_iff_toInt_le.mp c_5
    have hP9 := hP.sub (ws' := [(h27, .inl (kI, 3000, .inl w5_h27))]) [0] rfl
    have hD9 := hD.sub (ws' := [(h27, .inl (kI, 3000, .inl w5_h27))]) [0] (by decide) rfl
    exact W.vret hx hb hr (fun t ht hW => ⟨⟨(), rfl, trivial, w5_h27, xEnd hK hP9 hD9 ht hW⟩, hS.F ht⟩) hS.2.2 d_16_103_20
  · skip
    have tc_5 : ¬ 3000 ≤ v5_2.toInt := fun h9 => c_5 (Int32.le_iff_toInt_le.mpr h9)
    refine lv_aload_n hx hb d_16_103_10 rfl (lv_at hl 2 rfl) ?_
    refine lv_iload_n hx hb d_16_103_11 rfl (lv_at hl 1 rfl) ?_
    refine lv_iload_n hx hb d_16_103_12 rfl (lv_at hl 3 rfl) ?_
    refine va_iast hx hb hK hP hD hS 0 0 rfl rfl (vp_in_iff.mpr ⟨by omega, by omega⟩) d_16_103_13 (fun H locs hP1 hD1 hS1 => ?_)
    replace hP : va_P D cls9 [(h27, .inl (kI, 3000, .inl (upd w5_h27 (Int32.toNatClampNeg v5_2) p2)))] H := hP1
    replace hD : va_D A [(h27, .inl (kI, 3000, .inl (upd w5_h27 (Int32.toNatClampNeg v5_2) p2)))] := hD1
    replace hS := hS1
    clear hP1 hD1 hS1
    obtain ⟨y_6, ey_6⟩ : ∃ y : Int32, y = v5_2 + 1 := ⟨_, rfl⟩
    have ty_6 : y_6.toInt = v5_2.toInt + 1 := by rw [ey_6]; exact zaddc (by decide +kernel) (by omega) (by omega)
    refine lv_iinc (v := y_6) (lv' := [(2, .int y_6), (3, .int 3000), (0, .ref h27), (1, .int p2)]) hx hb d_16_103_14 hl (k := 1) rfl (by rw [ey_6]; rfl) (by decide +kernel) rfl (fun ls hl => ?_)
    refine lv_goto (tgt := 5) hx hb d_16_103_17 (by decide +kernel) ?_
    exact ih_4 _ _ _ _ (by omega) ⟨(upd w5_h27 (Int32.toNatClampNeg v5_2) p2), y_6, (show 0 ≤ y_6.toInt from (by first | assumption | omega)), (show y_6.toInt ≤ 3000 from (by first | assumption | omega)), rfl, hP.sub (ws' := [(h27, .inl (kI, 3000, .inl (upd w5_h27 (Int32.toNatClampNeg v5_2) p2)))]) [0] rfl, hD.sub (ws' := [(h27, .inl (kI, 3000, .inl (upd w5_h27 (Int32.toNatClampNeg v5_2) p2)))]) [0] (by decide) rfl, hS, lv_sub hl [1, 0, 2, 3] rfl⟩
set_option maxHeartbeats 8000000 in
set_option maxRecDepth 100000 in
theorem g_String_coder (l : Launch) (D : va_G) (kI kJ kB kZ : ClassId) (sz : Nat) (sA : Nat → Nat) (sV : Nat → Nat) (i : Nat) (hi : i < 47) : Met l (⟨"java/lang/String", "coder", "()B"⟩ : MethodName) (Cond.code (⟨"java/lang/String", "coder", "()B"⟩ : MethodName) prog_13_method_152_code 1 (some .byte) :: gT) ({ frames := 0, cells := 0, slots := 0, locals := 0 }) (va_Pc [.ref (sA i)] (xP D (xT kI kJ kB kZ) (xE sA sV) [] sz)) (va_Qi (fun (r : Int32) (_ : Unit) => r = 0) (fun _ t => xQ D (xT kI kJ kB kZ) (va_A [] sz) [] t) (va_A [] sz)) 0 0 (va_A [] sz) := by
  refine Met.ofW (cc := prog_13_method_152_code) (maxL := 1) (ret := some .byte) (by decide +kernel) rfl ?_
  intro p e s m args below meth c s₁ B hml hv
  obtain ⟨rfl, hsz, hP, hK, hD0, hE⟩ := hv
  have hx := B.exec
  have hb := B.bytes
  have hr := B.returns
  have hts : ∀ w ∈ gT, w.before _ s = true := fun w h => atoms_spec (ws := Cond.code (⟨"java/lang/String", "coder", "()B"⟩ : MethodName) prog_13_method_152_code 1 (some .byte) :: gT) B.pre w (List.mem_cons_of_mem _ h)
  have hown : s.vm.findClass "java/lang/String" = some m.cls := findClass_of_methodNamed B.named
  have hlocks := B.notSynchronized
  subst hsz
  have hD := hD0.self (sz := s.heap.size)
  generalize hAe : va_A [] s.heap.size = A at hD hE ⊢
  have hA : ∀ q : Nat, s.heap.size ≤ q → A q := fun q h => by rw [← hAe]; exact Or.inr h
  have hS : va_S A s.heap s.heap [] := va_S.rf
  have hP : va_P D cls9 [] s.heap := hP
  have hl := lv_entry ([.ref (sA i)]) (n := 1) (Nat.le_of_ble_eq_true rfl)
  rw [lg_entry_eq]
  generalize (lg_sl ([.ref (sA i)]) ++ List.replicate (1 - (lg_sl ([.ref (sA i)])).length) Slot.unset).toArray = ls at hl ⊢
  have hl : lv_has ls 1 [(0, .ref (sA i))] := hl
  refine va_gets hx hb (xE_Z hE) hS hown (hts _ m_163) (fun _ h9 => h9) d_13_152_0 ?_
  refine lv_if_eq (tgt := 13) hx hb d_13_152_3 (by decide +kernel) (fun c_1 => ?_) (fun c_1 => ?_)
  · exact absurd c_1 (by decide +kernel)
  refine lv_aload_n hx hb d_13_152_6 rfl (lv_at hl 0 rfl) ?_
  refine vk_getf hx hb (xE_c hE i hi) hS hown (hts _ m_1652) (fun _ h9 => h9) d_13_152_7 ?_
  refine lv_goto (tgt := 14) hx hb d_13_152_10 (by decide +kernel) ?_
  have hP9 := hP.sub (ws' := []) [] rfl
  have hD9 := hD.sub (ws' := []) [] (by decide) rfl
  exact W.zret (v := 0) (ty := .byte) hx hb hr (by decide +kernel) (fun t ht hW => ⟨⟨0, (), rfl, rfl, xEnd hK hP9 hD9 ht hW⟩, hS.F ht⟩) hS.2.2 d_13_152_14
set_option maxHeartbeats 8000000 in
set_option maxRecDepth 100000 in
theorem g_String_isLatin1 (l : Launch) (D : va_G) (kI kJ kB kZ : ClassId) (sz : Nat) (sA : Nat → Nat) (sV : Nat → Nat) (i : Nat) (hi : i < 47) : Met l (⟨"java/lang/String", "isLatin1", "()Z"⟩ : MethodName) (Cond.code (⟨"java/lang/String", "isLatin1", "()Z"⟩ : MethodName) prog_13_method_154_code 1 (some .boolean) :: gT) ({ frames := 0, cells := 0, slots := 0, locals := 0 }) (va_Pc [.ref (sA i)] (xP D (xT kI kJ kB kZ) (xE sA sV) [] sz)) (va_Qi (fun (r : Int32) (_ : Unit) => r = 1) (fun _ t => xQ D (xT kI kJ kB kZ) (va_A [] sz) [] t) (va_A [] sz)) 0 0 (va_A [] sz) := by
  refine Met.ofW (cc := prog_13_method_154_code) (maxL := 1) (ret := some .boolean) (by decide +kernel) rfl ?_
  intro p e s m args below meth c s₁ B hml hv
  obtain ⟨rfl, hsz, hP, hK, hD0, hE⟩ := hv
  have hx := B.exec
  have hb := B.bytes
  have hr := B.returns
  have hts : ∀ w ∈ gT, w.before _ s = true := fun w h => atoms_spec (ws := Cond.code (⟨"java/lang/String", "isLatin1", "()Z"⟩ : MethodName) prog_13_method_154_code 1 (some .boolean) :: gT) B.pre w (List.mem_cons_of_mem _ h)
  have hown : s.vm.findClass "java/lang/String" = some m.cls := findClass_of_methodNamed B.named
  have hlocks := B.notSynchronized
  subst hsz
  have hD := hD0.self (sz := s.heap.size)
  generalize hAe : va_A [] s.heap.size = A at hD hE ⊢
  have hA : ∀ q : Nat, s.heap.size ≤ q → A q := fun q h => by rw [← hAe]; exact Or.inr h
  have hS : va_S A s.heap s.heap [] := va_S.rf
  have hP : va_P D cls9 [] s.heap := hP
  have hl := lv_entry ([.ref (sA i)]) (n := 1) (Nat.le_of_ble_eq_true rfl)
  rw [lg_entry_eq]
  generalize (lg_sl ([.ref (sA i)]) ++ List.replicate (1 - (lg_sl ([.ref (sA i)])).length) Slot.unset).toArray = ls at hl ⊢
  have hl : lv_has ls 1 [(0, .ref (sA i))] := hl
  refine va_gets hx hb (xE_Z hE) hS hown (hts _ m_163) (fun _ h9 => h9) d_13_154_0 ?_
  refine lv_if_eq (tgt := 17) hx hb d_13_154_3 (by decide +kernel) (fun c_1 => ?_) (fun c_1 => ?_)
  · exact absurd c_1 (by decide +kernel)
  refine lv_aload_n hx hb d_13_154_6 rfl (lv_at hl 0 rfl) ?_
  refine vk_getf hx hb (xE_c hE i hi) hS hown (hts _ m_1652) (fun _ h9 => h9) d_13_154_7 ?_
  refine lv_if_ne (tgt := 17) hx hb d_13_154_10 (by decide +kernel) (fun c_2 => ?_) (fun c_2 => ?_)
  · exact absurd c_2 (by decide +kernel)
  refine lv_iconst (v := 1) hx hb d_13_154_13 (by decide +kernel) ?_
  refine lv_goto (tgt := 18) hx hb d_13_154_14 (by decide +kernel) ?_
  have hP9 := hP.sub (ws' := []) [] rfl
  have hD9 := hD.sub (ws' := []) [] (by decide) rfl
  exact W.zret (v := 1) (ty := .boolean) hx hb hr (by decide +kernel) (fun t ht hW => ⟨⟨1, (), rfl, rfl, xEnd hK hP9 hD9 ht hW⟩, hS.F ht⟩) hS.2.2 d_13_154_18
set_option maxHeartbeats 8000000 in
set_option maxRecDepth 100000 in
theorem g_String_length (l : Launch) (D : va_G) (kI kJ kB kZ : ClassId) (sz : Nat) (sA : Nat → Nat) (sV : Nat → Nat) (i : Nat) (hi : i < 47) : Met l (⟨"java/lang/String", "length", "()I"⟩ : MethodName) (Cond.code (⟨"java/lang/String", "length", "()I"⟩ : MethodName) prog_13_method_54_code 1 (some .int) :: gT) ({ frames := 1, cells := 0, slots := 0, locals := 20 }) (va_Pc [.ref (sA i)] (xP D (xT kI kJ kB kZ) (xE sA sV) [] sz)) (va_Qi (fun (r : Int32) (_ : Unit) => r.toInt = sN i) (fun _ t => xQ D (xT kI kJ kB kZ) (va_A [] sz) [] t) (va_A [] sz)) 0 0 (va_A [] sz) := by
  refine Met.ofW (cc := prog_13_method_54_code) (maxL := 1) (ret := some .int) (by decide +kernel) rfl ?_
  intro p e s m args below meth c s₁ B hml hv
  obtain ⟨rfl, hsz, hP, hK, hD0, hE⟩ := hv
  have hx := B.exec
  have hb := B.bytes
  have hr := B.returns
  have hts : ∀ w ∈ gT, w.before _ s = true := fun w h => atoms_spec (ws := Cond.code (⟨"java/lang/String", "length", "()I"⟩ : MethodName) prog_13_method_54_code 1 (some .int) :: gT) B.pre w (List.mem_cons_of_mem _ h)
  have hown : s.vm.findClass "java/lang/String" = some m.cls := findClass_of_methodNamed B.named
  have hlocks := B.notSynchronized
  subst hsz
  have hD := hD0.self (sz := s.heap.size)
  generalize hAe : va_A [] s.heap.size = A at hD hE ⊢
  have hA : ∀ q : Nat, s.heap.size ≤ q → A q := fun q h => by rw [← hAe]; exact Or.inr h
  have hS : va_S A s.heap s.heap [] := va_S.rf
  have hP : va_P D cls9 [] s.heap := hP
  have hl := lv_entry ([.ref (sA i)]) (n := 1) (Nat.le_of_ble_eq_true rfl)
  rw [lg_entry_eq]
  generalize (lg_sl ([.ref (sA i)]) ++ List.replicate (1 - (lg_sl ([.ref (sA i)])).length) Slot.unset).toArray = ls at hl ⊢
  have hl : lv_has ls 1 [(0, .ref (sA i))] := hl
  refine lv_aload_n hx hb d_13_54_0 rfl (lv_at hl 0 rfl) ?_
  refine vk_getf hx hb (xE_v hE i hi) hS hown (hts _ m_1651) (fun _ h9 => h9) d_13_54_1 ?_
  refine va_tlen (v := nI (sN i)) hx hb (xE_T hE i hi) hS rfl d_13_54_4 ?_
  refine lv_topi (fun y_1 ey_1 => ?_)
  have ty_1 : y_1.toInt = sN i := by rw [ey_1]; exact sN_toInt i hi
  have uy_1 : sN i ≤ 140 := sN_le i hi
  refine lv_aload_n hx hb d_13_54_5 rfl (lv_at hl 0 rfl) ?_
  have hPc := hP.sub (ws' := []) [] rfl
  have hDc := hD.sub (ws' := []) [] (by decide) rfl
  have hFc := va_free (wc := []) hD hS hA [] rfl
  refine va_calli (va_runV (As := []) (rest := [.int y_1]) ⟨hx, hb, hml, hown, hts⟩ (g_String_coder l D kI kJ kB kZ _ (sA) (sV) (i) hi) (cwV 0 hts (gT_V m_159 m_160 m_161 m_122 (gT_ws m_162)) rfl rfl rfl (by decide +kernel) ⟨(Nat.le_of_ble_eq_true rfl), (Nat.le_of_ble_eq_true rfl)⟩) ⟨xBlind (xOk_E sA sV), (xE_O hE i hi hS), xAt (xOk_E sA sV) hK hPc hDc hS hFc hE⟩ rfl rfl hl.1 rfl (lv_room (Nat.le_of_ble_eq_true rfl)) d_13_54_6 ⟨(Nat.le_of_ble_eq_true rfl), (Nat.le_of_ble_eq_true rfl)⟩) hS (fun q _ h => hFc q h) hFc (fun r_2 u t H locs ht hvm hw_3 hB hz1 hk1 hS => ?_)
  clear hz1
  have hPD := xJoin (wr := []) (w1 := []) hP hD [] [] rfl rfl (by decide) (by decide) hk1 hFc ht hB
  replace hP : va_P D cls9 [] H := hPD.1
  replace hD : va_D A [] := hPD.2
  clear hPD hB hk1 hPc hDc hFc
  refine xtopi (v := 0) hw_3 ?_
  refine lv_ishr hx hb d_13_54_9 ?_
  refine xtopi (v := y_1) (sb_shr0 _) ?_
  have hP9 := hP.sub (ws' := []) [] rfl
  have hD9 := hD.sub (ws' := []) [] (by decide) rfl
  have hrp : y_1.toInt = sN i := by first |  omega | assumption | exact pk_nc _ | exact Or.inl ⟨by omega, by omega, by assumption⟩ | exact Or.inr ⟨by omega, by decide +kernel⟩ | exact fun h9 => absurd h9 (by omega) | exact fun _ => isH_no1 (by omega) | exact fun _ => isH_no2 (by assumption) (by assumption) (by omega) | (intro h9; omega) | (intro h8 h9; omega)
  exact W.iret (v := y_1) hx hb hr (fun t ht hW => ⟨⟨y_1, (), rfl, hrp, xEnd hK hP9 hD9 ht hW⟩, hS.F ht⟩) hS.2.2 d_13_54_10
set_option maxHeartbeats 8000000 in
set_option maxRecDepth 100000 in
theorem g_Preconditions_checkIndex_null (l : Launch) (D : va_G) (kI kJ kB kZ : ClassId) (sz : Nat) (p1 : Int32) (p2 : Int32) (hq_0 : 0 ≤ p1.toInt) (hq_1 : p1.toInt < p2.toInt) : Met l (⟨"jdk/internal/util/Preconditions", "checkIndex", "(IILjava/util/function/BiFunction;)I"⟩ : MethodName) (Cond.code (⟨"jdk/internal/util/Preconditions", "checkIndex", "(IILjava/util/function/BiFunction;)I"⟩ : MethodName) prog_17_method_11_code 3 (some .int) :: gT) ({ frames := 0, cells := 0, slots := 0, locals := 0 }) (va_Pc [.int p1, .int p2, .null] (xP D (xT kI kJ kB kZ) xN [] sz)) (va_Qi (fun (r : Int32) (_ : Unit) => r = p1) (fun _ t => xQ D (xT kI kJ kB kZ) (va_A [] sz) [] t) (va_A [] sz)) 0 0 (va_A [] sz) := by
  refine Met.ofW (cc := prog_17_method_11_code) (maxL := 3) (ret := some .int) (by decide +kernel) rfl ?_
  intro p e s m args below meth c s₁ B hml hv
  obtain ⟨rfl, hsz, hP, hK, hD0, hE⟩ := hv
  have hx := B.exec
  have hb := B.bytes
  have hr := B.returns
  have hts : ∀ w ∈ gT, w.before _ s = true := fun w h => atoms_spec (ws := Cond.code (⟨"jdk/internal/util/Preconditions", "checkIndex", "(IILjava/util/function/BiFunction;)I"⟩ : MethodName) prog_17_method_11_code 3 (some .int) :: gT) B.pre w (List.mem_cons_of_mem _ h)
  have hown : s.vm.findClass "jdk/internal/util/Preconditions" = some m.cls := findClass_of_methodNamed B.named
  have hlocks := B.notSynchronized
  subst hsz
  have hD := hD0.self (sz := s.heap.size)
  generalize hAe : va_A [] s.heap.size = A at hD hE ⊢
  have hA : ∀ q : Nat, s.heap.size ≤ q → A q := fun q h => by rw [← hAe]; exact Or.inr h
  have hS : va_S A s.heap s.heap [] := va_S.rf
  have hP : va_P D cls9 [] s.heap := hP
  have hl := lv_entry ([.int p1, .int p2, .null]) (n := 3) (Nat.le_of_ble_eq_true rfl)
  rw [lg_entry_eq]
  generalize (lg_sl ([.int p1, .int p2, .null]) ++ List.replicate (3 - (lg_sl ([.int p1, .int p2, .null])).length) Slot.unset).toArray = ls at hl ⊢
  have hl : lv_has ls 3 [(0, .int p1), (1, .int p2), (2, .null)] := hl
  refine lv_iload_n hx hb d_17_11_0 rfl (lv_at hl 0 rfl) ?_
  refine lv_if_lt (tgt := 9) hx hb d_17_11_1 (by decide +kernel) (fun c_1 => ?_) (fun c_1 => ?_)
  · skip
    have tc_1 : p1.toInt < 0 := Int32.lt_iff_toInt_lt.mp c_1
    exfalso
    omega
  · skip
    have tc_1 : ¬ p1.toInt < 0 := fun h9 => c_1 (Int32.lt_iff_toInt_lt.mpr h9)
    refine lv_iload_n hx hb d_17_11_4 rfl (lv_at hl 0 rfl) ?_
    refine lv_iload_n hx hb d_17_11_5 rfl (lv_at hl 1 rfl) ?_
    refine lv_icmp_lt (tgt := 16) hx hb d_17_11_6 (by decide +kernel) (fun c_2 => ?_) (fun c_2 => ?_)
    · skip
      have tc_2 : p1.toInt < p2.toInt := Int32.lt_iff_toInt_lt.mp c_2
      refine lv_iload_n hx hb d_17_11_16 rfl (lv_at hl 0 rfl) ?_
      have hP9 := hP.sub (ws' := []) [] rfl
      have hD9 := hD.sub (ws' := []) [] (by decide) rfl
      exact W.iret (v := p1) hx hb hr (fun t ht hW => ⟨⟨p1, (), rfl, rfl, xEnd hK hP9 hD9 ht hW⟩, hS.F ht⟩) hS.2.2 d_17_11_17
    · skip
      have tc_2 : ¬ p1.toInt < p2.toInt := fun h9 => c_2 (Int32.lt_iff_toInt_lt.mpr h9)
      exfalso
      omega
set_option maxHeartbeats 8000000 in
set_option maxRecDepth 100000 in
theorem g_Preconditions_checkIndex_ref (l : Launch) (D : va_G) (kI kJ kB kZ : ClassId) (sz : Nat) (p1 : Int32) (p2 : Int32) (sF : Nat) (hq_0 : 0 ≤ p1.toInt) (hq_1 : p1.toInt < p2.toInt) : Met l (⟨"jdk/internal/util/Preconditions", "checkIndex", "(IILjava/util/function/BiFunction;)I"⟩ : MethodName) (Cond.code (⟨"jdk/internal/util/Preconditions", "checkIndex", "(IILjava/util/function/BiFunction;)I"⟩ : MethodName) prog_17_method_11_code 3 (some .int) :: gT) ({ frames := 0, cells := 0, slots := 0, locals := 0 }) (va_Pc [.int p1, .int p2, .ref sF] (xP D (xT kI kJ kB kZ) xN [] sz)) (va_Qi (fun (r : Int32) (_ : Unit) => r = p1) (fun _ t => xQ D (xT kI kJ kB kZ) (va_A [] sz) [] t) (va_A [] sz)) 0 0 (va_A [] sz) := by
  refine Met.ofW (cc := prog_17_method_11_code) (maxL := 3) (ret := some .int) (by decide +kernel) rfl ?_
  intro p e s m args below meth c s₁ B hml hv
  obtain ⟨rfl, hsz, hP, hK, hD0, hE⟩ := hv
  have hx := B.exec
  have hb := B.bytes
  have hr := B.returns
  have hts : ∀ w ∈ gT, w.before _ s = true := fun w h => atoms_spec (ws := Cond.code (⟨"jdk/internal/util/Preconditions", "checkIndex", "(IILjava/util/function/BiFunction;)I"⟩ : MethodName) prog_17_method_11_code 3 (some .int) :: gT) B.pre w (List.mem_cons_of_mem _ h)
  have hown : s.vm.findClass "jdk/internal/util/Preconditions" = some m.cls := findClass_of_methodNamed B.named
  have hlocks := B.notSynchronized
  subst hsz
  have hD := hD0.self (sz := s.heap.size)
  generalize hAe : va_A [] s.heap.size = A at hD hE ⊢
  have hA : ∀ q : Nat, s.heap.size ≤ q → A q := fun q h => by rw [← hAe]; exact Or.inr h
  have hS : va_S A s.heap s.heap [] := va_S.rf
  have hP : va_P D cls9 [] s.heap := hP
  have hl := lv_entry ([.int p1, .int p2, .ref sF]) (n := 3) (Nat.le_of_ble_eq_true rfl)
  rw [lg_entry_eq]
  generalize (lg_sl ([.int p1, .int p2, .ref sF]) ++ List.replicate (3 - (lg_sl ([.int p1, .int p2, .ref sF])).length) Slot.unset).toArray = ls at hl ⊢
  have hl : lv_has ls 3 [(0, .int p1), (1, .int p2), (2, .ref sF)] := hl
  refine lv_iload_n hx hb d_17_11_0 rfl (lv_at hl 0 rfl) ?_
  refine lv_if_lt (tgt := 9) hx hb d_17_11_1 (by decide +kernel) (fun c_1 => ?_) (fun c_1 => ?_)
  · skip
    have tc_1 : p1.toInt < 0 := Int32.lt_iff_toInt_lt.mp c_1
    exfalso
    omega
  · skip
    have tc_1 : ¬ p1.toInt < 0 := fun h9 => c_1 (Int32.lt_iff_toInt_lt.mpr h9)
    refine lv_iload_n hx hb d_17_11_4 rfl (lv_at hl 0 rfl) ?_
    refine lv_iload_n hx hb d_17_11_5 rfl (lv_at hl 1 rfl) ?_
    refine lv_icmp_lt (tgt := 16) hx hb d_17_11_6 (by decide +kernel) (fun c_2 => ?_) (fun c_2 => ?_)
    · skip
      have tc_2 : p1.toInt < p2.toInt := Int32.lt_iff_toInt_lt.mp c_2
      refine lv_iload_n hx hb d_17_11_16 rfl (lv_at hl 0 rfl) ?_
      have hP9 := hP.sub (ws' := []) [] rfl
      have hD9 := hD.sub (ws' := []) [] (by decide) rfl
      exact W.iret (v := p1) hx hb hr (fun t ht hW => ⟨⟨p1, (), rfl, rfl, xEnd hK hP9 hD9 ht hW⟩, hS.F ht⟩) hS.2.2 d_17_11_17
    · skip
      have tc_2 : ¬ p1.toInt < p2.toInt := fun h9 => c_2 (Int32.lt_iff_toInt_lt.mpr h9)
      exfalso
      omega
set_option maxHeartbeats 8000000 in
set_option maxRecDepth 100000 in
theorem g_String_checkIndex (l : Launch) (D : va_G) (kI kJ kB kZ : ClassId) (sz : Nat) (p1 : Int32) (p2 : Int32) (sA : Nat → Nat) (sV : Nat → Nat) (hq_0 : 0 ≤ p1.toInt) (hq_1 : p1.toInt < p2.toInt) : Met l (⟨"java/lang/String", "checkIndex", "(II)V"⟩ : MethodName) (Cond.code (⟨"java/lang/String", "checkIndex", "(II)V"⟩ : MethodName) prog_13_method_155_code 2 (none) :: gT) ({ frames := 1, cells := 0, slots := 0, locals := 22 }) (va_Pc [.int p1, .int p2] (xP D (xT kI kJ kB kZ) (xE sA sV) [] sz)) (va_Qv (fun _ : Unit => True) (fun _ t => xQ D (xT kI kJ kB kZ) (va_A [] sz) [] t) (va_A [] sz)) 0 0 (va_A [] sz) := by
  refine Met.ofW (cc := prog_13_method_155_code) (maxL := 2) (ret := none) (by decide +kernel) rfl ?_
  intro p e s m args below meth c s₁ B hml hv
  obtain ⟨rfl, hsz, hP, hK, hD0, hE⟩ := hv
  have hx := B.exec
  have hb := B.bytes
  have hr := B.returns
  have hts : ∀ w ∈ gT, w.before _ s = true := fun w h => atoms_spec (ws := Cond.code (⟨"java/lang/String", "checkIndex", "(II)V"⟩ : MethodName) prog_13_method_155_code 2 (none) :: gT) B.pre w (List.mem_cons_of_mem _ h)
  have hown : s.vm.findClass "java/lang/String" = some m.cls := findClass_of_methodNamed B.named
  have hlocks := B.notSynchronized
  subst hsz
  have hD := hD0.self (sz := s.heap.size)
  generalize hAe : va_A [] s.heap.size = A at hD hE ⊢
  have hA : ∀ q : Nat, s.heap.size ≤ q → A q := fun q h => by rw [← hAe]; exact Or.inr h
  have hS : va_S A s.heap s.heap [] := va_S.rf
  have hP : va_P D cls9 [] s.heap := hP
  have hl := lv_entry ([.int p1, .int p2]) (n := 2) (Nat.le_of_ble_eq_true rfl)
  rw [lg_entry_eq]
  generalize (lg_sl ([.int p1, .int p2]) ++ List.replicate (2 - (lg_sl ([.int p1, .int p2])).length) Slot.unset).toArray = ls at hl ⊢
  have hl : lv_has ls 2 [(0, .int p1), (1, .int p2)] := hl
  refine lv_iload_n hx hb d_13_155_0 rfl (lv_at hl 0 rfl) ?_
  refine lv_iload_n hx hb d_13_155_1 rfl (lv_at hl 1 rfl) ?_
  rcases xE_Zq hE with hz | ⟨sF, hz⟩
  · skip
    refine va_gets hx hb hz hS hown (hts _ m_179) (fun _ h9 => h9) d_13_155_2 ?_
    have hPc := hP.sub (ws' := []) [] rfl
    have hDc := hD.sub (ws' := []) [] (by decide) rfl
    have hFc := va_free (wc := []) hD hS hA [] rfl
    refine va_calli (va_runS (As := [.int p1, .int p2, .null]) (rest := []) ⟨hx, hb, hml, hown, hts⟩ (g_Preconditions_checkIndex_null l D kI kJ kB kZ _ (p1) (p2) hq_0 hq_1) (va_cwS 3 hts (gT_S m_181 m_182 m_124 (gT_ws m_183)) rfl rfl rfl (by decide +kernel) ⟨(Nat.le_of_ble_eq_true rfl), (Nat.le_of_ble_eq_true rfl)⟩) ⟨xBlind xOk_N, xAtN hK hPc hDc⟩ rfl rfl hl.1 rfl (lv_room (Nat.le_of_ble_eq_true rfl)) d_13_155_5 ⟨(Nat.le_of_ble_eq_true rfl), (Nat.le_of_ble_eq_true rfl)⟩) hS (fun q _ h => hFc q h) hFc (fun r_1 u t H locs ht hvm hw_2 hB hz1 hk1 hS => ?_)
    clear hz1
    have hPD := xJoin (wr := []) (w1 := []) hP hD [] [] rfl rfl (by decide) (by decide) hk1 hFc ht hB
    replace hP : va_P D cls9 [] H := hPD.1
    replace hD : va_D A [] := hPD.2
    clear hPD hB hk1 hPc hDc hFc
    refine xtopi (v := p1) hw_2 ?_
    refine lv_pop hx hb d_13_155_8 rfl ?_
    have hP9 := hP.sub (ws' := []) [] rfl
    have hD9 := hD.sub (ws' := []) [] (by decide) rfl
    exact W.vret hx hb hr (fun t ht hW => ⟨⟨(), rfl, trivial, xEnd hK hP9 hD9 ht hW⟩, hS.F ht⟩) hS.2.2 d_13_155_9
  · skip
    refine va_gets hx hb hz hS hown (hts _ m_179) (fun _ h9 => h9) d_13_155_2 ?_
    have hPc := hP.sub (ws' := []) [] rfl
    have hDc := hD.sub (ws' := []) [] (by decide) rfl
    have hFc := va_free (wc := []) hD hS hA [] rfl
    refine va_calli (va_runS (As := [.int p1, .int p2, .ref sF]) (rest := []) ⟨hx, hb, hml, hown, hts⟩ (g_Preconditions_checkIndex_ref l D kI kJ kB kZ _ (p1) (p2) (sF) hq_0 hq_1) (va_cwS 3 hts (gT_S m_181 m_182 m_124 (gT_ws m_183)) rfl rfl rfl (by decide +kernel) ⟨(Nat.le_of_ble_eq_true rfl), (Nat.le_of_ble_eq_true rfl)⟩) ⟨xBlind xOk_N, xAtN hK hPc hDc⟩ rfl rfl hl.1 rfl (lv_room (Nat.le_of_ble_eq_true rfl)) d_13_155_5 ⟨(Nat.le_of_ble_eq_true rfl), (Nat.le_of_ble_eq_true rfl)⟩) hS (fun q _ h => hFc q h) hFc (fun r_3 u t H locs ht hvm hw_4 hB hz1 hk1 hS => ?_)
    clear hz1
    have hPD := xJoin (wr := []) (w1 := []) hP hD [] [] rfl rfl (by decide) (by decide) hk1 hFc ht hB
    replace hP : va_P D cls9 [] H := hPD.1
    replace hD : va_D A [] := hPD.2
    clear hPD hB hk1 hPc hDc hFc
    refine xtopi (v := p1) hw_4 ?_
    refine lv_pop hx hb d_13_155_8 rfl ?_
    have hP9 := hP.sub (ws' := []) [] rfl
    have hD9 := hD.sub (ws' := []) [] (by decide) rfl
    exact W.vret hx hb hr (fun t ht hW => ⟨⟨(), rfl, trivial, xEnd hK hP9 hD9 ht hW⟩, hS.F ht⟩) hS.2.2 d_13_155_9
set_option maxHeartbeats 8000000 in
set_option maxRecDepth 100000 in
theorem g_StringLatin1_charAt (l : Launch) (D : va_G) (kI kJ kB kZ : ClassId) (sz : Nat) (p2 : Int32) (sA : Nat → Nat) (sV : Nat → Nat) (i : Nat) (hq_0 : 0 ≤ p2.toInt) (hq_1 : p2.toInt < sN i) (hi : i < 47) : Met l (⟨"java/lang/StringLatin1", "charAt", "([BI)C"⟩ : MethodName) (Cond.code (⟨"java/lang/StringLatin1", "charAt", "([BI)C"⟩ : MethodName) prog_14_method_2_code 2 (some .char) :: gT) ({ frames := 2, cells := 0, slots := 0, locals := 43 }) (va_Pc [.ref (sV i), .int p2] (xP D (xT kI kJ kB kZ) (xE sA sV) [] sz)) (va_Qi (fun (r : Int32) (_ : Unit) => narrow .char (.int r) = .int r) (fun _ t => xQ D (xT kI kJ kB kZ) (va_A [] sz) [] t) (va_A [] sz)) 0 0 (va_A [] sz) := by
  refine Met.ofW (cc := prog_14_method_2_code) (maxL := 2) (ret := some .char) (by decide +kernel) rfl ?_
  intro p e s m args below meth c s₁ B hml hv
  obtain ⟨rfl, hsz, hP, hK, hD0, hE⟩ := hv
  have hx := B.exec
  have hb := B.bytes
  have hr := B.returns
  have hts : ∀ w ∈ gT, w.before _ s = true := fun w h => atoms_spec (ws := Cond.code (⟨"java/lang/StringLatin1", "charAt", "([BI)C"⟩ : MethodName) prog_14_method_2_code 2 (some .char) :: gT) B.pre w (List.mem_cons_of_mem _ h)
  have hown : s.vm.findClass "java/lang/StringLatin1" = some m.cls := findClass_of_methodNamed B.named
  have hlocks := B.notSynchronized
  subst hsz
  have hD := hD0.self (sz := s.heap.size)
  generalize hAe : va_A [] s.heap.size = A at hD hE ⊢
  have hA : ∀ q : Nat, s.heap.size ≤ q → A q := fun q h => by rw [← hAe]; exact Or.inr h
  have hS : va_S A s.heap s.heap [] := va_S.rf
  have hP : va_P D cls9 [] s.heap := hP
  have hl := lv_entry ([.ref (sV i), .int p2]) (n := 2) (Nat.le_of_ble_eq_true rfl)
  rw [lg_entry_eq]
  generalize (lg_sl ([.ref (sV i), .int p2]) ++ List.replicate (2 - (lg_sl ([.ref (sV i), .int p2])).length) Slot.unset).toArray = ls at hl ⊢
  have hl : lv_has ls 2 [(0, .ref (sV i)), (1, .int p2)] := hl
  refine lv_iload_n hx hb d_14_2_0 rfl (lv_at hl 1 rfl) ?_
  refine lv_aload_n hx hb d_14_2_1 rfl (lv_at hl 0 rfl) ?_
  refine va_tlen (v := nI (sN i)) hx hb (xE_T hE i hi) hS rfl d_14_2_2 ?_
  refine lv_topi (fun y_1 ey_1 => ?_)
  have ty_1 : y_1.toInt = sN i := by rw [ey_1]; exact sN_toInt i hi
  have uy_1 : sN i ≤ 140 := sN_le i hi
  have hPc := hP.sub (ws' := []) [] rfl
  have hDc := hD.sub (ws' := []) [] (by decide) rfl
  have hFc := va_free (wc := []) hD hS hA [] rfl
  refine va_callv (va_runS (As := [.int p2, .int y_1]) (rest := []) ⟨hx, hb, hml, hown, hts⟩ (g_String_checkIndex l D kI kJ kB kZ _ (p2) (y_1) (sA) (sV) hq_0 (by first | assumption | omega)) (va_cwS 2 hts (gT_S m_176 m_177 m_122 (gT_ws m_178)) rfl rfl rfl (by decide +kernel) ⟨(Nat.le_of_ble_eq_true rfl), (Nat.le_of_ble_eq_true rfl)⟩) ⟨xBlind (xOk_E sA sV), xAt (xOk_E sA sV) hK hPc hDc hS hFc hE⟩ rfl rfl hl.1 rfl (lv_room (Nat.le_of_ble_eq_true rfl)) d_14_2_3 ⟨(Nat.le_of_ble_eq_true rfl), (Nat.le_of_ble_eq_true rfl)⟩) hS (fun q _ h => hFc q h) hFc (fun u t H locs ht hvm hw_3 hB hz1 hk1 hS => ?_)
  clear hz1
  have hPD := xJoin (wr := []) (w1 := []) hP hD [] [] rfl rfl (by decide) (by decide) hk1 hFc ht hB
  replace hP : va_P D cls9 [] H := hPD.1
  replace hD : va_D A [] := hPD.2
  clear hPD hB hk1 hPc hDc hFc
  refine lv_aload_n hx hb d_14_2_6 rfl (lv_at hl 0 rfl) ?_
  refine lv_iload_n hx hb d_14_2_7 rfl (lv_at hl 1 rfl) ?_
  refine va_tb hx hb (xE_T hE i hi) hS (vp_in_iff.mpr ⟨by omega, by omega⟩) rfl d_14_2_8 ?_
  refine lv_topi (fun z_4 ez_4 => ?_)
  refine lv_sipush (v := 255) hx hb d_14_2_9 (by decide +kernel) ?_
  refine lv_iand hx hb d_14_2_12 ?_
  refine lv_topi (fun y_5 ey_5 => ?_)
  refine lv_i2c (v := ((y_5.toUInt32 % 65536).toInt32)) hx hb d_14_2_13 rfl ?_
  have hP9 := hP.sub (ws' := []) [] rfl
  have hD9 := hD.sub (ws' := []) [] (by decide) rfl
  have hrp : narrow .char (.int ((y_5.toUInt32 % 65536).toInt32)) = .int ((y_5.toUInt32 % 65536).toInt32) := by first |  omega | assumption | exact pk_nc _ | exact Or.inl ⟨by omega, by omega, by assumption⟩ | exact Or.inr ⟨by omega, by decide +kernel⟩ | exact fun h9 => absurd h9 (by omega) | exact fun _ => isH_no1 (by omega) | exact fun _ => isH_no2 (by assumption) (by assumption) (by omega) | (intro h9; omega) | (intro h8 h9; omega)
  exact W.zret (v := ((y_5.toUInt32 % 65536).toInt32)) (ty := .char) hx hb hr (by first | assumption | exact pk_nc _) (fun t ht hW => ⟨⟨((y_5.toUInt32 % 65536).toInt32), (), rfl, hrp, xEnd hK hP9 hD9 ht hW⟩, hS.F ht⟩) hS.2.2 d_14_2_14
set_option maxHeartbeats 8000000 in
set_option maxRecDepth 100000 in
theorem g_String_charAt (l : Launch) (D : va_G) (kI kJ kB kZ : ClassId) (sz : Nat) (p1 : Int32) (sA : Nat → Nat) (sV : Nat → Nat) (i : Nat) (hq_0 : 0 ≤ p1.toInt) (hq_1 : p1.toInt < sN i) (hi : i < 47) : Met l (⟨"java/lang/String", "charAt", "(I)C"⟩ : MethodName) (Cond.code (⟨"java/lang/String", "charAt", "(I)C"⟩ : MethodName) prog_13_method_56_code 2 (some .char) :: gT) ({ frames := 3, cells := 0, slots := 0, locals := 64 }) (va_Pc [.ref (sA i), .int p1] (xP D (xT kI kJ kB kZ) (xE sA sV) [] sz)) (va_Qi (fun (r : Int32) (_ : Unit) => narrow .char (.int r) = .int r) (fun _ t => xQ D (xT kI kJ kB kZ) (va_A [] sz) [] t) (va_A [] sz)) 0 0 (va_A [] sz) := by
  refine Met.ofW (cc := prog_13_method_56_code) (maxL := 2) (ret := some .char) (by decide +kernel) rfl ?_
  intro p e s m args below meth c s₁ B hml hv
  obtain ⟨rfl, hsz, hP, hK, hD0, hE⟩ := hv
  have hx := B.exec
  have hb := B.bytes
  have hr := B.returns
  have hts : ∀ w ∈ gT, w.before _ s = true := fun w h => atoms_spec (ws := Cond.code (⟨"java/lang/String", "charAt", "(I)C"⟩ : MethodName) prog_13_method_56_code 2 (some .char) :: gT) B.pre w (List.mem_cons_of_mem _ h)
  have hown : s.vm.findClass "java/lang/String" = some m.cls := findClass_of_methodNamed B.named
  have hlocks := B.notSynchronized
  subst hsz
  have hD := hD0.self (sz := s.heap.size)
  generalize hAe : va_A [] s.heap.size = A at hD hE ⊢
  have hA : ∀ q : Nat, s.heap.size ≤ q → A q := fun q h => by rw [← hAe]; exact Or.inr h
  have hS : va_S A s.heap s.heap [] := va_S.rf
  have hP : va_P D cls9 [] s.heap := hP
  have hl := lv_entry ([.ref (sA i), .int p1]) (n := 2) (Nat.le_of_ble_eq_true rfl)
  rw [lg_entry_eq]
  generalize (lg_sl ([.ref (sA i), .int p1]) ++ List.replicate (2 - (lg_sl ([.ref (sA i), .int p1])).length) Slot.unset).toArray = ls at hl ⊢
  have hl : lv_has ls 2 [(0, .ref (sA i)), (1, .int p1)] := hl
  refine lv_aload_n hx hb d_13_56_0 rfl (lv_at hl 0 rfl) ?_
  have hPc := hP.sub (ws' := []) [] rfl
  have hDc := hD.sub (ws' := []) [] (by decide) rfl
  have hFc := va_free (wc := []) hD hS hA [] rfl
  refine va_calli (va_runV (As := []) (rest := []) ⟨hx, hb, hml, hown, hts⟩ (g_String_isLatin1 l D kI kJ kB kZ _ (sA) (sV) (i) hi) (cwV 0 hts (gT_V m_169 m_170 m_171 m_122 (gT_ws m_172)) rfl rfl rfl (by decide +kernel) ⟨(Nat.le_of_ble_eq_true rfl), (Nat.le_of_ble_eq_true rfl)⟩) ⟨xBlind (xOk_E sA sV), (xE_O hE i hi hS), xAt (xOk_E sA sV) hK hPc hDc hS hFc hE⟩ rfl rfl hl.1 rfl (lv_room (Nat.le_of_ble_eq_true rfl)) d_13_56_1 ⟨(Nat.le_of_ble_eq_true rfl), (Nat.le_of_ble_eq_true rfl)⟩) hS (fun q _ h => hFc q h) hFc (fun r_1 u t H locs ht hvm hw_2 hB hz1 hk1 hS => ?_)
  clear hz1
  have hPD := xJoin (wr := []) (w1 := []) hP hD [] [] rfl rfl (by decide) (by decide) hk1 hFc ht hB
  replace hP : va_P D cls9 [] H := hPD.1
  replace hD : va_D A [] := hPD.2
  clear hPD hB hk1 hPc hDc hFc
  refine xtopi (v := 1) hw_2 ?_
  refine lv_if_eq (tgt := 16) hx hb d_13_56_4 (by decide +kernel) (fun c_3 => ?_) (fun c_3 => ?_)
  · exact absurd c_3 (by decide +kernel)
  refine lv_aload_n hx hb d_13_56_7 rfl (lv_at hl 0 rfl) ?_
  refine vk_getf hx hb (xE_v hE i hi) hS hown (hts _ m_1651) (fun _ h9 => h9) d_13_56_8 ?_
  refine lv_iload_n hx hb d_13_56_11 rfl (lv_at hl 1 rfl) ?_
  have hPc := hP.sub (ws' := []) [] rfl
  have hDc := hD.sub (ws' := []) [] (by decide) rfl
  have hFc := va_free (wc := []) hD hS hA [] rfl
  refine va_calli (va_runS (As := [.ref (sV i), .int p1]) (rest := []) ⟨hx, hb, hml, hown, hts⟩ (g_StringLatin1_charAt l D kI kJ kB kZ _ (p1) (sA) (sV) (i) hq_0 hq_1 hi) (va_cwS 2 hts (gT_S m_173 m_174 m_123 (gT_ws m_175)) rfl rfl rfl (by decide +kernel) ⟨(Nat.le_of_ble_eq_true rfl), (Nat.le_of_ble_eq_true rfl)⟩) ⟨xBlind (xOk_E sA sV), xAt (xOk_E sA sV) hK hPc hDc hS hFc hE⟩ rfl rfl hl.1 rfl (lv_room (Nat.le_of_ble_eq_true rfl)) d_13_56_12 ⟨(Nat.le_of_ble_eq_true rfl), (Nat.le_of_ble_eq_true rfl)⟩) hS (fun q _ h => hFc q h) hFc (fun r_4 u t H locs ht hvm hw_5 hB hz1 hk1 hS => ?_)
  clear hz1
  have hPD := xJoin (wr := []) (w1 := []) hP hD [] [] rfl rfl (by decide) (by decide) hk1 hFc ht hB
  replace hP : va_P D cls9 [] H := hPD.1
  replace hD : va_D A [] := hPD.2
  clear hPD hB hk1 hPc hDc hFc
  have hw_5 : narrow .char (.int r_4) = .int r_4 := hw_5
  have hP9 := hP.sub (ws' := []) [] rfl
  have hD9 := hD.sub (ws' := []) [] (by decide) rfl
  have hrp : narrow .char (.int r_4) = .int r_4 := by first |  omega | assumption | exact pk_nc _ | exact Or.inl ⟨by omega, by omega, by assumption⟩ | exact Or.inr ⟨by omega, by decide +kernel⟩ | exact fun h9 => absurd h9 (by omega) | exact fun _ => isH_no1 (by omega) | exact fun _ => isH_no2 (by assumption) (by assumption) (by omega) | (intro h9; omega) | (intro h8 h9; omega)
  exact W.zret (v := r_4) (ty := .char) hx hb hr (by first | assumption | exact pk_nc _) (fun t ht hW => ⟨⟨r_4, (), rfl, hrp, xEnd hK hP9 hD9 ht hW⟩, hS.F ht⟩) hS.2.2 d_13_56_15
set_option maxHeartbeats 8000000 in
set_option maxRecDepth 100000 in
theorem g_StringLatin1_canEncode (l : Launch) (D : va_G) (kI kJ kB kZ : ClassId) (sz : Nat) (p1 : Int32)  : Met l (⟨"java/lang/StringLatin1", "canEncode", "(I)Z"⟩ : MethodName) (Cond.code (⟨"java/lang/StringLatin1", "canEncode", "(I)Z"⟩ : MethodName) prog_14_method_4_code 1 (some .boolean) :: gT) ({ frames := 0, cells := 0, slots := 0, locals := 0 }) (va_Pc [.int p1] (xP D (xT kI kJ kB kZ) xN [] sz)) (va_Qi (fun (r : Int32) (_ : Unit) => True) (fun _ t => xQ D (xT kI kJ kB kZ) (va_A [] sz) [] t) (va_A [] sz)) 0 0 (va_A [] sz) := by
  refine Met.ofW (cc := prog_14_method_4_code) (maxL := 1) (ret := some .boolean) (by decide +kernel) rfl ?_
  intro p e s m args below meth c s₁ B hml hv
  obtain ⟨rfl, hsz, hP, hK, hD0, hE⟩ := hv
  have hx := B.exec
  have hb := B.bytes
  have hr := B.returns
  have hts : ∀ w ∈ gT, w.before _ s = true := fun w h => atoms_spec (ws := Cond.code (⟨"java/lang/StringLatin1", "canEncode", "(I)Z"⟩ : MethodName) prog_14_method_4_code 1 (some .boolean) :: gT) B.pre w (List.mem_cons_of_mem _ h)
  have hown : s.vm.findClass "java/lang/StringLatin1" = some m.cls := findClass_of_methodNamed B.named
  have hlocks := B.notSynchronized
  subst hsz
  have hD := hD0.self (sz := s.heap.size)
  generalize hAe : va_A [] s.heap.size = A at hD hE ⊢
  have hA : ∀ q : Nat, s.heap.size ≤ q → A q := fun q h => by rw [← hAe]; exact Or.inr h
  have hS : va_S A s.heap s.heap [] := va_S.rf
  have hP : va_P D cls9 [] s.heap := hP
  have hl := lv_entry ([.int p1]) (n := 1) (Nat.le_of_ble_eq_true rfl)
  rw [lg_entry_eq]
  generalize (lg_sl ([.int p1]) ++ List.replicate (1 - (lg_sl ([.int p1])).length) Slot.unset).toArray = ls at hl ⊢
  have hl : lv_has ls 1 [(0, .int p1)] := hl
  refine lv_iload_n hx hb d_14_4_0 rfl (lv_at hl 0 rfl) ?_
  refine lv_if_lt (tgt := 15) hx hb d_14_4_1 (by decide +kernel) (fun c_1 => ?_) (fun c_1 => ?_)
  · skip
    have tc_1 : p1.toInt < 0 := Int32.lt_iff_toInt_lt.mp c_1
    refine lv_iconst (v := 0) hx hb d_14_4_15 (by decide +kernel) ?_
    have hP9 := hP.sub (ws' := []) [] rfl
    have hD9 := hD.sub (ws' := []) [] (by decide) rfl
    exact W.zret (v := 0) (ty := .boolean) hx hb hr (by decide +kernel) (fun t ht hW => ⟨⟨0, (), rfl, trivial, xEnd hK hP9 hD9 ht hW⟩, hS.F ht⟩) hS.2.2 d_14_4_16
  · skip
    have tc_1 : ¬ p1.toInt < 0 := fun h9 => c_1 (Int32.lt_iff_toInt_lt.mpr h9)
    refine lv_iload_n hx hb d_14_4_4 rfl (lv_at hl 0 rfl) ?_
    refine lv_sipush (v := 255) hx hb d_14_4_5 (by decide +kernel) ?_
    refine lv_icmp_gt (tgt := 15) hx hb d_14_4_8 (by decide +kernel) (fun c_2 => ?_) (fun c_2 => ?_)
    · skip
      have tc_2 : 255 < p1.toInt := Int32.lt_iff_toInt_lt.mp c_2
      refine lv_iconst (v := 0) hx hb d_14_4_15 (by decide +kernel) ?_
      have hP9 := hP.sub (ws' := []) [] rfl
      have hD9 := hD.sub (ws' := []) [] (by decide) rfl
      exact W.zret (v := 0) (ty := .boolean) hx hb hr (by decide +kernel) (fun t ht hW => ⟨⟨0, (), rfl, trivial, xEnd hK hP9 hD9 ht hW⟩, hS.F ht⟩) hS.2.2 d_14_4_16
    · skip
      have tc_2 : ¬ 255 < p1.toInt := fun h9 => c_2 (Int32.lt_iff_toInt_lt.mpr h9)
      refine lv_iconst (v := 1) hx hb d_14_4_11 (by decide +kernel) ?_
      refine lv_goto (tgt := 16) hx hb d_14_4_12 (by decide +kernel) ?_
      have hP9 := hP.sub (ws' := []) [] rfl
      have hD9 := hD.sub (ws' := []) [] (by decide) rfl
      exact W.zret (v := 1) (ty := .boolean) hx hb hr (by decide +kernel) (fun t ht hW => ⟨⟨1, (), rfl, trivial, xEnd hK hP9 hD9 ht hW⟩, hS.F ht⟩) hS.2.2 d_14_4_16
set_option maxHeartbeats 8000000 in
set_option maxRecDepth 100000 in
theorem g_StringLatin1_indexOfChar (l : Launch) (D : va_G) (kI kJ kB kZ : ClassId) (sz : Nat) (p2 : Int32) (p3 : Int32) (p4 : Int32) (sA : Nat → Nat) (sV : Nat → Nat) (i : Nat) (hq_0 : 0 ≤ p3.toInt) (hq_1 : p4.toInt ≤ sN i) (hi : i < 47) : Met l (⟨"java/lang/StringLatin1", "indexOfChar", "([BIII)I"⟩ : MethodName) (Cond.code (⟨"java/lang/StringLatin1", "indexOfChar", "([BIII)I"⟩ : MethodName) prog_14_method_23_code 6 (some .int) :: gT) ({ frames := 0, cells := 0, slots := 0, locals := 0 }) (va_Pc [.ref (sV i), .int p2, .int p3, .int p4] (xP D (xT kI kJ kB kZ) (xE sA sV) [] sz)) (va_Qi (fun (r : Int32) (_ : Unit) => True) (fun _ t => xQ D (xT kI kJ kB kZ) (va_A [] sz) [] t) (va_A [] sz)) 0 0 (va_A [] sz) := by
  refine Met.ofW (cc := prog_14_method_23_code) (maxL := 6) (ret := some .int) (by decide +kernel) rfl ?_
  intro p e s m args below meth c s₁ B hml hv
  obtain ⟨rfl, hsz, hP, hK, hD0, hE⟩ := hv
  have hx := B.exec
  have hb := B.bytes
  have hr := B.returns
  have hts : ∀ w ∈ gT, w.before _ s = true := fun w h => atoms_spec (ws := Cond.code (⟨"java/lang/StringLatin1", "indexOfChar", "([BIII)I"⟩ : MethodName) prog_14_method_23_code 6 (some .int) :: gT) B.pre w (List.mem_cons_of_mem _ h)
  have hown : s.vm.findClass "java/lang/StringLatin1" = some m.cls := findClass_of_methodNamed B.named
  have hlocks := B.notSynchronized
  subst hsz
  have hD := hD0.self (sz := s.heap.size)
  generalize hAe : va_A [] s.heap.size = A at hD hE ⊢
  have hA : ∀ q : Nat, s.heap.size ≤ q → A q := fun q h => by rw [← hAe]; exact Or.inr h
  have hS : va_S A s.heap s.heap [] := va_S.rf
  have hP : va_P D cls9 [] s.heap := hP
  have hl := lv_entry ([.ref (sV i), .int p2, .int p3, .int p4]) (n := 6) (Nat.le_of_ble_eq_true rfl)
  rw [lg_entry_eq]
  generalize (lg_sl ([.ref (sV i), .int p2, .int p3, .int p4]) ++ List.replicate (6 - (lg_sl ([.ref (sV i), .int p2, .int p3, .int p4])).length) Slot.unset).toArray = ls at hl ⊢
  have hl : lv_has ls 6 [(0, .ref (sV i)), (1, .int p2), (2, .int p3), (3, .int p4)] := hl
  have hsn := sN_le i hi
  refine lv_iload_n hx hb d_14_23_0 rfl (lv_at hl 1 rfl) ?_
  refine lv_i2b (v := (p2.toInt8.toInt32)) hx hb d_14_23_1 rfl ?_
  refine lv_istore (lv' := [(4, .int (p2.toInt8.toInt32)), (0, .ref (sV i)), (1, .int p2), (2, .int p3), (3, .int p4)]) hx hb d_14_23_2 hl (by decide +kernel) rfl (fun ls hl => ?_)
  refine lv_iload_n hx hb d_14_23_4 rfl (lv_at hl 3 rfl) ?_
  refine lv_istore (lv' := [(5, .int p3), (4, .int (p2.toInt8.toInt32)), (0, .ref (sV i)), (1, .int p2), (2, .int p3), (3, .int p4)]) hx hb d_14_23_5 hl (by decide +kernel) rfl (fun ls hl => ?_)
  refine xLoop (I := fun n H locs ls => ∃ v7_5 : Int32, (0 ≤ v7_5.toInt) ∧ n = (p4.toInt - v7_5.toInt).toNat ∧ va_P D cls9 [] H ∧ va_D A [] ∧ va_S A s.heap H locs ∧ lv_has ls 6 [(5, .int v7_5), (4, .int (p2.toInt8.toInt32)), (0, .ref (sV i)), (1, .int p2), (2, .int p3), (3, .int p4)]) ?_ _ _ _ _ ⟨p3, hq_0, rfl, hP.sub (ws' := []) [] rfl, hD.sub (ws' := []) [] (by decide) rfl, hS, lv_sub hl [0, 1, 2, 3, 4, 5] rfl⟩
  intro n_2 H locs ls hI9 ih_3
  revert hI9
  refine exI fun v7_5 => anI fun hl_1 => anI fun hn_2 => anI fun hP => anI fun hD => anI fun hS => fun hl => ?_
  refine lv_iload hx hb d_14_23_7 (lv_at hl 0 rfl) ?_
  refine lv_iload_n hx hb d_14_23_9 rfl (lv_at hl 5 rfl) ?_
  refine lv_icmp_ge (tgt := 31) hx hb d_14_23_10 (by decide +kernel) (fun c_4 => ?_) (fun c_4 => ?_)
  · skip
    have tc_4 : p4.toInt ≤ v7_5.toInt := Int32.le_iff_toInt_le.mp c_4
    refine lv_iconst (v := (-1)) hx hb d_14_23_31 (by decide +kernel) ?_
    have hP9 := hP.sub (ws' := []) [] rfl
    have hD9 := hD.sub (ws' := []) [] (by decide) rfl
    exact W.iret (v := (-1)) hx hb hr (fun t ht hW => ⟨⟨(-1), (), rfl, trivial, xEnd hK hP9 hD9 ht hW⟩, hS.F ht⟩) hS.2.2 d_14_23_32
  · skip
    have tc_4 : ¬ p4.toInt ≤ v7_5.toInt := fun h9 => c_4 (Int32.le_iff_toInt_le.mpr h9)
    refine lv_aload_n hx hb d_14_23_13 rfl (lv_at hl 2 rfl) ?_
    refine lv_iload hx hb d_14_23_14 (lv_at hl 0 rfl) ?_
    refine va_tb hx hb (xE_T hE i hi) hS (vp_in_iff.mpr ⟨by omega, by omega⟩) rfl d_14_23_16 ?_
    refine lv_topi (fun z_5 ez_5 => ?_)
    refine lv_iload hx hb d_14_23_17 (lv_at hl 1 rfl) ?_
    refine lv_icmp_ne (tgt := 25) hx hb d_14_23_19 (by decide +kernel) (fun c_6 => ?_) (fun c_6 => ?_)
    · skip
      have tc_6 : ¬ z_5.toInt = (p2.toInt8.toInt32).toInt := fun h9 => c_6 (Int32.toInt_inj.mp h9)
      obtain ⟨y_7, ey_7⟩ : ∃ y : Int32, y = v7_5 + 1 := ⟨_, rfl⟩
      have ty_7 : y_7.toInt = v7_5.toInt + 1 := by rw [ey_7]; exact zaddc (by decide +kernel) (by omega) (by omega)
      refine lv_iinc (v := y_7) (lv' := [(5, .int y_7), (4, .int (p2.toInt8.toInt32)), (0, .ref (sV i)), (1, .int p2), (2, .int p3), (3, .int p4)]) hx hb d_14_23_25 hl (k := 0) rfl (by rw [ey_7]; rfl) (by decide +kernel) rfl (fun ls hl => ?_)
      refine lv_goto (tgt := 7) hx hb d_14_23_28 (by decide +kernel) ?_
      exact ih_3 _ _ _ _ (by omega) ⟨y_7, (show 0 ≤ y_7.toInt from (by first | assumption | omega)), rfl, hP.sub (ws' := []) [] rfl, hD.sub (ws' := []) [] (by decide) rfl, hS, lv_sub hl [0, 1, 2, 3, 4, 5] rfl⟩
    · skip
      have tc_6 : z_5.toInt = (p2.toInt8.toInt32).toInt := congrArg Int32.toInt c_6
      refine lv_iload hx hb d_14_23_22 (lv_at hl 0 rfl) ?_
      have hP9 := hP.sub (ws' := []) [] rfl
      have hD9 := hD.sub (ws' := []) [] (by decide) rfl
      exact W.iret (v := v7_5) hx hb hr (fun t ht hW => ⟨⟨v7_5, (), rfl, trivial, xEnd hK hP9 hD9 ht hW⟩, hS.F ht⟩) hS.2.2 d_14_23_24
set_option maxHeartbeats 8000000 in
set_option maxRecDepth 100000 in
theorem g_StringLatin1_indexOf (l : Launch) (D : va_G) (kI kJ kB kZ : ClassId) (sz : Nat) (p2 : Int32) (p3 : Int32) (p4 : Int32) (sA : Nat → Nat) (sV : Nat → Nat) (i : Nat) (hi : i < 47) : Met l (⟨"java/lang/StringLatin1", "indexOf", "([BIII)I"⟩ : MethodName) (Cond.code (⟨"java/lang/StringLatin1", "indexOf", "([BIII)I"⟩ : MethodName) prog_14_method_22_code 4 (some .int) :: gT) ({ frames := 1, cells := 0, slots := 0, locals := 25 }) (va_Pc [.ref (sV i), .int p2, .int p3, .int p4] (xP D (xT kI kJ kB kZ) (xE sA sV) [] sz)) (va_Qi (fun (r : Int32) (_ : Unit) => True) (fun _ t => xQ D (xT kI kJ kB kZ) (va_A [] sz) [] t) (va_A [] sz)) 0 0 (va_A [] sz) := by
  refine Met.ofW (cc := prog_14_method_22_code) (maxL := 4) (ret := some .int) (by decide +kernel) rfl ?_
  intro p e s m args below meth c s₁ B hml hv
  obtain ⟨rfl, hsz, hP, hK, hD0, hE⟩ := hv
  have hx := B.exec
  have hb := B.bytes
  have hr := B.returns
  have hts : ∀ w ∈ gT, w.before _ s = true := fun w h => atoms_spec (ws := Cond.code (⟨"java/lang/StringLatin1", "indexOf", "([BIII)I"⟩ : MethodName) prog_14_method_22_code 4 (some .int) :: gT) B.pre w (List.mem_cons_of_mem _ h)
  have hown : s.vm.findClass "java/lang/StringLatin1" = some m.cls := findClass_of_methodNamed B.named
  have hlocks := B.notSynchronized
  subst hsz
  have hD := hD0.self (sz := s.heap.size)
  generalize hAe : va_A [] s.heap.size = A at hD hE ⊢
  have hA : ∀ q : Nat, s.heap.size ≤ q → A q := fun q h => by rw [← hAe]; exact Or.inr h
  have hS : va_S A s.heap s.heap [] := va_S.rf
  have hP : va_P D cls9 [] s.heap := hP
  have hl := lv_entry ([.ref (sV i), .int p2, .int p3, .int p4]) (n := 4) (Nat.le_of_ble_eq_true rfl)
  rw [lg_entry_eq]
  generalize (lg_sl ([.ref (sV i), .int p2, .int p3, .int p4]) ++ List.replicate (4 - (lg_sl ([.ref (sV i), .int p2, .int p3, .int p4])).length) Slot.unset).toArray = ls at hl ⊢
  have hl : lv_has ls 4 [(0, .ref (sV i)), (1, .int p2), (2, .int p3), (3, .int p4)] := hl
  refine lv_iload_n hx hb d_14_22_0 rfl (lv_at hl 1 rfl) ?_
  have hPc := hP.sub (ws' := []) [] rfl
  have hDc := hD.sub (ws' := []) [] (by decide) rfl
  have hFc := va_free (wc := []) hD hS hA [] rfl
  refine va_calli (va_runS (As := [.int p2]) (rest := []) ⟨hx, hb, hml, hown, hts⟩ (g_StringLatin1_canEncode l D kI kJ kB kZ _ (p2) ) (va_cwS 1 hts (gT_S m_497 m_498 m_123 (gT_ws m_499)) rfl rfl rfl (by decide +kernel) ⟨(Nat.le_of_ble_eq_true rfl), (Nat.le_of_ble_eq_true rfl)⟩) ⟨xBlind xOk_N, xAtN hK hPc hDc⟩ rfl rfl hl.1 rfl (lv_room (Nat.le_of_ble_eq_true rfl)) d_14_22_1 ⟨(Nat.le_of_ble_eq_true rfl), (Nat.le_of_ble_eq_true rfl)⟩) hS (fun q _ h => hFc q h) hFc (fun r_1 u t H locs ht hvm hw_2 hB hz1 hk1 hS => ?_)
  clear hz1
  have hPD := xJoin (wr := []) (w1 := []) hP hD [] [] rfl rfl (by decide) (by decide) hk1 hFc ht hB
  replace hP : va_P D cls9 [] H := hPD.1
  replace hD : va_D A [] := hPD.2
  clear hPD hB hk1 hPc hDc hFc
  refine lv_if_ne (tgt := 9) hx hb d_14_22_4 (by decide +kernel) (fun c_3 => ?_) (fun c_3 => ?_)
  · skip
    have tc_3 : ¬ r_1.toInt = 0 := fun h9 => c_3 (Int32.toInt_inj.mp h9)
    refine lv_iload_n hx hb d_14_22_9 rfl (lv_at hl 2 rfl) ?_
    refine lv_iconst (v := 0) hx hb d_14_22_10 (by decide +kernel) ?_
    refine va_mmax hx hb (by rw [hml]; exact hl.1.symm) hown (hts _ m_500) (hts _ m_501) (hts _ m_133) (hts _ m_max) (Nat.le_of_ble_eq_true rfl) (Nat.le_of_ble_eq_true rfl) (Nat.le_of_ble_eq_true rfl) (Nat.le_of_ble_eq_true rfl) d_14_22_11 ?_
    refine lv_topi (fun y_4 ey_4 => ?_)
    have ty_4 := zmax ey_4
    rw [show (0 : Int32).toInt = 0 from (by decide +kernel)] at ty_4
    refine lv_istore_n (lv' := [(2, .int y_4), (0, .ref (sV i)), (1, .int p2), (3, .int p4)]) hx hb d_14_22_14 rfl hl (by decide +kernel) rfl (fun ls hl => ?_)
    refine lv_iload_n hx hb d_14_22_15 rfl (lv_at hl 3 rfl) ?_
    refine lv_aload_n hx hb d_14_22_16 rfl (lv_at hl 1 rfl) ?_
    refine va_tlen (v := nI (sN i)) hx hb (xE_T hE i hi) hS rfl d_14_22_17 ?_
    refine lv_topi (fun y_5 ey_5 => ?_)
    have ty_5 : y_5.toInt = sN i := by rw [ey_5]; exact sN_toInt i hi
    have uy_5 : sN i ≤ 140 := sN_le i hi
    refine va_mmin hx hb (by rw [hml]; exact hl.1.symm) hown (hts _ m_503) (hts _ m_504) (hts _ m_133) (hts _ m_min) (Nat.le_of_ble_eq_true rfl) (Nat.le_of_ble_eq_true rfl) (Nat.le_of_ble_eq_true rfl) (Nat.le_of_ble_eq_true rfl) d_14_22_18 ?_
    refine lv_topi (fun y_6 ey_6 => ?_)
    have ty_6 := zmin ey_6
    refine lv_istore_n (lv' := [(3, .int y_6), (2, .int y_4), (0, .ref (sV i)), (1, .int p2)]) hx hb d_14_22_21 rfl hl (by decide +kernel) rfl (fun ls hl => ?_)
    refine lv_iload_n hx hb d_14_22_22 rfl (lv_at hl 1 rfl) ?_
    refine lv_iload_n hx hb d_14_22_23 rfl (lv_at hl 0 rfl) ?_
    refine lv_icmp_lt (tgt := 29) hx hb d_14_22_24 (by decide +kernel) (fun c_7 => ?_) (fun c_7 => ?_)
    · skip
      have tc_7 : y_4.toInt < y_6.toInt := Int32.lt_iff_toInt_lt.mp c_7
      refine lv_aload_n hx hb d_14_22_29 rfl (lv_at hl 2 rfl) ?_
      refine lv_iload_n hx hb d_14_22_30 rfl (lv_at hl 3 rfl) ?_
      refine lv_iload_n hx hb d_14_22_31 rfl (lv_at hl 1 rfl) ?_
      refine lv_iload_n hx hb d_14_22_32 rfl (lv_at hl 0 rfl) ?_
      have hPc := hP.sub (ws' := []) [] rfl
      have hDc := hD.sub (ws' := []) [] (by decide) rfl
      have hFc := va_free (wc := []) hD hS hA [] rfl
      refine va_calli (va_runS (As := [.ref (sV i), .int p2, .int y_4, .int y_6]) (rest := []) ⟨hx, hb, hml, hown, hts⟩ (g_StringLatin1_indexOfChar l D kI kJ kB kZ _ (p2) (y_4) (y_6) (sA) (sV) (i) (by first | assumption | omega) (by first | assumption | omega) hi) (va_cwS 4 hts (gT_S m_506 m_507 m_123 (gT_ws m_508)) rfl rfl rfl (by decide +kernel) ⟨(Nat.le_of_ble_eq_true rfl), (Nat.le_of_ble_eq_true rfl)⟩) ⟨xBlind (xOk_E sA sV), xAt (xOk_E sA sV) hK hPc hDc hS hFc hE⟩ rfl rfl hl.1 rfl (lv_room (Nat.le_of_ble_eq_true rfl)) d_14_22_33 ⟨(Nat.le_of_ble_eq_true rfl), (Nat.le_of_ble_eq_true rfl)⟩) hS (fun q _ h => hFc q h) hFc (fun r_8 u t H locs ht hvm hw_9 hB hz1 hk1 hS => ?_)
      clear hz1
      have hPD := xJoin (wr := []) (w1 := []) hP hD [] [] rfl rfl (by decide) (by decide) hk1 hFc ht hB
      replace hP : va_P D cls9 [] H := hPD.1
      replace hD : va_D A [] := hPD.2
      clear hPD hB hk1 hPc hDc hFc
      have hP9 := hP.sub (ws' := []) [] rfl
      have hD9 := hD.sub (ws' := []) [] (by decide) rfl
      exact W.iret (v := r_8) hx hb hr (fun t ht hW => ⟨⟨r_8, (), rfl, trivial, xEnd hK hP9 hD9 ht hW⟩, hS.F ht⟩) hS.2.2 d_14_22_36
    · skip
      have tc_7 : ¬ y_4.toInt < y_6.toInt := fun h9 => c_7 (Int32.lt_iff_toInt_lt.mpr h9)
      refine lv_iconst (v := (-1)) hx hb d_14_22_27 (by decide +kernel) ?_
      have hP9 := hP.sub (ws' := []) [] rfl
      have hD9 := hD.sub (ws' := []) [] (by decide) rfl
      exact W.iret (v := (-1)) hx hb hr (fun t ht hW => ⟨⟨(-1), (), rfl, trivial, xEnd hK hP9 hD9 ht hW⟩, hS.F ht⟩) hS.2.2 d_14_22_28
  · skip
    have tc_3 : r_1.toInt = 0 := congrArg Int32.toInt c_3
    refine lv_iconst (v := (-1)) hx hb d_14_22_7 (by decide +kernel) ?_
    have hP9 := hP.sub (ws' := []) [] rfl
    have hD9 := hD.sub (ws' := []) [] (by decide) rfl
    exact W.iret (v := (-1)) hx hb hr (fun t ht hW => ⟨⟨(-1), (), rfl, trivial, xEnd hK hP9 hD9 ht hW⟩, hS.F ht⟩) hS.2.2 d_14_22_8
set_option maxHeartbeats 8000000 in
set_option maxRecDepth 100000 in
theorem g_String_indexOf_2 (l : Launch) (D : va_G) (kI kJ kB kZ : ClassId) (sz : Nat) (p1 : Int32) (p2 : Int32) (sA : Nat → Nat) (sV : Nat → Nat) (i : Nat) (hi : i < 47) : Met l (⟨"java/lang/String", "indexOf", "(II)I"⟩ : MethodName) (Cond.code (⟨"java/lang/String", "indexOf", "(II)I"⟩ : MethodName) prog_13_method_80_code 3 (some .int) :: gT) ({ frames := 2, cells := 0, slots := 0, locals := 48 }) (va_Pc [.ref (sA i), .int p1, .int p2] (xP D (xT kI kJ kB kZ) (xE sA sV) [] sz)) (va_Qi (fun (r : Int32) (_ : Unit) => True) (fun _ t => xQ D (xT kI kJ kB kZ) (va_A [] sz) [] t) (va_A [] sz)) 0 0 (va_A [] sz) := by
  refine Met.ofW (cc := prog_13_method_80_code) (maxL := 3) (ret := some .int) (by decide +kernel) rfl ?_
  intro p e s m args below meth c s₁ B hml hv
  obtain ⟨rfl, hsz, hP, hK, hD0, hE⟩ := hv
  have hx := B.exec
  have hb := B.bytes
  have hr := B.returns
  have hts : ∀ w ∈ gT, w.before _ s = true := fun w h => atoms_spec (ws := Cond.code (⟨"java/lang/String", "indexOf", "(II)I"⟩ : MethodName) prog_13_method_80_code 3 (some .int) :: gT) B.pre w (List.mem_cons_of_mem _ h)
  have hown : s.vm.findClass "java/lang/String" = some m.cls := findClass_of_methodNamed B.named
  have hlocks := B.notSynchronized
  subst hsz
  have hD := hD0.self (sz := s.heap.size)
  generalize hAe : va_A [] s.heap.size = A at hD hE ⊢
  have hA : ∀ q : Nat, s.heap.size ≤ q → A q := fun q h => by rw [← hAe]; exact Or.inr h
  have hS : va_S A s.heap s.heap [] := va_S.rf
  have hP : va_P D cls9 [] s.heap := hP
  have hl := lv_entry ([.ref (sA i), .int p1, .int p2]) (n := 3) (Nat.le_of_ble_eq_true rfl)
  rw [lg_entry_eq]
  generalize (lg_sl ([.ref (sA i), .int p1, .int p2]) ++ List.replicate (3 - (lg_sl ([.ref (sA i), .int p1, .int p2])).length) Slot.unset).toArray = ls at hl ⊢
  have hl : lv_has ls 3 [(0, .ref (sA i)), (1, .int p1), (2, .int p2)] := hl
  refine lv_aload_n hx hb d_13_80_0 rfl (lv_at hl 0 rfl) ?_
  have hPc := hP.sub (ws' := []) [] rfl
  have hDc := hD.sub (ws' := []) [] (by decide) rfl
  have hFc := va_free (wc := []) hD hS hA [] rfl
  refine va_calli (va_runV (As := []) (rest := []) ⟨hx, hb, hml, hown, hts⟩ (g_String_isLatin1 l D kI kJ kB kZ _ (sA) (sV) (i) hi) (cwV 0 hts (gT_V m_169 m_170 m_171 m_122 (gT_ws m_172)) rfl rfl rfl (by decide +kernel) ⟨(Nat.le_of_ble_eq_true rfl), (Nat.le_of_ble_eq_true rfl)⟩) ⟨xBlind (xOk_E sA sV), (xE_O hE i hi hS), xAt (xOk_E sA sV) hK hPc hDc hS hFc hE⟩ rfl rfl hl.1 rfl (lv_room (Nat.le_of_ble_eq_true rfl)) d_13_80_1 ⟨(Nat.le_of_ble_eq_true rfl), (Nat.le_of_ble_eq_true rfl)⟩) hS (fun q _ h => hFc q h) hFc (fun r_1 u t H locs ht hvm hw_2 hB hz1 hk1 hS => ?_)
  clear hz1
  have hPD := xJoin (wr := []) (w1 := []) hP hD [] [] rfl rfl (by decide) (by decide) hk1 hFc ht hB
  replace hP : va_P D cls9 [] H := hPD.1
  replace hD : va_D A [] := hPD.2
  clear hPD hB hk1 hPc hDc hFc
  refine xtopi (v := 1) hw_2 ?_
  refine lv_if_eq (tgt := 23) hx hb d_13_80_4 (by decide +kernel) (fun c_3 => ?_) (fun c_3 => ?_)
  · exact absurd c_3 (by decide +kernel)
  refine lv_aload_n hx hb d_13_80_7 rfl (lv_at hl 0 rfl) ?_
  refine vk_getf hx hb (xE_v hE i hi) hS hown (hts _ m_1651) (fun _ h9 => h9) d_13_80_8 ?_
  refine lv_iload_n hx hb d_13_80_11 rfl (lv_at hl 1 rfl) ?_
  refine lv_iload_n hx hb d_13_80_12 rfl (lv_at hl 2 rfl) ?_
  refine lv_aload_n hx hb d_13_80_13 rfl (lv_at hl 0 rfl) ?_
  have hPc := hP.sub (ws' := []) [] rfl
  have hDc := hD.sub (ws' := []) [] (by decide) rfl
  have hFc := va_free (wc := []) hD hS hA [] rfl
  refine va_calli (va_runV (As := []) (rest := [.int p2, .int p1, .ref (sV i)]) ⟨hx, hb, hml, hown, hts⟩ (g_String_length l D kI kJ kB kZ _ (sA) (sV) (i) hi) (cwV 0 hts (gT_V m_493 m_156 m_157 m_122 (gT_ws m_158)) rfl rfl rfl (by decide +kernel) ⟨(Nat.le_of_ble_eq_true rfl), (Nat.le_of_ble_eq_true rfl)⟩) ⟨xBlind (xOk_E sA sV), (xE_O hE i hi hS), xAt (xOk_E sA sV) hK hPc hDc hS hFc hE⟩ rfl rfl hl.1 rfl (lv_room (Nat.le_of_ble_eq_true rfl)) d_13_80_14 ⟨(Nat.le_of_ble_eq_true rfl), (Nat.le_of_ble_eq_true rfl)⟩) hS (fun q _ h => hFc q h) hFc (fun r_4 u t H locs ht hvm hw_5 hB hz1 hk1 hS => ?_)
  clear hz1
  have hPD := xJoin (wr := []) (w1 := []) hP hD [] [] rfl rfl (by decide) (by decide) hk1 hFc ht hB
  replace hP : va_P D cls9 [] H := hPD.1
  replace hD : va_D A [] := hPD.2
  clear hPD hB hk1 hPc hDc hFc
  have hw_5 : r_4.toInt = sN i := hw_5
  have hPc := hP.sub (ws' := []) [] rfl
  have hDc := hD.sub (ws' := []) [] (by decide) rfl
  have hFc := va_free (wc := []) hD hS hA [] rfl
  refine va_calli (va_runS (As := [.ref (sV i), .int p1, .int p2, .int r_4]) (rest := []) ⟨hx, hb, hml, hown, hts⟩ (g_StringLatin1_indexOf l D kI kJ kB kZ _ (p1) (p2) (r_4) (sA) (sV) (i) hi) (va_cwS 4 hts (gT_S m_494 m_495 m_123 (gT_ws m_496)) rfl rfl rfl (by decide +kernel) ⟨(Nat.le_of_ble_eq_true rfl), (Nat.le_of_ble_eq_true rfl)⟩) ⟨xBlind (xOk_E sA sV), xAt (xOk_E sA sV) hK hPc hDc hS hFc hE⟩ rfl rfl hl.1 rfl (lv_room (Nat.le_of_ble_eq_true rfl)) d_13_80_17 ⟨(Nat.le_of_ble_eq_true rfl), (Nat.le_of_ble_eq_true rfl)⟩) hS (fun q _ h => hFc q h) hFc (fun r_6 u t H locs ht hvm hw_7 hB hz1 hk1 hS => ?_)
  clear hz1
  have hPD := xJoin (wr := []) (w1 := []) hP hD [] [] rfl rfl (by decide) (by decide) hk1 hFc ht hB
  replace hP : va_P D cls9 [] H := hPD.1
  replace hD : va_D A [] := hPD.2
  clear hPD hB hk1 hPc hDc hFc
  refine lv_goto (tgt := 36) hx hb d_13_80_20 (by decide +kernel) ?_
  have hP9 := hP.sub (ws' := []) [] rfl
  have hD9 := hD.sub (ws' := []) [] (by decide) rfl
  exact W.iret (v := r_6) hx hb hr (fun t ht hW => ⟨⟨r_6, (), rfl, trivial, xEnd hK hP9 hD9 ht hW⟩, hS.F ht⟩) hS.2.2 d_13_80_36
set_option maxHeartbeats 8000000 in
set_option maxRecDepth 100000 in
theorem g_String_indexOf_1 (l : Launch) (D : va_G) (kI kJ kB kZ : ClassId) (sz : Nat) (p1 : Int32) (sA : Nat → Nat) (sV : Nat → Nat) (i : Nat) (hi : i < 47) : Met l (⟨"java/lang/String", "indexOf", "(I)I"⟩ : MethodName) (Cond.code (⟨"java/lang/String", "indexOf", "(I)I"⟩ : MethodName) prog_13_method_79_code 2 (some .int) :: gT) ({ frames := 3, cells := 0, slots := 0, locals := 70 }) (va_Pc [.ref (sA i), .int p1] (xP D (xT kI kJ kB kZ) (xE sA sV) [] sz)) (va_Qi (fun (r : Int32) (_ : Unit) => True) (fun _ t => xQ D (xT kI kJ kB kZ) (va_A [] sz) [] t) (va_A [] sz)) 0 0 (va_A [] sz) := by
  refine Met.ofW (cc := prog_13_method_79_code) (maxL := 2) (ret := some .int) (by decide +kernel) rfl ?_
  intro p e s m args below meth c s₁ B hml hv
  obtain ⟨rfl, hsz, hP, hK, hD0, hE⟩ := hv
  have hx := B.exec
  have hb := B.bytes
  have hr := B.returns
  have hts : ∀ w ∈ gT, w.before _ s = true := fun w h => atoms_spec (ws := Cond.code (⟨"java/lang/String", "indexOf", "(I)I"⟩ : MethodName) prog_13_method_79_code 2 (some .int) :: gT) B.pre w (List.mem_cons_of_mem _ h)
  have hown : s.vm.findClass "java/lang/String" = some m.cls := findClass_of_methodNamed B.named
  have hlocks := B.notSynchronized
  subst hsz
  have hD := hD0.self (sz := s.heap.size)
  generalize hAe : va_A [] s.heap.size = A at hD hE ⊢
  have hA : ∀ q : Nat, s.heap.size ≤ q → A q := fun q h => by rw [← hAe]; exact Or.inr h
  have hS : va_S A s.heap s.heap [] := va_S.rf
  have hP : va_P D cls9 [] s.heap := hP
  have hl := lv_entry ([.ref (sA i), .int p1]) (n := 2) (Nat.le_of_ble_eq_true rfl)
  rw [lg_entry_eq]
  generalize (lg_sl ([.ref (sA i), .int p1]) ++ List.replicate (2 - (lg_sl ([.ref (sA i), .int p1])).length) Slot.unset).toArray = ls at hl ⊢
  have hl : lv_has ls 2 [(0, .ref (sA i)), (1, .int p1)] := hl
  refine lv_aload_n hx hb d_13_79_0 rfl (lv_at hl 0 rfl) ?_
  refine lv_iload_n hx hb d_13_79_1 rfl (lv_at hl 1 rfl) ?_
  refine lv_iconst (v := 0) hx hb d_13_79_2 (by decide +kernel) ?_
  have hPc := hP.sub (ws' := []) [] rfl
  have hDc := hD.sub (ws' := []) [] (by decide) rfl
  have hFc := va_free (wc := []) hD hS hA [] rfl
  refine va_calli (va_runV (As := [.int p1, .int 0]) (rest := []) ⟨hx, hb, hml, hown, hts⟩ (g_String_indexOf_2 l D kI kJ kB kZ _ (p1) ((0 : Int32)) (sA) (sV) (i) hi) (cwV 2 hts (gT_V m_489 m_490 m_491 m_122 (gT_ws m_492)) rfl rfl rfl (by decide +kernel) ⟨(Nat.le_of_ble_eq_true rfl), (Nat.le_of_ble_eq_true rfl)⟩) ⟨xBlind (xOk_E sA sV), (xE_O hE i hi hS), xAt (xOk_E sA sV) hK hPc hDc hS hFc hE⟩ rfl rfl hl.1 rfl (lv_room (Nat.le_of_ble_eq_true rfl)) d_13_79_3 ⟨(Nat.le_of_ble_eq_true rfl), (Nat.le_of_ble_eq_true rfl)⟩) hS (fun q _ h => hFc q h) hFc (fun r_1 u t H locs ht hvm hw_2 hB hz1 hk1 hS => ?_)
  clear hz1
  have hPD := xJoin (wr := []) (w1 := []) hP hD [] [] rfl rfl (by decide) (by decide) hk1 hFc ht hB
  replace hP : va_P D cls9 [] H := hPD.1
  replace hD : va_D A [] := hPD.2
  clear hPD hB hk1 hPc hDc hFc
  have hP9 := hP.sub (ws' := []) [] rfl
  have hD9 := hD.sub (ws' := []) [] (by decide) rfl
  exact W.iret (v := r_1) hx hb hr (fun t ht hW => ⟨⟨r_1, (), rfl, trivial, xEnd hK hP9 hD9 ht hW⟩, hS.F ht⟩) hS.2.2 d_13_79_6
set_option maxHeartbeats 8000000 in
set_option maxRecDepth 100000 in
theorem g_Arrays_fill_m_2 (l : Launch) (D : va_G) (kI kJ kB kZ : ClassId) (sz : Nat) (h76 : Nat) (f76 : Nat → Int32) (p2 : Int32)  : Met l (⟨"java/util/Arrays", "fill", "([II)V"⟩ : MethodName) (Cond.code (⟨"java/util/Arrays", "fill", "([II)V"⟩ : MethodName) prog_16_method_103_code 4 (none) :: gT) ({ frames := 0, cells := 0, slots := 0, locals := 0 }) (va_Pc [.ref h76, .int p2] (xP D (xT kI kJ kB kZ) xN [(h76, .inl (kI, 3000, .inl f76))] sz)) (va_Qv (fun _ : Unit => True) (fun _ t => ∃ f76' : Nat → Int32, xQ D (xT kI kJ kB kZ) (va_A [(h76, .inl (kI, 3000, .inl f76))] sz) [(h76, .inl (kI, 3000, .inl f76'))] t) (va_A [(h76, .inl (kI, 3000, .inl f76))] sz)) 0 0 (va_A [(h76, .inl (kI, 3000, .inl f76))] sz) := by
  refine Met.ofW (cc := prog_16_method_103_code) (maxL := 4) (ret := none) (by decide +kernel) rfl ?_
  intro p e s m args below meth c s₁ B hml hv
  obtain ⟨rfl, hsz, hP, hK, hD0, hE⟩ := hv
  have hx := B.exec
  have hb := B.bytes
  have hr := B.returns
  have hts : ∀ w ∈ gT, w.before _ s = true := fun w h => atoms_spec (ws := Cond.code (⟨"java/util/Arrays", "fill", "([II)V"⟩ : MethodName) prog_16_method_103_code 4 (none) :: gT) B.pre w (List.mem_cons_of_mem _ h)
  have hown : s.vm.findClass "java/util/Arrays" = some m.cls := findClass_of_methodNamed B.named
  have hlocks := B.notSynchronized
  subst hsz
  have hD := hD0.self (sz := s.heap.size)
  generalize hAe : va_A [(h76, .inl (kI, 3000, .inl f76))] s.heap.size = A at hD hE ⊢
  have hA : ∀ q : Nat, s.heap.size ≤ q → A q := fun q h => by rw [← hAe]; exact Or.inr h
  have hS : va_S A s.heap s.heap [] := va_S.rf
  have hP : va_P D cls9 [(h76, .inl (kI, 3000, .inl f76))] s.heap := hP
  have hl := lv_entry ([.ref h76, .int p2]) (n := 4) (Nat.le_of_ble_eq_true rfl)
  rw [lg_entry_eq]
  generalize (lg_sl ([.ref h76, .int p2]) ++ List.replicate (4 - (lg_sl ([.ref h76, .int p2])).length) Slot.unset).toArray = ls at hl ⊢
  have hl : lv_has ls 4 [(0, .ref h76), (1, .int p2)] := hl
  refine lv_iconst (v := 0) hx hb d_16_103_0 (by decide +kernel) ?_
  refine lv_istore_n (lv' := [(2, .int 0), (0, .ref h76), (1, .int p2)]) hx hb d_16_103_1 rfl hl (by decide +kernel) rfl (fun ls hl => ?_)
  refine lv_aload_n hx hb d_16_103_2 rfl (lv_at hl 1 rfl) ?_
  refine va_alen (v := 3000) hx hb hK hP 0 0 rfl rfl rfl d_16_103_3 ?_
  refine lv_istore_n (lv' := [(3, .int 3000), (2, .int 0), (0, .ref h76), (1, .int p2)]) hx hb d_16_103_4 rfl hl (by decide +kernel) rfl (fun ls hl => ?_)
  refine xLoop (I := fun n H locs ls => ∃ w5_h76 : Nat → Int32, ∃ v5_2 : Int32, (0 ≤ v5_2.toInt) ∧ (v5_2.toInt ≤ 3000) ∧ n = (3000 - v5_2.toInt).toNat ∧ va_P D cls9 [(h76, .inl (kI, 3000, .inl w5_h76))] H ∧ va_D A [(h76, .inl (kI, 3000, .inl w5_h76))] ∧ va_S A s.heap H locs ∧ lv_has ls 4 [(3, .int 3000), (2, .int v5_2), (0, .ref h76), (1, .int p2)]) ?_ _ _ _ _ ⟨f76, 0, (show 0 ≤ (0 : Int) from (by first | assumption | omega)), (show (0 : Int) ≤ 3000 from (by first | assumption | omega)), rfl, hP.sub (ws' := [(h76, .inl (kI, 3000, .inl f76))]) [0] rfl, hD.sub (ws' := [(h76, .inl (kI, 3000, .inl f76))]) [0] (by decide) rfl, hS, lv_sub hl [0, 1, 2, 3] rfl⟩
  intro n_3 H locs ls hI9 ih_4
  revert hI9
  refine exI fun w5_h76 => exI fun v5_2 => anI fun hl_1 => anI fun hl_2 => anI fun hn_3 => anI fun hP => anI fun hD => anI fun hS => fun hl => ?_
  refine lv_iload_n hx hb d_16_103_5 rfl (lv_at hl 1 rfl) ?_
  refine lv_iload_n hx hb d_16_103_6 rfl (lv_at hl 0 rfl) ?_
  refine lv_icmp_ge (tgt := 20) hx hb d_16_103_7 (by decide +kernel) (fun c_5 => ?_) (fun c_5 => ?_)
  · skip
    have tc_5 : 3000 ≤ v5_2.toInt := Int32.le_iff_toInt_le.mp c_5
    have hP9 := hP.sub (ws' := [(h76, .inl (kI, 3000, .inl w5_h76))]) [0] rfl
    have hD9 := hD.sub (ws' := [(h76, .inl (kI, 3000, .inl w5_h76))]) [0] (by decide) rfl
    exact W.vret hx hb hr (fun t ht hW => ⟨⟨(), rfl, trivial, w5_h76, xEnd hK hP9 hD9 ht hW⟩, hS.F ht⟩) hS.2.2 d_16_103_20
  · skip
    have tc_5 : ¬ 3000 ≤ v5_2.toInt := fun h9 => c_5 (Int32.le_iff_toInt_le.mpr h9)
    refine lv_aload_n hx hb d_16_103_10 rfl (lv_at hl 2 rfl) ?_
    refine lv_iload_n hx hb d_16_103_11 rfl (lv_at hl 1 rfl) ?_
    refine lv_iload_n hx hb d_16_103_12 rfl (lv_at hl 3 rfl) ?_
    refine va_iast hx hb hK hP hD hS 0 0 rfl rfl (vp_in_iff.mpr ⟨by omega, by omega⟩) d_16_103_13 (fun H locs hP1 hD1 hS1 => ?_)
    replace hP : va_P D cls9 [(h76, .inl (kI, 3000, .inl (upd w5_h76 (Int32.toNatClampNeg v5_2) p2)))] H := hP1
    replace hD : va_D A [(h76, .inl (kI, 3000, .inl (upd w5_h76 (Int32.toNatClampNeg v5_2) p2)))] := hD1
    replace hS := hS1
    clear hP1 hD1 hS1
    obtain ⟨y_6, ey_6⟩ : ∃ y : Int32, y = v5_2 + 1 := ⟨_, rfl⟩
    have ty_6 : y_6.toInt = v5_2.toInt + 1 := by rw [ey_6]; exact zaddc (by decide +kernel) (by omega) (by omega)
    refine lv_iinc (v := y_6) (lv' := [(2, .int y_6), (3, .int 3000), (0, .ref h76), (1, .int p2)]) hx hb d_16_103_14 hl (k := 1) rfl (by rw [ey_6]; rfl) (by decide +kernel) rfl (fun ls hl => ?_)
    refine lv_goto (tgt := 5) hx hb d_16_103_17 (by decide +kernel) ?_
    exact ih_4 _ _ _ _ (by omega) ⟨(upd w5_h76 (Int32.toNatClampNeg v5_2) p2), y_6, (show 0 ≤ y_6.toInt from (by first | assumption | omega)), (show y_6.toInt ≤ 3000 from (by first | assumption | omega)), rfl, hP.sub (ws' := [(h76, .inl (kI, 3000, .inl (upd w5_h76 (Int32.toNatClampNeg v5_2) p2)))]) [0] rfl, hD.sub (ws' := [(h76, .inl (kI, 3000, .inl (upd w5_h76 (Int32.toNatClampNeg v5_2) p2)))]) [0] (by decide) rfl, hS, lv_sub hl [1, 0, 2, 3] rfl⟩
set_option maxHeartbeats 8000000 in
set_option maxRecDepth 100000 in
theorem g_Arrays_fill_z_2 (l : Launch) (D : va_G) (kI kJ kB kZ : ClassId) (sz : Nat) (h69 : Nat) (f69 : Nat → Int32) (p2 : Int32)  : Met l (⟨"java/util/Arrays", "fill", "([ZZ)V"⟩ : MethodName) (Cond.code (⟨"java/util/Arrays", "fill", "([ZZ)V"⟩ : MethodName) prog_16_method_111_code 4 (none) :: gT) ({ frames := 0, cells := 0, slots := 0, locals := 0 }) (va_Pc [.ref h69, .int p2] (xP D (xT kI kJ kB kZ) xN [(h69, .inl (kZ, 3001, .inl f69))] sz)) (va_Qv (fun _ : Unit => True) (fun _ t => ∃ f69' : Nat → Int32, xQ D (xT kI kJ kB kZ) (va_A [(h69, .inl (kZ, 3001, .inl f69))] sz) [(h69, .inl (kZ, 3001, .inl f69'))] t) (va_A [(h69, .inl (kZ, 3001, .inl f69))] sz)) 0 0 (va_A [(h69, .inl (kZ, 3001, .inl f69))] sz) := by
  refine Met.ofW (cc := prog_16_method_111_code) (maxL := 4) (ret := none) (by decide +kernel) rfl ?_
  intro p e s m args below meth c s₁ B hml hv
  obtain ⟨rfl, hsz, hP, hK, hD0, hE⟩ := hv
  have hx := B.exec
  have hb := B.bytes
  have hr := B.returns
  have hts : ∀ w ∈ gT, w.before _ s = true := fun w h => atoms_spec (ws := Cond.code (⟨"java/util/Arrays", "fill", "([ZZ)V"⟩ : MethodName) prog_16_method_111_code 4 (none) :: gT) B.pre w (List.mem_cons_of_mem _ h)
  have hown : s.vm.findClass "java/util/Arrays" = some m.cls := findClass_of_methodNamed B.named
  have hlocks := B.notSynchronized
  subst hsz
  have hD := hD0.self (sz := s.heap.size)
  generalize hAe : va_A [(h69, .inl (kZ, 3001, .inl f69))] s.heap.size = A at hD hE ⊢
  have hA : ∀ q : Nat, s.heap.size ≤ q → A q := fun q h => by rw [← hAe]; exact Or.inr h
  have hS : va_S A s.heap s.heap [] := va_S.rf
  have hP : va_P D cls9 [(h69, .inl (kZ, 3001, .inl f69))] s.heap := hP
  have hl := lv_entry ([.ref h69, .int p2]) (n := 4) (Nat.le_of_ble_eq_true rfl)
  rw [lg_entry_eq]
  generalize (lg_sl ([.ref h69, .int p2]) ++ List.replicate (4 - (lg_sl ([.ref h69, .int p2])).length) Slot.unset).toArray = ls at hl ⊢
  have hl : lv_has ls 4 [(0, .ref h69), (1, .int p2)] := hl
  refine lv_iconst (v := 0) hx hb d_16_111_0 (by decide +kernel) ?_
  refine lv_istore_n (lv' := [(2, .int 0), (0, .ref h69), (1, .int p2)]) hx hb d_16_111_1 rfl hl (by decide +kernel) rfl (fun ls hl => ?_)
  refine lv_aload_n hx hb d_16_111_2 rfl (lv_at hl 1 rfl) ?_
  refine va_alen (v := 3001) hx hb hK hP 0 3 rfl rfl rfl d_16_111_3 ?_
  refine lv_istore_n (lv' := [(3, .int 3001), (2, .int 0), (0, .ref h69), (1, .int p2)]) hx hb d_16_111_4 rfl hl (by decide +kernel) rfl (fun ls hl => ?_)
  refine xLoop (I := fun n H locs ls => ∃ w5_h69 : Nat → Int32, ∃ v5_2 : Int32, (0 ≤ v5_2.toInt) ∧ (v5_2.toInt ≤ 3001) ∧ n = (3001 - v5_2.toInt).toNat ∧ va_P D cls9 [(h69, .inl (kZ, 3001, .inl w5_h69))] H ∧ va_D A [(h69, .inl (kZ, 3001, .inl w5_h69))] ∧ va_S A s.heap H locs ∧ lv_has ls 4 [(3, .int 3001), (2, .int v5_2), (0, .ref h69), (1, .int p2)]) ?_ _ _ _ _ ⟨f69, 0, (show 0 ≤ (0 : Int) from (by first | assumption | omega)), (show (0 : Int) ≤ 3001 from (by first | assumption | omega)), rfl, hP.sub (ws' := [(h69, .inl (kZ, 3001, .inl f69))]) [0] rfl, hD.sub (ws' := [(h69, .inl (kZ, 3001, .inl f69))]) [0] (by decide) rfl, hS, lv_sub hl [0, 1, 2, 3] rfl⟩
  intro n_3 H locs ls hI9 ih_4
  revert hI9
  refine exI fun w5_h69 => exI fun v5_2 => anI fun hl_1 => anI fun hl_2 => anI fun hn_3 => anI fun hP => anI fun hD => anI fun hS => fun hl => ?_
  refine lv_iload_n hx hb d_16_111_5 rfl (lv_at hl 1 rfl) ?_
  refine lv_iload_n hx hb d_16_111_6 rfl (lv_at hl 0 rfl) ?_
  refine lv_icmp_ge (tgt := 20) hx hb d_16_111_7 (by decide +kernel) (fun c_5 => ?_) (fun c_5 => ?_)
  · skip
    have tc_5 : 3001 ≤ v5_2.toInt := Int32.le_iff_toInt_le.mp c_5
    have hP9 := hP.sub (ws' := [(h69, .inl (kZ, 3001, .inl w5_h69))]) [0] rfl
    have hD9 := hD.sub (ws' := [(h69, .inl (kZ, 3001, .inl w5_h69))]) [0] (by decide) rfl
    exact W.vret hx hb hr (fun t ht hW => ⟨⟨(), rfl, trivial, w5_h69, xEnd hK hP9 hD9 ht hW⟩, hS.F ht⟩) hS.2.2 d_16_111_20
  · skip
    have tc_5 : ¬ 3001 ≤ v5_2.toInt := fun h9 => c_5 (Int32.le_iff_toInt_le.mpr h9)
    refine lv_aload_n hx hb d_16_111_10 rfl (lv_at hl 2 rfl) ?_
    refine lv_iload_n hx hb d_16_111_11 rfl (lv_at hl 1 rfl) ?_
    refine lv_iload_n hx hb d_16_111_12 rfl (lv_at hl 3 rfl) ?_
    refine va_zast hx hb hK hP hD hS 0 3 rfl rfl (vp_in_iff.mpr ⟨by omega, by omega⟩) d_16_111_13 (fun H locs hP1 hD1 hS1 => ?_)
    replace hP : va_P D cls9 [(h69, .inl (kZ, 3001, .inl (upd w5_h69 (Int32.toNatClampNeg v5_2) (vp_nar .boolean p2))))] H := hP1
    replace hD : va_D A [(h69, .inl (kZ, 3001, .inl (upd w5_h69 (Int32.toNatClampNeg v5_2) (vp_nar .boolean p2))))] := hD1
    replace hS := hS1
    clear hP1 hD1 hS1
    obtain ⟨y_6, ey_6⟩ : ∃ y : Int32, y = v5_2 + 1 := ⟨_, rfl⟩
    have ty_6 : y_6.toInt = v5_2.toInt + 1 := by rw [ey_6]; exact zaddc (by decide +kernel) (by omega) (by omega)
    refine lv_iinc (v := y_6) (lv' := [(2, .int y_6), (3, .int 3001), (0, .ref h69), (1, .int p2)]) hx hb d_16_111_14 hl (k := 1) rfl (by rw [ey_6]; rfl) (by decide +kernel) rfl (fun ls hl => ?_)
    refine lv_goto (tgt := 5) hx hb d_16_111_17 (by decide +kernel) ?_
    exact ih_4 _ _ _ _ (by omega) ⟨(upd w5_h69 (Int32.toNatClampNeg v5_2) (vp_nar .boolean p2)), y_6, (show 0 ≤ y_6.toInt from (by first | assumption | omega)), (show y_6.toInt ≤ 3001 from (by first | assumption | omega)), rfl, hP.sub (ws' := [(h69, .inl (kZ, 3001, .inl (upd w5_h69 (Int32.toNatClampNeg v5_2) (vp_nar .boolean p2))))]) [0] rfl, hD.sub (ws' := [(h69, .inl (kZ, 3001, .inl (upd w5_h69 (Int32.toNatClampNeg v5_2) (vp_nar .boolean p2))))]) [0] (by decide) rfl, hS, lv_sub hl [1, 0, 2, 3] rfl⟩
