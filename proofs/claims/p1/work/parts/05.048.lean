set_option maxHeartbeats 4000000 in
set_option maxRecDepth 100000 in
theorem c_Tokens_kind_1 (l : Launch) (D : va_G) (kI kJ kB kZ : ClassId) (sz : Nat) (h0 : Nat) (h1 : Nat) (h2 : Nat) (h3 : Nat) (h4 : Nat) : Met l (⟨"AlgolJudge$Tokens", "kind", "()I"⟩ : MethodName) (Cond.code (⟨"AlgolJudge$Tokens", "kind", "()I"⟩ : MethodName) prog_8_method_17_code 1 (some .int) :: gT) ({ frames := 0, cells := 0, slots := 0, locals := 0 }) (va_Pc [.ref h0] (xP D (xT kI kJ kB kZ) xN [(h0, .inr (0, [.ref h1, .ref h2, .ref h3, .ref h4, .int 1, .int 0, .int 1, .int 0]))] sz)) (va_Qi (fun (r : Int32) (_ : Unit) => r = (-2)) (fun _ t => xQ D (xT kI kJ kB kZ) (va_A [(h0, .inr (0, [.ref h1, .ref h2, .ref h3, .ref h4, .int 1, .int 0, .int 1, .int 0]))] sz) [(h0, .inr (0, [.ref h1, .ref h2, .ref h3, .ref h4, .int 1, .int 0, .int 1, .int 0]))] t) (va_A [(h0, .inr (0, [.ref h1, .ref h2, .ref h3, .ref h4, .int 1, .int 0, .int 1, .int 0]))] sz)) 0 0 (va_A [(h0, .inr (0, [.ref h1, .ref h2, .ref h3, .ref h4, .int 1, .int 0, .int 1, .int 0]))] sz) := by
  refine Met.ofW (cc := prog_8_method_17_code) (maxL := 1) (ret := some .int) (by decide +kernel) rfl ?_
  intro p e s m args below meth c s₁ B hml hv
  obtain ⟨rfl, hsz, hP, hK, hD0, hE⟩ := hv
  have hx := B.exec
  have hb := B.bytes
  have hr := B.returns
  have hts : ∀ w ∈ gT, w.before _ s = true := fun w h => atoms_spec (ws := Cond.code (⟨"AlgolJudge$Tokens", "kind", "()I"⟩ : MethodName) prog_8_method_17_code 1 (some .int) :: gT) B.pre w (List.mem_cons_of_mem _ h)
  have hown : s.vm.findClass "AlgolJudge$Tokens" = some m.cls := findClass_of_methodNamed B.named
  have hlocks := B.notSynchronized
  subst hsz
  have hD := hD0.self (sz := s.heap.size)
  generalize hAe : va_A [(h0, .inr (0, [.ref h1, .ref h2, .ref h3, .ref h4, .int 1, .int 0, .int 1, .int 0]))] s.heap.size = A at hD hE ⊢
  have hA : ∀ q : Nat, s.heap.size ≤ q → A q := fun q h => by rw [← hAe]; exact Or.inr h
  have hS : va_S A s.heap s.heap [] := va_S.rf
  have hP : va_P D cls9 [(h0, .inr (0, [.ref h1, .ref h2, .ref h3, .ref h4, .int 1, .int 0, .int 1, .int 0]))] s.heap := hP
  have hl := lv_entry ([.ref h0]) (n := 1) (Nat.le_of_ble_eq_true rfl)
  rw [lg_entry_eq]
  generalize (lg_sl ([.ref h0]) ++ List.replicate (1 - (lg_sl ([.ref h0])).length) Slot.unset).toArray = ls at hl ⊢
  have hl : lv_has ls 1 [(0, .ref h0)] := hl
  refine lv_aload_n hx hb d_8_17_0 rfl (lv_at hl 0 rfl) ?_
  refine va_get (D := D) (ci := 0) (v := .int 0) (C := "AlgolJudge$Tokens") (T := T_Tokens) (N := 8) hx hb hts i_Tokens hown hK hP 0 rfl rfl 7 (by decide +kernel) (hts _ m_217) (fun _ h9 => h9) rfl d_8_17_1 ?_
  refine lv_bipush (v := (-2)) hx hb d_8_17_4 (by decide +kernel) ?_
  refine lv_icmp_ne (tgt := 32) hx hb d_8_17_6 (by decide +kernel) (fun c_1 => ?_) (fun c_1 => ?_)
  rotate_left
  · exact absurd c_1 (by decide +kernel)
  refine lv_bipush (v := (-2)) hx hb d_8_17_32 (by decide +kernel) ?_
  have hP9 := hP.sub (ws' := [(h0, .inr (0, [.ref h1, .ref h2, .ref h3, .ref h4, .int 1, .int 0, .int 1, .int 0]))]) [0] rfl
  have hD9 := hD.sub (ws' := [(h0, .inr (0, [.ref h1, .ref h2, .ref h3, .ref h4, .int 1, .int 0, .int 1, .int 0]))]) [0] (by decide +kernel) rfl
  exact W.iret (v := (-2)) hx hb hr (fun t ht hW => ⟨⟨(-2), (), rfl, rfl, xEnd hK hP9 hD9 ht hW⟩, hS.F ht⟩) hS.2.2 d_8_17_34
set_option maxHeartbeats 4000000 in
set_option maxRecDepth 100000 in
theorem c_Tokens_sees_0 (l : Launch) (D : va_G) (kI kJ kB kZ : ClassId) (sz : Nat) (h0 : Nat) (h1 : Nat) (h2 : Nat) (h3 : Nat) (h4 : Nat) : Met l (⟨"AlgolJudge$Tokens", "sees", "(I)Z"⟩ : MethodName) (Cond.code (⟨"AlgolJudge$Tokens", "sees", "(I)Z"⟩ : MethodName) prog_8_method_21_code 2 (some .boolean) :: gT) ({ frames := 1, cells := 0, slots := 0, locals := 20 }) (va_Pc [.ref h0, .int 3] (xP D (xT kI kJ kB kZ) xN [(h0, .inr (0, [.ref h1, .ref h2, .ref h3, .ref h4, .int 1, .int 0, .int 1, .int 0]))] sz)) (va_Qi (fun (r : Int32) (_ : Unit) => r = 0) (fun _ t => xQ D (xT kI kJ kB kZ) (va_A [(h0, .inr (0, [.ref h1, .ref h2, .ref h3, .ref h4, .int 1, .int 0, .int 1, .int 0]))] sz) [(h0, .inr (0, [.ref h1, .ref h2, .ref h3, .ref h4, .int 1, .int 0, .int 1, .int 0]))] t) (va_A [(h0, .inr (0, [.ref h1, .ref h2, .ref h3, .ref h4, .int 1, .int 0, .int 1, .int 0]))] sz)) 0 0 (va_A [(h0, .inr (0, [.ref h1, .ref h2, .ref h3, .ref h4, .int 1, .int 0, .int 1, .int 0]))] sz) := by
  refine Met.ofW (cc := prog_8_method_21_code) (maxL := 2) (ret := some .boolean) (by decide +kernel) rfl ?_
  intro p e s m args below meth c s₁ B hml hv
  obtain ⟨rfl, hsz, hP, hK, hD0, hE⟩ := hv
  have hx := B.exec
  have hb := B.bytes
  have hr := B.returns
  have hts : ∀ w ∈ gT, w.before _ s = true := fun w h => atoms_spec (ws := Cond.code (⟨"AlgolJudge$Tokens", "sees", "(I)Z"⟩ : MethodName) prog_8_method_21_code 2 (some .boolean) :: gT) B.pre w (List.mem_cons_of_mem _ h)
  have hown : s.vm.findClass "AlgolJudge$Tokens" = some m.cls := findClass_of_methodNamed B.named
  have hlocks := B.notSynchronized
  subst hsz
  have hD := hD0.self (sz := s.heap.size)
  generalize hAe : va_A [(h0, .inr (0, [.ref h1, .ref h2, .ref h3, .ref h4, .int 1, .int 0, .int 1, .int 0]))] s.heap.size = A at hD hE ⊢
  have hA : ∀ q : Nat, s.heap.size ≤ q → A q := fun q h => by rw [← hAe]; exact Or.inr h
  have hS : va_S A s.heap s.heap [] := va_S.rf
  have hP : va_P D cls9 [(h0, .inr (0, [.ref h1, .ref h2, .ref h3, .ref h4, .int 1, .int 0, .int 1, .int 0]))] s.heap := hP
  have hl := lv_entry ([.ref h0, .int 3]) (n := 2) (Nat.le_of_ble_eq_true rfl)
  rw [lg_entry_eq]
  generalize (lg_sl ([.ref h0, .int 3]) ++ List.replicate (2 - (lg_sl ([.ref h0, .int 3])).length) Slot.unset).toArray = ls at hl ⊢
  have hl : lv_has ls 2 [(0, .ref h0), (1, .int 3)] := hl
  refine lv_aload_n hx hb d_8_21_0 rfl (lv_at hl 0 rfl) ?_
  have hPc := hP.sub (ws' := [(h0, .inr (0, [.ref h1, .ref h2, .ref h3, .ref h4, .int 1, .int 0, .int 1, .int 0]))]) [0] rfl
  have hDc := hD.sub (ws' := [(h0, .inr (0, [.ref h1, .ref h2, .ref h3, .ref h4, .int 1, .int 0, .int 1, .int 0]))]) [0] (by decide +kernel) rfl
  have hFc := va_free (wc := [(h0, .inr (0, [.ref h1, .ref h2, .ref h3, .ref h4, .int 1, .int 0, .int 1, .int 0]))]) hD hS hA [0] rfl
  refine va_calli (va_runV (As := []) (rest := []) ⟨hx, hb, hml, hown, hts⟩ (c_Tokens_kind_1 l D kI kJ kB kZ _ (h0) (h1) (h2) (h3) (h4) ) (cwV 0 hts (gT_V m_587 m_588 m_589 m_121 (gT_ws m_590)) rfl rfl rfl (by decide +kernel) ⟨(Nat.le_of_ble_eq_true rfl), (Nat.le_of_ble_eq_true rfl)⟩) ⟨xBlind xOk_N, va_recv hK hP (ci := 0) (q0 := 0) rfl rfl, xAtN hK hPc hDc⟩ rfl rfl hl.1 rfl (lv_room (Nat.le_of_ble_eq_true rfl)) d_8_21_1 ⟨(Nat.le_of_ble_eq_true rfl), (Nat.le_of_ble_eq_true rfl)⟩) hS (fun q _ h => hFc q h) hFc (fun r_1 u t H1 locs ht hvm hw hB hz1 hk1 hS => ?_)
  obtain ⟨hP, hD⟩ := xJoin (wr := []) (w1 := [(h0, .inr (0, [.ref h1, .ref h2, .ref h3, .ref h4, .int 1, .int 0, .int 1, .int 0]))]) hP hD [0] [] rfl rfl (by decide +kernel) (by decide +kernel) hk1 hFc ht hB
  generalize H1 = H at hP hS ⊢
  have hP : va_P D cls9 [(h0, .inr (0, [.ref h1, .ref h2, .ref h3, .ref h4, .int 1, .int 0, .int 1, .int 0]))] H := hP
  have hD : va_D A [(h0, .inr (0, [.ref h1, .ref h2, .ref h3, .ref h4, .int 1, .int 0, .int 1, .int 0]))] := hD
  obtain rfl : r_1 = (-2) := hw
  refine lv_iload_n hx hb d_8_21_4 rfl (lv_at hl 1 rfl) ?_
  refine lv_icmp_ne (tgt := 12) hx hb d_8_21_5 (by decide +kernel) (fun c_2 => ?_) (fun c_2 => ?_)
  rotate_left
  · exact absurd c_2 (by decide +kernel)
  refine lv_iconst (v := 0) hx hb d_8_21_12 (by decide +kernel) ?_
  have hP9 := hP.sub (ws' := [(h0, .inr (0, [.ref h1, .ref h2, .ref h3, .ref h4, .int 1, .int 0, .int 1, .int 0]))]) [0] rfl
  have hD9 := hD.sub (ws' := [(h0, .inr (0, [.ref h1, .ref h2, .ref h3, .ref h4, .int 1, .int 0, .int 1, .int 0]))]) [0] (by decide +kernel) rfl
  exact W.zret (v := 0) (ty := .boolean) hx hb hr (by decide +kernel) (fun t ht hW => ⟨⟨0, (), rfl, rfl, xEnd hK hP9 hD9 ht hW⟩, hS.F ht⟩) hS.2.2 d_8_21_13
set_option maxHeartbeats 4000000 in
set_option maxRecDepth 100000 in
theorem c_Tokens_sees_1 (l : Launch) (D : va_G) (kI kJ kB kZ : ClassId) (sz : Nat) (h0 : Nat) (h1 : Nat) (h2 : Nat) (h3 : Nat) (h4 : Nat) : Met l (⟨"AlgolJudge$Tokens", "sees", "(I)Z"⟩ : MethodName) (Cond.code (⟨"AlgolJudge$Tokens", "sees", "(I)Z"⟩ : MethodName) prog_8_method_21_code 2 (some .boolean) :: gT) ({ frames := 1, cells := 0, slots := 0, locals := 20 }) (va_Pc [.ref h0, .int 4] (xP D (xT kI kJ kB kZ) xN [(h0, .inr (0, [.ref h1, .ref h2, .ref h3, .ref h4, .int 1, .int 0, .int 1, .int 0]))] sz)) (va_Qi (fun (r : Int32) (_ : Unit) => r = 0) (fun _ t => xQ D (xT kI kJ kB kZ) (va_A [(h0, .inr (0, [.ref h1, .ref h2, .ref h3, .ref h4, .int 1, .int 0, .int 1, .int 0]))] sz) [(h0, .inr (0, [.ref h1, .ref h2, .ref h3, .ref h4, .int 1, .int 0, .int 1, .int 0]))] t) (va_A [(h0, .inr (0, [.ref h1, .ref h2, .ref h3, .ref h4, .int 1, .int 0, .int 1, .int 0]))] sz)) 0 0 (va_A [(h0, .inr (0, [.ref h1, .ref h2, .ref h3, .ref h4, .int 1, .int 0, .int 1, .int 0]))] sz) := by
  refine Met.ofW (cc := prog_8_method_21_code) (maxL := 2) (ret := some .boolean) (by decide +kernel) rfl ?_
  intro p e s m args below meth c s₁ B hml hv
  obtain ⟨rfl, hsz, hP, hK, hD0, hE⟩ := hv
  have hx := B.exec
  have hb := B.bytes
  have hr := B.returns
  have hts : ∀ w ∈ gT, w.before _ s = true := fun w h => atoms_spec (ws := Cond.code (⟨"AlgolJudge$Tokens", "sees", "(I)Z"⟩ : MethodName) prog_8_method_21_code 2 (some .boolean) :: gT) B.pre w (List.mem_cons_of_mem _ h)
  have hown : s.vm.findClass "AlgolJudge$Tokens" = some m.cls := findClass_of_methodNamed B.named
  have hlocks := B.notSynchronized
  subst hsz
  have hD := hD0.self (sz := s.heap.size)
  generalize hAe : va_A [(h0, .inr (0, [.ref h1, .ref h2, .ref h3, .ref h4, .int 1, .int 0, .int 1, .int 0]))] s.heap.size = A at hD hE ⊢
  have hA : ∀ q : Nat, s.heap.size ≤ q → A q := fun q h => by rw [← hAe]; exact Or.inr h
  have hS : va_S A s.heap s.heap [] := va_S.rf
  have hP : va_P D cls9 [(h0, .inr (0, [.ref h1, .ref h2, .ref h3, .ref h4, .int 1, .int 0, .int 1, .int 0]))] s.heap := hP
  have hl := lv_entry ([.ref h0, .int 4]) (n := 2) (Nat.le_of_ble_eq_true rfl)
  rw [lg_entry_eq]
  generalize (lg_sl ([.ref h0, .int 4]) ++ List.replicate (2 - (lg_sl ([.ref h0, .int 4])).length) Slot.unset).toArray = ls at hl ⊢
  have hl : lv_has ls 2 [(0, .ref h0), (1, .int 4)] := hl
  refine lv_aload_n hx hb d_8_21_0 rfl (lv_at hl 0 rfl) ?_
  have hPc := hP.sub (ws' := [(h0, .inr (0, [.ref h1, .ref h2, .ref h3, .ref h4, .int 1, .int 0, .int 1, .int 0]))]) [0] rfl
  have hDc := hD.sub (ws' := [(h0, .inr (0, [.ref h1, .ref h2, .ref h3, .ref h4, .int 1, .int 0, .int 1, .int 0]))]) [0] (by decide +kernel) rfl
  have hFc := va_free (wc := [(h0, .inr (0, [.ref h1, .ref h2, .ref h3, .ref h4, .int 1, .int 0, .int 1, .int 0]))]) hD hS hA [0] rfl
  refine va_calli (va_runV (As := []) (rest := []) ⟨hx, hb, hml, hown, hts⟩ (c_Tokens_kind_1 l D kI kJ kB kZ _ (h0) (h1) (h2) (h3) (h4) ) (cwV 0 hts (gT_V m_587 m_588 m_589 m_121 (gT_ws m_590)) rfl rfl rfl (by decide +kernel) ⟨(Nat.le_of_ble_eq_true rfl), (Nat.le_of_ble_eq_true rfl)⟩) ⟨xBlind xOk_N, va_recv hK hP (ci := 0) (q0 := 0) rfl rfl, xAtN hK hPc hDc⟩ rfl rfl hl.1 rfl (lv_room (Nat.le_of_ble_eq_true rfl)) d_8_21_1 ⟨(Nat.le_of_ble_eq_true rfl), (Nat.le_of_ble_eq_true rfl)⟩) hS (fun q _ h => hFc q h) hFc (fun r_1 u t H1 locs ht hvm hw hB hz1 hk1 hS => ?_)
  obtain ⟨hP, hD⟩ := xJoin (wr := []) (w1 := [(h0, .inr (0, [.ref h1, .ref h2, .ref h3, .ref h4, .int 1, .int 0, .int 1, .int 0]))]) hP hD [0] [] rfl rfl (by decide +kernel) (by decide +kernel) hk1 hFc ht hB
  generalize H1 = H at hP hS ⊢
  have hP : va_P D cls9 [(h0, .inr (0, [.ref h1, .ref h2, .ref h3, .ref h4, .int 1, .int 0, .int 1, .int 0]))] H := hP
  have hD : va_D A [(h0, .inr (0, [.ref h1, .ref h2, .ref h3, .ref h4, .int 1, .int 0, .int 1, .int 0]))] := hD
  obtain rfl : r_1 = (-2) := hw
  refine lv_iload_n hx hb d_8_21_4 rfl (lv_at hl 1 rfl) ?_
  refine lv_icmp_ne (tgt := 12) hx hb d_8_21_5 (by decide +kernel) (fun c_2 => ?_) (fun c_2 => ?_)
  rotate_left
  · exact absurd c_2 (by decide +kernel)
  refine lv_iconst (v := 0) hx hb d_8_21_12 (by decide +kernel) ?_
  have hP9 := hP.sub (ws' := [(h0, .inr (0, [.ref h1, .ref h2, .ref h3, .ref h4, .int 1, .int 0, .int 1, .int 0]))]) [0] rfl
  have hD9 := hD.sub (ws' := [(h0, .inr (0, [.ref h1, .ref h2, .ref h3, .ref h4, .int 1, .int 0, .int 1, .int 0]))]) [0] (by decide +kernel) rfl
  exact W.zret (v := 0) (ty := .boolean) hx hb hr (by decide +kernel) (fun t ht hW => ⟨⟨0, (), rfl, rfl, xEnd hK hP9 hD9 ht hW⟩, hS.F ht⟩) hS.2.2 d_8_21_13
set_option maxHeartbeats 4000000 in
set_option maxRecDepth 100000 in
theorem c_Blocks_seesType_0 (l : Launch) (D : va_G) (kI kJ kB kZ : ClassId) (sz : Nat) (h0 : Nat) (h1 : Nat) (h2 : Nat) (h3 : Nat) (h4 : Nat) (h5 : Nat) (h6 : Nat) (h7 : Nat) (h8 : Nat) : Met l (⟨"AlgolJudge$Blocks", "seesType", "()Z"⟩ : MethodName) (Cond.code (⟨"AlgolJudge$Blocks", "seesType", "()Z"⟩ : MethodName) prog_2_method_5_code 1 (some .boolean) :: gT) ({ frames := 2, cells := 0, slots := 0, locals := 41 }) (va_Pc [.ref h0] (xP D (xT kI kJ kB kZ) xN [(h0, .inr (5, [.ref h1, .ref h2, .ref h3, .ref h4, .int 0])), (h1, .inr (0, [.ref h5, .ref h6, .ref h7, .ref h8, .int 1, .int 0, .int 1, .int 0]))] sz)) (va_Qi (fun (r : Int32) (_ : Unit) => r = 0) (fun _ t => xQ D (xT kI kJ kB kZ) (va_A [(h0, .inr (5, [.ref h1, .ref h2, .ref h3, .ref h4, .int 0])), (h1, .inr (0, [.ref h5, .ref h6, .ref h7, .ref h8, .int 1, .int 0, .int 1, .int 0]))] sz) [(h0, .inr (5, [.ref h1, .ref h2, .ref h3, .ref h4, .int 0])), (h1, .inr (0, [.ref h5, .ref h6, .ref h7, .ref h8, .int 1, .int 0, .int 1, .int 0]))] t) (va_A [(h0, .inr (5, [.ref h1, .ref h2, .ref h3, .ref h4, .int 0])), (h1, .inr (0, [.ref h5, .ref h6, .ref h7, .ref h8, .int 1, .int 0, .int 1, .int 0]))] sz)) 0 0 (va_A [(h0, .inr (5, [.ref h1, .ref h2, .ref h3, .ref h4, .int 0])), (h1, .inr (0, [.ref h5, .ref h6, .ref h7, .ref h8, .int 1, .int 0, .int 1, .int 0]))] sz) := by
  refine Met.ofW (cc := prog_2_method_5_code) (maxL := 1) (ret := some .boolean) (by decide +kernel) rfl ?_
  intro p e s m args below meth c s₁ B hml hv
  obtain ⟨rfl, hsz, hP, hK, hD0, hE⟩ := hv
  have hx := B.exec
  have hb := B.bytes
  have hr := B.returns
  have hts : ∀ w ∈ gT, w.before _ s = true := fun w h => atoms_spec (ws := Cond.code (⟨"AlgolJudge$Blocks", "seesType", "()Z"⟩ : MethodName) prog_2_method_5_code 1 (some .boolean) :: gT) B.pre w (List.mem_cons_of_mem _ h)
  have hown : s.vm.findClass "AlgolJudge$Blocks" = some m.cls := findClass_of_methodNamed B.named
  have hlocks := B.notSynchronized
  subst hsz
  have hD := hD0.self (sz := s.heap.size)
  generalize hAe : va_A [(h0, .inr (5, [.ref h1, .ref h2, .ref h3, .ref h4, .int 0])), (h1, .inr (0, [.ref h5, .ref h6, .ref h7, .ref h8, .int 1, .int 0, .int 1, .int 0]))] s.heap.size = A at hD hE ⊢
  have hA : ∀ q : Nat, s.heap.size ≤ q → A q := fun q h => by rw [← hAe]; exact Or.inr h
  have hS : va_S A s.heap s.heap [] := va_S.rf
  have hP : va_P D cls9 [(h0, .inr (5, [.ref h1, .ref h2, .ref h3, .ref h4, .int 0])), (h1, .inr (0, [.ref h5, .ref h6, .ref h7, .ref h8, .int 1, .int 0, .int 1, .int 0]))] s.heap := hP
  have hl := lv_entry ([.ref h0]) (n := 1) (Nat.le_of_ble_eq_true rfl)
  rw [lg_entry_eq]
  generalize (lg_sl ([.ref h0]) ++ List.replicate (1 - (lg_sl ([.ref h0])).length) Slot.unset).toArray = ls at hl ⊢
  have hl : lv_has ls 1 [(0, .ref h0)] := hl
  refine lv_aload_n hx hb d_2_5_0 rfl (lv_at hl 0 rfl) ?_
  refine va_get (D := D) (ci := 5) (v := .ref h1) (C := "AlgolJudge$Blocks") (T := T_Blocks) (N := 5) hx hb hts i_Blocks hown hK hP 0 rfl rfl 0 (by decide +kernel) (hts _ m_360) (fun _ h9 => h9) rfl d_2_5_1 ?_
  refine lv_iconst (v := 3) hx hb d_2_5_4 (by decide +kernel) ?_
  have hPc := hP.sub (ws' := [(h1, .inr (0, [.ref h5, .ref h6, .ref h7, .ref h8, .int 1, .int 0, .int 1, .int 0]))]) [1] rfl
  have hDc := hD.sub (ws' := [(h1, .inr (0, [.ref h5, .ref h6, .ref h7, .ref h8, .int 1, .int 0, .int 1, .int 0]))]) [1] (by decide +kernel) rfl
  have hFc := va_free (wc := [(h1, .inr (0, [.ref h5, .ref h6, .ref h7, .ref h8, .int 1, .int 0, .int 1, .int 0]))]) hD hS hA [1] rfl
  refine va_calli (va_runV (As := [.int 3]) (rest := []) ⟨hx, hb, hml, hown, hts⟩ (c_Tokens_sees_0 l D kI kJ kB kZ _ (h1) (h5) (h6) (h7) (h8) ) (cwV 1 hts (gT_V m_616 m_617 m_618 m_121 (gT_ws m_619)) rfl rfl rfl (by decide +kernel) ⟨(Nat.le_of_ble_eq_true rfl), (Nat.le_of_ble_eq_true rfl)⟩) ⟨xBlind xOk_N, va_recv hK hP (ci := 0) (q0 := 1) rfl rfl, xAtN hK hPc hDc⟩ rfl rfl hl.1 rfl (lv_room (Nat.le_of_ble_eq_true rfl)) d_2_5_5 ⟨(Nat.le_of_ble_eq_true rfl), (Nat.le_of_ble_eq_true rfl)⟩) hS (fun q _ h => hFc q h) hFc (fun r_1 u t H1 locs ht hvm hw hB hz1 hk1 hS => ?_)
  obtain ⟨hP, hD⟩ := xJoin (wr := [(h0, .inr (5, [.ref h1, .ref h2, .ref h3, .ref h4, .int 0]))]) (w1 := [(h1, .inr (0, [.ref h5, .ref h6, .ref h7, .ref h8, .int 1, .int 0, .int 1, .int 0]))]) hP hD [1] [0] rfl rfl (by decide +kernel) (by decide +kernel) hk1 hFc ht hB
  generalize H1 = H at hP hS ⊢
  have hP : va_P D cls9 [(h0, .inr (5, [.ref h1, .ref h2, .ref h3, .ref h4, .int 0])), (h1, .inr (0, [.ref h5, .ref h6, .ref h7, .ref h8, .int 1, .int 0, .int 1, .int 0]))] H := hP
  have hD : va_D A [(h0, .inr (5, [.ref h1, .ref h2, .ref h3, .ref h4, .int 0])), (h1, .inr (0, [.ref h5, .ref h6, .ref h7, .ref h8, .int 1, .int 0, .int 1, .int 0]))] := hD
  obtain rfl : r_1 = 0 := hw
  refine lv_if_ne (tgt := 22) hx hb d_2_5_8 (by decide +kernel) (fun c_2 => ?_) (fun c_2 => ?_)
  · exact absurd c_2 (by decide +kernel)
  refine lv_aload_n hx hb d_2_5_11 rfl (lv_at hl 0 rfl) ?_
  refine va_get (D := D) (ci := 5) (v := .ref h1) (C := "AlgolJudge$Blocks") (T := T_Blocks) (N := 5) hx hb hts i_Blocks hown hK hP 0 rfl rfl 0 (by decide +kernel) (hts _ m_360) (fun _ h9 => h9) rfl d_2_5_12 ?_
  refine lv_iconst (v := 4) hx hb d_2_5_15 (by decide +kernel) ?_
  have hPc := hP.sub (ws' := [(h1, .inr (0, [.ref h5, .ref h6, .ref h7, .ref h8, .int 1, .int 0, .int 1, .int 0]))]) [1] rfl
  have hDc := hD.sub (ws' := [(h1, .inr (0, [.ref h5, .ref h6, .ref h7, .ref h8, .int 1, .int 0, .int 1, .int 0]))]) [1] (by decide +kernel) rfl
  have hFc := va_free (wc := [(h1, .inr (0, [.ref h5, .ref h6, .ref h7, .ref h8, .int 1, .int 0, .int 1, .int 0]))]) hD hS hA [1] rfl
  refine va_calli (va_runV (As := [.int 4]) (rest := []) ⟨hx, hb, hml, hown, hts⟩ (c_Tokens_sees_1 l D kI kJ kB kZ _ (h1) (h5) (h6) (h7) (h8) ) (cwV 1 hts (gT_V m_616 m_617 m_618 m_121 (gT_ws m_619)) rfl rfl rfl (by decide +kernel) ⟨(Nat.le_of_ble_eq_true rfl), (Nat.le_of_ble_eq_true rfl)⟩) ⟨xBlind xOk_N, va_recv hK hP (ci := 0) (q0 := 1) rfl rfl, xAtN hK hPc hDc⟩ rfl rfl hl.1 rfl (lv_room (Nat.le_of_ble_eq_true rfl)) d_2_5_16 ⟨(Nat.le_of_ble_eq_true rfl), (Nat.le_of_ble_eq_true rfl)⟩) hS (fun q _ h => hFc q h) hFc (fun r_3 u t H1 locs ht hvm hw hB hz1 hk1 hS => ?_)
  obtain ⟨hP, hD⟩ := xJoin (wr := [(h0, .inr (5, [.ref h1, .ref h2, .ref h3, .ref h4, .int 0]))]) (w1 := [(h1, .inr (0, [.ref h5, .ref h6, .ref h7, .ref h8, .int 1, .int 0, .int 1, .int 0]))]) hP hD [1] [0] rfl rfl (by decide +kernel) (by decide +kernel) hk1 hFc ht hB
  generalize H1 = H at hP hS ⊢
  have hP : va_P D cls9 [(h0, .inr (5, [.ref h1, .ref h2, .ref h3, .ref h4, .int 0])), (h1, .inr (0, [.ref h5, .ref h6, .ref h7, .ref h8, .int 1, .int 0, .int 1, .int 0]))] H := hP
  have hD : va_D A [(h0, .inr (5, [.ref h1, .ref h2, .ref h3, .ref h4, .int 0])), (h1, .inr (0, [.ref h5, .ref h6, .ref h7, .ref h8, .int 1, .int 0, .int 1, .int 0]))] := hD
  obtain rfl : r_3 = 0 := hw
  refine lv_if_eq (tgt := 26) hx hb d_2_5_19 (by decide +kernel) (fun c_4 => ?_) (fun c_4 => ?_)
  rotate_left
  · exact absurd c_4 (by decide +kernel)
  refine lv_iconst (v := 0) hx hb d_2_5_26 (by decide +kernel) ?_
  have hP9 := hP.sub (ws' := [(h0, .inr (5, [.ref h1, .ref h2, .ref h3, .ref h4, .int 0])), (h1, .inr (0, [.ref h5, .ref h6, .ref h7, .ref h8, .int 1, .int 0, .int 1, .int 0]))]) [0, 1] rfl
  have hD9 := hD.sub (ws' := [(h0, .inr (5, [.ref h1, .ref h2, .ref h3, .ref h4, .int 0])), (h1, .inr (0, [.ref h5, .ref h6, .ref h7, .ref h8, .int 1, .int 0, .int 1, .int 0]))]) [0, 1] (by decide +kernel) rfl
  exact W.zret (v := 0) (ty := .boolean) hx hb hr (by decide +kernel) (fun t ht hW => ⟨⟨0, (), rfl, rfl, xEnd hK hP9 hD9 ht hW⟩, hS.F ht⟩) hS.2.2 d_2_5_27
set_option maxHeartbeats 4000000 in
set_option maxRecDepth 100000 in
theorem c_Tokens_sees_2 (l : Launch) (D : va_G) (kI kJ kB kZ : ClassId) (sz : Nat) (h0 : Nat) (h1 : Nat) (h2 : Nat) (h3 : Nat) (h4 : Nat) : Met l (⟨"AlgolJudge$Tokens", "sees", "(I)Z"⟩ : MethodName) (Cond.code (⟨"AlgolJudge$Tokens", "sees", "(I)Z"⟩ : MethodName) prog_8_method_21_code 2 (some .boolean) :: gT) ({ frames := 1, cells := 0, slots := 0, locals := 20 }) (va_Pc [.ref h0, .int 8] (xP D (xT kI kJ kB kZ) xN [(h0, .inr (0, [.ref h1, .ref h2, .ref h3, .ref h4, .int 1, .int 0, .int 1, .int 0]))] sz)) (va_Qi (fun (r : Int32) (_ : Unit) => r = 0) (fun _ t => xQ D (xT kI kJ kB kZ) (va_A [(h0, .inr (0, [.ref h1, .ref h2, .ref h3, .ref h4, .int 1, .int 0, .int 1, .int 0]))] sz) [(h0, .inr (0, [.ref h1, .ref h2, .ref h3, .ref h4, .int 1, .int 0, .int 1, .int 0]))] t) (va_A [(h0, .inr (0, [.ref h1, .ref h2, .ref h3, .ref h4, .int 1, .int 0, .int 1, .int 0]))] sz)) 0 0 (va_A [(h0, .inr (0, [.ref h1, .ref h2, .ref h3, .ref h4, .int 1, .int 0, .int 1, .int 0]))] sz) := by
  refine Met.ofW (cc := prog_8_method_21_code) (maxL := 2) (ret := some .boolean) (by decide +kernel) rfl ?_
  intro p e s m args below meth c s₁ B hml hv
  obtain ⟨rfl, hsz, hP, hK, hD0, hE⟩ := hv
  have hx := B.exec
  have hb := B.bytes
  have hr := B.returns
  have hts : ∀ w ∈ gT, w.before _ s = true := fun w h => atoms_spec (ws := Cond.code (⟨"AlgolJudge$Tokens", "sees", "(I)Z"⟩ : MethodName) prog_8_method_21_code 2 (some .boolean) :: gT) B.pre w (List.mem_cons_of_mem _ h)
  have hown : s.vm.findClass "AlgolJudge$Tokens" = some m.cls := findClass_of_methodNamed B.named
  have hlocks := B.notSynchronized
  subst hsz
  have hD := hD0.self (sz := s.heap.size)
  generalize hAe : va_A [(h0, .inr (0, [.ref h1, .ref h2, .ref h3, .ref h4, .int 1, .int 0, .int 1, .int 0]))] s.heap.size = A at hD hE ⊢
  have hA : ∀ q : Nat, s.heap.size ≤ q → A q := fun q h => by rw [← hAe]; exact Or.inr h
  have hS : va_S A s.heap s.heap [] := va_S.rf
  have hP : va_P D cls9 [(h0, .inr (0, [.ref h1, .ref h2, .ref h3, .ref h4, .int 1, .int 0, .int 1, .int 0]))] s.heap := hP
  have hl := lv_entry ([.ref h0, .int 8]) (n := 2) (Nat.le_of_ble_eq_true rfl)
  rw [lg_entry_eq]
  generalize (lg_sl ([.ref h0, .int 8]) ++ List.replicate (2 - (lg_sl ([.ref h0, .int 8])).length) Slot.unset).toArray = ls at hl ⊢
  have hl : lv_has ls 2 [(0, .ref h0), (1, .int 8)] := hl
  refine lv_aload_n hx hb d_8_21_0 rfl (lv_at hl 0 rfl) ?_
  have hPc := hP.sub (ws' := [(h0, .inr (0, [.ref h1, .ref h2, .ref h3, .ref h4, .int 1, .int 0, .int 1, .int 0]))]) [0] rfl
  have hDc := hD.sub (ws' := [(h0, .inr (0, [.ref h1, .ref h2, .ref h3, .ref h4, .int 1, .int 0, .int 1, .int 0]))]) [0] (by decide +kernel) rfl
  have hFc := va_free (wc := [(h0, .inr (0, [.ref h1, .ref h2, .ref h3, .ref h4, .int 1, .int 0, .int 1, .int 0]))]) hD hS hA [0] rfl
  refine va_calli (va_runV (As := []) (rest := []) ⟨hx, hb, hml, hown, hts⟩ (c_Tokens_kind_1 l D kI kJ kB kZ _ (h0) (h1) (h2) (h3) (h4) ) (cwV 0 hts (gT_V m_587 m_588 m_589 m_121 (gT_ws m_590)) rfl rfl rfl (by decide +kernel) ⟨(Nat.le_of_ble_eq_true rfl), (Nat.le_of_ble_eq_true rfl)⟩) ⟨xBlind xOk_N, va_recv hK hP (ci := 0) (q0 := 0) rfl rfl, xAtN hK hPc hDc⟩ rfl rfl hl.1 rfl (lv_room (Nat.le_of_ble_eq_true rfl)) d_8_21_1 ⟨(Nat.le_of_ble_eq_true rfl), (Nat.le_of_ble_eq_true rfl)⟩) hS (fun q _ h => hFc q h) hFc (fun r_1 u t H1 locs ht hvm hw hB hz1 hk1 hS => ?_)
  obtain ⟨hP, hD⟩ := xJoin (wr := []) (w1 := [(h0, .inr (0, [.ref h1, .ref h2, .ref h3, .ref h4, .int 1, .int 0, .int 1, .int 0]))]) hP hD [0] [] rfl rfl (by decide +kernel) (by decide +kernel) hk1 hFc ht hB
  generalize H1 = H at hP hS ⊢
  have hP : va_P D cls9 [(h0, .inr (0, [.ref h1, .ref h2, .ref h3, .ref h4, .int 1, .int 0, .int 1, .int 0]))] H := hP
  have hD : va_D A [(h0, .inr (0, [.ref h1, .ref h2, .ref h3, .ref h4, .int 1, .int 0, .int 1, .int 0]))] := hD
  obtain rfl : r_1 = (-2) := hw
  refine lv_iload_n hx hb d_8_21_4 rfl (lv_at hl 1 rfl) ?_
  refine lv_icmp_ne (tgt := 12) hx hb d_8_21_5 (by decide +kernel) (fun c_2 => ?_) (fun c_2 => ?_)
  rotate_left
  · exact absurd c_2 (by decide +kernel)
  refine lv_iconst (v := 0) hx hb d_8_21_12 (by decide +kernel) ?_
  have hP9 := hP.sub (ws' := [(h0, .inr (0, [.ref h1, .ref h2, .ref h3, .ref h4, .int 1, .int 0, .int 1, .int 0]))]) [0] rfl
  have hD9 := hD.sub (ws' := [(h0, .inr (0, [.ref h1, .ref h2, .ref h3, .ref h4, .int 1, .int 0, .int 1, .int 0]))]) [0] (by decide +kernel) rfl
  exact W.zret (v := 0) (ty := .boolean) hx hb hr (by decide +kernel) (fun t ht hW => ⟨⟨0, (), rfl, rfl, xEnd hK hP9 hD9 ht hW⟩, hS.F ht⟩) hS.2.2 d_8_21_13
set_option maxHeartbeats 4000000 in
set_option maxRecDepth 100000 in
theorem c_Tokens_sees_3 (l : Launch) (D : va_G) (kI kJ kB kZ : ClassId) (sz : Nat) (h0 : Nat) (h1 : Nat) (h2 : Nat) (h3 : Nat) (h4 : Nat) : Met l (⟨"AlgolJudge$Tokens", "sees", "(I)Z"⟩ : MethodName) (Cond.code (⟨"AlgolJudge$Tokens", "sees", "(I)Z"⟩ : MethodName) prog_8_method_21_code 2 (some .boolean) :: gT) ({ frames := 1, cells := 0, slots := 0, locals := 20 }) (va_Pc [.ref h0, .int 6] (xP D (xT kI kJ kB kZ) xN [(h0, .inr (0, [.ref h1, .ref h2, .ref h3, .ref h4, .int 1, .int 0, .int 1, .int 0]))] sz)) (va_Qi (fun (r : Int32) (_ : Unit) => r = 0) (fun _ t => xQ D (xT kI kJ kB kZ) (va_A [(h0, .inr (0, [.ref h1, .ref h2, .ref h3, .ref h4, .int 1, .int 0, .int 1, .int 0]))] sz) [(h0, .inr (0, [.ref h1, .ref h2, .ref h3, .ref h4, .int 1, .int 0, .int 1, .int 0]))] t) (va_A [(h0, .inr (0, [.ref h1, .ref h2, .ref h3, .ref h4, .int 1, .int 0, .int 1, .int 0]))] sz)) 0 0 (va_A [(h0, .inr (0, [.ref h1, .ref h2, .ref h3, .ref h4, .int 1, .int 0, .int 1, .int 0]))] sz) := by
  refine Met.ofW (cc := prog_8_method_21_code) (maxL := 2) (ret := some .boolean) (by decide +kernel) rfl ?_
  intro p e s m args below meth c s₁ B hml hv
  obtain ⟨rfl, hsz, hP, hK, hD0, hE⟩ := hv
  have hx := B.exec
  have hb := B.bytes
  have hr := B.returns
  have hts : ∀ w ∈ gT, w.before _ s = true := fun w h => atoms_spec (ws := Cond.code (⟨"AlgolJudge$Tokens", "sees", "(I)Z"⟩ : MethodName) prog_8_method_21_code 2 (some .boolean) :: gT) B.pre w (List.mem_cons_of_mem _ h)
  have hown : s.vm.findClass "AlgolJudge$Tokens" = some m.cls := findClass_of_methodNamed B.named
  have hlocks := B.notSynchronized
  subst hsz
  have hD := hD0.self (sz := s.heap.size)
  generalize hAe : va_A [(h0, .inr (0, [.ref h1, .ref h2, .ref h3, .ref h4, .int 1, .int 0, .int 1, .int 0]))] s.heap.size = A at hD hE ⊢
  have hA : ∀ q : Nat, s.heap.size ≤ q → A q := fun q h => by rw [← hAe]; exact Or.inr h
  have hS : va_S A s.heap s.heap [] := va_S.rf
  have hP : va_P D cls9 [(h0, .inr (0, [.ref h1, .ref h2, .ref h3, .ref h4, .int 1, .int 0, .int 1, .int 0]))] s.heap := hP
  have hl := lv_entry ([.ref h0, .int 6]) (n := 2) (Nat.le_of_ble_eq_true rfl)
  rw [lg_entry_eq]
  generalize (lg_sl ([.ref h0, .int 6]) ++ List.replicate (2 - (lg_sl ([.ref h0, .int 6])).length) Slot.unset).toArray = ls at hl ⊢
  have hl : lv_has ls 2 [(0, .ref h0), (1, .int 6)] := hl
  refine lv_aload_n hx hb d_8_21_0 rfl (lv_at hl 0 rfl) ?_
  have hPc := hP.sub (ws' := [(h0, .inr (0, [.ref h1, .ref h2, .ref h3, .ref h4, .int 1, .int 0, .int 1, .int 0]))]) [0] rfl
  have hDc := hD.sub (ws' := [(h0, .inr (0, [.ref h1, .ref h2, .ref h3, .ref h4, .int 1, .int 0, .int 1, .int 0]))]) [0] (by decide +kernel) rfl
  have hFc := va_free (wc := [(h0, .inr (0, [.ref h1, .ref h2, .ref h3, .ref h4, .int 1, .int 0, .int 1, .int 0]))]) hD hS hA [0] rfl
  refine va_calli (va_runV (As := []) (rest := []) ⟨hx, hb, hml, hown, hts⟩ (c_Tokens_kind_1 l D kI kJ kB kZ _ (h0) (h1) (h2) (h3) (h4) ) (cwV 0 hts (gT_V m_587 m_588 m_589 m_121 (gT_ws m_590)) rfl rfl rfl (by decide +kernel) ⟨(Nat.le_of_ble_eq_true rfl), (Nat.le_of_ble_eq_true rfl)⟩) ⟨xBlind xOk_N, va_recv hK hP (ci := 0) (q0 := 0) rfl rfl, xAtN hK hPc hDc⟩ rfl rfl hl.1 rfl (lv_room (Nat.le_of_ble_eq_true rfl)) d_8_21_1 ⟨(Nat.le_of_ble_eq_true rfl), (Nat.le_of_ble_eq_true rfl)⟩) hS (fun q _ h => hFc q h) hFc (fun r_1 u t H1 locs ht hvm hw hB hz1 hk1 hS => ?_)
  obtain ⟨hP, hD⟩ := xJoin (wr := []) (w1 := [(h0, .inr (0, [.ref h1, .ref h2, .ref h3, .ref h4, .int 1, .int 0, .int 1, .int 0]))]) hP hD [0] [] rfl rfl (by decide +kernel) (by decide +kernel) hk1 hFc ht hB
  generalize H1 = H at hP hS ⊢
  have hP : va_P D cls9 [(h0, .inr (0, [.ref h1, .ref h2, .ref h3, .ref h4, .int 1, .int 0, .int 1, .int 0]))] H := hP
  have hD : va_D A [(h0, .inr (0, [.ref h1, .ref h2, .ref h3, .ref h4, .int 1, .int 0, .int 1, .int 0]))] := hD
  obtain rfl : r_1 = (-2) := hw
  refine lv_iload_n hx hb d_8_21_4 rfl (lv_at hl 1 rfl) ?_
  refine lv_icmp_ne (tgt := 12) hx hb d_8_21_5 (by decide +kernel) (fun c_2 => ?_) (fun c_2 => ?_)
  rotate_left
  · exact absurd c_2 (by decide +kernel)
  refine lv_iconst (v := 0) hx hb d_8_21_12 (by decide +kernel) ?_
  have hP9 := hP.sub (ws' := [(h0, .inr (0, [.ref h1, .ref h2, .ref h3, .ref h4, .int 1, .int 0, .int 1, .int 0]))]) [0] rfl
  have hD9 := hD.sub (ws' := [(h0, .inr (0, [.ref h1, .ref h2, .ref h3, .ref h4, .int 1, .int 0, .int 1, .int 0]))]) [0] (by decide +kernel) rfl
  exact W.zret (v := 0) (ty := .boolean) hx hb hr (by decide +kernel) (fun t ht hW => ⟨⟨0, (), rfl, rfl, xEnd hK hP9 hD9 ht hW⟩, hS.F ht⟩) hS.2.2 d_8_21_13
set_option maxHeartbeats 4000000 in
set_option maxRecDepth 100000 in
theorem c_Tokens_sees_4 (l : Launch) (D : va_G) (kI kJ kB kZ : ClassId) (sz : Nat) (h0 : Nat) (h1 : Nat) (h2 : Nat) (h3 : Nat) (h4 : Nat) : Met l (⟨"AlgolJudge$Tokens", "sees", "(I)Z"⟩ : MethodName) (Cond.code (⟨"AlgolJudge$Tokens", "sees", "(I)Z"⟩ : MethodName) prog_8_method_21_code 2 (some .boolean) :: gT) ({ frames := 1, cells := 0, slots := 0, locals := 20 }) (va_Pc [.ref h0, .int 9] (xP D (xT kI kJ kB kZ) xN [(h0, .inr (0, [.ref h1, .ref h2, .ref h3, .ref h4, .int 1, .int 0, .int 1, .int 0]))] sz)) (va_Qi (fun (r : Int32) (_ : Unit) => r = 0) (fun _ t => xQ D (xT kI kJ kB kZ) (va_A [(h0, .inr (0, [.ref h1, .ref h2, .ref h3, .ref h4, .int 1, .int 0, .int 1, .int 0]))] sz) [(h0, .inr (0, [.ref h1, .ref h2, .ref h3, .ref h4, .int 1, .int 0, .int 1, .int 0]))] t) (va_A [(h0, .inr (0, [.ref h1, .ref h2, .ref h3, .ref h4, .int 1, .int 0, .int 1, .int 0]))] sz)) 0 0 (va_A [(h0, .inr (0, [.ref h1, .ref h2, .ref h3, .ref h4, .int 1, .int 0, .int 1, .int 0]))] sz) := by
  refine Met.ofW (cc := prog_8_method_21_code) (maxL := 2) (ret := some .boolean) (by decide +kernel) rfl ?_
  intro p e s m args below meth c s₁ B hml hv
  obtain ⟨rfl, hsz, hP, hK, hD0, hE⟩ := hv
  have hx := B.exec
  have hb := B.bytes
  have hr := B.returns
  have hts : ∀ w ∈ gT, w.before _ s = true := fun w h => atoms_spec (ws := Cond.code (⟨"AlgolJudge$Tokens", "sees", "(I)Z"⟩ : MethodName) prog_8_method_21_code 2 (some .boolean) :: gT) B.pre w (List.mem_cons_of_mem _ h)
  have hown : s.vm.findClass "AlgolJudge$Tokens" = some m.cls := findClass_of_methodNamed B.named
  have hlocks := B.notSynchronized
  subst hsz
  have hD := hD0.self (sz := s.heap.size)
  generalize hAe : va_A [(h0, .inr (0, [.ref h1, .ref h2, .ref h3, .ref h4, .int 1, .int 0, .int 1, .int 0]))] s.heap.size = A at hD hE ⊢
  have hA : ∀ q : Nat, s.heap.size ≤ q → A q := fun q h => by rw [← hAe]; exact Or.inr h
  have hS : va_S A s.heap s.heap [] := va_S.rf
  have hP : va_P D cls9 [(h0, .inr (0, [.ref h1, .ref h2, .ref h3, .ref h4, .int 1, .int 0, .int 1, .int 0]))] s.heap := hP
  have hl := lv_entry ([.ref h0, .int 9]) (n := 2) (Nat.le_of_ble_eq_true rfl)
  rw [lg_entry_eq]
  generalize (lg_sl ([.ref h0, .int 9]) ++ List.replicate (2 - (lg_sl ([.ref h0, .int 9])).length) Slot.unset).toArray = ls at hl ⊢
  have hl : lv_has ls 2 [(0, .ref h0), (1, .int 9)] := hl
  refine lv_aload_n hx hb d_8_21_0 rfl (lv_at hl 0 rfl) ?_
  have hPc := hP.sub (ws' := [(h0, .inr (0, [.ref h1, .ref h2, .ref h3, .ref h4, .int 1, .int 0, .int 1, .int 0]))]) [0] rfl
  have hDc := hD.sub (ws' := [(h0, .inr (0, [.ref h1, .ref h2, .ref h3, .ref h4, .int 1, .int 0, .int 1, .int 0]))]) [0] (by decide +kernel) rfl
  have hFc := va_free (wc := [(h0, .inr (0, [.ref h1, .ref h2, .ref h3, .ref h4, .int 1, .int 0, .int 1, .int 0]))]) hD hS hA [0] rfl
  refine va_calli (va_runV (As := []) (rest := []) ⟨hx, hb, hml, hown, hts⟩ (c_Tokens_kind_1 l D kI kJ kB kZ _ (h0) (h1) (h2) (h3) (h4) ) (cwV 0 hts (gT_V m_587 m_588 m_589 m_121 (gT_ws m_590)) rfl rfl rfl (by decide +kernel) ⟨(Nat.le_of_ble_eq_true rfl), (Nat.le_of_ble_eq_true rfl)⟩) ⟨xBlind xOk_N, va_recv hK hP (ci := 0) (q0 := 0) rfl rfl, xAtN hK hPc hDc⟩ rfl rfl hl.1 rfl (lv_room (Nat.le_of_ble_eq_true rfl)) d_8_21_1 ⟨(Nat.le_of_ble_eq_true rfl), (Nat.le_of_ble_eq_true rfl)⟩) hS (fun q _ h => hFc q h) hFc (fun r_1 u t H1 locs ht hvm hw hB hz1 hk1 hS => ?_)
  obtain ⟨hP, hD⟩ := xJoin (wr := []) (w1 := [(h0, .inr (0, [.ref h1, .ref h2, .ref h3, .ref h4, .int 1, .int 0, .int 1, .int 0]))]) hP hD [0] [] rfl rfl (by decide +kernel) (by decide +kernel) hk1 hFc ht hB
  generalize H1 = H at hP hS ⊢
  have hP : va_P D cls9 [(h0, .inr (0, [.ref h1, .ref h2, .ref h3, .ref h4, .int 1, .int 0, .int 1, .int 0]))] H := hP
  have hD : va_D A [(h0, .inr (0, [.ref h1, .ref h2, .ref h3, .ref h4, .int 1, .int 0, .int 1, .int 0]))] := hD
  obtain rfl : r_1 = (-2) := hw
  refine lv_iload_n hx hb d_8_21_4 rfl (lv_at hl 1 rfl) ?_
  refine lv_icmp_ne (tgt := 12) hx hb d_8_21_5 (by decide +kernel) (fun c_2 => ?_) (fun c_2 => ?_)
  rotate_left
  · exact absurd c_2 (by decide +kernel)
  refine lv_iconst (v := 0) hx hb d_8_21_12 (by decide +kernel) ?_
  have hP9 := hP.sub (ws' := [(h0, .inr (0, [.ref h1, .ref h2, .ref h3, .ref h4, .int 1, .int 0, .int 1, .int 0]))]) [0] rfl
  have hD9 := hD.sub (ws' := [(h0, .inr (0, [.ref h1, .ref h2, .ref h3, .ref h4, .int 1, .int 0, .int 1, .int 0]))]) [0] (by decide +kernel) rfl
  exact W.zret (v := 0) (ty := .boolean) hx hb hr (by decide +kernel) (fun t ht hW => ⟨⟨0, (), rfl, rfl, xEnd hK hP9 hD9 ht hW⟩, hS.F ht⟩) hS.2.2 d_8_21_13
set_option maxHeartbeats 4000000 in
set_option maxRecDepth 100000 in
theorem c_Blocks_seesDeclaration_0 (l : Launch) (D : va_G) (kI kJ kB kZ : ClassId) (sz : Nat) (h0 : Nat) (h1 : Nat) (h2 : Nat) (h3 : Nat) (h4 : Nat) (h5 : Nat) (h6 : Nat) (h7 : Nat) (h8 : Nat) : Met l (⟨"AlgolJudge$Blocks", "seesDeclaration", "()Z"⟩ : MethodName) (Cond.code (⟨"AlgolJudge$Blocks", "seesDeclaration", "()Z"⟩ : MethodName) prog_2_method_4_code 1 (some .boolean) :: gT) ({ frames := 3, cells := 0, slots := 0, locals := 61 }) (va_Pc [.ref h0] (xP D (xT kI kJ kB kZ) xN [(h0, .inr (5, [.ref h1, .ref h2, .ref h3, .ref h4, .int 0])), (h1, .inr (0, [.ref h5, .ref h6, .ref h7, .ref h8, .int 1, .int 0, .int 1, .int 0]))] sz)) (va_Qi (fun (r : Int32) (_ : Unit) => r = 0) (fun _ t => xQ D (xT kI kJ kB kZ) (va_A [(h0, .inr (5, [.ref h1, .ref h2, .ref h3, .ref h4, .int 0])), (h1, .inr (0, [.ref h5, .ref h6, .ref h7, .ref h8, .int 1, .int 0, .int 1, .int 0]))] sz) [(h0, .inr (5, [.ref h1, .ref h2, .ref h3, .ref h4, .int 0])), (h1, .inr (0, [.ref h5, .ref h6, .ref h7, .ref h8, .int 1, .int 0, .int 1, .int 0]))] t) (va_A [(h0, .inr (5, [.ref h1, .ref h2, .ref h3, .ref h4, .int 0])), (h1, .inr (0, [.ref h5, .ref h6, .ref h7, .ref h8, .int 1, .int 0, .int 1, .int 0]))] sz)) 0 0 (va_A [(h0, .inr (5, [.ref h1, .ref h2, .ref h3, .ref h4, .int 0])), (h1, .inr (0, [.ref h5, .ref h6, .ref h7, .ref h8, .int 1, .int 0, .int 1, .int 0]))] sz) := by
  refine Met.ofW (cc := prog_2_method_4_code) (maxL := 1) (ret := some .boolean) (by decide +kernel) rfl ?_
  intro p e s m args below meth c s₁ B hml hv
  obtain ⟨rfl, hsz, hP, hK, hD0, hE⟩ := hv
  have hx := B.exec
  have hb := B.bytes
  have hr := B.returns
  have hts : ∀ w ∈ gT, w.before _ s = true := fun w h => atoms_spec (ws := Cond.code (⟨"AlgolJudge$Blocks", "seesDeclaration", "()Z"⟩ : MethodName) prog_2_method_4_code 1 (some .boolean) :: gT) B.pre w (List.mem_cons_of_mem _ h)
  have hown : s.vm.findClass "AlgolJudge$Blocks" = some m.cls := findClass_of_methodNamed B.named
  have hlocks := B.notSynchronized
  subst hsz
  have hD := hD0.self (sz := s.heap.size)
  generalize hAe : va_A [(h0, .inr (5, [.ref h1, .ref h2, .ref h3, .ref h4, .int 0])), (h1, .inr (0, [.ref h5, .ref h6, .ref h7, .ref h8, .int 1, .int 0, .int 1, .int 0]))] s.heap.size = A at hD hE ⊢
  have hA : ∀ q : Nat, s.heap.size ≤ q → A q := fun q h => by rw [← hAe]; exact Or.inr h
  have hS : va_S A s.heap s.heap [] := va_S.rf
  have hP : va_P D cls9 [(h0, .inr (5, [.ref h1, .ref h2, .ref h3, .ref h4, .int 0])), (h1, .inr (0, [.ref h5, .ref h6, .ref h7, .ref h8, .int 1, .int 0, .int 1, .int 0]))] s.heap := hP
  have hl := lv_entry ([.ref h0]) (n := 1) (Nat.le_of_ble_eq_true rfl)
  rw [lg_entry_eq]
  generalize (lg_sl ([.ref h0]) ++ List.replicate (1 - (lg_sl ([.ref h0])).length) Slot.unset).toArray = ls at hl ⊢
  have hl : lv_has ls 1 [(0, .ref h0)] := hl
  refine lv_aload_n hx hb d_2_4_0 rfl (lv_at hl 0 rfl) ?_
  have hPc := hP.sub (ws' := [(h0, .inr (5, [.ref h1, .ref h2, .ref h3, .ref h4, .int 0])), (h1, .inr (0, [.ref h5, .ref h6, .ref h7, .ref h8, .int 1, .int 0, .int 1, .int 0]))]) [0, 1] rfl
  have hDc := hD.sub (ws' := [(h0, .inr (5, [.ref h1, .ref h2, .ref h3, .ref h4, .int 0])), (h1, .inr (0, [.ref h5, .ref h6, .ref h7, .ref h8, .int 1, .int 0, .int 1, .int 0]))]) [0, 1] (by decide +kernel) rfl
  have hFc := va_free (wc := [(h0, .inr (5, [.ref h1, .ref h2, .ref h3, .ref h4, .int 0])), (h1, .inr (0, [.ref h5, .ref h6, .ref h7, .ref h8, .int 1, .int 0, .int 1, .int 0]))]) hD hS hA [0, 1] rfl
  refine va_calli (va_runV (As := []) (rest := []) ⟨hx, hb, hml, hown, hts⟩ (c_Blocks_seesType_0 l D kI kJ kB kZ _ (h0) (h1) (h2) (h3) (h4) (h5) (h6) (h7) (h8) ) (cwV 0 hts (gT_V m_612 m_614 m_12 m_128 (gT_ws m_615)) rfl rfl rfl (by decide +kernel) ⟨(Nat.le_of_ble_eq_true rfl), (Nat.le_of_ble_eq_true rfl)⟩) ⟨xBlind xOk_N, va_recv hK hP (ci := 5) (q0 := 0) rfl rfl, xAtN hK hPc hDc⟩ rfl rfl hl.1 rfl (lv_room (Nat.le_of_ble_eq_true rfl)) d_2_4_1 ⟨(Nat.le_of_ble_eq_true rfl), (Nat.le_of_ble_eq_true rfl)⟩) hS (fun q _ h => hFc q h) hFc (fun r_1 u t H1 locs ht hvm hw hB hz1 hk1 hS => ?_)
  obtain ⟨hP, hD⟩ := xJoin (wr := []) (w1 := [(h0, .inr (5, [.ref h1, .ref h2, .ref h3, .ref h4, .int 0])), (h1, .inr (0, [.ref h5, .ref h6, .ref h7, .ref h8, .int 1, .int 0, .int 1, .int 0]))]) hP hD [0, 1] [] rfl rfl (by decide +kernel) (by decide +kernel) hk1 hFc ht hB
  generalize H1 = H at hP hS ⊢
  have hP : va_P D cls9 [(h0, .inr (5, [.ref h1, .ref h2, .ref h3, .ref h4, .int 0])), (h1, .inr (0, [.ref h5, .ref h6, .ref h7, .ref h8, .int 1, .int 0, .int 1, .int 0]))] H := hP
  have hD : va_D A [(h0, .inr (5, [.ref h1, .ref h2, .ref h3, .ref h4, .int 0])), (h1, .inr (0, [.ref h5, .ref h6, .ref h7, .ref h8, .int 1, .int 0, .int 1, .int 0]))] := hD
  obtain rfl : r_1 = 0 := hw
  refine lv_if_ne (tgt := 43) hx hb d_2_4_4 (by decide +kernel) (fun c_2 => ?_) (fun c_2 => ?_)
  · exact absurd c_2 (by decide +kernel)
  refine lv_aload_n hx hb d_2_4_7 rfl (lv_at hl 0 rfl) ?_
  refine va_get (D := D) (ci := 5) (v := .ref h1) (C := "AlgolJudge$Blocks") (T := T_Blocks) (N := 5) hx hb hts i_Blocks hown hK hP 0 rfl rfl 0 (by decide +kernel) (hts _ m_360) (fun _ h9 => h9) rfl d_2_4_8 ?_
  refine lv_bipush (v := 8) hx hb d_2_4_11 (by decide +kernel) ?_
  have hPc := hP.sub (ws' := [(h1, .inr (0, [.ref h5, .ref h6, .ref h7, .ref h8, .int 1, .int 0, .int 1, .int 0]))]) [1] rfl
  have hDc := hD.sub (ws' := [(h1, .inr (0, [.ref h5, .ref h6, .ref h7, .ref h8, .int 1, .int 0, .int 1, .int 0]))]) [1] (by decide +kernel) rfl
  have hFc := va_free (wc := [(h1, .inr (0, [.ref h5, .ref h6, .ref h7, .ref h8, .int 1, .int 0, .int 1, .int 0]))]) hD hS hA [1] rfl
  refine va_calli (va_runV (As := [.int 8]) (rest := []) ⟨hx, hb, hml, hown, hts⟩ (c_Tokens_sees_2 l D kI kJ kB kZ _ (h1) (h5) (h6) (h7) (h8) ) (cwV 1 hts (gT_V m_616 m_617 m_618 m_121 (gT_ws m_619)) rfl rfl rfl (by decide +kernel) ⟨(Nat.le_of_ble_eq_true rfl), (Nat.le_of_ble_eq_true rfl)⟩) ⟨xBlind xOk_N, va_recv hK hP (ci := 0) (q0 := 1) rfl rfl, xAtN hK hPc hDc⟩ rfl rfl hl.1 rfl (lv_room (Nat.le_of_ble_eq_true rfl)) d_2_4_13 ⟨(Nat.le_of_ble_eq_true rfl), (Nat.le_of_ble_eq_true rfl)⟩) hS (fun q _ h => hFc q h) hFc (fun r_3 u t H1 locs ht hvm hw hB hz1 hk1 hS => ?_)
  obtain ⟨hP, hD⟩ := xJoin (wr := [(h0, .inr (5, [.ref h1, .ref h2, .ref h3, .ref h4, .int 0]))]) (w1 := [(h1, .inr (0, [.ref h5, .ref h6, .ref h7, .ref h8, .int 1, .int 0, .int 1, .int 0]))]) hP hD [1] [0] rfl rfl (by decide +kernel) (by decide +kernel) hk1 hFc ht hB
  generalize H1 = H at hP hS ⊢
  have hP : va_P D cls9 [(h0, .inr (5, [.ref h1, .ref h2, .ref h3, .ref h4, .int 0])), (h1, .inr (0, [.ref h5, .ref h6, .ref h7, .ref h8, .int 1, .int 0, .int 1, .int 0]))] H := hP
  have hD : va_D A [(h0, .inr (5, [.ref h1, .ref h2, .ref h3, .ref h4, .int 0])), (h1, .inr (0, [.ref h5, .ref h6, .ref h7, .ref h8, .int 1, .int 0, .int 1, .int 0]))] := hD
  obtain rfl : r_3 = 0 := hw
  refine lv_if_ne (tgt := 43) hx hb d_2_4_16 (by decide +kernel) (fun c_4 => ?_) (fun c_4 => ?_)
  · exact absurd c_4 (by decide +kernel)
  refine lv_aload_n hx hb d_2_4_19 rfl (lv_at hl 0 rfl) ?_
  refine va_get (D := D) (ci := 5) (v := .ref h1) (C := "AlgolJudge$Blocks") (T := T_Blocks) (N := 5) hx hb hts i_Blocks hown hK hP 0 rfl rfl 0 (by decide +kernel) (hts _ m_360) (fun _ h9 => h9) rfl d_2_4_20 ?_
  refine lv_bipush (v := 6) hx hb d_2_4_23 (by decide +kernel) ?_
  have hPc := hP.sub (ws' := [(h1, .inr (0, [.ref h5, .ref h6, .ref h7, .ref h8, .int 1, .int 0, .int 1, .int 0]))]) [1] rfl
  have hDc := hD.sub (ws' := [(h1, .inr (0, [.ref h5, .ref h6, .ref h7, .ref h8, .int 1, .int 0, .int 1, .int 0]))]) [1] (by decide +kernel) rfl
  have hFc := va_free (wc := [(h1, .inr (0, [.ref h5, .ref h6, .ref h7, .ref h8, .int 1, .int 0, .int 1, .int 0]))]) hD hS hA [1] rfl
  refine va_calli (va_runV (As := [.int 6]) (rest := []) ⟨hx, hb, hml, hown, hts⟩ (c_Tokens_sees_3 l D kI kJ kB kZ _ (h1) (h5) (h6) (h7) (h8) ) (cwV 1 hts (gT_V m_616 m_617 m_618 m_121 (gT_ws m_619)) rfl rfl rfl (by decide +kernel) ⟨(Nat.le_of_ble_eq_true rfl), (Nat.le_of_ble_eq_true rfl)⟩) ⟨xBlind xOk_N, va_recv hK hP (ci := 0) (q0 := 1) rfl rfl, xAtN hK hPc hDc⟩ rfl rfl hl.1 rfl (lv_room (Nat.le_of_ble_eq_true rfl)) d_2_4_25 ⟨(Nat.le_of_ble_eq_true rfl), (Nat.le_of_ble_eq_true rfl)⟩) hS (fun q _ h => hFc q h) hFc (fun r_5 u t H1 locs ht hvm hw hB hz1 hk1 hS => ?_)
  obtain ⟨hP, hD⟩ := xJoin (wr := [(h0, .inr (5, [.ref h1, .ref h2, .ref h3, .ref h4, .int 0]))]) (w1 := [(h1, .inr (0, [.ref h5, .ref h6, .ref h7, .ref h8, .int 1, .int 0, .int 1, .int 0]))]) hP hD [1] [0] rfl rfl (by decide +kernel) (by decide +kernel) hk1 hFc ht hB
  generalize H1 = H at hP hS ⊢
  have hP : va_P D cls9 [(h0, .inr (5, [.ref h1, .ref h2, .ref h3, .ref h4, .int 0])), (h1, .inr (0, [.ref h5, .ref h6, .ref h7, .ref h8, .int 1, .int 0, .int 1, .int 0]))] H := hP
  have hD : va_D A [(h0, .inr (5, [.ref h1, .ref h2, .ref h3, .ref h4, .int 0])), (h1, .inr (0, [.ref h5, .ref h6, .ref h7, .ref h8, .int 1, .int 0, .int 1, .int 0]))] := hD
  obtain rfl : r_5 = 0 := hw
  refine lv_if_ne (tgt := 43) hx hb d_2_4_28 (by decide +kernel) (fun c_6 => ?_) (fun c_6 => ?_)
  · exact absurd c_6 (by decide +kernel)
  refine lv_aload_n hx hb d_2_4_31 rfl (lv_at hl 0 rfl) ?_
  refine va_get (D := D) (ci := 5) (v := .ref h1) (C := "AlgolJudge$Blocks") (T := T_Blocks) (N := 5) hx hb hts i_Blocks hown hK hP 0 rfl rfl 0 (by decide +kernel) (hts _ m_360) (fun _ h9 => h9) rfl d_2_4_32 ?_
  refine lv_bipush (v := 9) hx hb d_2_4_35 (by decide +kernel) ?_
  have hPc := hP.sub (ws' := [(h1, .inr (0, [.ref h5, .ref h6, .ref h7, .ref h8, .int 1, .int 0, .int 1, .int 0]))]) [1] rfl
  have hDc := hD.sub (ws' := [(h1, .inr (0, [.ref h5, .ref h6, .ref h7, .ref h8, .int 1, .int 0, .int 1, .int 0]))]) [1] (by decide +kernel) rfl
  have hFc := va_free (wc := [(h1, .inr (0, [.ref h5, .ref h6, .ref h7, .ref h8, .int 1, .int 0, .int 1, .int 0]))]) hD hS hA [1] rfl
  refine va_calli (va_runV (As := [.int 9]) (rest := []) ⟨hx, hb, hml, hown, hts⟩ (c_Tokens_sees_4 l D kI kJ kB kZ _ (h1) (h5) (h6) (h7) (h8) ) (cwV 1 hts (gT_V m_616 m_617 m_618 m_121 (gT_ws m_619)) rfl rfl rfl (by decide +kernel) ⟨(Nat.le_of_ble_eq_true rfl), (Nat.le_of_ble_eq_true rfl)⟩) ⟨xBlind xOk_N, va_recv hK hP (ci := 0) (q0 := 1) rfl rfl, xAtN hK hPc hDc⟩ rfl rfl hl.1 rfl (lv_room (Nat.le_of_ble_eq_true rfl)) d_2_4_37 ⟨(Nat.le_of_ble_eq_true rfl), (Nat.le_of_ble_eq_true rfl)⟩) hS (fun q _ h => hFc q h) hFc (fun r_7 u t H1 locs ht hvm hw hB hz1 hk1 hS => ?_)
  obtain ⟨hP, hD⟩ := xJoin (wr := [(h0, .inr (5, [.ref h1, .ref h2, .ref h3, .ref h4, .int 0]))]) (w1 := [(h1, .inr (0, [.ref h5, .ref h6, .ref h7, .ref h8, .int 1, .int 0, .int 1, .int 0]))]) hP hD [1] [0] rfl rfl (by decide +kernel) (by decide +kernel) hk1 hFc ht hB
  generalize H1 = H at hP hS ⊢
  have hP : va_P D cls9 [(h0, .inr (5, [.ref h1, .ref h2, .ref h3, .ref h4, .int 0])), (h1, .inr (0, [.ref h5, .ref h6, .ref h7, .ref h8, .int 1, .int 0, .int 1, .int 0]))] H := hP
  have hD : va_D A [(h0, .inr (5, [.ref h1, .ref h2, .ref h3, .ref h4, .int 0])), (h1, .inr (0, [.ref h5, .ref h6, .ref h7, .ref h8, .int 1, .int 0, .int 1, .int 0]))] := hD
  obtain rfl : r_7 = 0 := hw
  refine lv_if_eq (tgt := 47) hx hb d_2_4_40 (by decide +kernel) (fun c_8 => ?_) (fun c_8 => ?_)
  rotate_left
  · exact absurd c_8 (by decide +kernel)
  refine lv_iconst (v := 0) hx hb d_2_4_47 (by decide +kernel) ?_
  have hP9 := hP.sub (ws' := [(h0, .inr (5, [.ref h1, .ref h2, .ref h3, .ref h4, .int 0])), (h1, .inr (0, [.ref h5, .ref h6, .ref h7, .ref h8, .int 1, .int 0, .int 1, .int 0]))]) [0, 1] rfl
  have hD9 := hD.sub (ws' := [(h0, .inr (5, [.ref h1, .ref h2, .ref h3, .ref h4, .int 0])), (h1, .inr (0, [.ref h5, .ref h6, .ref h7, .ref h8, .int 1, .int 0, .int 1, .int 0]))]) [0, 1] (by decide +kernel) rfl
  exact W.zret (v := 0) (ty := .boolean) hx hb hr (by decide +kernel) (fun t ht hW => ⟨⟨0, (), rfl, rfl, xEnd hK hP9 hD9 ht hW⟩, hS.F ht⟩) hS.2.2 d_2_4_48
