set_option maxHeartbeats 4000000 in
set_option maxRecDepth 100000 in
theorem c_Tokens_sees_5 (l : Launch) (D : va_G) (kI kJ kB kZ : ClassId) (sz : Nat) (h0 : Nat) (h1 : Nat) (h2 : Nat) (h3 : Nat) (h4 : Nat) : Met l (⟨"AlgolJudge$Tokens", "sees", "(I)Z"⟩ : MethodName) (Cond.code (⟨"AlgolJudge$Tokens", "sees", "(I)Z"⟩ : MethodName) prog_8_method_21_code 2 (some .boolean) :: gT) ({ frames := 1, cells := 0, slots := 0, locals := 20 }) (va_Pc [.ref h0, .int 27] (xP D (xT kI kJ kB kZ) xN [(h0, .inr (0, [.ref h1, .ref h2, .ref h3, .ref h4, .int 1, .int 0, .int 1, .int 0]))] sz)) (va_Qi (fun (r : Int32) (_ : Unit) => r = 0) (fun _ t => xQ D (xT kI kJ kB kZ) (va_A [(h0, .inr (0, [.ref h1, .ref h2, .ref h3, .ref h4, .int 1, .int 0, .int 1, .int 0]))] sz) [(h0, .inr (0, [.ref h1, .ref h2, .ref h3, .ref h4, .int 1, .int 0, .int 1, .int 0]))] t) (va_A [(h0, .inr (0, [.ref h1, .ref h2, .ref h3, .ref h4, .int 1, .int 0, .int 1, .int 0]))] sz)) 0 0 (va_A [(h0, .inr (0, [.ref h1, .ref h2, .ref h3, .ref h4, .int 1, .int 0, .int 1, .int 0]))] sz) := by
  refine Met.ofW (cc := prog_8_method_21_code) (maxL := 2) (ret := some .boolean) (by decide +kernel) rfl ?_
  intro p e s m args below meth c s₁ B hml hv
  obtain ⟨rfl, hsz, hP, hK, hD0, hE⟩ := hv
  have hx := B.exec
  have hb := B.bytes
  have hr := B.returns
  have hts : ∀ w ∈ gT, w.before _ s = true := fun w h => atoms_spec (ws := Cond.code (⟨"AlgolJudge$Tokens", "sees", "(I)Z"⟩ : MethodName) prog_8_method_21_code 2 (some .boolean) :: gT) B.pre w (List.mem_cons_of_mem _ h)
  have hown : s.vm.findClass "AlgolJudge$Tokens" = some m.cls := findClass_of_methodNamed B.named
  have hlocks := B.notSynchronized
  subst hsz
  have hD := hD0.self (sz := s.heap.size)
  generalize hAe : va_A [(h0, .inr (0, [.ref h1, .ref h2, .ref h3, .ref h4, .int 1, .int 0, .int 1, .int 0]))] s.heap.size = A at hD hE ⊢
  have hA : ∀ q : Nat, s.heap.size ≤ q → A q := fun q h => by rw [← hAe]; exact Or.inr h
  have hS : va_S A s.heap s.heap [] := va_S.rf
  have hP : va_P D cls9 [(h0, .inr (0, [.ref h1, .ref h2, .ref h3, .ref h4, .int 1, .int 0, .int 1, .int 0]))] s.heap := hP
  have hl := lv_entry ([.ref h0, .int 27]) (n := 2) (Nat.le_of_ble_eq_true rfl)
  rw [lg_entry_eq]
  generalize (lg_sl ([.ref h0, .int 27]) ++ List.replicate (2 - (lg_sl ([.ref h0, .int 27])).length) Slot.unset).toArray = ls at hl ⊢
  have hl : lv_has ls 2 [(0, .ref h0), (1, .int 27)] := hl
  refine lv_aload_n hx hb d_8_21_0 rfl (lv_at hl 0 rfl) ?_
  have hPc := hP.sub (ws' := [(h0, .inr (0, [.ref h1, .ref h2, .ref h3, .ref h4, .int 1, .int 0, .int 1, .int 0]))]) [0] rfl
  have hDc := hD.sub (ws' := [(h0, .inr (0, [.ref h1, .ref h2, .ref h3, .ref h4, .int 1, .int 0, .int 1, .int 0]))]) [0] (by decide +kernel) rfl
  have hFc := va_free (wc := [(h0, .inr (0, [.ref h1, .ref h2, .ref h3, .ref h4, .int 1, .int 0, .int 1, .int 0]))]) hD hS hA [0] rfl
  refine va_calli (va_runV (As := []) (rest := []) ⟨hx, hb, hml, hown, hts⟩ (c_Tokens_kind_1 l D kI kJ kB kZ _ (h0) (h1) (h2) (h3) (h4) ) (cwV 0 hts (gT_V m_587 m_588 m_589 m_121 (gT_ws m_590)) rfl rfl rfl (by decide +kernel) ⟨(Nat.le_of_ble_eq_true rfl), (Nat.le_of_ble_eq_true rfl)⟩) ⟨xBlind xOk_N, va_recv hK hP (ci := 0) (q0 := 0) rfl rfl, xAtN hK hPc hDc⟩ rfl rfl hl.1 rfl (lv_room (Nat.le_of_ble_eq_true rfl)) d_8_21_1 ⟨(Nat.le_of_ble_eq_true rfl), (Nat.le_of_ble_eq_true rfl)⟩) hS (fun q _ h => hFc q h) hFc (fun r_1 u t H1 locs ht hvm hw hB hz1 hk1 hS => ?_)
  obtain ⟨hP, hD⟩ := xJoin (wr := []) (w1 := [(h0, .inr (0, [.ref h1, .ref h2, .ref h3, .ref h4, .int 1, .int 0, .int 1, .int 0]))]) hP hD [0] [] rfl rfl (by decide +kernel) (by decide +kernel) hk1 hFc ht hB
  generalize H1 = H at hP hS ⊢
  have hP : va_P D cls9 [(h0, .inr (0, [.ref h1, .ref h2, .ref h3, .ref h4, .int 1, .int 0, .int 1, .int 0]))] H := hP
  have hD : va_D A [(h0, .inr (0, [.ref h1, .ref h2, .ref h3, .ref h4, .int 1, .int 0, .int 1, .int 0]))] := hD
  obtain rfl : r_1 = (-2) := hw
  refine lv_iload_n hx hb d_8_21_4 rfl (lv_at hl 1 rfl) ?_
  refine lv_icmp_ne (tgt := 12) hx hb d_8_21_5 (by decide +kernel) (fun c_2 => ?_) (fun c_2 => ?_)
  rotate_left
  · exact absurd c_2 (by decide +kernel)
  refine lv_iconst (v := 0) hx hb d_8_21_12 (by decide +kernel) ?_
  have hP9 := hP.sub (ws' := [(h0, .inr (0, [.ref h1, .ref h2, .ref h3, .ref h4, .int 1, .int 0, .int 1, .int 0]))]) [0] rfl
  have hD9 := hD.sub (ws' := [(h0, .inr (0, [.ref h1, .ref h2, .ref h3, .ref h4, .int 1, .int 0, .int 1, .int 0]))]) [0] (by decide +kernel) rfl
  exact W.zret (v := 0) (ty := .boolean) hx hb hr (by decide +kernel) (fun t ht hW => ⟨⟨0, (), rfl, rfl, xEnd hK hP9 hD9 ht hW⟩, hS.F ht⟩) hS.2.2 d_8_21_13
set_option maxHeartbeats 4000000 in
set_option maxRecDepth 100000 in
theorem c_Blocks_seesLabel_0 (l : Launch) (D : va_G) (kI kJ kB kZ : ClassId) (sz : Nat) (h0 : Nat) (h1 : Nat) (h2 : Nat) (h3 : Nat) (h4 : Nat) (h5 : Nat) (h6 : Nat) (h7 : Nat) (h8 : Nat) : Met l (⟨"AlgolJudge$Blocks", "seesLabel", "()Z"⟩ : MethodName) (Cond.code (⟨"AlgolJudge$Blocks", "seesLabel", "()Z"⟩ : MethodName) prog_2_method_20_code 1 (some .boolean) :: gT) ({ frames := 2, cells := 0, slots := 0, locals := 41 }) (va_Pc [.ref h0] (xP D (xT kI kJ kB kZ) xN [(h0, .inr (5, [.ref h1, .ref h2, .ref h3, .ref h4, .int 0])), (h1, .inr (0, [.ref h5, .ref h6, .ref h7, .ref h8, .int 1, .int 0, .int 1, .int 0]))] sz)) (va_Qi (fun (r : Int32) (_ : Unit) => r = 0) (fun _ t => xQ D (xT kI kJ kB kZ) (va_A [(h0, .inr (5, [.ref h1, .ref h2, .ref h3, .ref h4, .int 0])), (h1, .inr (0, [.ref h5, .ref h6, .ref h7, .ref h8, .int 1, .int 0, .int 1, .int 0]))] sz) [(h0, .inr (5, [.ref h1, .ref h2, .ref h3, .ref h4, .int 0])), (h1, .inr (0, [.ref h5, .ref h6, .ref h7, .ref h8, .int 1, .int 0, .int 1, .int 0]))] t) (va_A [(h0, .inr (5, [.ref h1, .ref h2, .ref h3, .ref h4, .int 0])), (h1, .inr (0, [.ref h5, .ref h6, .ref h7, .ref h8, .int 1, .int 0, .int 1, .int 0]))] sz)) 0 0 (va_A [(h0, .inr (5, [.ref h1, .ref h2, .ref h3, .ref h4, .int 0])), (h1, .inr (0, [.ref h5, .ref h6, .ref h7, .ref h8, .int 1, .int 0, .int 1, .int 0]))] sz) := by
  refine Met.ofW (cc := prog_2_method_20_code) (maxL := 1) (ret := some .boolean) (by decide +kernel) rfl ?_
  intro p e s m args below meth c s₁ B hml hv
  obtain ⟨rfl, hsz, hP, hK, hD0, hE⟩ := hv
  have hx := B.exec
  have hb := B.bytes
  have hr := B.returns
  have hts : ∀ w ∈ gT, w.before _ s = true := fun w h => atoms_spec (ws := Cond.code (⟨"AlgolJudge$Blocks", "seesLabel", "()Z"⟩ : MethodName) prog_2_method_20_code 1 (some .boolean) :: gT) B.pre w (List.mem_cons_of_mem _ h)
  have hown : s.vm.findClass "AlgolJudge$Blocks" = some m.cls := findClass_of_methodNamed B.named
  have hlocks := B.notSynchronized
  subst hsz
  have hD := hD0.self (sz := s.heap.size)
  generalize hAe : va_A [(h0, .inr (5, [.ref h1, .ref h2, .ref h3, .ref h4, .int 0])), (h1, .inr (0, [.ref h5, .ref h6, .ref h7, .ref h8, .int 1, .int 0, .int 1, .int 0]))] s.heap.size = A at hD hE ⊢
  have hA : ∀ q : Nat, s.heap.size ≤ q → A q := fun q h => by rw [← hAe]; exact Or.inr h
  have hS : va_S A s.heap s.heap [] := va_S.rf
  have hP : va_P D cls9 [(h0, .inr (5, [.ref h1, .ref h2, .ref h3, .ref h4, .int 0])), (h1, .inr (0, [.ref h5, .ref h6, .ref h7, .ref h8, .int 1, .int 0, .int 1, .int 0]))] s.heap := hP
  have hl := lv_entry ([.ref h0]) (n := 1) (Nat.le_of_ble_eq_true rfl)
  rw [lg_entry_eq]
  generalize (lg_sl ([.ref h0]) ++ List.replicate (1 - (lg_sl ([.ref h0])).length) Slot.unset).toArray = ls at hl ⊢
  have hl : lv_has ls 1 [(0, .ref h0)] := hl
  refine lv_aload_n hx hb d_2_20_0 rfl (lv_at hl 0 rfl) ?_
  refine va_get (D := D) (ci := 5) (v := .ref h1) (C := "AlgolJudge$Blocks") (T := T_Blocks) (N := 5) hx hb hts i_Blocks hown hK hP 0 rfl rfl 0 (by decide +kernel) (hts _ m_360) (fun _ h9 => h9) rfl d_2_20_1 ?_
  refine lv_bipush (v := 27) hx hb d_2_20_4 (by decide +kernel) ?_
  have hPc := hP.sub (ws' := [(h1, .inr (0, [.ref h5, .ref h6, .ref h7, .ref h8, .int 1, .int 0, .int 1, .int 0]))]) [1] rfl
  have hDc := hD.sub (ws' := [(h1, .inr (0, [.ref h5, .ref h6, .ref h7, .ref h8, .int 1, .int 0, .int 1, .int 0]))]) [1] (by decide +kernel) rfl
  have hFc := va_free (wc := [(h1, .inr (0, [.ref h5, .ref h6, .ref h7, .ref h8, .int 1, .int 0, .int 1, .int 0]))]) hD hS hA [1] rfl
  refine va_calli (va_runV (As := [.int 27]) (rest := []) ⟨hx, hb, hml, hown, hts⟩ (c_Tokens_sees_5 l D kI kJ kB kZ _ (h1) (h5) (h6) (h7) (h8) ) (cwV 1 hts (gT_V m_616 m_617 m_618 m_121 (gT_ws m_619)) rfl rfl rfl (by decide +kernel) ⟨(Nat.le_of_ble_eq_true rfl), (Nat.le_of_ble_eq_true rfl)⟩) ⟨xBlind xOk_N, va_recv hK hP (ci := 0) (q0 := 1) rfl rfl, xAtN hK hPc hDc⟩ rfl rfl hl.1 rfl (lv_room (Nat.le_of_ble_eq_true rfl)) d_2_20_6 ⟨(Nat.le_of_ble_eq_true rfl), (Nat.le_of_ble_eq_true rfl)⟩) hS (fun q _ h => hFc q h) hFc (fun r_1 u t H1 locs ht hvm hw hB hz1 hk1 hS => ?_)
  obtain ⟨hP, hD⟩ := xJoin (wr := [(h0, .inr (5, [.ref h1, .ref h2, .ref h3, .ref h4, .int 0]))]) (w1 := [(h1, .inr (0, [.ref h5, .ref h6, .ref h7, .ref h8, .int 1, .int 0, .int 1, .int 0]))]) hP hD [1] [0] rfl rfl (by decide +kernel) (by decide +kernel) hk1 hFc ht hB
  generalize H1 = H at hP hS ⊢
  have hP : va_P D cls9 [(h0, .inr (5, [.ref h1, .ref h2, .ref h3, .ref h4, .int 0])), (h1, .inr (0, [.ref h5, .ref h6, .ref h7, .ref h8, .int 1, .int 0, .int 1, .int 0]))] H := hP
  have hD : va_D A [(h0, .inr (5, [.ref h1, .ref h2, .ref h3, .ref h4, .int 0])), (h1, .inr (0, [.ref h5, .ref h6, .ref h7, .ref h8, .int 1, .int 0, .int 1, .int 0]))] := hD
  obtain rfl : r_1 = 0 := hw
  refine lv_if_eq (tgt := 28) hx hb d_2_20_9 (by decide +kernel) (fun c_2 => ?_) (fun c_2 => ?_)
  rotate_left
  · exact absurd c_2 (by decide +kernel)
  refine lv_iconst (v := 0) hx hb d_2_20_28 (by decide +kernel) ?_
  have hP9 := hP.sub (ws' := [(h0, .inr (5, [.ref h1, .ref h2, .ref h3, .ref h4, .int 0])), (h1, .inr (0, [.ref h5, .ref h6, .ref h7, .ref h8, .int 1, .int 0, .int 1, .int 0]))]) [0, 1] rfl
  have hD9 := hD.sub (ws' := [(h0, .inr (5, [.ref h1, .ref h2, .ref h3, .ref h4, .int 0])), (h1, .inr (0, [.ref h5, .ref h6, .ref h7, .ref h8, .int 1, .int 0, .int 1, .int 0]))]) [0, 1] (by decide +kernel) rfl
  exact W.zret (v := 0) (ty := .boolean) hx hb hr (by decide +kernel) (fun t ht hW => ⟨⟨0, (), rfl, rfl, xEnd hK hP9 hD9 ht hW⟩, hS.F ht⟩) hS.2.2 d_2_20_29
set_option maxHeartbeats 4000000 in
set_option maxRecDepth 100000 in
theorem c_Blocks_plain_0 (l : Launch) (D : va_G) (kI kJ kB kZ : ClassId) (sz : Nat) (h0 : Nat) (h1 : Nat) (h2 : Nat) (h3 : Nat) (h4 : Nat) (h5 : Nat) (h6 : Nat) (h7 : Nat) (h8 : Nat) : Met l (⟨"AlgolJudge$Blocks", "plain", "()V"⟩ : MethodName) (Cond.code (⟨"AlgolJudge$Blocks", "plain", "()V"⟩ : MethodName) prog_2_method_21_code 1 (none) :: gT) ({ frames := 1, cells := 0, slots := 0, locals := 20 }) (va_Pc [.ref h0] (xP D (xT kI kJ kB kZ) xN [(h0, .inr (5, [.ref h1, .ref h2, .ref h3, .ref h4, .int 0])), (h1, .inr (0, [.ref h5, .ref h6, .ref h7, .ref h8, .int 1, .int 0, .int 1, .int 0]))] sz)) (va_Qv (fun _ : Unit => True) (fun _ t => xQ D (xT kI kJ kB kZ) (va_A [(h0, .inr (5, [.ref h1, .ref h2, .ref h3, .ref h4, .int 0])), (h1, .inr (0, [.ref h5, .ref h6, .ref h7, .ref h8, .int 1, .int 0, .int 1, .int 0]))] sz) [(h0, .inr (5, [.ref h1, .ref h2, .ref h3, .ref h4, .int 0])), (h1, .inr (0, [.ref h5, .ref h6, .ref h7, .ref h8, .int 1, .int 0, .int 1, .int 0]))] t) (va_A [(h0, .inr (5, [.ref h1, .ref h2, .ref h3, .ref h4, .int 0])), (h1, .inr (0, [.ref h5, .ref h6, .ref h7, .ref h8, .int 1, .int 0, .int 1, .int 0]))] sz)) 0 0 (va_A [(h0, .inr (5, [.ref h1, .ref h2, .ref h3, .ref h4, .int 0])), (h1, .inr (0, [.ref h5, .ref h6, .ref h7, .ref h8, .int 1, .int 0, .int 1, .int 0]))] sz) := by
  refine Met.ofW (cc := prog_2_method_21_code) (maxL := 1) (ret := none) (by decide +kernel) rfl ?_
  intro p e s m args below meth c s₁ B hml hv
  obtain ⟨rfl, hsz, hP, hK, hD0, hE⟩ := hv
  have hx := B.exec
  have hb := B.bytes
  have hr := B.returns
  have hts : ∀ w ∈ gT, w.before _ s = true := fun w h => atoms_spec (ws := Cond.code (⟨"AlgolJudge$Blocks", "plain", "()V"⟩ : MethodName) prog_2_method_21_code 1 (none) :: gT) B.pre w (List.mem_cons_of_mem _ h)
  have hown : s.vm.findClass "AlgolJudge$Blocks" = some m.cls := findClass_of_methodNamed B.named
  have hlocks := B.notSynchronized
  subst hsz
  have hD := hD0.self (sz := s.heap.size)
  generalize hAe : va_A [(h0, .inr (5, [.ref h1, .ref h2, .ref h3, .ref h4, .int 0])), (h1, .inr (0, [.ref h5, .ref h6, .ref h7, .ref h8, .int 1, .int 0, .int 1, .int 0]))] s.heap.size = A at hD hE ⊢
  have hA : ∀ q : Nat, s.heap.size ≤ q → A q := fun q h => by rw [← hAe]; exact Or.inr h
  have hS : va_S A s.heap s.heap [] := va_S.rf
  have hP : va_P D cls9 [(h0, .inr (5, [.ref h1, .ref h2, .ref h3, .ref h4, .int 0])), (h1, .inr (0, [.ref h5, .ref h6, .ref h7, .ref h8, .int 1, .int 0, .int 1, .int 0]))] s.heap := hP
  have hl := lv_entry ([.ref h0]) (n := 1) (Nat.le_of_ble_eq_true rfl)
  rw [lg_entry_eq]
  generalize (lg_sl ([.ref h0]) ++ List.replicate (1 - (lg_sl ([.ref h0])).length) Slot.unset).toArray = ls at hl ⊢
  have hl : lv_has ls 1 [(0, .ref h0)] := hl
  refine lv_aload_n hx hb d_2_21_0 rfl (lv_at hl 0 rfl) ?_
  refine va_get (D := D) (ci := 5) (v := .ref h1) (C := "AlgolJudge$Blocks") (T := T_Blocks) (N := 5) hx hb hts i_Blocks hown hK hP 0 rfl rfl 0 (by decide +kernel) (hts _ m_360) (fun _ h9 => h9) rfl d_2_21_1 ?_
  have hPc := hP.sub (ws' := [(h1, .inr (0, [.ref h5, .ref h6, .ref h7, .ref h8, .int 1, .int 0, .int 1, .int 0]))]) [1] rfl
  have hDc := hD.sub (ws' := [(h1, .inr (0, [.ref h5, .ref h6, .ref h7, .ref h8, .int 1, .int 0, .int 1, .int 0]))]) [1] (by decide +kernel) rfl
  have hFc := va_free (wc := [(h1, .inr (0, [.ref h5, .ref h6, .ref h7, .ref h8, .int 1, .int 0, .int 1, .int 0]))]) hD hS hA [1] rfl
  refine va_calli (va_runV (As := []) (rest := []) ⟨hx, hb, hml, hown, hts⟩ (c_Tokens_kind_1 l D kI kJ kB kZ _ (h1) (h5) (h6) (h7) (h8) ) (cwV 0 hts (gT_V m_798 m_588 m_589 m_121 (gT_ws m_590)) rfl rfl rfl (by decide +kernel) ⟨(Nat.le_of_ble_eq_true rfl), (Nat.le_of_ble_eq_true rfl)⟩) ⟨xBlind xOk_N, va_recv hK hP (ci := 0) (q0 := 1) rfl rfl, xAtN hK hPc hDc⟩ rfl rfl hl.1 rfl (lv_room (Nat.le_of_ble_eq_true rfl)) d_2_21_4 ⟨(Nat.le_of_ble_eq_true rfl), (Nat.le_of_ble_eq_true rfl)⟩) hS (fun q _ h => hFc q h) hFc (fun r_1 u t H1 locs ht hvm hw hB hz1 hk1 hS => ?_)
  obtain ⟨hP, hD⟩ := xJoin (wr := [(h0, .inr (5, [.ref h1, .ref h2, .ref h3, .ref h4, .int 0]))]) (w1 := [(h1, .inr (0, [.ref h5, .ref h6, .ref h7, .ref h8, .int 1, .int 0, .int 1, .int 0]))]) hP hD [1] [0] rfl rfl (by decide +kernel) (by decide +kernel) hk1 hFc ht hB
  generalize H1 = H at hP hS ⊢
  have hP : va_P D cls9 [(h0, .inr (5, [.ref h1, .ref h2, .ref h3, .ref h4, .int 0])), (h1, .inr (0, [.ref h5, .ref h6, .ref h7, .ref h8, .int 1, .int 0, .int 1, .int 0]))] H := hP
  have hD : va_D A [(h0, .inr (5, [.ref h1, .ref h2, .ref h3, .ref h4, .int 0])), (h1, .inr (0, [.ref h5, .ref h6, .ref h7, .ref h8, .int 1, .int 0, .int 1, .int 0]))] := hD
  obtain rfl : r_1 = (-2) := hw
  refine lv_lookup (off := 142) (tgt := 149) hx hb d_2_21_7 (by decide +kernel) (by decide +kernel) (by decide +kernel) ?_
  have hP9 := hP.sub (ws' := [(h0, .inr (5, [.ref h1, .ref h2, .ref h3, .ref h4, .int 0])), (h1, .inr (0, [.ref h5, .ref h6, .ref h7, .ref h8, .int 1, .int 0, .int 1, .int 0]))]) [0, 1] rfl
  have hD9 := hD.sub (ws' := [(h0, .inr (5, [.ref h1, .ref h2, .ref h3, .ref h4, .int 0])), (h1, .inr (0, [.ref h5, .ref h6, .ref h7, .ref h8, .int 1, .int 0, .int 1, .int 0]))]) [0, 1] (by decide +kernel) rfl
  exact W.vret hx hb hr (fun t ht hW => ⟨⟨(), rfl, trivial, xEnd hK hP9 hD9 ht hW⟩, hS.F ht⟩) hS.2.2 d_2_21_149
set_option maxHeartbeats 4000000 in
set_option maxRecDepth 100000 in
theorem c_Blocks_statement_0 (l : Launch) (D : va_G) (kI kJ kB kZ : ClassId) (sz : Nat) (h0 : Nat) (h1 : Nat) (h2 : Nat) (h3 : Nat) (h4 : Nat) (h5 : Nat) (h6 : Nat) (h7 : Nat) (h8 : Nat) : Met l (⟨"AlgolJudge$Blocks", "statement", "()V"⟩ : MethodName) (Cond.code (⟨"AlgolJudge$Blocks", "statement", "()V"⟩ : MethodName) prog_2_method_19_code 2 (none) :: gT) ({ frames := 3, cells := 0, slots := 0, locals := 61 }) (va_Pc [.ref h0] (xP D (xT kI kJ kB kZ) xN [(h0, .inr (5, [.ref h1, .ref h2, .ref h3, .ref h4, .int 0])), (h1, .inr (0, [.ref h5, .ref h6, .ref h7, .ref h8, .int 1, .int 0, .int 1, .int 0]))] sz)) (va_Qv (fun _ : Unit => True) (fun _ t => xQ D (xT kI kJ kB kZ) (va_A [(h0, .inr (5, [.ref h1, .ref h2, .ref h3, .ref h4, .int 0])), (h1, .inr (0, [.ref h5, .ref h6, .ref h7, .ref h8, .int 1, .int 0, .int 1, .int 0]))] sz) [(h0, .inr (5, [.ref h1, .ref h2, .ref h3, .ref h4, .int 0])), (h1, .inr (0, [.ref h5, .ref h6, .ref h7, .ref h8, .int 1, .int 0, .int 1, .int 0]))] t) (va_A [(h0, .inr (5, [.ref h1, .ref h2, .ref h3, .ref h4, .int 0])), (h1, .inr (0, [.ref h5, .ref h6, .ref h7, .ref h8, .int 1, .int 0, .int 1, .int 0]))] sz)) 0 0 (va_A [(h0, .inr (5, [.ref h1, .ref h2, .ref h3, .ref h4, .int 0])), (h1, .inr (0, [.ref h5, .ref h6, .ref h7, .ref h8, .int 1, .int 0, .int 1, .int 0]))] sz) := by
  refine Met.ofW (cc := prog_2_method_19_code) (maxL := 2) (ret := none) (by decide +kernel) rfl ?_
  intro p e s m args below meth c s₁ B hml hv
  obtain ⟨rfl, hsz, hP, hK, hD0, hE⟩ := hv
  have hx := B.exec
  have hb := B.bytes
  have hr := B.returns
  have hts : ∀ w ∈ gT, w.before _ s = true := fun w h => atoms_spec (ws := Cond.code (⟨"AlgolJudge$Blocks", "statement", "()V"⟩ : MethodName) prog_2_method_19_code 2 (none) :: gT) B.pre w (List.mem_cons_of_mem _ h)
  have hown : s.vm.findClass "AlgolJudge$Blocks" = some m.cls := findClass_of_methodNamed B.named
  have hlocks := B.notSynchronized
  subst hsz
  have hD := hD0.self (sz := s.heap.size)
  generalize hAe : va_A [(h0, .inr (5, [.ref h1, .ref h2, .ref h3, .ref h4, .int 0])), (h1, .inr (0, [.ref h5, .ref h6, .ref h7, .ref h8, .int 1, .int 0, .int 1, .int 0]))] s.heap.size = A at hD hE ⊢
  have hA : ∀ q : Nat, s.heap.size ≤ q → A q := fun q h => by rw [← hAe]; exact Or.inr h
  have hS : va_S A s.heap s.heap [] := va_S.rf
  have hP : va_P D cls9 [(h0, .inr (5, [.ref h1, .ref h2, .ref h3, .ref h4, .int 0])), (h1, .inr (0, [.ref h5, .ref h6, .ref h7, .ref h8, .int 1, .int 0, .int 1, .int 0]))] s.heap := hP
  have hl := lv_entry ([.ref h0]) (n := 2) (Nat.le_of_ble_eq_true rfl)
  rw [lg_entry_eq]
  generalize (lg_sl ([.ref h0]) ++ List.replicate (2 - (lg_sl ([.ref h0])).length) Slot.unset).toArray = ls at hl ⊢
  have hl : lv_has ls 2 [(0, .ref h0)] := hl
  refine lv_iconst (v := 0) hx hb d_2_19_0 (by decide +kernel) ?_
  refine lv_istore_n (lv' := [(1, .int 0), (0, .ref h0)]) hx hb d_2_19_1 rfl hl (by decide +kernel) rfl (fun ls hl => ?_)
  refine lv_iload_n hx hb d_2_19_2 rfl (lv_at hl 0 rfl) ?_
  refine lv_sipush (v := 3001) hx hb d_2_19_3 (by decide +kernel) ?_
  refine lv_icmp_ge (tgt := 41) hx hb d_2_19_6 (by decide +kernel) (fun c_1 => ?_) (fun c_1 => ?_)
  · exact absurd c_1 (by decide +kernel)
  refine lv_aload_n hx hb d_2_19_9 rfl (lv_at hl 1 rfl) ?_
  have hPc := hP.sub (ws' := [(h0, .inr (5, [.ref h1, .ref h2, .ref h3, .ref h4, .int 0])), (h1, .inr (0, [.ref h5, .ref h6, .ref h7, .ref h8, .int 1, .int 0, .int 1, .int 0]))]) [0, 1] rfl
  have hDc := hD.sub (ws' := [(h0, .inr (5, [.ref h1, .ref h2, .ref h3, .ref h4, .int 0])), (h1, .inr (0, [.ref h5, .ref h6, .ref h7, .ref h8, .int 1, .int 0, .int 1, .int 0]))]) [0, 1] (by decide +kernel) rfl
  have hFc := va_free (wc := [(h0, .inr (5, [.ref h1, .ref h2, .ref h3, .ref h4, .int 0])), (h1, .inr (0, [.ref h5, .ref h6, .ref h7, .ref h8, .int 1, .int 0, .int 1, .int 0]))]) hD hS hA [0, 1] rfl
  refine va_calli (va_runV (As := []) (rest := []) ⟨hx, hb, hml, hown, hts⟩ (c_Blocks_seesLabel_0 l D kI kJ kB kZ _ (h0) (h1) (h2) (h3) (h4) (h5) (h6) (h7) (h8) ) (cwV 0 hts (gT_V m_1054 m_1056 m_51 m_128 (gT_ws m_1057)) rfl rfl rfl (by decide +kernel) ⟨(Nat.le_of_ble_eq_true rfl), (Nat.le_of_ble_eq_true rfl)⟩) ⟨xBlind xOk_N, va_recv hK hP (ci := 5) (q0 := 0) rfl rfl, xAtN hK hPc hDc⟩ rfl rfl hl.1 rfl (lv_room (Nat.le_of_ble_eq_true rfl)) d_2_19_10 ⟨(Nat.le_of_ble_eq_true rfl), (Nat.le_of_ble_eq_true rfl)⟩) hS (fun q _ h => hFc q h) hFc (fun r_2 u t H1 locs ht hvm hw hB hz1 hk1 hS => ?_)
  obtain ⟨hP, hD⟩ := xJoin (wr := []) (w1 := [(h0, .inr (5, [.ref h1, .ref h2, .ref h3, .ref h4, .int 0])), (h1, .inr (0, [.ref h5, .ref h6, .ref h7, .ref h8, .int 1, .int 0, .int 1, .int 0]))]) hP hD [0, 1] [] rfl rfl (by decide +kernel) (by decide +kernel) hk1 hFc ht hB
  generalize H1 = H at hP hS ⊢
  have hP : va_P D cls9 [(h0, .inr (5, [.ref h1, .ref h2, .ref h3, .ref h4, .int 0])), (h1, .inr (0, [.ref h5, .ref h6, .ref h7, .ref h8, .int 1, .int 0, .int 1, .int 0]))] H := hP
  have hD : va_D A [(h0, .inr (5, [.ref h1, .ref h2, .ref h3, .ref h4, .int 0])), (h1, .inr (0, [.ref h5, .ref h6, .ref h7, .ref h8, .int 1, .int 0, .int 1, .int 0]))] := hD
  obtain rfl : r_2 = 0 := hw
  refine lv_if_eq (tgt := 41) hx hb d_2_19_13 (by decide +kernel) (fun c_3 => ?_) (fun c_3 => ?_)
  rotate_left
  · exact absurd c_3 (by decide +kernel)
  refine lv_aload_n hx hb d_2_19_41 rfl (lv_at hl 1 rfl) ?_
  have hPc := hP.sub (ws' := [(h0, .inr (5, [.ref h1, .ref h2, .ref h3, .ref h4, .int 0])), (h1, .inr (0, [.ref h5, .ref h6, .ref h7, .ref h8, .int 1, .int 0, .int 1, .int 0]))]) [0, 1] rfl
  have hDc := hD.sub (ws' := [(h0, .inr (5, [.ref h1, .ref h2, .ref h3, .ref h4, .int 0])), (h1, .inr (0, [.ref h5, .ref h6, .ref h7, .ref h8, .int 1, .int 0, .int 1, .int 0]))]) [0, 1] (by decide +kernel) rfl
  have hFc := va_free (wc := [(h0, .inr (5, [.ref h1, .ref h2, .ref h3, .ref h4, .int 0])), (h1, .inr (0, [.ref h5, .ref h6, .ref h7, .ref h8, .int 1, .int 0, .int 1, .int 0]))]) hD hS hA [0, 1] rfl
  refine va_callv (va_runV (As := []) (rest := []) ⟨hx, hb, hml, hown, hts⟩ (c_Blocks_plain_0 l D kI kJ kB kZ _ (h0) (h1) (h2) (h3) (h4) (h5) (h6) (h7) (h8) ) (cwV 0 hts (gT_V m_794 m_796 m_27 m_128 (gT_ws m_797)) rfl rfl rfl (by decide +kernel) ⟨(Nat.le_of_ble_eq_true rfl), (Nat.le_of_ble_eq_true rfl)⟩) ⟨xBlind xOk_N, va_recv hK hP (ci := 5) (q0 := 0) rfl rfl, xAtN hK hPc hDc⟩ rfl rfl hl.1 rfl (lv_room (Nat.le_of_ble_eq_true rfl)) d_2_19_42 ⟨(Nat.le_of_ble_eq_true rfl), (Nat.le_of_ble_eq_true rfl)⟩) hS (fun q _ h => hFc q h) hFc (fun u t H1 locs ht hvm hw hB hz1 hk1 hS => ?_)
  obtain ⟨hP, hD⟩ := xJoin (wr := []) (w1 := [(h0, .inr (5, [.ref h1, .ref h2, .ref h3, .ref h4, .int 0])), (h1, .inr (0, [.ref h5, .ref h6, .ref h7, .ref h8, .int 1, .int 0, .int 1, .int 0]))]) hP hD [0, 1] [] rfl rfl (by decide +kernel) (by decide +kernel) hk1 hFc ht hB
  generalize H1 = H at hP hS ⊢
  have hP : va_P D cls9 [(h0, .inr (5, [.ref h1, .ref h2, .ref h3, .ref h4, .int 0])), (h1, .inr (0, [.ref h5, .ref h6, .ref h7, .ref h8, .int 1, .int 0, .int 1, .int 0]))] H := hP
  have hD : va_D A [(h0, .inr (5, [.ref h1, .ref h2, .ref h3, .ref h4, .int 0])), (h1, .inr (0, [.ref h5, .ref h6, .ref h7, .ref h8, .int 1, .int 0, .int 1, .int 0]))] := hD
  have hP9 := hP.sub (ws' := [(h0, .inr (5, [.ref h1, .ref h2, .ref h3, .ref h4, .int 0])), (h1, .inr (0, [.ref h5, .ref h6, .ref h7, .ref h8, .int 1, .int 0, .int 1, .int 0]))]) [0, 1] rfl
  have hD9 := hD.sub (ws' := [(h0, .inr (5, [.ref h1, .ref h2, .ref h3, .ref h4, .int 0])), (h1, .inr (0, [.ref h5, .ref h6, .ref h7, .ref h8, .int 1, .int 0, .int 1, .int 0]))]) [0, 1] (by decide +kernel) rfl
  exact W.vret hx hb hr (fun t ht hW => ⟨⟨(), rfl, trivial, xEnd hK hP9 hD9 ht hW⟩, hS.F ht⟩) hS.2.2 d_2_19_45
set_option maxHeartbeats 4000000 in
set_option maxRecDepth 100000 in
theorem c_Tokens_accept_0 (l : Launch) (D : va_G) (kI kJ kB kZ : ClassId) (sz : Nat) (h0 : Nat) (h1 : Nat) (h2 : Nat) (h3 : Nat) (h4 : Nat) : Met l (⟨"AlgolJudge$Tokens", "accept", "(I)Z"⟩ : MethodName) (Cond.code (⟨"AlgolJudge$Tokens", "accept", "(I)Z"⟩ : MethodName) prog_8_method_23_code 2 (some .boolean) :: gT) ({ frames := 1, cells := 0, slots := 0, locals := 20 }) (va_Pc [.ref h0, .int 39] (xP D (xT kI kJ kB kZ) xN [(h0, .inr (0, [.ref h1, .ref h2, .ref h3, .ref h4, .int 1, .int 0, .int 1, .int 0]))] sz)) (va_Qi (fun (r : Int32) (_ : Unit) => r = 0) (fun _ t => xQ D (xT kI kJ kB kZ) (va_A [(h0, .inr (0, [.ref h1, .ref h2, .ref h3, .ref h4, .int 1, .int 0, .int 1, .int 0]))] sz) [(h0, .inr (0, [.ref h1, .ref h2, .ref h3, .ref h4, .int 1, .int 0, .int 1, .int 0]))] t) (va_A [(h0, .inr (0, [.ref h1, .ref h2, .ref h3, .ref h4, .int 1, .int 0, .int 1, .int 0]))] sz)) 0 0 (va_A [(h0, .inr (0, [.ref h1, .ref h2, .ref h3, .ref h4, .int 1, .int 0, .int 1, .int 0]))] sz) := by
  refine Met.ofW (cc := prog_8_method_23_code) (maxL := 2) (ret := some .boolean) (by decide +kernel) rfl ?_
  intro p e s m args below meth c s₁ B hml hv
  obtain ⟨rfl, hsz, hP, hK, hD0, hE⟩ := hv
  have hx := B.exec
  have hb := B.bytes
  have hr := B.returns
  have hts : ∀ w ∈ gT, w.before _ s = true := fun w h => atoms_spec (ws := Cond.code (⟨"AlgolJudge$Tokens", "accept", "(I)Z"⟩ : MethodName) prog_8_method_23_code 2 (some .boolean) :: gT) B.pre w (List.mem_cons_of_mem _ h)
  have hown : s.vm.findClass "AlgolJudge$Tokens" = some m.cls := findClass_of_methodNamed B.named
  have hlocks := B.notSynchronized
  subst hsz
  have hD := hD0.self (sz := s.heap.size)
  generalize hAe : va_A [(h0, .inr (0, [.ref h1, .ref h2, .ref h3, .ref h4, .int 1, .int 0, .int 1, .int 0]))] s.heap.size = A at hD hE ⊢
  have hA : ∀ q : Nat, s.heap.size ≤ q → A q := fun q h => by rw [← hAe]; exact Or.inr h
  have hS : va_S A s.heap s.heap [] := va_S.rf
  have hP : va_P D cls9 [(h0, .inr (0, [.ref h1, .ref h2, .ref h3, .ref h4, .int 1, .int 0, .int 1, .int 0]))] s.heap := hP
  have hl := lv_entry ([.ref h0, .int 39]) (n := 2) (Nat.le_of_ble_eq_true rfl)
  rw [lg_entry_eq]
  generalize (lg_sl ([.ref h0, .int 39]) ++ List.replicate (2 - (lg_sl ([.ref h0, .int 39])).length) Slot.unset).toArray = ls at hl ⊢
  have hl : lv_has ls 2 [(0, .ref h0), (1, .int 39)] := hl
  refine lv_aload_n hx hb d_8_23_0 rfl (lv_at hl 0 rfl) ?_
  have hPc := hP.sub (ws' := [(h0, .inr (0, [.ref h1, .ref h2, .ref h3, .ref h4, .int 1, .int 0, .int 1, .int 0]))]) [0] rfl
  have hDc := hD.sub (ws' := [(h0, .inr (0, [.ref h1, .ref h2, .ref h3, .ref h4, .int 1, .int 0, .int 1, .int 0]))]) [0] (by decide +kernel) rfl
  have hFc := va_free (wc := [(h0, .inr (0, [.ref h1, .ref h2, .ref h3, .ref h4, .int 1, .int 0, .int 1, .int 0]))]) hD hS hA [0] rfl
  refine va_calli (va_runV (As := []) (rest := []) ⟨hx, hb, hml, hown, hts⟩ (c_Tokens_kind_1 l D kI kJ kB kZ _ (h0) (h1) (h2) (h3) (h4) ) (cwV 0 hts (gT_V m_587 m_588 m_589 m_121 (gT_ws m_590)) rfl rfl rfl (by decide +kernel) ⟨(Nat.le_of_ble_eq_true rfl), (Nat.le_of_ble_eq_true rfl)⟩) ⟨xBlind xOk_N, va_recv hK hP (ci := 0) (q0 := 0) rfl rfl, xAtN hK hPc hDc⟩ rfl rfl hl.1 rfl (lv_room (Nat.le_of_ble_eq_true rfl)) d_8_23_1 ⟨(Nat.le_of_ble_eq_true rfl), (Nat.le_of_ble_eq_true rfl)⟩) hS (fun q _ h => hFc q h) hFc (fun r_1 u t H1 locs ht hvm hw hB hz1 hk1 hS => ?_)
  obtain ⟨hP, hD⟩ := xJoin (wr := []) (w1 := [(h0, .inr (0, [.ref h1, .ref h2, .ref h3, .ref h4, .int 1, .int 0, .int 1, .int 0]))]) hP hD [0] [] rfl rfl (by decide +kernel) (by decide +kernel) hk1 hFc ht hB
  generalize H1 = H at hP hS ⊢
  have hP : va_P D cls9 [(h0, .inr (0, [.ref h1, .ref h2, .ref h3, .ref h4, .int 1, .int 0, .int 1, .int 0]))] H := hP
  have hD : va_D A [(h0, .inr (0, [.ref h1, .ref h2, .ref h3, .ref h4, .int 1, .int 0, .int 1, .int 0]))] := hD
  obtain rfl : r_1 = (-2) := hw
  refine lv_iload_n hx hb d_8_23_4 rfl (lv_at hl 1 rfl) ?_
  refine lv_icmp_eq (tgt := 10) hx hb d_8_23_5 (by decide +kernel) (fun c_2 => ?_) (fun c_2 => ?_)
  · exact absurd c_2 (by decide +kernel)
  refine lv_iconst (v := 0) hx hb d_8_23_8 (by decide +kernel) ?_
  have hP9 := hP.sub (ws' := [(h0, .inr (0, [.ref h1, .ref h2, .ref h3, .ref h4, .int 1, .int 0, .int 1, .int 0]))]) [0] rfl
  have hD9 := hD.sub (ws' := [(h0, .inr (0, [.ref h1, .ref h2, .ref h3, .ref h4, .int 1, .int 0, .int 1, .int 0]))]) [0] (by decide +kernel) rfl
  exact W.zret (v := 0) (ty := .boolean) hx hb hr (by decide +kernel) (fun t ht hW => ⟨⟨0, (), rfl, rfl, xEnd hK hP9 hD9 ht hW⟩, hS.F ht⟩) hS.2.2 d_8_23_9
set_option maxHeartbeats 4000000 in
set_option maxRecDepth 100000 in
theorem c_Scopes_parent_0 (l : Launch) (D : va_G) (kI kJ kB kZ : ClassId) (sz : Nat) (h0 : Nat) (h1 : Nat) (h2 : Nat) (h3 : Nat) (h4 : Nat) (h5 : Nat) (h6 : Nat) (h7 : Nat) : Met l (⟨"AlgolJudge$Scopes", "parent", "(I)I"⟩ : MethodName) (Cond.code (⟨"AlgolJudge$Scopes", "parent", "(I)I"⟩ : MethodName) prog_6_method_8_code 2 (some .int) :: gT) ({ frames := 0, cells := 0, slots := 0, locals := 0 }) (va_Pc [.ref h0, .int 0] (xP D (xT kI kJ kB kZ) xN [(h0, .inr (2, [.ref h1, .ref h2, .ref h3, .ref h4, .ref h5, .ref h6, .ref h7, .int 1, .int 1, .int 0, .int 0, .int 3001, .int 0])), (h3, .inl (kI, 333, .inl (upd (fun _ => 0) (Int32.toNatClampNeg 0) (-1))))] sz)) (va_Qi (fun (r : Int32) (_ : Unit) => r = (-1)) (fun _ t => xQ D (xT kI kJ kB kZ) (va_A [(h0, .inr (2, [.ref h1, .ref h2, .ref h3, .ref h4, .ref h5, .ref h6, .ref h7, .int 1, .int 1, .int 0, .int 0, .int 3001, .int 0])), (h3, .inl (kI, 333, .inl (upd (fun _ => 0) (Int32.toNatClampNeg 0) (-1))))] sz) [(h0, .inr (2, [.ref h1, .ref h2, .ref h3, .ref h4, .ref h5, .ref h6, .ref h7, .int 1, .int 1, .int 0, .int 0, .int 3001, .int 0])), (h3, .inl (kI, 333, .inl (upd (fun _ => 0) (Int32.toNatClampNeg 0) (-1))))] t) (va_A [(h0, .inr (2, [.ref h1, .ref h2, .ref h3, .ref h4, .ref h5, .ref h6, .ref h7, .int 1, .int 1, .int 0, .int 0, .int 3001, .int 0])), (h3, .inl (kI, 333, .inl (upd (fun _ => 0) (Int32.toNatClampNeg 0) (-1))))] sz)) 0 0 (va_A [(h0, .inr (2, [.ref h1, .ref h2, .ref h3, .ref h4, .ref h5, .ref h6, .ref h7, .int 1, .int 1, .int 0, .int 0, .int 3001, .int 0])), (h3, .inl (kI, 333, .inl (upd (fun _ => 0) (Int32.toNatClampNeg 0) (-1))))] sz) := by
  refine Met.ofW (cc := prog_6_method_8_code) (maxL := 2) (ret := some .int) (by decide +kernel) rfl ?_
  intro p e s m args below meth c s₁ B hml hv
  obtain ⟨rfl, hsz, hP, hK, hD0, hE⟩ := hv
  have hx := B.exec
  have hb := B.bytes
  have hr := B.returns
  have hts : ∀ w ∈ gT, w.before _ s = true := fun w h => atoms_spec (ws := Cond.code (⟨"AlgolJudge$Scopes", "parent", "(I)I"⟩ : MethodName) prog_6_method_8_code 2 (some .int) :: gT) B.pre w (List.mem_cons_of_mem _ h)
  have hown : s.vm.findClass "AlgolJudge$Scopes" = some m.cls := findClass_of_methodNamed B.named
  have hlocks := B.notSynchronized
  subst hsz
  have hD := hD0.self (sz := s.heap.size)
  generalize hAe : va_A [(h0, .inr (2, [.ref h1, .ref h2, .ref h3, .ref h4, .ref h5, .ref h6, .ref h7, .int 1, .int 1, .int 0, .int 0, .int 3001, .int 0])), (h3, .inl (kI, 333, .inl (upd (fun _ => 0) (Int32.toNatClampNeg 0) (-1))))] s.heap.size = A at hD hE ⊢
  have hA : ∀ q : Nat, s.heap.size ≤ q → A q := fun q h => by rw [← hAe]; exact Or.inr h
  have hS : va_S A s.heap s.heap [] := va_S.rf
  have hP : va_P D cls9 [(h0, .inr (2, [.ref h1, .ref h2, .ref h3, .ref h4, .ref h5, .ref h6, .ref h7, .int 1, .int 1, .int 0, .int 0, .int 3001, .int 0])), (h3, .inl (kI, 333, .inl (upd (fun _ => 0) (Int32.toNatClampNeg 0) (-1))))] s.heap := hP
  have hl := lv_entry ([.ref h0, .int 0]) (n := 2) (Nat.le_of_ble_eq_true rfl)
  rw [lg_entry_eq]
  generalize (lg_sl ([.ref h0, .int 0]) ++ List.replicate (2 - (lg_sl ([.ref h0, .int 0])).length) Slot.unset).toArray = ls at hl ⊢
  have hl : lv_has ls 2 [(0, .ref h0), (1, .int 0)] := hl
  refine lv_iload_n hx hb d_6_8_0 rfl (lv_at hl 1 rfl) ?_
  refine lv_if_lt (tgt := 21) hx hb d_6_8_1 (by decide +kernel) (fun c_1 => ?_) (fun c_1 => ?_)
  · exact absurd c_1 (by decide +kernel)
  refine lv_iload_n hx hb d_6_8_4 rfl (lv_at hl 1 rfl) ?_
  refine lv_aload_n hx hb d_6_8_5 rfl (lv_at hl 0 rfl) ?_
  refine va_get (D := D) (ci := 2) (v := .int 1) (C := "AlgolJudge$Scopes") (T := T_Scopes) (N := 13) hx hb hts i_Scopes hown hK hP 0 rfl rfl 7 (by decide +kernel) (hts _ m_292) (fun _ h9 => h9) rfl d_6_8_6 ?_
  refine lv_icmp_ge (tgt := 21) hx hb d_6_8_9 (by decide +kernel) (fun c_2 => ?_) (fun c_2 => ?_)
  · exact absurd c_2 (by decide +kernel)
  refine lv_aload_n hx hb d_6_8_12 rfl (lv_at hl 0 rfl) ?_
  refine va_get (D := D) (ci := 2) (v := .ref h3) (C := "AlgolJudge$Scopes") (T := T_Scopes) (N := 13) hx hb hts i_Scopes hown hK hP 0 rfl rfl 2 (by decide +kernel) (hts _ m_287) (fun _ h9 => h9) rfl d_6_8_13 ?_
  refine lv_iload_n hx hb d_6_8_16 rfl (lv_at hl 1 rfl) ?_
  refine va_iald hx hb hK hP 1 0 rfl rfl (show ¬ ((0 : Int32) < 0 ∨ 333 ≤ (0 : Int32).toNatClampNeg) by decide +kernel) d_6_8_17 ?_
  refine xtopi (v := (-1)) (by decide +kernel) ?_
  refine lv_goto (tgt := 22) hx hb d_6_8_18 (by decide +kernel) ?_
  have hP9 := hP.sub (ws' := [(h0, .inr (2, [.ref h1, .ref h2, .ref h3, .ref h4, .ref h5, .ref h6, .ref h7, .int 1, .int 1, .int 0, .int 0, .int 3001, .int 0])), (h3, .inl (kI, 333, .inl (upd (fun _ => 0) (Int32.toNatClampNeg 0) (-1))))]) [0, 1] rfl
  have hD9 := hD.sub (ws' := [(h0, .inr (2, [.ref h1, .ref h2, .ref h3, .ref h4, .ref h5, .ref h6, .ref h7, .int 1, .int 1, .int 0, .int 0, .int 3001, .int 0])), (h3, .inl (kI, 333, .inl (upd (fun _ => 0) (Int32.toNatClampNeg 0) (-1))))]) [0, 1] (by decide +kernel) rfl
  exact W.iret (v := (-1)) hx hb hr (fun t ht hW => ⟨⟨(-1), (), rfl, rfl, xEnd hK hP9 hD9 ht hW⟩, hS.F ht⟩) hS.2.2 d_6_8_22
set_option maxHeartbeats 4000000 in
set_option maxRecDepth 100000 in
theorem c_Scopes_close_0 (l : Launch) (D : va_G) (kI kJ kB kZ : ClassId) (sz : Nat) (h0 : Nat) (h1 : Nat) (h2 : Nat) (h3 : Nat) (h4 : Nat) (h5 : Nat) (h6 : Nat) (h7 : Nat) : Met l (⟨"AlgolJudge$Scopes", "close", "()V"⟩ : MethodName) (Cond.code (⟨"AlgolJudge$Scopes", "close", "()V"⟩ : MethodName) prog_6_method_15_code 1 (none) :: gT) ({ frames := 1, cells := 0, slots := 0, locals := 21 }) (va_Pc [.ref h0] (xP D (xT kI kJ kB kZ) xN [(h0, .inr (2, [.ref h1, .ref h2, .ref h3, .ref h4, .ref h5, .ref h6, .ref h7, .int 1, .int 1, .int 0, .int 0, .int 3001, .int 0])), (h3, .inl (kI, 333, .inl (upd (fun _ => 0) (Int32.toNatClampNeg 0) (-1))))] sz)) (va_Qv (fun _ : Unit => True) (fun _ t => xQ D (xT kI kJ kB kZ) (va_A [(h0, .inr (2, [.ref h1, .ref h2, .ref h3, .ref h4, .ref h5, .ref h6, .ref h7, .int 1, .int 1, .int 0, .int 0, .int 3001, .int 0])), (h3, .inl (kI, 333, .inl (upd (fun _ => 0) (Int32.toNatClampNeg 0) (-1))))] sz) [(h0, .inr (2, [.ref h1, .ref h2, .ref h3, .ref h4, .ref h5, .ref h6, .ref h7, .int 1, .int 1, .int (-1), .int (-1), .int 3001, .int 0])), (h3, .inl (kI, 333, .inl (upd (fun _ => 0) (Int32.toNatClampNeg 0) (-1))))] t) (va_A [(h0, .inr (2, [.ref h1, .ref h2, .ref h3, .ref h4, .ref h5, .ref h6, .ref h7, .int 1, .int 1, .int 0, .int 0, .int 3001, .int 0])), (h3, .inl (kI, 333, .inl (upd (fun _ => 0) (Int32.toNatClampNeg 0) (-1))))] sz)) 0 0 (va_A [(h0, .inr (2, [.ref h1, .ref h2, .ref h3, .ref h4, .ref h5, .ref h6, .ref h7, .int 1, .int 1, .int 0, .int 0, .int 3001, .int 0])), (h3, .inl (kI, 333, .inl (upd (fun _ => 0) (Int32.toNatClampNeg 0) (-1))))] sz) := by
  refine Met.ofW (cc := prog_6_method_15_code) (maxL := 1) (ret := none) (by decide +kernel) rfl ?_
  intro p e s m args below meth c s₁ B hml hv
  obtain ⟨rfl, hsz, hP, hK, hD0, hE⟩ := hv
  have hx := B.exec
  have hb := B.bytes
  have hr := B.returns
  have hts : ∀ w ∈ gT, w.before _ s = true := fun w h => atoms_spec (ws := Cond.code (⟨"AlgolJudge$Scopes", "close", "()V"⟩ : MethodName) prog_6_method_15_code 1 (none) :: gT) B.pre w (List.mem_cons_of_mem _ h)
  have hown : s.vm.findClass "AlgolJudge$Scopes" = some m.cls := findClass_of_methodNamed B.named
  have hlocks := B.notSynchronized
  subst hsz
  have hD := hD0.self (sz := s.heap.size)
  generalize hAe : va_A [(h0, .inr (2, [.ref h1, .ref h2, .ref h3, .ref h4, .ref h5, .ref h6, .ref h7, .int 1, .int 1, .int 0, .int 0, .int 3001, .int 0])), (h3, .inl (kI, 333, .inl (upd (fun _ => 0) (Int32.toNatClampNeg 0) (-1))))] s.heap.size = A at hD hE ⊢
  have hA : ∀ q : Nat, s.heap.size ≤ q → A q := fun q h => by rw [← hAe]; exact Or.inr h
  have hS : va_S A s.heap s.heap [] := va_S.rf
  have hP : va_P D cls9 [(h0, .inr (2, [.ref h1, .ref h2, .ref h3, .ref h4, .ref h5, .ref h6, .ref h7, .int 1, .int 1, .int 0, .int 0, .int 3001, .int 0])), (h3, .inl (kI, 333, .inl (upd (fun _ => 0) (Int32.toNatClampNeg 0) (-1))))] s.heap := hP
  have hl := lv_entry ([.ref h0]) (n := 1) (Nat.le_of_ble_eq_true rfl)
  rw [lg_entry_eq]
  generalize (lg_sl ([.ref h0]) ++ List.replicate (1 - (lg_sl ([.ref h0])).length) Slot.unset).toArray = ls at hl ⊢
  have hl : lv_has ls 1 [(0, .ref h0)] := hl
  refine lv_aload_n hx hb d_6_15_0 rfl (lv_at hl 0 rfl) ?_
  refine lv_aload_n hx hb d_6_15_1 rfl (lv_at hl 0 rfl) ?_
  refine lv_aload_n hx hb d_6_15_2 rfl (lv_at hl 0 rfl) ?_
  refine va_get (D := D) (ci := 2) (v := .int 0) (C := "AlgolJudge$Scopes") (T := T_Scopes) (N := 13) hx hb hts i_Scopes hown hK hP 0 rfl rfl 9 (by decide +kernel) (hts _ m_294) (fun _ h9 => h9) rfl d_6_15_3 ?_
  have hPc := hP.sub (ws' := [(h0, .inr (2, [.ref h1, .ref h2, .ref h3, .ref h4, .ref h5, .ref h6, .ref h7, .int 1, .int 1, .int 0, .int 0, .int 3001, .int 0])), (h3, .inl (kI, 333, .inl (upd (fun _ => 0) (Int32.toNatClampNeg 0) (-1))))]) [0, 1] rfl
  have hDc := hD.sub (ws' := [(h0, .inr (2, [.ref h1, .ref h2, .ref h3, .ref h4, .ref h5, .ref h6, .ref h7, .int 1, .int 1, .int 0, .int 0, .int 3001, .int 0])), (h3, .inl (kI, 333, .inl (upd (fun _ => 0) (Int32.toNatClampNeg 0) (-1))))]) [0, 1] (by decide +kernel) rfl
  have hFc := va_free (wc := [(h0, .inr (2, [.ref h1, .ref h2, .ref h3, .ref h4, .ref h5, .ref h6, .ref h7, .int 1, .int 1, .int 0, .int 0, .int 3001, .int 0])), (h3, .inl (kI, 333, .inl (upd (fun _ => 0) (Int32.toNatClampNeg 0) (-1))))]) hD hS hA [0, 1] rfl
  refine va_calli (va_runV (As := [.int 0]) (rest := [.ref h0]) ⟨hx, hb, hml, hown, hts⟩ (c_Scopes_parent_0 l D kI kJ kB kZ _ (h0) (h1) (h2) (h3) (h4) (h5) (h6) (h7) ) (cwV 1 hts (gT_V m_982 m_984 m_43 m_127 (gT_ws m_985)) rfl rfl rfl (by decide +kernel) ⟨(Nat.le_of_ble_eq_true rfl), (Nat.le_of_ble_eq_true rfl)⟩) ⟨xBlind xOk_N, va_recv hK hP (ci := 2) (q0 := 0) rfl rfl, xAtN hK hPc hDc⟩ rfl rfl hl.1 rfl (lv_room (Nat.le_of_ble_eq_true rfl)) d_6_15_6 ⟨(Nat.le_of_ble_eq_true rfl), (Nat.le_of_ble_eq_true rfl)⟩) hS (fun q _ h => hFc q h) hFc (fun r_1 u t H1 locs ht hvm hw hB hz1 hk1 hS => ?_)
  obtain ⟨hP, hD⟩ := xJoin (wr := []) (w1 := [(h0, .inr (2, [.ref h1, .ref h2, .ref h3, .ref h4, .ref h5, .ref h6, .ref h7, .int 1, .int 1, .int 0, .int 0, .int 3001, .int 0])), (h3, .inl (kI, 333, .inl (upd (fun _ => 0) (Int32.toNatClampNeg 0) (-1))))]) hP hD [0, 1] [] rfl rfl (by decide +kernel) (by decide +kernel) hk1 hFc ht hB
  generalize H1 = H at hP hS ⊢
  have hP : va_P D cls9 [(h0, .inr (2, [.ref h1, .ref h2, .ref h3, .ref h4, .ref h5, .ref h6, .ref h7, .int 1, .int 1, .int 0, .int 0, .int 3001, .int 0])), (h3, .inl (kI, 333, .inl (upd (fun _ => 0) (Int32.toNatClampNeg 0) (-1))))] H := hP
  have hD : va_D A [(h0, .inr (2, [.ref h1, .ref h2, .ref h3, .ref h4, .ref h5, .ref h6, .ref h7, .int 1, .int 1, .int 0, .int 0, .int 3001, .int 0])), (h3, .inl (kI, 333, .inl (upd (fun _ => 0) (Int32.toNatClampNeg 0) (-1))))] := hD
  obtain rfl : r_1 = (-1) := hw
  refine va_put (D := D) (ci := 2) (v := .int (-1)) (ty := .int) (C := "AlgolJudge$Scopes") (T := T_Scopes) (N := 13) hx hb hts i_Scopes t_Scopes t_Scopes_ok n_Scopes hown hK hP hD hS 0 rfl rfl 9 (by decide +kernel) (hts _ m_294) (fun _ h9 => h9) rfl (by decide +kernel) rfl rfl (Nat.le_of_ble_eq_true rfl) d_6_15_9 (fun H locs hP hD hS => ?_)
  have hP : va_P D cls9 [(h0, .inr (2, [.ref h1, .ref h2, .ref h3, .ref h4, .ref h5, .ref h6, .ref h7, .int 1, .int 1, .int (-1), .int 0, .int 3001, .int 0])), (h3, .inl (kI, 333, .inl (upd (fun _ => 0) (Int32.toNatClampNeg 0) (-1))))] H := hP
  have hD : va_D A [(h0, .inr (2, [.ref h1, .ref h2, .ref h3, .ref h4, .ref h5, .ref h6, .ref h7, .int 1, .int 1, .int (-1), .int 0, .int 3001, .int 0])), (h3, .inl (kI, 333, .inl (upd (fun _ => 0) (Int32.toNatClampNeg 0) (-1))))] := hD
  refine lv_aload_n hx hb d_6_15_12 rfl (lv_at hl 0 rfl) ?_
  refine lv_aload_n hx hb d_6_15_13 rfl (lv_at hl 0 rfl) ?_
  refine va_get (D := D) (ci := 2) (v := .int (-1)) (C := "AlgolJudge$Scopes") (T := T_Scopes) (N := 13) hx hb hts i_Scopes hown hK hP 0 rfl rfl 9 (by decide +kernel) (hts _ m_294) (fun _ h9 => h9) rfl d_6_15_14 ?_
  refine va_put (D := D) (ci := 2) (v := .int (-1)) (ty := .int) (C := "AlgolJudge$Scopes") (T := T_Scopes) (N := 13) hx hb hts i_Scopes t_Scopes t_Scopes_ok n_Scopes hown hK hP hD hS 0 rfl rfl 10 (by decide +kernel) (hts _ m_295) (fun _ h9 => h9) rfl (by decide +kernel) rfl rfl (Nat.le_of_ble_eq_true rfl) d_6_15_17 (fun H locs hP hD hS => ?_)
  have hP : va_P D cls9 [(h0, .inr (2, [.ref h1, .ref h2, .ref h3, .ref h4, .ref h5, .ref h6, .ref h7, .int 1, .int 1, .int (-1), .int (-1), .int 3001, .int 0])), (h3, .inl (kI, 333, .inl (upd (fun _ => 0) (Int32.toNatClampNeg 0) (-1))))] H := hP
  have hD : va_D A [(h0, .inr (2, [.ref h1, .ref h2, .ref h3, .ref h4, .ref h5, .ref h6, .ref h7, .int 1, .int 1, .int (-1), .int (-1), .int 3001, .int 0])), (h3, .inl (kI, 333, .inl (upd (fun _ => 0) (Int32.toNatClampNeg 0) (-1))))] := hD
  have hP9 := hP.sub (ws' := [(h0, .inr (2, [.ref h1, .ref h2, .ref h3, .ref h4, .ref h5, .ref h6, .ref h7, .int 1, .int 1, .int (-1), .int (-1), .int 3001, .int 0])), (h3, .inl (kI, 333, .inl (upd (fun _ => 0) (Int32.toNatClampNeg 0) (-1))))]) [0, 1] rfl
  have hD9 := hD.sub (ws' := [(h0, .inr (2, [.ref h1, .ref h2, .ref h3, .ref h4, .ref h5, .ref h6, .ref h7, .int 1, .int 1, .int (-1), .int (-1), .int 3001, .int 0])), (h3, .inl (kI, 333, .inl (upd (fun _ => 0) (Int32.toNatClampNeg 0) (-1))))]) [0, 1] (by decide +kernel) rfl
  exact W.vret hx hb hr (fun t ht hW => ⟨⟨(), rfl, trivial, xEnd hK hP9 hD9 ht hW⟩, hS.F ht⟩) hS.2.2 d_6_15_20
set_option maxHeartbeats 4000000 in
set_option maxRecDepth 100000 in
theorem c_Tokens_fail_1 (l : Launch) (D : va_G) (kI kJ kB kZ : ClassId) (sz : Nat) (h0 : Nat) (h1 : Nat) (h2 : Nat) (h3 : Nat) (h4 : Nat) : Met l (⟨"AlgolJudge$Tokens", "fail", "()V"⟩ : MethodName) (Cond.code (⟨"AlgolJudge$Tokens", "fail", "()V"⟩ : MethodName) prog_8_method_25_code 1 (none) :: gT) ({ frames := 0, cells := 0, slots := 0, locals := 0 }) (va_Pc [.ref h0] (xP D (xT kI kJ kB kZ) xN [(h0, .inr (0, [.ref h1, .ref h2, .ref h3, .ref h4, .int 1, .int 0, .int 1, .int 0]))] sz)) (va_Qv (fun _ : Unit => True) (fun _ t => xQ D (xT kI kJ kB kZ) (va_A [(h0, .inr (0, [.ref h1, .ref h2, .ref h3, .ref h4, .int 1, .int 0, .int 1, .int 0]))] sz) [(h0, .inr (0, [.ref h1, .ref h2, .ref h3, .ref h4, .int 1, .int 0, .int 1, .int 0]))] t) (va_A [(h0, .inr (0, [.ref h1, .ref h2, .ref h3, .ref h4, .int 1, .int 0, .int 1, .int 0]))] sz)) 0 0 (va_A [(h0, .inr (0, [.ref h1, .ref h2, .ref h3, .ref h4, .int 1, .int 0, .int 1, .int 0]))] sz) := by
  refine Met.ofW (cc := prog_8_method_25_code) (maxL := 1) (ret := none) (by decide +kernel) rfl ?_
  intro p e s m args below meth c s₁ B hml hv
  obtain ⟨rfl, hsz, hP, hK, hD0, hE⟩ := hv
  have hx := B.exec
  have hb := B.bytes
  have hr := B.returns
  have hts : ∀ w ∈ gT, w.before _ s = true := fun w h => atoms_spec (ws := Cond.code (⟨"AlgolJudge$Tokens", "fail", "()V"⟩ : MethodName) prog_8_method_25_code 1 (none) :: gT) B.pre w (List.mem_cons_of_mem _ h)
  have hown : s.vm.findClass "AlgolJudge$Tokens" = some m.cls := findClass_of_methodNamed B.named
  have hlocks := B.notSynchronized
  subst hsz
  have hD := hD0.self (sz := s.heap.size)
  generalize hAe : va_A [(h0, .inr (0, [.ref h1, .ref h2, .ref h3, .ref h4, .int 1, .int 0, .int 1, .int 0]))] s.heap.size = A at hD hE ⊢
  have hA : ∀ q : Nat, s.heap.size ≤ q → A q := fun q h => by rw [← hAe]; exact Or.inr h
  have hS : va_S A s.heap s.heap [] := va_S.rf
  have hP : va_P D cls9 [(h0, .inr (0, [.ref h1, .ref h2, .ref h3, .ref h4, .int 1, .int 0, .int 1, .int 0]))] s.heap := hP
  have hl := lv_entry ([.ref h0]) (n := 1) (Nat.le_of_ble_eq_true rfl)
  rw [lg_entry_eq]
  generalize (lg_sl ([.ref h0]) ++ List.replicate (1 - (lg_sl ([.ref h0])).length) Slot.unset).toArray = ls at hl ⊢
  have hl : lv_has ls 1 [(0, .ref h0)] := hl
  refine lv_aload_n hx hb d_8_25_0 rfl (lv_at hl 0 rfl) ?_
  refine va_get (D := D) (ci := 0) (v := .int 0) (C := "AlgolJudge$Tokens") (T := T_Tokens) (N := 8) hx hb hts i_Tokens hown hK hP 0 rfl rfl 7 (by decide +kernel) (hts _ m_217) (fun _ h9 => h9) rfl d_8_25_1 ?_
  refine lv_bipush (v := (-2)) hx hb d_8_25_4 (by decide +kernel) ?_
  refine lv_icmp_ne (tgt := 33) hx hb d_8_25_6 (by decide +kernel) (fun c_1 => ?_) (fun c_1 => ?_)
  rotate_left
  · exact absurd c_1 (by decide +kernel)
  have hP9 := hP.sub (ws' := [(h0, .inr (0, [.ref h1, .ref h2, .ref h3, .ref h4, .int 1, .int 0, .int 1, .int 0]))]) [0] rfl
  have hD9 := hD.sub (ws' := [(h0, .inr (0, [.ref h1, .ref h2, .ref h3, .ref h4, .int 1, .int 0, .int 1, .int 0]))]) [0] (by decide +kernel) rfl
  exact W.vret hx hb hr (fun t ht hW => ⟨⟨(), rfl, trivial, xEnd hK hP9 hD9 ht hW⟩, hS.F ht⟩) hS.2.2 d_8_25_33
