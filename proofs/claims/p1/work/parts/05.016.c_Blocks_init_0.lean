set_option maxHeartbeats 4000000 in
set_option maxRecDepth 100000 in
theorem c_Blocks_init_0 (l : Launch) (D : va_G) (kI kJ kB kZ : ClassId) (sz : Nat) (h0 : Nat) (h1 : Nat) (h2 : Nat) (h3 : Nat) : Met l (⟨"AlgolJudge$Blocks", "<init>", "(LAlgolJudge$Tokens;LAlgolJudge$Scopes;LAlgolJudge$Rules;)V"⟩ : MethodName) (Cond.code (⟨"AlgolJudge$Blocks", "<init>", "(LAlgolJudge$Tokens;LAlgolJudge$Scopes;LAlgolJudge$Rules;)V"⟩ : MethodName) prog_2_method_1_code 4 (none) :: gT) ({ frames := 2, cells := 1, slots := 3, locals := 35 }) (va_Pc [.ref h0, .ref h1, .ref h2, .ref h3] (xP D (xT kI kJ kB kZ) xN [(h0, .inr (5, [.null, .null, .null, .null, .int 0]))] sz)) (va_Qv (fun _ : Unit => True) (fun _ t => ∃ a0 : Nat, xQ D (xT kI kJ kB kZ) (va_A [(h0, .inr (5, [.null, .null, .null, .null, .int 0]))] sz) [(h0, .inr (5, [.ref h1, .ref h2, .ref h3, .ref a0, .int 0])), (a0, .inr (4, [.ref h1, .ref h2, .ref h3]))] t) (va_A [(h0, .inr (5, [.null, .null, .null, .null, .int 0]))] sz)) 1 3 (va_A [(h0, .inr (5, [.null, .null, .null, .null, .int 0]))] sz) := by
  refine Met.ofW (cc := prog_2_method_1_code) (maxL := 4) (ret := none) (by decide +kernel) rfl ?_
  intro p e s m args below meth c s₁ B hml hv
  obtain ⟨rfl, hsz, hP, hK, hD0, hE⟩ := hv
  have hx := B.exec
  have hb := B.bytes
  have hr := B.returns
  have hts : ∀ w ∈ gT, w.before _ s = true := fun w h => atoms_spec (ws := Cond.code (⟨"AlgolJudge$Blocks", "<init>", "(LAlgolJudge$Tokens;LAlgolJudge$Scopes;LAlgolJudge$Rules;)V"⟩ : MethodName) prog_2_method_1_code 4 (none) :: gT) B.pre w (List.mem_cons_of_mem _ h)
  have hown : s.vm.findClass "AlgolJudge$Blocks" = some m.cls := findClass_of_methodNamed B.named
  have hlocks := B.notSynchronized
  have hin : meth.name = "<init>" := (name_of_methodNamed B.named B.method).1
  subst hsz
  have hD := hD0.self (sz := s.heap.size)
  generalize hAe : va_A [(h0, .inr (5, [.null, .null, .null, .null, .int 0]))] s.heap.size = A at hD hE ⊢
  have hA : ∀ q : Nat, s.heap.size ≤ q → A q := fun q h => by rw [← hAe]; exact Or.inr h
  have hS : va_S A s.heap s.heap [] := va_S.rf
  have hP : va_P D cls9 [(h0, .inr (5, [.null, .null, .null, .null, .int 0]))] s.heap := hP
  have hl := lv_entry ([.ref h0, .ref h1, .ref h2, .ref h3]) (n := 4) (Nat.le_of_ble_eq_true rfl)
  rw [lg_entry_eq]
  generalize (lg_sl ([.ref h0, .ref h1, .ref h2, .ref h3]) ++ List.replicate (4 - (lg_sl ([.ref h0, .ref h1, .ref h2, .ref h3])).length) Slot.unset).toArray = ls at hl ⊢
  have hl : lv_has ls 4 [(0, .ref h0), (1, .ref h1), (2, .ref h2), (3, .ref h3)] := hl
  refine lv_aload_n hx hb d_2_1_0 rfl (lv_at hl 0 rfl) ?_
  refine W.objInit hx hb hown (hts _ m_343) (hts _ m_142) (hts _ m_obj) rfl (by rw [hml]; exact hl.1) rfl d_2_1_1 (Nat.le_of_ble_eq_true rfl) (Nat.le_of_ble_eq_true rfl) ?_
  refine W.eq (g2 := F0 m 4 ls []) rfl ?_
  refine lv_aload_n hx hb d_2_1_4 rfl (lv_at hl 0 rfl) ?_
  refine lv_aload_n hx hb d_2_1_5 rfl (lv_at hl 1 rfl) ?_
  refine va_putF (D := D) (ci := 5) (v := .ref h1) (ty := .object "AlgolJudge$Tokens") (C := "AlgolJudge$Blocks") (T := T_Blocks) (N := 5) hx hb hts i_Blocks t_Blocks t_Blocks_ok n_Blocks hown hK hP hD hS 0 rfl rfl 0 (by decide +kernel) (hts _ m_360) (fun _ h9 => h9) rfl hin rfl (by decide +kernel) rfl rfl (Nat.le_of_ble_eq_true rfl) d_2_1_6 (fun H locs hP hD hS => ?_)
  have hP : va_P D cls9 [(h0, .inr (5, [.ref h1, .null, .null, .null, .int 0]))] H := hP
  have hD : va_D A [(h0, .inr (5, [.ref h1, .null, .null, .null, .int 0]))] := hD
  refine lv_aload_n hx hb d_2_1_9 rfl (lv_at hl 0 rfl) ?_
  refine lv_aload_n hx hb d_2_1_10 rfl (lv_at hl 2 rfl) ?_
  refine va_putF (D := D) (ci := 5) (v := .ref h2) (ty := .object "AlgolJudge$Scopes") (C := "AlgolJudge$Blocks") (T := T_Blocks) (N := 5) hx hb hts i_Blocks t_Blocks t_Blocks_ok n_Blocks hown hK hP hD hS 0 rfl rfl 1 (by decide +kernel) (hts _ m_361) (fun _ h9 => h9) rfl hin rfl (by decide +kernel) rfl rfl (Nat.le_of_ble_eq_true rfl) d_2_1_11 (fun H locs hP hD hS => ?_)
  have hP : va_P D cls9 [(h0, .inr (5, [.ref h1, .ref h2, .null, .null, .int 0]))] H := hP
  have hD : va_D A [(h0, .inr (5, [.ref h1, .ref h2, .null, .null, .int 0]))] := hD
  refine lv_aload_n hx hb d_2_1_14 rfl (lv_at hl 0 rfl) ?_
  refine lv_aload_n hx hb d_2_1_15 rfl (lv_at hl 3 rfl) ?_
  refine va_putF (D := D) (ci := 5) (v := .ref h3) (ty := .object "AlgolJudge$Rules") (C := "AlgolJudge$Blocks") (T := T_Blocks) (N := 5) hx hb hts i_Blocks t_Blocks t_Blocks_ok n_Blocks hown hK hP hD hS 0 rfl rfl 2 (by decide +kernel) (hts _ m_362) (fun _ h9 => h9) rfl hin rfl (by decide +kernel) rfl rfl (Nat.le_of_ble_eq_true rfl) d_2_1_16 (fun H locs hP hD hS => ?_)
  have hP : va_P D cls9 [(h0, .inr (5, [.ref h1, .ref h2, .ref h3, .null, .int 0]))] H := hP
  have hD : va_D A [(h0, .inr (5, [.ref h1, .ref h2, .ref h3, .null, .int 0]))] := hD
  refine lv_aload_n hx hb d_2_1_19 rfl (lv_at hl 0 rfl) ?_
  refine va_new (ci := 4) (fs := [.null, .null, .null]) (C := "AlgolJudge$Expressions") (T := T_Expr) (N := 3) hx hb hts i_Expr t_Expr t_Expr_ok hown (hts _ m_344) (hts _ m_345) (hts _ m_130) hK hP hD hS hA rfl df_Expr (Nat.le_of_ble_eq_true rfl) (Nat.le_of_ble_eq_true rfl) d_2_1_20 (fun q_1 H hP hD hS => ?_)
  have hP : va_P D cls9 [(h0, .inr (5, [.ref h1, .ref h2, .ref h3, .null, .int 0])), (q_1, .inr (4, [.null, .null, .null]))] H := hP
  have hD : va_D A [(h0, .inr (5, [.ref h1, .ref h2, .ref h3, .null, .int 0])), (q_1, .inr (4, [.null, .null, .null]))] := hD
  refine W.widen (k := 1) (n := 3) (Nat.le_of_ble_eq_true rfl) (Nat.le_of_ble_eq_true rfl) ?_
  refine lv_dup hx hb d_2_1_23 rfl ?_
  refine lv_aload_n hx hb d_2_1_24 rfl (lv_at hl 1 rfl) ?_
  refine lv_aload_n hx hb d_2_1_25 rfl (lv_at hl 2 rfl) ?_
  refine lv_aload_n hx hb d_2_1_26 rfl (lv_at hl 3 rfl) ?_
  have hPc := hP.sub (ws' := [(q_1, .inr (4, [.null, .null, .null]))]) [1] rfl
  have hDc := hD.sub (ws' := [(q_1, .inr (4, [.null, .null, .null]))]) [1] (by decide +kernel) rfl
  have hFc := va_free (wc := [(q_1, .inr (4, [.null, .null, .null]))]) hD hS hA [1] rfl
  refine va_callv (va_runI (As := [.ref h1, .ref h2, .ref h3]) (rest := [.ref q_1, .ref h0]) ⟨hx, hb, hml, hown, hts⟩ (c_Expressions_init_0 l D kI kJ kB kZ _ (q_1) (h1) (h2) (h3) ) (cwI 3 hts (gT_ws m_348) rfl rfl rfl (hts _ m_130) (hts _ m_346) (hts _ m_347) rfl (by decide +kernel) ⟨(Nat.le_of_ble_eq_true rfl), (Nat.le_of_ble_eq_true rfl)⟩) ⟨xBlind xOk_N, xAtN hK hPc hDc⟩ rfl rfl hl.1 rfl (lv_room (Nat.le_of_ble_eq_true rfl)) d_2_1_27 ⟨(Nat.le_of_ble_eq_true rfl), (Nat.le_of_ble_eq_true rfl)⟩) hS (fun q _ h => hFc q h) hFc (fun u t H1 locs ht hvm hw hB hz1 hk1 hS => ?_)
  obtain ⟨hP, hD⟩ := xJoin (wr := [(h0, .inr (5, [.ref h1, .ref h2, .ref h3, .null, .int 0]))]) (w1 := [(q_1, .inr (4, [.ref h1, .ref h2, .ref h3]))]) hP hD [1] [0] rfl rfl (by decide +kernel) (by decide +kernel) hk1 hFc ht hB
  generalize H1 = H at hP hS ⊢
  have hP : va_P D cls9 [(h0, .inr (5, [.ref h1, .ref h2, .ref h3, .null, .int 0])), (q_1, .inr (4, [.ref h1, .ref h2, .ref h3]))] H := hP
  have hD : va_D A [(h0, .inr (5, [.ref h1, .ref h2, .ref h3, .null, .int 0])), (q_1, .inr (4, [.ref h1, .ref h2, .ref h3]))] := hD
  refine va_putF (D := D) (ci := 5) (v := .ref q_1) (ty := .object "AlgolJudge$Expressions") (C := "AlgolJudge$Blocks") (T := T_Blocks) (N := 5) hx hb hts i_Blocks t_Blocks t_Blocks_ok n_Blocks hown hK hP hD hS 0 rfl rfl 3 (by decide +kernel) (hts _ m_363) (fun _ h9 => h9) rfl hin rfl (by decide +kernel) rfl rfl (Nat.le_of_ble_eq_true rfl) d_2_1_30 (fun H locs hP hD hS => ?_)
  have hP : va_P D cls9 [(h0, .inr (5, [.ref h1, .ref h2, .ref h3, .ref q_1, .int 0])), (q_1, .inr (4, [.ref h1, .ref h2, .ref h3]))] H := hP
  have hD : va_D A [(h0, .inr (5, [.ref h1, .ref h2, .ref h3, .ref q_1, .int 0])), (q_1, .inr (4, [.ref h1, .ref h2, .ref h3]))] := hD
  refine lv_aload_n hx hb d_2_1_33 rfl (lv_at hl 0 rfl) ?_
  refine lv_iconst (v := 0) hx hb d_2_1_34 (by decide +kernel) ?_
  refine va_put (D := D) (ci := 5) (v := .int 0) (ty := .int) (C := "AlgolJudge$Blocks") (T := T_Blocks) (N := 5) hx hb hts i_Blocks t_Blocks t_Blocks_ok n_Blocks hown hK hP hD hS 0 rfl rfl 4 (by decide +kernel) (hts _ m_364) (fun _ h9 => h9) rfl (by decide +kernel) rfl rfl (Nat.le_of_ble_eq_true rfl) d_2_1_35 (fun H locs hP hD hS => ?_)
  have hP : va_P D cls9 [(h0, .inr (5, [.ref h1, .ref h2, .ref h3, .ref q_1, .int 0])), (q_1, .inr (4, [.ref h1, .ref h2, .ref h3]))] H := hP
  have hD : va_D A [(h0, .inr (5, [.ref h1, .ref h2, .ref h3, .ref q_1, .int 0])), (q_1, .inr (4, [.ref h1, .ref h2, .ref h3]))] := hD
  have hP9 := hP.sub (ws' := [(h0, .inr (5, [.ref h1, .ref h2, .ref h3, .ref q_1, .int 0])), (q_1, .inr (4, [.ref h1, .ref h2, .ref h3]))]) [0, 1] rfl
  have hD9 := hD.sub (ws' := [(h0, .inr (5, [.ref h1, .ref h2, .ref h3, .ref q_1, .int 0])), (q_1, .inr (4, [.ref h1, .ref h2, .ref h3]))]) [0, 1] (by decide +kernel) rfl
  exact W.vret hx hb hr (fun t ht hW => ⟨⟨(), rfl, trivial, q_1, xEnd hK hP9 hD9 ht hW⟩, hS.F ht⟩) hS.2.2 d_2_1_38
