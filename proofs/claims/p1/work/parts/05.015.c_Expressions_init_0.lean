set_option maxHeartbeats 4000000 in
set_option maxRecDepth 100000 in
theorem c_Expressions_init_0 (l : Launch) (D : va_G) (kI kJ kB kZ : ClassId) (sz : Nat) (h0 : Nat) (h1 : Nat) (h2 : Nat) (h3 : Nat) : Met l (⟨"AlgolJudge$Expressions", "<init>", "(LAlgolJudge$Tokens;LAlgolJudge$Scopes;LAlgolJudge$Rules;)V"⟩ : MethodName) (Cond.code (⟨"AlgolJudge$Expressions", "<init>", "(LAlgolJudge$Tokens;LAlgolJudge$Scopes;LAlgolJudge$Rules;)V"⟩ : MethodName) prog_4_method_1_code 4 (none) :: gT) ({ frames := 1, cells := 0, slots := 0, locals := 12 }) (va_Pc [.ref h0, .ref h1, .ref h2, .ref h3] (xP D (xT kI kJ kB kZ) xN [(h0, .inr (4, [.null, .null, .null]))] sz)) (va_Qv (fun _ : Unit => True) (fun _ t => xQ D (xT kI kJ kB kZ) (va_A [(h0, .inr (4, [.null, .null, .null]))] sz) [(h0, .inr (4, [.ref h1, .ref h2, .ref h3]))] t) (va_A [(h0, .inr (4, [.null, .null, .null]))] sz)) 0 0 (va_A [(h0, .inr (4, [.null, .null, .null]))] sz) := by
  refine Met.ofW (cc := prog_4_method_1_code) (maxL := 4) (ret := none) (by decide +kernel) rfl ?_
  intro p e s m args below meth c s₁ B hml hv
  obtain ⟨rfl, hsz, hP, hK, hD0, hE⟩ := hv
  have hx := B.exec
  have hb := B.bytes
  have hr := B.returns
  have hts : ∀ w ∈ gT, w.before _ s = true := fun w h => atoms_spec (ws := Cond.code (⟨"AlgolJudge$Expressions", "<init>", "(LAlgolJudge$Tokens;LAlgolJudge$Scopes;LAlgolJudge$Rules;)V"⟩ : MethodName) prog_4_method_1_code 4 (none) :: gT) B.pre w (List.mem_cons_of_mem _ h)
  have hown : s.vm.findClass "AlgolJudge$Expressions" = some m.cls := findClass_of_methodNamed B.named
  have hlocks := B.notSynchronized
  have hin : meth.name = "<init>" := (name_of_methodNamed B.named B.method).1
  subst hsz
  have hD := hD0.self (sz := s.heap.size)
  generalize hAe : va_A [(h0, .inr (4, [.null, .null, .null]))] s.heap.size = A at hD hE ⊢
  have hA : ∀ q : Nat, s.heap.size ≤ q → A q := fun q h => by rw [← hAe]; exact Or.inr h
  have hS : va_S A s.heap s.heap [] := va_S.rf
  have hP : va_P D cls9 [(h0, .inr (4, [.null, .null, .null]))] s.heap := hP
  have hl := lv_entry ([.ref h0, .ref h1, .ref h2, .ref h3]) (n := 4) (Nat.le_of_ble_eq_true rfl)
  rw [lg_entry_eq]
  generalize (lg_sl ([.ref h0, .ref h1, .ref h2, .ref h3]) ++ List.replicate (4 - (lg_sl ([.ref h0, .ref h1, .ref h2, .ref h3])).length) Slot.unset).toArray = ls at hl ⊢
  have hl : lv_has ls 4 [(0, .ref h0), (1, .ref h1), (2, .ref h2), (3, .ref h3)] := hl
  refine lv_aload_n hx hb d_4_1_0 rfl (lv_at hl 0 rfl) ?_
  refine W.objInit hx hb hown (hts _ m_349) (hts _ m_142) (hts _ m_obj) rfl (by rw [hml]; exact hl.1) rfl d_4_1_1 (Nat.le_of_ble_eq_true rfl) (Nat.le_of_ble_eq_true rfl) ?_
  refine W.eq (g2 := F0 m 4 ls []) rfl ?_
  refine lv_aload_n hx hb d_4_1_4 rfl (lv_at hl 0 rfl) ?_
  refine lv_aload_n hx hb d_4_1_5 rfl (lv_at hl 1 rfl) ?_
  refine va_putF (D := D) (ci := 4) (v := .ref h1) (ty := .object "AlgolJudge$Tokens") (C := "AlgolJudge$Expressions") (T := T_Expr) (N := 3) hx hb hts i_Expr t_Expr t_Expr_ok n_Expr hown hK hP hD hS 0 rfl rfl 0 (by decide +kernel) (hts _ m_350) (fun _ h9 => h9) rfl hin rfl (by decide +kernel) rfl rfl (Nat.le_of_ble_eq_true rfl) d_4_1_6 (fun H locs hP hD hS => ?_)
  have hP : va_P D cls9 [(h0, .inr (4, [.ref h1, .null, .null]))] H := hP
  have hD : va_D A [(h0, .inr (4, [.ref h1, .null, .null]))] := hD
  refine lv_aload_n hx hb d_4_1_9 rfl (lv_at hl 0 rfl) ?_
  refine lv_aload_n hx hb d_4_1_10 rfl (lv_at hl 2 rfl) ?_
  refine va_putF (D := D) (ci := 4) (v := .ref h2) (ty := .object "AlgolJudge$Scopes") (C := "AlgolJudge$Expressions") (T := T_Expr) (N := 3) hx hb hts i_Expr t_Expr t_Expr_ok n_Expr hown hK hP hD hS 0 rfl rfl 1 (by decide +kernel) (hts _ m_351) (fun _ h9 => h9) rfl hin rfl (by decide +kernel) rfl rfl (Nat.le_of_ble_eq_true rfl) d_4_1_11 (fun H locs hP hD hS => ?_)
  have hP : va_P D cls9 [(h0, .inr (4, [.ref h1, .ref h2, .null]))] H := hP
  have hD : va_D A [(h0, .inr (4, [.ref h1, .ref h2, .null]))] := hD
  refine lv_aload_n hx hb d_4_1_14 rfl (lv_at hl 0 rfl) ?_
  refine lv_aload_n hx hb d_4_1_15 rfl (lv_at hl 3 rfl) ?_
  refine va_putF (D := D) (ci := 4) (v := .ref h3) (ty := .object "AlgolJudge$Rules") (C := "AlgolJudge$Expressions") (T := T_Expr) (N := 3) hx hb hts i_Expr t_Expr t_Expr_ok n_Expr hown hK hP hD hS 0 rfl rfl 2 (by decide +kernel) (hts _ m_352) (fun _ h9 => h9) rfl hin rfl (by decide +kernel) rfl rfl (Nat.le_of_ble_eq_true rfl) d_4_1_16 (fun H locs hP hD hS => ?_)
  have hP : va_P D cls9 [(h0, .inr (4, [.ref h1, .ref h2, .ref h3]))] H := hP
  have hD : va_D A [(h0, .inr (4, [.ref h1, .ref h2, .ref h3]))] := hD
  have hP9 := hP.sub (ws' := [(h0, .inr (4, [.ref h1, .ref h2, .ref h3]))]) [0] rfl
  have hD9 := hD.sub (ws' := [(h0, .inr (4, [.ref h1, .ref h2, .ref h3]))]) [0] (by decide +kernel) rfl
  exact W.vret hx hb hr (fun t ht hW => ⟨⟨(), rfl, trivial, xEnd hK hP9 hD9 ht hW⟩, hS.F ht⟩) hS.2.2 d_4_1_19
