set_option maxHeartbeats 4000000 in
set_option maxRecDepth 100000 in
theorem c_Tokens_init_0 (l : Launch) (D : va_G) (kI kJ kB kZ : ClassId) (sz : Nat) (h0 : Nat) (wA wV bA : Nat) : Met l (⟨"AlgolJudge$Tokens", "<init>", "()V"⟩ : MethodName) (Cond.code (⟨"AlgolJudge$Tokens", "<init>", "()V"⟩ : MethodName) prog_8_method_1_code 1 (none) :: gT) ({ frames := 5, cells := 4, slots := 9030, locals := 108 }) (va_Pc [.ref h0] (xP D (xT kI kJ kB kZ) (xE wA wV bA) [(h0, .inr (0, [.null, .null, .null, .null, .int 0, .int 0, .int 0, .int 0]))] sz)) (va_Qv (fun _ : Unit => True) (fun _ t => ∃ a0 : Nat, ∃ a1 : Nat, ∃ a2 : Nat, ∃ a3 : Nat, ∃ g0 : Nat → Int64, xQ D (xT kI kJ kB kZ) (va_A [(h0, .inr (0, [.null, .null, .null, .null, .int 0, .int 0, .int 0, .int 0]))] sz) [(a0, .inl (kI, 3001, .inl (fun _ => 0))), (a1, .inl (kI, 3001, .inl (fun _ => 0))), (a2, .inl (kJ, 3001, .inr (.inl (fun _ => 0)))), (h0, .inr (0, [.ref a0, .ref a1, .ref a2, .ref a3, .int 0, .int 0, .int 0, .int (-2)])), (a3, .inl (kJ, 27, .inr (.inl g0)))] t) (va_A [(h0, .inr (0, [.null, .null, .null, .null, .int 0, .int 0, .int 0, .int 0]))] sz)) 4 9030 (va_A [(h0, .inr (0, [.null, .null, .null, .null, .int 0, .int 0, .int 0, .int 0]))] sz) := by
  refine Met.ofW (cc := prog_8_method_1_code) (maxL := 1) (ret := none) (by decide +kernel) rfl ?_
  intro p e s m args below meth c s₁ B hml hv
  obtain ⟨rfl, hsz, hP, hK, hD0, hE⟩ := hv
  have hx := B.exec
  have hb := B.bytes
  have hr := B.returns
  have hts : ∀ w ∈ gT, w.before _ s = true := fun w h => atoms_spec (ws := Cond.code (⟨"AlgolJudge$Tokens", "<init>", "()V"⟩ : MethodName) prog_8_method_1_code 1 (none) :: gT) B.pre w (List.mem_cons_of_mem _ h)
  have hown : s.vm.findClass "AlgolJudge$Tokens" = some m.cls := findClass_of_methodNamed B.named
  have hlocks := B.notSynchronized
  have hin : meth.name = "<init>" := (name_of_methodNamed B.named B.method).1
  subst hsz
  have hD := hD0.self (sz := s.heap.size)
  generalize hAe : va_A [(h0, .inr (0, [.null, .null, .null, .null, .int 0, .int 0, .int 0, .int 0]))] s.heap.size = A at hD hE ⊢
  have hA : ∀ q : Nat, s.heap.size ≤ q → A q := fun q h => by rw [← hAe]; exact Or.inr h
  have hS : va_S A s.heap s.heap [] := va_S.rf
  have hP : va_P D cls9 [(h0, .inr (0, [.null, .null, .null, .null, .int 0, .int 0, .int 0, .int 0]))] s.heap := hP
  have hl := lv_entry ([.ref h0]) (n := 1) (Nat.le_of_ble_eq_true rfl)
  rw [lg_entry_eq]
  generalize (lg_sl ([.ref h0]) ++ List.replicate (1 - (lg_sl ([.ref h0])).length) Slot.unset).toArray = ls at hl ⊢
  have hl : lv_has ls 1 [(0, .ref h0)] := hl
  refine lv_aload_n hx hb d_8_1_0 rfl (lv_at hl 0 rfl) ?_
  refine W.objInit hx hb hown (hts _ m_149) (hts _ m_142) (hts _ m_obj) rfl (by rw [hml]; exact hl.1) rfl d_8_1_1 (Nat.le_of_ble_eq_true rfl) (Nat.le_of_ble_eq_true rfl) ?_
  refine W.eq (g2 := F0 m 4 ls []) rfl ?_
  refine lv_aload_n hx hb d_8_1_4 rfl (lv_at hl 0 rfl) ?_
  refine lv_sipush (v := 3001) hx hb d_8_1_5 (by decide +kernel) ?_
  refine xa_newa (atype := .int) (a0 := (3001, .inl (fun _ => 0))) (N' := 3001) hx hb (hts _ m_235) rfl (fun _ h9 => h9) hK 0 rfl hP hD hS hA (fun _ => rfl) (by decide +kernel) (by decide +kernel) (by decide +kernel) (Nat.le_of_ble_eq_true rfl) (Nat.le_of_ble_eq_true rfl) d_8_1_8 (fun q_1 H hP hD hS => ?_)
  have hP : va_P D cls9 [(h0, .inr (0, [.null, .null, .null, .null, .int 0, .int 0, .int 0, .int 0])), (q_1, .inl (kI, 3001, .inl (fun _ => 0)))] H := hP
  have hD : va_D A [(h0, .inr (0, [.null, .null, .null, .null, .int 0, .int 0, .int 0, .int 0])), (q_1, .inl (kI, 3001, .inl (fun _ => 0)))] := hD
  refine W.widen (k := 1) (n := 3001) (Nat.le_of_ble_eq_true rfl) (Nat.le_of_ble_eq_true rfl) ?_
  refine va_putF (D := D) (ci := 0) (v := .ref q_1) (ty := .array .int) (C := "AlgolJudge$Tokens") (T := T_Tokens) (N := 8) hx hb hts i_Tokens t_Tokens t_Tokens_ok n_Tokens hown hK hP hD hS 0 rfl rfl 0 (by decide +kernel) (hts _ m_210) (fun _ h9 => h9) rfl hin rfl (by decide +kernel) rfl rfl (Nat.le_of_ble_eq_true rfl) d_8_1_10 (fun H locs hP hD hS => ?_)
  have hP : va_P D cls9 [(h0, .inr (0, [.ref q_1, .null, .null, .null, .int 0, .int 0, .int 0, .int 0])), (q_1, .inl (kI, 3001, .inl (fun _ => 0)))] H := hP
  have hD : va_D A [(h0, .inr (0, [.ref q_1, .null, .null, .null, .int 0, .int 0, .int 0, .int 0])), (q_1, .inl (kI, 3001, .inl (fun _ => 0)))] := hD
  refine lv_aload_n hx hb d_8_1_13 rfl (lv_at hl 0 rfl) ?_
  refine lv_sipush (v := 3001) hx hb d_8_1_14 (by decide +kernel) ?_
  refine xa_newa (atype := .int) (a0 := (3001, .inl (fun _ => 0))) (N' := 3001) hx hb (hts _ m_235) rfl (fun _ h9 => h9) hK 0 rfl hP hD hS hA (fun _ => rfl) (by decide +kernel) (by decide +kernel) (by decide +kernel) (Nat.le_of_ble_eq_true rfl) (Nat.le_of_ble_eq_true rfl) d_8_1_17 (fun q_2 H hP hD hS => ?_)
  have hP : va_P D cls9 [(h0, .inr (0, [.ref q_1, .null, .null, .null, .int 0, .int 0, .int 0, .int 0])), (q_1, .inl (kI, 3001, .inl (fun _ => 0))), (q_2, .inl (kI, 3001, .inl (fun _ => 0)))] H := hP
  have hD : va_D A [(h0, .inr (0, [.ref q_1, .null, .null, .null, .int 0, .int 0, .int 0, .int 0])), (q_1, .inl (kI, 3001, .inl (fun _ => 0))), (q_2, .inl (kI, 3001, .inl (fun _ => 0)))] := hD
  refine W.widen (k := 2) (n := 6002) (Nat.le_of_ble_eq_true rfl) (Nat.le_of_ble_eq_true rfl) ?_
  refine va_putF (D := D) (ci := 0) (v := .ref q_2) (ty := .array .int) (C := "AlgolJudge$Tokens") (T := T_Tokens) (N := 8) hx hb hts i_Tokens t_Tokens t_Tokens_ok n_Tokens hown hK hP hD hS 0 rfl rfl 1 (by decide +kernel) (hts _ m_211) (fun _ h9 => h9) rfl hin rfl (by decide +kernel) rfl rfl (Nat.le_of_ble_eq_true rfl) d_8_1_19 (fun H locs hP hD hS => ?_)
  have hP : va_P D cls9 [(h0, .inr (0, [.ref q_1, .ref q_2, .null, .null, .int 0, .int 0, .int 0, .int 0])), (q_1, .inl (kI, 3001, .inl (fun _ => 0))), (q_2, .inl (kI, 3001, .inl (fun _ => 0)))] H := hP
  have hD : va_D A [(h0, .inr (0, [.ref q_1, .ref q_2, .null, .null, .int 0, .int 0, .int 0, .int 0])), (q_1, .inl (kI, 3001, .inl (fun _ => 0))), (q_2, .inl (kI, 3001, .inl (fun _ => 0)))] := hD
  refine lv_aload_n hx hb d_8_1_22 rfl (lv_at hl 0 rfl) ?_
  refine lv_sipush (v := 3001) hx hb d_8_1_23 (by decide +kernel) ?_
  refine xa_newa (atype := .long) (a0 := (3001, .inr (.inl (fun _ => 0)))) (N' := 3001) hx hb (hts _ m_236) rfl (fun _ h9 => h9) hK 1 rfl hP hD hS hA (fun _ => rfl) (by decide +kernel) (by decide +kernel) (by decide +kernel) (Nat.le_of_ble_eq_true rfl) (Nat.le_of_ble_eq_true rfl) d_8_1_26 (fun q_3 H hP hD hS => ?_)
  have hP : va_P D cls9 [(h0, .inr (0, [.ref q_1, .ref q_2, .null, .null, .int 0, .int 0, .int 0, .int 0])), (q_1, .inl (kI, 3001, .inl (fun _ => 0))), (q_2, .inl (kI, 3001, .inl (fun _ => 0))), (q_3, .inl (kJ, 3001, .inr (.inl (fun _ => 0))))] H := hP
  have hD : va_D A [(h0, .inr (0, [.ref q_1, .ref q_2, .null, .null, .int 0, .int 0, .int 0, .int 0])), (q_1, .inl (kI, 3001, .inl (fun _ => 0))), (q_2, .inl (kI, 3001, .inl (fun _ => 0))), (q_3, .inl (kJ, 3001, .inr (.inl (fun _ => 0))))] := hD
  refine W.widen (k := 3) (n := 9003) (Nat.le_of_ble_eq_true rfl) (Nat.le_of_ble_eq_true rfl) ?_
  refine va_putF (D := D) (ci := 0) (v := .ref q_3) (ty := .array .long) (C := "AlgolJudge$Tokens") (T := T_Tokens) (N := 8) hx hb hts i_Tokens t_Tokens t_Tokens_ok n_Tokens hown hK hP hD hS 0 rfl rfl 2 (by decide +kernel) (hts _ m_212) (fun _ h9 => h9) rfl hin rfl (by decide +kernel) rfl rfl (Nat.le_of_ble_eq_true rfl) d_8_1_28 (fun H locs hP hD hS => ?_)
  have hP : va_P D cls9 [(h0, .inr (0, [.ref q_1, .ref q_2, .ref q_3, .null, .int 0, .int 0, .int 0, .int 0])), (q_1, .inl (kI, 3001, .inl (fun _ => 0))), (q_2, .inl (kI, 3001, .inl (fun _ => 0))), (q_3, .inl (kJ, 3001, .inr (.inl (fun _ => 0))))] H := hP
  have hD : va_D A [(h0, .inr (0, [.ref q_1, .ref q_2, .ref q_3, .null, .int 0, .int 0, .int 0, .int 0])), (q_1, .inl (kI, 3001, .inl (fun _ => 0))), (q_2, .inl (kI, 3001, .inl (fun _ => 0))), (q_3, .inl (kJ, 3001, .inr (.inl (fun _ => 0))))] := hD
  refine lv_aload_n hx hb d_8_1_31 rfl (lv_at hl 0 rfl) ?_
  refine lv_bipush (v := 27) hx hb d_8_1_32 (by decide +kernel) ?_
  refine xa_newa (atype := .long) (a0 := (27, .inr (.inl (fun _ => 0)))) (N' := 27) hx hb (hts _ m_236) rfl (fun _ h9 => h9) hK 1 rfl hP hD hS hA (fun _ => rfl) (by decide +kernel) (by decide +kernel) (by decide +kernel) (Nat.le_of_ble_eq_true rfl) (Nat.le_of_ble_eq_true rfl) d_8_1_34 (fun q_4 H hP hD hS => ?_)
  have hP : va_P D cls9 [(h0, .inr (0, [.ref q_1, .ref q_2, .ref q_3, .null, .int 0, .int 0, .int 0, .int 0])), (q_1, .inl (kI, 3001, .inl (fun _ => 0))), (q_2, .inl (kI, 3001, .inl (fun _ => 0))), (q_3, .inl (kJ, 3001, .inr (.inl (fun _ => 0)))), (q_4, .inl (kJ, 27, .inr (.inl (fun _ => 0))))] H := hP
  have hD : va_D A [(h0, .inr (0, [.ref q_1, .ref q_2, .ref q_3, .null, .int 0, .int 0, .int 0, .int 0])), (q_1, .inl (kI, 3001, .inl (fun _ => 0))), (q_2, .inl (kI, 3001, .inl (fun _ => 0))), (q_3, .inl (kJ, 3001, .inr (.inl (fun _ => 0)))), (q_4, .inl (kJ, 27, .inr (.inl (fun _ => 0))))] := hD
  refine W.widen (k := 4) (n := 9030) (Nat.le_of_ble_eq_true rfl) (Nat.le_of_ble_eq_true rfl) ?_
  refine va_putF (D := D) (ci := 0) (v := .ref q_4) (ty := .array .long) (C := "AlgolJudge$Tokens") (T := T_Tokens) (N := 8) hx hb hts i_Tokens t_Tokens t_Tokens_ok n_Tokens hown hK hP hD hS 0 rfl rfl 3 (by decide +kernel) (hts _ m_213) (fun _ h9 => h9) rfl hin rfl (by decide +kernel) rfl rfl (Nat.le_of_ble_eq_true rfl) d_8_1_36 (fun H locs hP hD hS => ?_)
  have hP : va_P D cls9 [(h0, .inr (0, [.ref q_1, .ref q_2, .ref q_3, .ref q_4, .int 0, .int 0, .int 0, .int 0])), (q_1, .inl (kI, 3001, .inl (fun _ => 0))), (q_2, .inl (kI, 3001, .inl (fun _ => 0))), (q_3, .inl (kJ, 3001, .inr (.inl (fun _ => 0)))), (q_4, .inl (kJ, 27, .inr (.inl (fun _ => 0))))] H := hP
  have hD : va_D A [(h0, .inr (0, [.ref q_1, .ref q_2, .ref q_3, .ref q_4, .int 0, .int 0, .int 0, .int 0])), (q_1, .inl (kI, 3001, .inl (fun _ => 0))), (q_2, .inl (kI, 3001, .inl (fun _ => 0))), (q_3, .inl (kJ, 3001, .inr (.inl (fun _ => 0)))), (q_4, .inl (kJ, 27, .inr (.inl (fun _ => 0))))] := hD
  refine lv_aload_n hx hb d_8_1_39 rfl (lv_at hl 0 rfl) ?_
  refine lv_iconst (v := 0) hx hb d_8_1_40 (by decide +kernel) ?_
  refine va_put (D := D) (ci := 0) (v := .int 0) (ty := .int) (C := "AlgolJudge$Tokens") (T := T_Tokens) (N := 8) hx hb hts i_Tokens t_Tokens t_Tokens_ok n_Tokens hown hK hP hD hS 0 rfl rfl 4 (by decide +kernel) (hts _ m_214) (fun _ h9 => h9) rfl (by decide +kernel) rfl rfl (Nat.le_of_ble_eq_true rfl) d_8_1_41 (fun H locs hP hD hS => ?_)
  have hP : va_P D cls9 [(h0, .inr (0, [.ref q_1, .ref q_2, .ref q_3, .ref q_4, .int 0, .int 0, .int 0, .int 0])), (q_1, .inl (kI, 3001, .inl (fun _ => 0))), (q_2, .inl (kI, 3001, .inl (fun _ => 0))), (q_3, .inl (kJ, 3001, .inr (.inl (fun _ => 0)))), (q_4, .inl (kJ, 27, .inr (.inl (fun _ => 0))))] H := hP
  have hD : va_D A [(h0, .inr (0, [.ref q_1, .ref q_2, .ref q_3, .ref q_4, .int 0, .int 0, .int 0, .int 0])), (q_1, .inl (kI, 3001, .inl (fun _ => 0))), (q_2, .inl (kI, 3001, .inl (fun _ => 0))), (q_3, .inl (kJ, 3001, .inr (.inl (fun _ => 0)))), (q_4, .inl (kJ, 27, .inr (.inl (fun _ => 0))))] := hD
  refine lv_aload_n hx hb d_8_1_44 rfl (lv_at hl 0 rfl) ?_
  refine lv_iconst (v := 0) hx hb d_8_1_45 (by decide +kernel) ?_
  refine va_put (D := D) (ci := 0) (v := .int 0) (ty := .int) (C := "AlgolJudge$Tokens") (T := T_Tokens) (N := 8) hx hb hts i_Tokens t_Tokens t_Tokens_ok n_Tokens hown hK hP hD hS 0 rfl rfl 5 (by decide +kernel) (hts _ m_215) (fun _ h9 => h9) rfl (by decide +kernel) rfl rfl (Nat.le_of_ble_eq_true rfl) d_8_1_46 (fun H locs hP hD hS => ?_)
  have hP : va_P D cls9 [(h0, .inr (0, [.ref q_1, .ref q_2, .ref q_3, .ref q_4, .int 0, .int 0, .int 0, .int 0])), (q_1, .inl (kI, 3001, .inl (fun _ => 0))), (q_2, .inl (kI, 3001, .inl (fun _ => 0))), (q_3, .inl (kJ, 3001, .inr (.inl (fun _ => 0)))), (q_4, .inl (kJ, 27, .inr (.inl (fun _ => 0))))] H := hP
  have hD : va_D A [(h0, .inr (0, [.ref q_1, .ref q_2, .ref q_3, .ref q_4, .int 0, .int 0, .int 0, .int 0])), (q_1, .inl (kI, 3001, .inl (fun _ => 0))), (q_2, .inl (kI, 3001, .inl (fun _ => 0))), (q_3, .inl (kJ, 3001, .inr (.inl (fun _ => 0)))), (q_4, .inl (kJ, 27, .inr (.inl (fun _ => 0))))] := hD
  refine lv_aload_n hx hb d_8_1_49 rfl (lv_at hl 0 rfl) ?_
  refine lv_iconst (v := 0) hx hb d_8_1_50 (by decide +kernel) ?_
  refine va_put (D := D) (ci := 0) (v := .int 0) (ty := .int) (C := "AlgolJudge$Tokens") (T := T_Tokens) (N := 8) hx hb hts i_Tokens t_Tokens t_Tokens_ok n_Tokens hown hK hP hD hS 0 rfl rfl 6 (by decide +kernel) (hts _ m_216) (fun _ h9 => h9) rfl (by decide +kernel) rfl rfl (Nat.le_of_ble_eq_true rfl) d_8_1_51 (fun H locs hP hD hS => ?_)
  have hP : va_P D cls9 [(h0, .inr (0, [.ref q_1, .ref q_2, .ref q_3, .ref q_4, .int 0, .int 0, .int 0, .int 0])), (q_1, .inl (kI, 3001, .inl (fun _ => 0))), (q_2, .inl (kI, 3001, .inl (fun _ => 0))), (q_3, .inl (kJ, 3001, .inr (.inl (fun _ => 0)))), (q_4, .inl (kJ, 27, .inr (.inl (fun _ => 0))))] H := hP
  have hD : va_D A [(h0, .inr (0, [.ref q_1, .ref q_2, .ref q_3, .ref q_4, .int 0, .int 0, .int 0, .int 0])), (q_1, .inl (kI, 3001, .inl (fun _ => 0))), (q_2, .inl (kI, 3001, .inl (fun _ => 0))), (q_3, .inl (kJ, 3001, .inr (.inl (fun _ => 0)))), (q_4, .inl (kJ, 27, .inr (.inl (fun _ => 0))))] := hD
  refine lv_aload_n hx hb d_8_1_54 rfl (lv_at hl 0 rfl) ?_
  refine lv_bipush (v := (-2)) hx hb d_8_1_55 (by decide +kernel) ?_
  refine va_put (D := D) (ci := 0) (v := .int (-2)) (ty := .int) (C := "AlgolJudge$Tokens") (T := T_Tokens) (N := 8) hx hb hts i_Tokens t_Tokens t_Tokens_ok n_Tokens hown hK hP hD hS 0 rfl rfl 7 (by decide +kernel) (hts _ m_217) (fun _ h9 => h9) rfl (by decide +kernel) rfl rfl (Nat.le_of_ble_eq_true rfl) d_8_1_57 (fun H locs hP hD hS => ?_)
  have hP : va_P D cls9 [(h0, .inr (0, [.ref q_1, .ref q_2, .ref q_3, .ref q_4, .int 0, .int 0, .int 0, .int (-2)])), (q_1, .inl (kI, 3001, .inl (fun _ => 0))), (q_2, .inl (kI, 3001, .inl (fun _ => 0))), (q_3, .inl (kJ, 3001, .inr (.inl (fun _ => 0)))), (q_4, .inl (kJ, 27, .inr (.inl (fun _ => 0))))] H := hP
  have hD : va_D A [(h0, .inr (0, [.ref q_1, .ref q_2, .ref q_3, .ref q_4, .int 0, .int 0, .int 0, .int (-2)])), (q_1, .inl (kI, 3001, .inl (fun _ => 0))), (q_2, .inl (kI, 3001, .inl (fun _ => 0))), (q_3, .inl (kJ, 3001, .inr (.inl (fun _ => 0)))), (q_4, .inl (kJ, 27, .inr (.inl (fun _ => 0))))] := hD
  refine lv_aload_n hx hb d_8_1_60 rfl (lv_at hl 0 rfl) ?_
  have hPc := hP.sub (ws' := [(h0, .inr (0, [.ref q_1, .ref q_2, .ref q_3, .ref q_4, .int 0, .int 0, .int 0, .int (-2)])), (q_4, .inl (kJ, 27, .inr (.inl (fun _ => 0))))]) [0, 4] rfl
  have hDc := hD.sub (ws' := [(h0, .inr (0, [.ref q_1, .ref q_2, .ref q_3, .ref q_4, .int 0, .int 0, .int 0, .int (-2)])), (q_4, .inl (kJ, 27, .inr (.inl (fun _ => 0))))]) [0, 4] (by decide +kernel) rfl
  have hFc := va_free (wc := [(h0, .inr (0, [.ref q_1, .ref q_2, .ref q_3, .ref q_4, .int 0, .int 0, .int 0, .int (-2)])), (q_4, .inl (kJ, 27, .inr (.inl (fun _ => 0))))]) hD hS hA [0, 4] rfl
  refine va_callv (va_runV (As := []) (rest := []) ⟨hx, hb, hml, hown, hts⟩ (c_Tokens_listWords_0 l D kI kJ kB kZ _ (h0) (q_1) (q_2) (q_3) (q_4) wA wV bA ) (cwV 0 hts (gT_V m_150 m_152 m_0 m_121 (gT_ws m_153)) rfl rfl rfl (by decide +kernel) ⟨(Nat.le_of_ble_eq_true rfl), (Nat.le_of_ble_eq_true rfl)⟩) ⟨xBlind (xOk_E wA wV bA), va_recv hK hP (ci := 0) (q0 := 0) rfl rfl, xAt (xOk_E wA wV bA) hK hPc hDc hS hFc hE⟩ rfl rfl hl.1 rfl (lv_room (Nat.le_of_ble_eq_true rfl)) d_8_1_61 ⟨(Nat.le_of_ble_eq_true rfl), (Nat.le_of_ble_eq_true rfl)⟩) hS (fun q _ h => hFc q h) hFc (fun u t H1 locs ht hvm hw hB hz1 hk1 hS => ?_)
  obtain ⟨g_6, hB⟩ := hB
  obtain ⟨hP, hD⟩ := xJoin (wr := [(q_1, .inl (kI, 3001, .inl (fun _ => 0))), (q_2, .inl (kI, 3001, .inl (fun _ => 0))), (q_3, .inl (kJ, 3001, .inr (.inl (fun _ => 0))))]) (w1 := [(h0, .inr (0, [.ref q_1, .ref q_2, .ref q_3, .ref q_4, .int 0, .int 0, .int 0, .int (-2)])), (q_4, .inl (kJ, 27, .inr (.inl g_6)))]) hP hD [0, 4] [1, 2, 3] rfl rfl (by decide +kernel) (by decide +kernel) hk1 hFc ht hB
  generalize H1 = H at hP hS ⊢
  have hP : va_P D cls9 [(q_1, .inl (kI, 3001, .inl (fun _ => 0))), (q_2, .inl (kI, 3001, .inl (fun _ => 0))), (q_3, .inl (kJ, 3001, .inr (.inl (fun _ => 0)))), (h0, .inr (0, [.ref q_1, .ref q_2, .ref q_3, .ref q_4, .int 0, .int 0, .int 0, .int (-2)])), (q_4, .inl (kJ, 27, .inr (.inl g_6)))] H := hP
  have hD : va_D A [(q_1, .inl (kI, 3001, .inl (fun _ => 0))), (q_2, .inl (kI, 3001, .inl (fun _ => 0))), (q_3, .inl (kJ, 3001, .inr (.inl (fun _ => 0)))), (h0, .inr (0, [.ref q_1, .ref q_2, .ref q_3, .ref q_4, .int 0, .int 0, .int 0, .int (-2)])), (q_4, .inl (kJ, 27, .inr (.inl g_6)))] := hD
  have hP9 := hP.sub (ws' := [(q_1, .inl (kI, 3001, .inl (fun _ => 0))), (q_2, .inl (kI, 3001, .inl (fun _ => 0))), (q_3, .inl (kJ, 3001, .inr (.inl (fun _ => 0)))), (h0, .inr (0, [.ref q_1, .ref q_2, .ref q_3, .ref q_4, .int 0, .int 0, .int 0, .int (-2)])), (q_4, .inl (kJ, 27, .inr (.inl g_6)))]) [0, 1, 2, 3, 4] rfl
  have hD9 := hD.sub (ws' := [(q_1, .inl (kI, 3001, .inl (fun _ => 0))), (q_2, .inl (kI, 3001, .inl (fun _ => 0))), (q_3, .inl (kJ, 3001, .inr (.inl (fun _ => 0)))), (h0, .inr (0, [.ref q_1, .ref q_2, .ref q_3, .ref q_4, .int 0, .int 0, .int 0, .int (-2)])), (q_4, .inl (kJ, 27, .inr (.inl g_6)))]) [0, 1, 2, 3, 4] (by decide +kernel) rfl
  exact W.vret hx hb hr (fun t ht hW => ⟨⟨(), rfl, trivial, q_1, q_2, q_3, q_4, _, xEnd hK hP9 hD9 ht hW⟩, hS.F ht⟩) hS.2.2 d_8_1_64
