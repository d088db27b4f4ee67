set_option maxHeartbeats 8000000 in
set_option maxRecDepth 100000 in
theorem g_Tokens_deepen (l : Launch) (D : va_G) (kI kJ kB kZ : ClassId) (sz : Nat) (h2 : Nat) (h9 : Nat) (h10 : Nat) (h11 : Nat) (h12 : Nat) (tc : Int32) (ta : Int32) (td : Int32) (tf : Int32) (f9 : Nat → Int32) (f10 : Nat → Int32) (f11 : Nat → Int64) (f12 : Nat → Int64) (p1 : Int32) (hf_T1 : 1 ≤ tc.toInt) (hf_T2 : tc.toInt ≤ 3001) (hf_T3 : 0 ≤ ta.toInt) (hf_T4 : ta.toInt < tc.toInt) (hf_T5 : tf.toInt = -2 → 0 ≤ td.toInt ∧ td.toInt ≤ 20) (hf_T6 : ∀ j : Nat, 0 ≤ (f10 j).toInt) : Met l (⟨"AlgolJudge$Tokens", "deepen", "(I)V"⟩ : MethodName) (Cond.code (⟨"AlgolJudge$Tokens", "deepen", "(I)V"⟩ : MethodName) prog_8_method_26_code 2 (none) :: gT) ({ frames := 2, cells := 0, slots := 0, locals := 41 }) (va_Pc [.ref h2, .int p1] (xP D (xT kI kJ kB kZ) xN [(h2, .inr (0, [.ref h9, .ref h10, .ref h11, .ref h12, .int tc, .int ta, .int td, .int tf])), (h9, .inl (kI, 3001, .inl f9)), (h10, .inl (kI, 3001, .inl f10)), (h11, .inl (kJ, 3001, .inr (.inl f11))), (h12, .inl (kJ, 27, .inr (.inl f12)))] sz)) (va_Qv (fun _ : Unit => True) (fun _ t => ∃ ta' : Int32, ∃ td' : Int32, ∃ tf' : Int32, (0 ≤ ta'.toInt) ∧ (ta'.toInt < tc.toInt) ∧ (tf'.toInt = -2 → 0 ≤ td'.toInt ∧ td'.toInt ≤ 20) ∧ ((tf'.toInt = -2 → tf.toInt = -2 ∧ td'.toInt = td.toInt + 1)) ∧ xQ D (xT kI kJ kB kZ) (va_A [(h2, .inr (0, [.ref h9, .ref h10, .ref h11, .ref h12, .int tc, .int ta, .int td, .int tf])), (h9, .inl (kI, 3001, .inl f9)), (h10, .inl (kI, 3001, .inl f10)), (h11, .inl (kJ, 3001, .inr (.inl f11))), (h12, .inl (kJ, 27, .inr (.inl f12)))] sz) [(h2, .inr (0, [.ref h9, .ref h10, .ref h11, .ref h12, .int tc, .int ta', .int td', .int tf'])), (h9, .inl (kI, 3001, .inl f9)), (h10, .inl (kI, 3001, .inl f10)), (h11, .inl (kJ, 3001, .inr (.inl f11))), (h12, .inl (kJ, 27, .inr (.inl f12)))] t) (va_A [(h2, .inr (0, [.ref h9, .ref h10, .ref h11, .ref h12, .int tc, .int ta, .int td, .int tf])), (h9, .inl (kI, 3001, .inl f9)), (h10, .inl (kI, 3001, .inl f10)), (h11, .inl (kJ, 3001, .inr (.inl f11))), (h12, .inl (kJ, 27, .inr (.inl f12)))] sz)) 0 0 (va_A [(h2, .inr (0, [.ref h9, .ref h10, .ref h11, .ref h12, .int tc, .int ta, .int td, .int tf])), (h9, .inl (kI, 3001, .inl f9)), (h10, .inl (kI, 3001, .inl f10)), (h11, .inl (kJ, 3001, .inr (.inl f11))), (h12, .inl (kJ, 27, .inr (.inl f12)))] sz) := by
  refine Met.ofW (cc := prog_8_method_26_code) (maxL := 2) (ret := none) (by decide +kernel) rfl ?_
  intro p e s m args below meth c s₁ B hml hv
  obtain ⟨rfl, hsz, hP, hK, hD0, hE⟩ := hv
  have hx := B.exec
  have hb := B.bytes
  have hr := B.returns
  have hts : ∀ w ∈ gT, w.before _ s = true := fun w h => atoms_spec (ws := Cond.code (⟨"AlgolJudge$Tokens", "deepen", "(I)V"⟩ : MethodName) prog_8_method_26_code 2 (none) :: gT) B.pre w (List.mem_cons_of_mem _ h)
  have hown : s.vm.findClass "AlgolJudge$Tokens" = some m.cls := findClass_of_methodNamed B.named
  have hlocks := B.notSynchronized
  subst hsz
  have hD := hD0.self (sz := s.heap.size)
  generalize hAe : va_A [(h2, .inr (0, [.ref h9, .ref h10, .ref h11, .ref h12, .int tc, .int ta, .int td, .int tf])), (h9, .inl (kI, 3001, .inl f9)), (h10, .inl (kI, 3001, .inl f10)), (h11, .inl (kJ, 3001, .inr (.inl f11))), (h12, .inl (kJ, 27, .inr (.inl f12)))] s.heap.size = A at hD hE ⊢
  have hA : ∀ q : Nat, s.heap.size ≤ q → A q := fun q h => by rw [← hAe]; exact Or.inr h
  have hS : va_S A s.heap s.heap [] := va_S.rf
  have hP : va_P D cls9 [(h2, .inr (0, [.ref h9, .ref h10, .ref h11, .ref h12, .int tc, .int ta, .int td, .int tf])), (h9, .inl (kI, 3001, .inl f9)), (h10, .inl (kI, 3001, .inl f10)), (h11, .inl (kJ, 3001, .inr (.inl f11))), (h12, .inl (kJ, 27, .inr (.inl f12)))] s.heap := hP
  have hl := lv_entry ([.ref h2, .int p1]) (n := 2) (Nat.le_of_ble_eq_true rfl)
  rw [lg_entry_eq]
  generalize (lg_sl ([.ref h2, .int p1]) ++ List.replicate (2 - (lg_sl ([.ref h2, .int p1])).length) Slot.unset).toArray = ls at hl ⊢
  have hl : lv_has ls 2 [(0, .ref h2), (1, .int p1)] := hl
  refine lv_aload_n hx hb d_8_26_0 rfl (lv_at hl 0 rfl) ?_
  refine va_get (D := D) (ci := 0) (v := .int td) (C := "AlgolJudge$Tokens") (T := T_Tokens) (N := 8) hx hb hts i_Tokens hown hK hP 0 rfl rfl 6 (by decide +kernel) (hts _ m_216) (fun _ h9 => h9) rfl d_8_26_1 ?_
  refine lv_bipush (v := 20) hx hb d_8_26_4 (by decide +kernel) ?_
  refine lv_icmp_lt (tgt := 13) hx hb d_8_26_6 (by decide +kernel) (fun c_1 => ?_) (fun c_1 => ?_)
  · skip
    have tc_1 : td.toInt < 20 := Int32.lt_iff_toInt_lt.mp c_1
    refine lv_aload_n hx hb d_8_26_13 rfl (lv_at hl 0 rfl) ?_
    refine lv_iload_n hx hb d_8_26_14 rfl (lv_at hl 1 rfl) ?_
    have hPc := hP.sub (ws' := [(h2, .inr (0, [.ref h9, .ref h10, .ref h11, .ref h12, .int tc, .int ta, .int td, .int tf])), (h9, .inl (kI, 3001, .inl f9)), (h10, .inl (kI, 3001, .inl f10)), (h11, .inl (kJ, 3001, .inr (.inl f11))), (h12, .inl (kJ, 27, .inr (.inl f12)))]) [0, 1, 2, 3, 4] rfl
    have hDc := hD.sub (ws' := [(h2, .inr (0, [.ref h9, .ref h10, .ref h11, .ref h12, .int tc, .int ta, .int td, .int tf])), (h9, .inl (kI, 3001, .inl f9)), (h10, .inl (kI, 3001, .inl f10)), (h11, .inl (kJ, 3001, .inr (.inl f11))), (h12, .inl (kJ, 27, .inr (.inl f12)))]) [0, 1, 2, 3, 4] (by decide) rfl
    have hFc := va_free (wc := [(h2, .inr (0, [.ref h9, .ref h10, .ref h11, .ref h12, .int tc, .int ta, .int td, .int tf])), (h9, .inl (kI, 3001, .inl f9)), (h10, .inl (kI, 3001, .inl f10)), (h11, .inl (kJ, 3001, .inr (.inl f11))), (h12, .inl (kJ, 27, .inr (.inl f12)))]) hD hS hA [0, 1, 2, 3, 4] rfl
    refine va_callv (va_runV (As := [.int p1]) (rest := []) ⟨hx, hb, hml, hown, hts⟩ (g_Tokens_take l D kI kJ kB kZ _ (h2) (h9) (h10) (h11) (h12) (tc) (ta) (td) (tf) (f9) (f10) (f11) (f12) (p1) (by first | assumption | omega) (by first | assumption | omega) (by first | assumption | omega) (by first | assumption | omega) (by first | assumption | omega) (by first | assumption | exact zpl (by assumption) (by omega))) (cwV 1 hts (gT_V m_583 m_584 m_585 m_121 (gT_ws m_586)) rfl rfl rfl (by decide +kernel) ⟨(Nat.le_of_ble_eq_true rfl), (Nat.le_of_ble_eq_true rfl)⟩) ⟨xBlind xOk_N, va_recv hK hP (ci := 0) (q0 := 0) rfl rfl, xAtN hK hPc hDc⟩ rfl rfl hl.1 rfl (lv_room (Nat.le_of_ble_eq_true rfl)) d_8_26_15 ⟨(Nat.le_of_ble_eq_true rfl), (Nat.le_of_ble_eq_true rfl)⟩) hS (fun q _ h => hFc q h) hFc (fun u t H1 locs ht hvm hw_3 hB hz1 hk1 hS => ?_)
    clear hz1
    obtain ⟨x_4, x_5, hb_6, hb_7, hb_8, hb_9, hB⟩ := hB
    obtain ⟨hP, hD⟩ := xJoin (wr := []) (w1 := [(h2, .inr (0, [.ref h9, .ref h10, .ref h11, .ref h12, .int tc, .int x_5, .int td, .int x_4])), (h9, .inl (kI, 3001, .inl f9)), (h10, .inl (kI, 3001, .inl f10)), (h11, .inl (kJ, 3001, .inr (.inl f11))), (h12, .inl (kJ, 27, .inr (.inl f12)))]) hP hD [0, 1, 2, 3, 4] [] rfl rfl (by decide) (by decide) hk1 hFc ht hB
    generalize H1 = H at hP hS ⊢
    have hP : va_P D cls9 [(h2, .inr (0, [.ref h9, .ref h10, .ref h11, .ref h12, .int tc, .int x_5, .int td, .int x_4])), (h9, .inl (kI, 3001, .inl f9)), (h10, .inl (kI, 3001, .inl f10)), (h11, .inl (kJ, 3001, .inr (.inl f11))), (h12, .inl (kJ, 27, .inr (.inl f12)))] H := hP
    have hD : va_D A [(h2, .inr (0, [.ref h9, .ref h10, .ref h11, .ref h12, .int tc, .int x_5, .int td, .int x_4])), (h9, .inl (kI, 3001, .inl f9)), (h10, .inl (kI, 3001, .inl f10)), (h11, .inl (kJ, 3001, .inr (.inl f11))), (h12, .inl (kJ, 27, .inr (.inl f12)))] := hD
    refine lv_aload_n hx hb d_8_26_18 rfl (lv_at hl 0 rfl) ?_
    refine lv_dup hx hb d_8_26_19 rfl ?_
    refine va_get (D := D) (ci := 0) (v := .int td) (C := "AlgolJudge$Tokens") (T := T_Tokens) (N := 8) hx hb hts i_Tokens hown hK hP 0 rfl rfl 6 (by decide +kernel) (hts _ m_216) (fun _ h9 => h9) rfl d_8_26_20 ?_
    refine lv_iconst (v := 1) hx hb d_8_26_23 (by decide +kernel) ?_
    refine lv_iadd hx hb d_8_26_24 ?_
    refine lv_topi (fun y_10 ey_10 => ?_)
    have ty_10 : (x_4.toInt = -2) → y_10.toInt = td.toInt + 1 := fun h9 => by rw [ey_10]; exact zaddc (by decide +kernel) (by omega) (by omega)
    refine va_put (D := D) (ci := 0) (v := .int y_10) (ty := .int) (C := "AlgolJudge$Tokens") (T := T_Tokens) (N := 8) hx hb hts i_Tokens t_Tokens t_Tokens_ok n_Tokens hown hK hP hD hS 0 rfl rfl 6 (by decide +kernel) (hts _ m_216) (fun _ h9 => h9) rfl (by decide +kernel) rfl rfl (Nat.le_of_ble_eq_true rfl) d_8_26_25 (fun H locs hP hD hS => ?_)
    have hP : va_P D cls9 [(h2, .inr (0, [.ref h9, .ref h10, .ref h11, .ref h12, .int tc, .int x_5, .int y_10, .int x_4])), (h9, .inl (kI, 3001, .inl f9)), (h10, .inl (kI, 3001, .inl f10)), (h11, .inl (kJ, 3001, .inr (.inl f11))), (h12, .inl (kJ, 27, .inr (.inl f12)))] H := hP
    have hD : va_D A [(h2, .inr (0, [.ref h9, .ref h10, .ref h11, .ref h12, .int tc, .int x_5, .int y_10, .int x_4])), (h9, .inl (kI, 3001, .inl f9)), (h10, .inl (kI, 3001, .inl f10)), (h11, .inl (kJ, 3001, .inr (.inl f11))), (h12, .inl (kJ, 27, .inr (.inl f12)))] := hD
    have hP9 := hP.sub (ws' := [(h2, .inr (0, [.ref h9, .ref h10, .ref h11, .ref h12, .int tc, .int x_5, .int y_10, .int x_4])), (h9, .inl (kI, 3001, .inl f9)), (h10, .inl (kI, 3001, .inl f10)), (h11, .inl (kJ, 3001, .inr (.inl f11))), (h12, .inl (kJ, 27, .inr (.inl f12)))]) [0, 1, 2, 3, 4] rfl
    have hD9 := hD.sub (ws' := [(h2, .inr (0, [.ref h9, .ref h10, .ref h11, .ref h12, .int tc, .int x_5, .int y_10, .int x_4])), (h9, .inl (kI, 3001, .inl f9)), (h10, .inl (kI, 3001, .inl f10)), (h11, .inl (kJ, 3001, .inr (.inl f11))), (h12, .inl (kJ, 27, .inr (.inl f12)))]) [0, 1, 2, 3, 4] (by decide) rfl
    have hz_0 : 0 ≤ x_5.toInt := (by first | assumption | omega)
    have hz_1 : x_5.toInt < tc.toInt := (by first | assumption | omega)
    have hz_2 : x_4.toInt = -2 → 0 ≤ y_10.toInt ∧ y_10.toInt ≤ 20 := (by first | assumption | omega)
    have hz_3 : (x_4.toInt = -2 → tf.toInt = -2 ∧ y_10.toInt = td.toInt + 1) := (by first | assumption | omega)
    exact W.vret hx hb hr (fun t ht hW => ⟨⟨(), rfl, trivial, x_5, y_10, x_4, hz_0, hz_1, hz_2, hz_3, xEnd hK hP9 hD9 ht hW⟩, hS.F ht⟩) hS.2.2 d_8_26_28
  · skip
    have tc_1 : ¬ td.toInt < 20 := fun h9 => c_1 (Int32.lt_iff_toInt_lt.mpr h9)
    refine lv_aload_n hx hb d_8_26_9 rfl (lv_at hl 0 rfl) ?_
    have hPc := hP.sub (ws' := [(h2, .inr (0, [.ref h9, .ref h10, .ref h11, .ref h12, .int tc, .int ta, .int td, .int tf])), (h9, .inl (kI, 3001, .inl f9)), (h10, .inl (kI, 3001, .inl f10)), (h11, .inl (kJ, 3001, .inr (.inl f11))), (h12, .inl (kJ, 27, .inr (.inl f12)))]) [0, 1, 2, 3, 4] rfl
    have hDc := hD.sub (ws' := [(h2, .inr (0, [.ref h9, .ref h10, .ref h11, .ref h12, .int tc, .int ta, .int td, .int tf])), (h9, .inl (kI, 3001, .inl f9)), (h10, .inl (kI, 3001, .inl f10)), (h11, .inl (kJ, 3001, .inr (.inl f11))), (h12, .inl (kJ, 27, .inr (.inl f12)))]) [0, 1, 2, 3, 4] (by decide) rfl
    have hFc := va_free (wc := [(h2, .inr (0, [.ref h9, .ref h10, .ref h11, .ref h12, .int tc, .int ta, .int td, .int tf])), (h9, .inl (kI, 3001, .inl f9)), (h10, .inl (kI, 3001, .inl f10)), (h11, .inl (kJ, 3001, .inr (.inl f11))), (h12, .inl (kJ, 27, .inr (.inl f12)))]) hD hS hA [0, 1, 2, 3, 4] rfl
    refine va_callv (va_runV (As := []) (rest := []) ⟨hx, hb, hml, hown, hts⟩ (g_Tokens_fail l D kI kJ kB kZ _ (h2) (h9) (h10) (h11) (h12) (tc) (ta) (td) (tf) (f9) (f10) (f11) (f12) (by first | assumption | omega) (by first | assumption | omega) (by first | assumption | omega) (by first | assumption | omega) (by first | assumption | omega) (by first | assumption | exact zpl (by assumption) (by omega))) (cwV 0 hts (gT_V m_579 m_580 m_581 m_121 (gT_ws m_582)) rfl rfl rfl (by decide +kernel) ⟨(Nat.le_of_ble_eq_true rfl), (Nat.le_of_ble_eq_true rfl)⟩) ⟨xBlind xOk_N, va_recv hK hP (ci := 0) (q0 := 0) rfl rfl, xAtN hK hPc hDc⟩ rfl rfl hl.1 rfl (lv_room (Nat.le_of_ble_eq_true rfl)) d_8_26_10 ⟨(Nat.le_of_ble_eq_true rfl), (Nat.le_of_ble_eq_true rfl)⟩) hS (fun q _ h => hFc q h) hFc (fun u t H1 locs ht hvm hw_12 hB hz1 hk1 hS => ?_)
    clear hz1
    obtain ⟨x_13, hb_14, hb_15, hb_16, hB⟩ := hB
    obtain ⟨hP, hD⟩ := xJoin (wr := []) (w1 := [(h2, .inr (0, [.ref h9, .ref h10, .ref h11, .ref h12, .int tc, .int ta, .int td, .int x_13])), (h9, .inl (kI, 3001, .inl f9)), (h10, .inl (kI, 3001, .inl f10)), (h11, .inl (kJ, 3001, .inr (.inl f11))), (h12, .inl (kJ, 27, .inr (.inl f12)))]) hP hD [0, 1, 2, 3, 4] [] rfl rfl (by decide) (by decide) hk1 hFc ht hB
    generalize H1 = H at hP hS ⊢
    have hP : va_P D cls9 [(h2, .inr (0, [.ref h9, .ref h10, .ref h11, .ref h12, .int tc, .int ta, .int td, .int x_13])), (h9, .inl (kI, 3001, .inl f9)), (h10, .inl (kI, 3001, .inl f10)), (h11, .inl (kJ, 3001, .inr (.inl f11))), (h12, .inl (kJ, 27, .inr (.inl f12)))] H := hP
    have hD : va_D A [(h2, .inr (0, [.ref h9, .ref h10, .ref h11, .ref h12, .int tc, .int ta, .int td, .int x_13])), (h9, .inl (kI, 3001, .inl f9)), (h10, .inl (kI, 3001, .inl f10)), (h11, .inl (kJ, 3001, .inr (.inl f11))), (h12, .inl (kJ, 27, .inr (.inl f12)))] := hD
    refine lv_aload_n hx hb d_8_26_13 rfl (lv_at hl 0 rfl) ?_
    refine lv_iload_n hx hb d_8_26_14 rfl (lv_at hl 1 rfl) ?_
    have hPc := hP.sub (ws' := [(h2, .inr (0, [.ref h9, .ref h10, .ref h11, .ref h12, .int tc, .int ta, .int td, .int x_13])), (h9, .inl (kI, 3001, .inl f9)), (h10, .inl (kI, 3001, .inl f10)), (h11, .inl (kJ, 3001, .inr (.inl f11))), (h12, .inl (kJ, 27, .inr (.inl f12)))]) [0, 1, 2, 3, 4] rfl
    have hDc := hD.sub (ws' := [(h2, .inr (0, [.ref h9, .ref h10, .ref h11, .ref h12, .int tc, .int ta, .int td, .int x_13])), (h9, .inl (kI, 3001, .inl f9)), (h10, .inl (kI, 3001, .inl f10)), (h11, .inl (kJ, 3001, .inr (.inl f11))), (h12, .inl (kJ, 27, .inr (.inl f12)))]) [0, 1, 2, 3, 4] (by decide) rfl
    have hFc := va_free (wc := [(h2, .inr (0, [.ref h9, .ref h10, .ref h11, .ref h12, .int tc, .int ta, .int td, .int x_13])), (h9, .inl (kI, 3001, .inl f9)), (h10, .inl (kI, 3001, .inl f10)), (h11, .inl (kJ, 3001, .inr (.inl f11))), (h12, .inl (kJ, 27, .inr (.inl f12)))]) hD hS hA [0, 1, 2, 3, 4] rfl
    refine va_callv (va_runV (As := [.int p1]) (rest := []) ⟨hx, hb, hml, hown, hts⟩ (g_Tokens_take l D kI kJ kB kZ _ (h2) (h9) (h10) (h11) (h12) (tc) (ta) (td) (x_13) (f9) (f10) (f11) (f12) (p1) (by first | assumption | omega) (by first | assumption | omega) (by first | assumption | omega) (by first | assumption | omega) (by first | assumption | omega) (by first | assumption | exact zpl (by assumption) (by omega))) (cwV 1 hts (gT_V m_583 m_584 m_585 m_121 (gT_ws m_586)) rfl rfl rfl (by decide +kernel) ⟨(Nat.le_of_ble_eq_true rfl), (Nat.le_of_ble_eq_true rfl)⟩) ⟨xBlind xOk_N, va_recv hK hP (ci := 0) (q0 := 0) rfl rfl, xAtN hK hPc hDc⟩ rfl rfl hl.1 rfl (lv_room (Nat.le_of_ble_eq_true rfl)) d_8_26_15 ⟨(Nat.le_of_ble_eq_true rfl), (Nat.le_of_ble_eq_true rfl)⟩) hS (fun q _ h => hFc q h) hFc (fun u t H1 locs ht hvm hw_18 hB hz1 hk1 hS => ?_)
    clear hz1
    obtain ⟨x_19, x_20, hb_21, hb_22, hb_23, hb_24, hB⟩ := hB
    obtain ⟨hP, hD⟩ := xJoin (wr := []) (w1 := [(h2, .inr (0, [.ref h9, .ref h10, .ref h11, .ref h12, .int tc, .int x_20, .int td, .int x_19])), (h9, .inl (kI, 3001, .inl f9)), (h10, .inl (kI, 3001, .inl f10)), (h11, .inl (kJ, 3001, .inr (.inl f11))), (h12, .inl (kJ, 27, .inr (.inl f12)))]) hP hD [0, 1, 2, 3, 4] [] rfl rfl (by decide) (by decide) hk1 hFc ht hB
    generalize H1 = H at hP hS ⊢
    have hP : va_P D cls9 [(h2, .inr (0, [.ref h9, .ref h10, .ref h11, .ref h12, .int tc, .int x_20, .int td, .int x_19])), (h9, .inl (kI, 3001, .inl f9)), (h10, .inl (kI, 3001, .inl f10)), (h11, .inl (kJ, 3001, .inr (.inl f11))), (h12, .inl (kJ, 27, .inr (.inl f12)))] H := hP
    have hD : va_D A [(h2, .inr (0, [.ref h9, .ref h10, .ref h11, .ref h12, .int tc, .int x_20, .int td, .int x_19])), (h9, .inl (kI, 3001, .inl f9)), (h10, .inl (kI, 3001, .inl f10)), (h11, .inl (kJ, 3001, .inr (.inl f11))), (h12, .inl (kJ, 27, .inr (.inl f12)))] := hD
    refine lv_aload_n hx hb d_8_26_18 rfl (lv_at hl 0 rfl) ?_
    refine lv_dup hx hb d_8_26_19 rfl ?_
    refine va_get (D := D) (ci := 0) (v := .int td) (C := "AlgolJudge$Tokens") (T := T_Tokens) (N := 8) hx hb hts i_Tokens hown hK hP 0 rfl rfl 6 (by decide +kernel) (hts _ m_216) (fun _ h9 => h9) rfl d_8_26_20 ?_
    refine lv_iconst (v := 1) hx hb d_8_26_23 (by decide +kernel) ?_
    refine lv_iadd hx hb d_8_26_24 ?_
    refine lv_topi (fun y_25 ey_25 => ?_)
    have ty_25 : (x_19.toInt = -2) → y_25.toInt = td.toInt + 1 := fun h9 => by rw [ey_25]; exact zaddc (by decide +kernel) (by omega) (by omega)
    refine va_put (D := D) (ci := 0) (v := .int y_25) (ty := .int) (C := "AlgolJudge$Tokens") (T := T_Tokens) (N := 8) hx hb hts i_Tokens t_Tokens t_Tokens_ok n_Tokens hown hK hP hD hS 0 rfl rfl 6 (by decide +kernel) (hts _ m_216) (fun _ h9 => h9) rfl (by decide +kernel) rfl rfl (Nat.le_of_ble_eq_true rfl) d_8_26_25 (fun H locs hP hD hS => ?_)
    have hP : va_P D cls9 [(h2, .inr (0, [.ref h9, .ref h10, .ref h11, .ref h12, .int tc, .int x_20, .int y_25, .int x_19])), (h9, .inl (kI, 3001, .inl f9)), (h10, .inl (kI, 3001, .inl f10)), (h11, .inl (kJ, 3001, .inr (.inl f11))), (h12, .inl (kJ, 27, .inr (.inl f12)))] H := hP
    have hD : va_D A [(h2, .inr (0, [.ref h9, .ref h10, .ref h11, .ref h12, .int tc, .int x_20, .int y_25, .int x_19])), (h9, .inl (kI, 3001, .inl f9)), (h10, .inl (kI, 3001, .inl f10)), (h11, .inl (kJ, 3001, .inr (.inl f11))), (h12, .inl (kJ, 27, .inr (.inl f12)))] := hD
    have hP9 := hP.sub (ws' := [(h2, .inr (0, [.ref h9, .ref h10, .ref h11, .ref h12, .int tc, .int x_20, .int y_25, .int x_19])), (h9, .inl (kI, 3001, .inl f9)), (h10, .inl (kI, 3001, .inl f10)), (h11, .inl (kJ, 3001, .inr (.inl f11))), (h12, .inl (kJ, 27, .inr (.inl f12)))]) [0, 1, 2, 3, 4] rfl
    have hD9 := hD.sub (ws' := [(h2, .inr (0, [.ref h9, .ref h10, .ref h11, .ref h12, .int tc, .int x_20, .int y_25, .int x_19])), (h9, .inl (kI, 3001, .inl f9)), (h10, .inl (kI, 3001, .inl f10)), (h11, .inl (kJ, 3001, .inr (.inl f11))), (h12, .inl (kJ, 27, .inr (.inl f12)))]) [0, 1, 2, 3, 4] (by decide) rfl
    have hz_0 : 0 ≤ x_20.toInt := (by first | assumption | omega)
    have hz_1 : x_20.toInt < tc.toInt := (by first | assumption | omega)
    have hz_2 : x_19.toInt = -2 → 0 ≤ y_25.toInt ∧ y_25.toInt ≤ 20 := (by first | assumption | omega)
    have hz_3 : (x_19.toInt = -2 → tf.toInt = -2 ∧ y_25.toInt = td.toInt + 1) := (by first | assumption | omega)
    exact W.vret hx hb hr (fun t ht hW => ⟨⟨(), rfl, trivial, x_20, y_25, x_19, hz_0, hz_1, hz_2, hz_3, xEnd hK hP9 hD9 ht hW⟩, hS.F ht⟩) hS.2.2 d_8_26_28
set_option maxHeartbeats 8000000 in
set_option maxRecDepth 100000 in
theorem g_Tokens_rise (l : Launch) (D : va_G) (kI kJ kB kZ : ClassId) (sz : Nat) (h2 : Nat) (h9 : Nat) (h10 : Nat) (h11 : Nat) (h12 : Nat) (tc : Int32) (ta : Int32) (td : Int32) (tf : Int32) (f9 : Nat → Int32) (f10 : Nat → Int32) (f11 : Nat → Int64) (f12 : Nat → Int64) (hf_T1 : 1 ≤ tc.toInt) (hf_T2 : tc.toInt ≤ 3001) (hf_T3 : 0 ≤ ta.toInt) (hf_T4 : ta.toInt < tc.toInt) (hf_T5 : tf.toInt = -2 → 0 ≤ td.toInt ∧ td.toInt ≤ 20) (hf_T6 : ∀ j : Nat, 0 ≤ (f10 j).toInt) (hq_0 : (tf.toInt = -2 → 1 ≤ td.toInt)) : Met l (⟨"AlgolJudge$Tokens", "rise", "()V"⟩ : MethodName) (Cond.code (⟨"AlgolJudge$Tokens", "rise", "()V"⟩ : MethodName) prog_8_method_27_code 1 (none) :: gT) ({ frames := 0, cells := 0, slots := 0, locals := 0 }) (va_Pc [.ref h2] (xP D (xT kI kJ kB kZ) xN [(h2, .inr (0, [.ref h9, .ref h10, .ref h11, .ref h12, .int tc, .int ta, .int td, .int tf])), (h9, .inl (kI, 3001, .inl f9)), (h10, .inl (kI, 3001, .inl f10)), (h11, .inl (kJ, 3001, .inr (.inl f11))), (h12, .inl (kJ, 27, .inr (.inl f12)))] sz)) (va_Qv (fun _ : Unit => True) (fun _ t => ∃ td' : Int32, (tf.toInt = -2 → 0 ≤ td'.toInt ∧ td'.toInt ≤ 20) ∧ ((tf.toInt = -2 → tf.toInt = -2 ∧ td'.toInt = td.toInt - 1)) ∧ xQ D (xT kI kJ kB kZ) (va_A [(h2, .inr (0, [.ref h9, .ref h10, .ref h11, .ref h12, .int tc, .int ta, .int td, .int tf])), (h9, .inl (kI, 3001, .inl f9)), (h10, .inl (kI, 3001, .inl f10)), (h11, .inl (kJ, 3001, .inr (.inl f11))), (h12, .inl (kJ, 27, .inr (.inl f12)))] sz) [(h2, .inr (0, [.ref h9, .ref h10, .ref h11, .ref h12, .int tc, .int ta, .int td', .int tf])), (h9, .inl (kI, 3001, .inl f9)), (h10, .inl (kI, 3001, .inl f10)), (h11, .inl (kJ, 3001, .inr (.inl f11))), (h12, .inl (kJ, 27, .inr (.inl f12)))] t) (va_A [(h2, .inr (0, [.ref h9, .ref h10, .ref h11, .ref h12, .int tc, .int ta, .int td, .int tf])), (h9, .inl (kI, 3001, .inl f9)), (h10, .inl (kI, 3001, .inl f10)), (h11, .inl (kJ, 3001, .inr (.inl f11))), (h12, .inl (kJ, 27, .inr (.inl f12)))] sz)) 0 0 (va_A [(h2, .inr (0, [.ref h9, .ref h10, .ref h11, .ref h12, .int tc, .int ta, .int td, .int tf])), (h9, .inl (kI, 3001, .inl f9)), (h10, .inl (kI, 3001, .inl f10)), (h11, .inl (kJ, 3001, .inr (.inl f11))), (h12, .inl (kJ, 27, .inr (.inl f12)))] sz) := by
  refine Met.ofW (cc := prog_8_method_27_code) (maxL := 1) (ret := none) (by decide +kernel) rfl ?_
  intro p e s m args below meth c s₁ B hml hv
  obtain ⟨rfl, hsz, hP, hK, hD0, hE⟩ := hv
  have hx := B.exec
  have hb := B.bytes
  have hr := B.returns
  have hts : ∀ w ∈ gT, w.before _ s = true := fun w h => atoms_spec (ws := Cond.code (⟨"AlgolJudge$Tokens", "rise", "()V"⟩ : MethodName) prog_8_method_27_code 1 (none) :: gT) B.pre w (List.mem_cons_of_mem _ h)
  have hown : s.vm.findClass "AlgolJudge$Tokens" = some m.cls := findClass_of_methodNamed B.named
  have hlocks := B.notSynchronized
  subst hsz
  have hD := hD0.self (sz := s.heap.size)
  generalize hAe : va_A [(h2, .inr (0, [.ref h9, .ref h10, .ref h11, .ref h12, .int tc, .int ta, .int td, .int tf])), (h9, .inl (kI, 3001, .inl f9)), (h10, .inl (kI, 3001, .inl f10)), (h11, .inl (kJ, 3001, .inr (.inl f11))), (h12, .inl (kJ, 27, .inr (.inl f12)))] s.heap.size = A at hD hE ⊢
  have hA : ∀ q : Nat, s.heap.size ≤ q → A q := fun q h => by rw [← hAe]; exact Or.inr h
  have hS : va_S A s.heap s.heap [] := va_S.rf
  have hP : va_P D cls9 [(h2, .inr (0, [.ref h9, .ref h10, .ref h11, .ref h12, .int tc, .int ta, .int td, .int tf])), (h9, .inl (kI, 3001, .inl f9)), (h10, .inl (kI, 3001, .inl f10)), (h11, .inl (kJ, 3001, .inr (.inl f11))), (h12, .inl (kJ, 27, .inr (.inl f12)))] s.heap := hP
  have hl := lv_entry ([.ref h2]) (n := 1) (Nat.le_of_ble_eq_true rfl)
  rw [lg_entry_eq]
  generalize (lg_sl ([.ref h2]) ++ List.replicate (1 - (lg_sl ([.ref h2])).length) Slot.unset).toArray = ls at hl ⊢
  have hl : lv_has ls 1 [(0, .ref h2)] := hl
  refine lv_aload_n hx hb d_8_27_0 rfl (lv_at hl 0 rfl) ?_
  refine lv_dup hx hb d_8_27_1 rfl ?_
  refine va_get (D := D) (ci := 0) (v := .int td) (C := "AlgolJudge$Tokens") (T := T_Tokens) (N := 8) hx hb hts i_Tokens hown hK hP 0 rfl rfl 6 (by decide +kernel) (hts _ m_216) (fun _ h9 => h9) rfl d_8_27_2 ?_
  refine lv_iconst (v := 1) hx hb d_8_27_5 (by decide +kernel) ?_
  refine lv_isub hx hb d_8_27_6 ?_
  refine lv_topi (fun y_1 ey_1 => ?_)
  have ty_1 : (tf.toInt = -2) → y_1.toInt = td.toInt - 1 := fun h9 => by rw [ey_1]; exact zsubc (by decide +kernel) (by omega) (by omega)
  refine va_put (D := D) (ci := 0) (v := .int y_1) (ty := .int) (C := "AlgolJudge$Tokens") (T := T_Tokens) (N := 8) hx hb hts i_Tokens t_Tokens t_Tokens_ok n_Tokens hown hK hP hD hS 0 rfl rfl 6 (by decide +kernel) (hts _ m_216) (fun _ h9 => h9) rfl (by decide +kernel) rfl rfl (Nat.le_of_ble_eq_true rfl) d_8_27_7 (fun H locs hP hD hS => ?_)
  have hP : va_P D cls9 [(h2, .inr (0, [.ref h9, .ref h10, .ref h11, .ref h12, .int tc, .int ta, .int y_1, .int tf])), (h9, .inl (kI, 3001, .inl f9)), (h10, .inl (kI, 3001, .inl f10)), (h11, .inl (kJ, 3001, .inr (.inl f11))), (h12, .inl (kJ, 27, .inr (.inl f12)))] H := hP
  have hD : va_D A [(h2, .inr (0, [.ref h9, .ref h10, .ref h11, .ref h12, .int tc, .int ta, .int y_1, .int tf])), (h9, .inl (kI, 3001, .inl f9)), (h10, .inl (kI, 3001, .inl f10)), (h11, .inl (kJ, 3001, .inr (.inl f11))), (h12, .inl (kJ, 27, .inr (.inl f12)))] := hD
  have hP9 := hP.sub (ws' := [(h2, .inr (0, [.ref h9, .ref h10, .ref h11, .ref h12, .int tc, .int ta, .int y_1, .int tf])), (h9, .inl (kI, 3001, .inl f9)), (h10, .inl (kI, 3001, .inl f10)), (h11, .inl (kJ, 3001, .inr (.inl f11))), (h12, .inl (kJ, 27, .inr (.inl f12)))]) [0, 1, 2, 3, 4] rfl
  have hD9 := hD.sub (ws' := [(h2, .inr (0, [.ref h9, .ref h10, .ref h11, .ref h12, .int tc, .int ta, .int y_1, .int tf])), (h9, .inl (kI, 3001, .inl f9)), (h10, .inl (kI, 3001, .inl f10)), (h11, .inl (kJ, 3001, .inr (.inl f11))), (h12, .inl (kJ, 27, .inr (.inl f12)))]) [0, 1, 2, 3, 4] (by decide) rfl
  have hz_0 : tf.toInt = -2 → 0 ≤ y_1.toInt ∧ y_1.toInt ≤ 20 := (by first | assumption | omega)
  have hz_1 : (tf.toInt = -2 → tf.toInt = -2 ∧ y_1.toInt = td.toInt - 1) := (by first | assumption | omega)
  exact W.vret hx hb hr (fun t ht hW => ⟨⟨(), rfl, trivial, y_1, hz_0, hz_1, xEnd hK hP9 hD9 ht hW⟩, hS.F ht⟩) hS.2.2 d_8_27_10
set_option maxHeartbeats 8000000 in
set_option maxRecDepth 100000 in
theorem g_Tokens_riseWith (l : Launch) (D : va_G) (kI kJ kB kZ : ClassId) (sz : Nat) (h2 : Nat) (h9 : Nat) (h10 : Nat) (h11 : Nat) (h12 : Nat) (tc : Int32) (ta : Int32) (td : Int32) (tf : Int32) (f9 : Nat → Int32) (f10 : Nat → Int32) (f11 : Nat → Int64) (f12 : Nat → Int64) (p1 : Int32) (hf_T1 : 1 ≤ tc.toInt) (hf_T2 : tc.toInt ≤ 3001) (hf_T3 : 0 ≤ ta.toInt) (hf_T4 : ta.toInt < tc.toInt) (hf_T5 : tf.toInt = -2 → 0 ≤ td.toInt ∧ td.toInt ≤ 20) (hf_T6 : ∀ j : Nat, 0 ≤ (f10 j).toInt) (hq_0 : (tf.toInt = -2 → 1 ≤ td.toInt)) : Met l (⟨"AlgolJudge$Tokens", "riseWith", "(I)V"⟩ : MethodName) (Cond.code (⟨"AlgolJudge$Tokens", "riseWith", "(I)V"⟩ : MethodName) prog_8_method_28_code 2 (none) :: gT) ({ frames := 2, cells := 0, slots := 0, locals := 41 }) (va_Pc [.ref h2, .int p1] (xP D (xT kI kJ kB kZ) xN [(h2, .inr (0, [.ref h9, .ref h10, .ref h11, .ref h12, .int tc, .int ta, .int td, .int tf])), (h9, .inl (kI, 3001, .inl f9)), (h10, .inl (kI, 3001, .inl f10)), (h11, .inl (kJ, 3001, .inr (.inl f11))), (h12, .inl (kJ, 27, .inr (.inl f12)))] sz)) (va_Qv (fun _ : Unit => True) (fun _ t => ∃ ta' : Int32, ∃ td' : Int32, ∃ tf' : Int32, (0 ≤ ta'.toInt) ∧ (ta'.toInt < tc.toInt) ∧ (tf'.toInt = -2 → 0 ≤ td'.toInt ∧ td'.toInt ≤ 20) ∧ ((tf'.toInt = -2 → tf.toInt = -2 ∧ td'.toInt = td.toInt - 1)) ∧ xQ D (xT kI kJ kB kZ) (va_A [(h2, .inr (0, [.ref h9, .ref h10, .ref h11, .ref h12, .int tc, .int ta, .int td, .int tf])), (h9, .inl (kI, 3001, .inl f9)), (h10, .inl (kI, 3001, .inl f10)), (h11, .inl (kJ, 3001, .inr (.inl f11))), (h12, .inl (kJ, 27, .inr (.inl f12)))] sz) [(h2, .inr (0, [.ref h9, .ref h10, .ref h11, .ref h12, .int tc, .int ta', .int td', .int tf'])), (h9, .inl (kI, 3001, .inl f9)), (h10, .inl (kI, 3001, .inl f10)), (h11, .inl (kJ, 3001, .inr (.inl f11))), (h12, .inl (kJ, 27, .inr (.inl f12)))] t) (va_A [(h2, .inr (0, [.ref h9, .ref h10, .ref h11, .ref h12, .int tc, .int ta, .int td, .int tf])), (h9, .inl (kI, 3001, .inl f9)), (h10, .inl (kI, 3001, .inl f10)), (h11, .inl (kJ, 3001, .inr (.inl f11))), (h12, .inl (kJ, 27, .inr (.inl f12)))] sz)) 0 0 (va_A [(h2, .inr (0, [.ref h9, .ref h10, .ref h11, .ref h12, .int tc, .int ta, .int td, .int tf])), (h9, .inl (kI, 3001, .inl f9)), (h10, .inl (kI, 3001, .inl f10)), (h11, .inl (kJ, 3001, .inr (.inl f11))), (h12, .inl (kJ, 27, .inr (.inl f12)))] sz) := by
  refine Met.ofW (cc := prog_8_method_28_code) (maxL := 2) (ret := none) (by decide +kernel) rfl ?_
  intro p e s m args below meth c s₁ B hml hv
  obtain ⟨rfl, hsz, hP, hK, hD0, hE⟩ := hv
  have hx := B.exec
  have hb := B.bytes
  have hr := B.returns
  have hts : ∀ w ∈ gT, w.before _ s = true := fun w h => atoms_spec (ws := Cond.code (⟨"AlgolJudge$Tokens", "riseWith", "(I)V"⟩ : MethodName) prog_8_method_28_code 2 (none) :: gT) B.pre w (List.mem_cons_of_mem _ h)
  have hown : s.vm.findClass "AlgolJudge$Tokens" = some m.cls := findClass_of_methodNamed B.named
  have hlocks := B.notSynchronized
  subst hsz
  have hD := hD0.self (sz := s.heap.size)
  generalize hAe : va_A [(h2, .inr (0, [.ref h9, .ref h10, .ref h11, .ref h12, .int tc, .int ta, .int td, .int tf])), (h9, .inl (kI, 3001, .inl f9)), (h10, .inl (kI, 3001, .inl f10)), (h11, .inl (kJ, 3001, .inr (.inl f11))), (h12, .inl (kJ, 27, .inr (.inl f12)))] s.heap.size = A at hD hE ⊢
  have hA : ∀ q : Nat, s.heap.size ≤ q → A q := fun q h => by rw [← hAe]; exact Or.inr h
  have hS : va_S A s.heap s.heap [] := va_S.rf
  have hP : va_P D cls9 [(h2, .inr (0, [.ref h9, .ref h10, .ref h11, .ref h12, .int tc, .int ta, .int td, .int tf])), (h9, .inl (kI, 3001, .inl f9)), (h10, .inl (kI, 3001, .inl f10)), (h11, .inl (kJ, 3001, .inr (.inl f11))), (h12, .inl (kJ, 27, .inr (.inl f12)))] s.heap := hP
  have hl := lv_entry ([.ref h2, .int p1]) (n := 2) (Nat.le_of_ble_eq_true rfl)
  rw [lg_entry_eq]
  generalize (lg_sl ([.ref h2, .int p1]) ++ List.replicate (2 - (lg_sl ([.ref h2, .int p1])).length) Slot.unset).toArray = ls at hl ⊢
  have hl : lv_has ls 2 [(0, .ref h2), (1, .int p1)] := hl
  refine lv_aload_n hx hb d_8_28_0 rfl (lv_at hl 0 rfl) ?_
  refine lv_iload_n hx hb d_8_28_1 rfl (lv_at hl 1 rfl) ?_
  have hPc := hP.sub (ws' := [(h2, .inr (0, [.ref h9, .ref h10, .ref h11, .ref h12, .int tc, .int ta, .int td, .int tf])), (h9, .inl (kI, 3001, .inl f9)), (h10, .inl (kI, 3001, .inl f10)), (h11, .inl (kJ, 3001, .inr (.inl f11))), (h12, .inl (kJ, 27, .inr (.inl f12)))]) [0, 1, 2, 3, 4] rfl
  have hDc := hD.sub (ws' := [(h2, .inr (0, [.ref h9, .ref h10, .ref h11, .ref h12, .int tc, .int ta, .int td, .int tf])), (h9, .inl (kI, 3001, .inl f9)), (h10, .inl (kI, 3001, .inl f10)), (h11, .inl (kJ, 3001, .inr (.inl f11))), (h12, .inl (kJ, 27, .inr (.inl f12)))]) [0, 1, 2, 3, 4] (by decide) rfl
  have hFc := va_free (wc := [(h2, .inr (0, [.ref h9, .ref h10, .ref h11, .ref h12, .int tc, .int ta, .int td, .int tf])), (h9, .inl (kI, 3001, .inl f9)), (h10, .inl (kI, 3001, .inl f10)), (h11, .inl (kJ, 3001, .inr (.inl f11))), (h12, .inl (kJ, 27, .inr (.inl f12)))]) hD hS hA [0, 1, 2, 3, 4] rfl
  refine va_callv (va_runV (As := [.int p1]) (rest := []) ⟨hx, hb, hml, hown, hts⟩ (g_Tokens_take l D kI kJ kB kZ _ (h2) (h9) (h10) (h11) (h12) (tc) (ta) (td) (tf) (f9) (f10) (f11) (f12) (p1) (by first | assumption | omega) (by first | assumption | omega) (by first | assumption | omega) (by first | assumption | omega) (by first | assumption | omega) (by first | assumption | exact zpl (by assumption) (by omega))) (cwV 1 hts (gT_V m_583 m_584 m_585 m_121 (gT_ws m_586)) rfl rfl rfl (by decide +kernel) ⟨(Nat.le_of_ble_eq_true rfl), (Nat.le_of_ble_eq_true rfl)⟩) ⟨xBlind xOk_N, va_recv hK hP (ci := 0) (q0 := 0) rfl rfl, xAtN hK hPc hDc⟩ rfl rfl hl.1 rfl (lv_room (Nat.le_of_ble_eq_true rfl)) d_8_28_2 ⟨(Nat.le_of_ble_eq_true rfl), (Nat.le_of_ble_eq_true rfl)⟩) hS (fun q _ h => hFc q h) hFc (fun u t H1 locs ht hvm hw_2 hB hz1 hk1 hS => ?_)
  clear hz1
  obtain ⟨x_3, x_4, hb_5, hb_6, hb_7, hb_8, hB⟩ := hB
  obtain ⟨hP, hD⟩ := xJoin (wr := []) (w1 := [(h2, .inr (0, [.ref h9, .ref h10, .ref h11, .ref h12, .int tc, .int x_4, .int td, .int x_3])), (h9, .inl (kI, 3001, .inl f9)), (h10, .inl (kI, 3001, .inl f10)), (h11, .inl (kJ, 3001, .inr (.inl f11))), (h12, .inl (kJ, 27, .inr (.inl f12)))]) hP hD [0, 1, 2, 3, 4] [] rfl rfl (by decide) (by decide) hk1 hFc ht hB
  generalize H1 = H at hP hS ⊢
  have hP : va_P D cls9 [(h2, .inr (0, [.ref h9, .ref h10, .ref h11, .ref h12, .int tc, .int x_4, .int td, .int x_3])), (h9, .inl (kI, 3001, .inl f9)), (h10, .inl (kI, 3001, .inl f10)), (h11, .inl (kJ, 3001, .inr (.inl f11))), (h12, .inl (kJ, 27, .inr (.inl f12)))] H := hP
  have hD : va_D A [(h2, .inr (0, [.ref h9, .ref h10, .ref h11, .ref h12, .int tc, .int x_4, .int td, .int x_3])), (h9, .inl (kI, 3001, .inl f9)), (h10, .inl (kI, 3001, .inl f10)), (h11, .inl (kJ, 3001, .inr (.inl f11))), (h12, .inl (kJ, 27, .inr (.inl f12)))] := hD
  refine lv_aload_n hx hb d_8_28_5 rfl (lv_at hl 0 rfl) ?_
  refine lv_dup hx hb d_8_28_6 rfl ?_
  refine va_get (D := D) (ci := 0) (v := .int td) (C := "AlgolJudge$Tokens") (T := T_Tokens) (N := 8) hx hb hts i_Tokens hown hK hP 0 rfl rfl 6 (by decide +kernel) (hts _ m_216) (fun _ h9 => h9) rfl d_8_28_7 ?_
  refine lv_iconst (v := 1) hx hb d_8_28_10 (by decide +kernel) ?_
  refine lv_isub hx hb d_8_28_11 ?_
  refine lv_topi (fun y_9 ey_9 => ?_)
  have ty_9 : (x_3.toInt = -2) → y_9.toInt = td.toInt - 1 := fun h9 => by rw [ey_9]; exact zsubc (by decide +kernel) (by omega) (by omega)
  refine va_put (D := D) (ci := 0) (v := .int y_9) (ty := .int) (C := "AlgolJudge$Tokens") (T := T_Tokens) (N := 8) hx hb hts i_Tokens t_Tokens t_Tokens_ok n_Tokens hown hK hP hD hS 0 rfl rfl 6 (by decide +kernel) (hts _ m_216) (fun _ h9 => h9) rfl (by decide +kernel) rfl rfl (Nat.le_of_ble_eq_true rfl) d_8_28_12 (fun H locs hP hD hS => ?_)
  have hP : va_P D cls9 [(h2, .inr (0, [.ref h9, .ref h10, .ref h11, .ref h12, .int tc, .int x_4, .int y_9, .int x_3])), (h9, .inl (kI, 3001, .inl f9)), (h10, .inl (kI, 3001, .inl f10)), (h11, .inl (kJ, 3001, .inr (.inl f11))), (h12, .inl (kJ, 27, .inr (.inl f12)))] H := hP
  have hD : va_D A [(h2, .inr (0, [.ref h9, .ref h10, .ref h11, .ref h12, .int tc, .int x_4, .int y_9, .int x_3])), (h9, .inl (kI, 3001, .inl f9)), (h10, .inl (kI, 3001, .inl f10)), (h11, .inl (kJ, 3001, .inr (.inl f11))), (h12, .inl (kJ, 27, .inr (.inl f12)))] := hD
  have hP9 := hP.sub (ws' := [(h2, .inr (0, [.ref h9, .ref h10, .ref h11, .ref h12, .int tc, .int x_4, .int y_9, .int x_3])), (h9, .inl (kI, 3001, .inl f9)), (h10, .inl (kI, 3001, .inl f10)), (h11, .inl (kJ, 3001, .inr (.inl f11))), (h12, .inl (kJ, 27, .inr (.inl f12)))]) [0, 1, 2, 3, 4] rfl
  have hD9 := hD.sub (ws' := [(h2, .inr (0, [.ref h9, .ref h10, .ref h11, .ref h12, .int tc, .int x_4, .int y_9, .int x_3])), (h9, .inl (kI, 3001, .inl f9)), (h10, .inl (kI, 3001, .inl f10)), (h11, .inl (kJ, 3001, .inr (.inl f11))), (h12, .inl (kJ, 27, .inr (.inl f12)))]) [0, 1, 2, 3, 4] (by decide) rfl
  have hz_0 : 0 ≤ x_4.toInt := (by first | assumption | omega)
  have hz_1 : x_4.toInt < tc.toInt := (by first | assumption | omega)
  have hz_2 : x_3.toInt = -2 → 0 ≤ y_9.toInt ∧ y_9.toInt ≤ 20 := (by first | assumption | omega)
  have hz_3 : (x_3.toInt = -2 → tf.toInt = -2 ∧ y_9.toInt = td.toInt - 1) := (by first | assumption | omega)
  exact W.vret hx hb hr (fun t ht hW => ⟨⟨(), rfl, trivial, x_4, y_9, x_3, hz_0, hz_1, hz_2, hz_3, xEnd hK hP9 hD9 ht hW⟩, hS.F ht⟩) hS.2.2 d_8_28_15
set_option maxHeartbeats 8000000 in
set_option maxRecDepth 100000 in
theorem g_Tokens_seesLeft (l : Launch) (D : va_G) (kI kJ kB kZ : ClassId) (sz : Nat) (h2 : Nat) (h9 : Nat) (h10 : Nat) (h11 : Nat) (h12 : Nat) (tc : Int32) (ta : Int32) (td : Int32) (tf : Int32) (f9 : Nat → Int32) (f10 : Nat → Int32) (f11 : Nat → Int64) (f12 : Nat → Int64) (hf_T1 : 1 ≤ tc.toInt) (hf_T2 : tc.toInt ≤ 3001) (hf_T3 : 0 ≤ ta.toInt) (hf_T4 : ta.toInt < tc.toInt) (hf_T5 : tf.toInt = -2 → 0 ≤ td.toInt ∧ td.toInt ≤ 20) (hf_T6 : ∀ j : Nat, 0 ≤ (f10 j).toInt) : Met l (⟨"AlgolJudge$Tokens", "seesLeft", "()Z"⟩ : MethodName) (Cond.code (⟨"AlgolJudge$Tokens", "seesLeft", "()Z"⟩ : MethodName) prog_8_method_29_code 3 (some .boolean) :: gT) ({ frames := 2, cells := 0, slots := 0, locals := 41 }) (va_Pc [.ref h2] (xP D (xT kI kJ kB kZ) xN [(h2, .inr (0, [.ref h9, .ref h10, .ref h11, .ref h12, .int tc, .int ta, .int td, .int tf])), (h9, .inl (kI, 3001, .inl f9)), (h10, .inl (kI, 3001, .inl f10)), (h11, .inl (kJ, 3001, .inr (.inl f11))), (h12, .inl (kJ, 27, .inr (.inl f12)))] sz)) (va_Qi (fun (r : Int32) (_ : Unit) => True) (fun _ t => xQ D (xT kI kJ kB kZ) (va_A [(h2, .inr (0, [.ref h9, .ref h10, .ref h11, .ref h12, .int tc, .int ta, .int td, .int tf])), (h9, .inl (kI, 3001, .inl f9)), (h10, .inl (kI, 3001, .inl f10)), (h11, .inl (kJ, 3001, .inr (.inl f11))), (h12, .inl (kJ, 27, .inr (.inl f12)))] sz) [(h2, .inr (0, [.ref h9, .ref h10, .ref h11, .ref h12, .int tc, .int ta, .int td, .int tf])), (h9, .inl (kI, 3001, .inl f9)), (h10, .inl (kI, 3001, .inl f10)), (h11, .inl (kJ, 3001, .inr (.inl f11))), (h12, .inl (kJ, 27, .inr (.inl f12)))] t) (va_A [(h2, .inr (0, [.ref h9, .ref h10, .ref h11, .ref h12, .int tc, .int ta, .int td, .int tf])), (h9, .inl (kI, 3001, .inl f9)), (h10, .inl (kI, 3001, .inl f10)), (h11, .inl (kJ, 3001, .inr (.inl f11))), (h12, .inl (kJ, 27, .inr (.inl f12)))] sz)) 0 0 (va_A [(h2, .inr (0, [.ref h9, .ref h10, .ref h11, .ref h12, .int tc, .int ta, .int td, .int tf])), (h9, .inl (kI, 3001, .inl f9)), (h10, .inl (kI, 3001, .inl f10)), (h11, .inl (kJ, 3001, .inr (.inl f11))), (h12, .inl (kJ, 27, .inr (.inl f12)))] sz) := by
  refine Met.ofW (cc := prog_8_method_29_code) (maxL := 3) (ret := some .boolean) (by decide +kernel) rfl ?_
  intro p e s m args below meth c s₁ B hml hv
  obtain ⟨rfl, hsz, hP, hK, hD0, hE⟩ := hv
  have hx := B.exec
  have hb := B.bytes
  have hr := B.returns
  have hts : ∀ w ∈ gT, w.before _ s = true := fun w h => atoms_spec (ws := Cond.code (⟨"AlgolJudge$Tokens", "seesLeft", "()Z"⟩ : MethodName) prog_8_method_29_code 3 (some .boolean) :: gT) B.pre w (List.mem_cons_of_mem _ h)
  have hown : s.vm.findClass "AlgolJudge$Tokens" = some m.cls := findClass_of_methodNamed B.named
  have hlocks := B.notSynchronized
  subst hsz
  have hD := hD0.self (sz := s.heap.size)
  generalize hAe : va_A [(h2, .inr (0, [.ref h9, .ref h10, .ref h11, .ref h12, .int tc, .int ta, .int td, .int tf])), (h9, .inl (kI, 3001, .inl f9)), (h10, .inl (kI, 3001, .inl f10)), (h11, .inl (kJ, 3001, .inr (.inl f11))), (h12, .inl (kJ, 27, .inr (.inl f12)))] s.heap.size = A at hD hE ⊢
  have hA : ∀ q : Nat, s.heap.size ≤ q → A q := fun q h => by rw [← hAe]; exact Or.inr h
  have hS : va_S A s.heap s.heap [] := va_S.rf
  have hP : va_P D cls9 [(h2, .inr (0, [.ref h9, .ref h10, .ref h11, .ref h12, .int tc, .int ta, .int td, .int tf])), (h9, .inl (kI, 3001, .inl f9)), (h10, .inl (kI, 3001, .inl f10)), (h11, .inl (kJ, 3001, .inr (.inl f11))), (h12, .inl (kJ, 27, .inr (.inl f12)))] s.heap := hP
  have hl := lv_entry ([.ref h2]) (n := 3) (Nat.le_of_ble_eq_true rfl)
  rw [lg_entry_eq]
  generalize (lg_sl ([.ref h2]) ++ List.replicate (3 - (lg_sl ([.ref h2])).length) Slot.unset).toArray = ls at hl ⊢
  have hl : lv_has ls 3 [(0, .ref h2)] := hl
  refine lv_aload_n hx hb d_8_29_0 rfl (lv_at hl 0 rfl) ?_
  refine lv_bipush (v := 27) hx hb d_8_29_1 (by decide +kernel) ?_
  have hPc := hP.sub (ws' := [(h2, .inr (0, [.ref h9, .ref h10, .ref h11, .ref h12, .int tc, .int ta, .int td, .int tf])), (h9, .inl (kI, 3001, .inl f9)), (h10, .inl (kI, 3001, .inl f10)), (h11, .inl (kJ, 3001, .inr (.inl f11))), (h12, .inl (kJ, 27, .inr (.inl f12)))]) [0, 1, 2, 3, 4] rfl
  have hDc := hD.sub (ws' := [(h2, .inr (0, [.ref h9, .ref h10, .ref h11, .ref h12, .int tc, .int ta, .int td, .int tf])), (h9, .inl (kI, 3001, .inl f9)), (h10, .inl (kI, 3001, .inl f10)), (h11, .inl (kJ, 3001, .inr (.inl f11))), (h12, .inl (kJ, 27, .inr (.inl f12)))]) [0, 1, 2, 3, 4] (by decide) rfl
  have hFc := va_free (wc := [(h2, .inr (0, [.ref h9, .ref h10, .ref h11, .ref h12, .int tc, .int ta, .int td, .int tf])), (h9, .inl (kI, 3001, .inl f9)), (h10, .inl (kI, 3001, .inl f10)), (h11, .inl (kJ, 3001, .inr (.inl f11))), (h12, .inl (kJ, 27, .inr (.inl f12)))]) hD hS hA [0, 1, 2, 3, 4] rfl
  refine va_calli (va_runV (As := [.int 27]) (rest := []) ⟨hx, hb, hml, hown, hts⟩ (g_Tokens_sees l D kI kJ kB kZ _ (h2) (h9) (h10) (h11) (h12) (tc) (ta) (td) (tf) (f9) (f10) (f11) (f12) ((27 : Int32)) (by first | assumption | omega) (by first | assumption | omega) (by first | assumption | omega) (by first | assumption | omega) (by first | assumption | omega) (by first | assumption | exact zpl (by assumption) (by omega))) (cwV 1 hts (gT_V m_811 m_617 m_618 m_121 (gT_ws m_619)) rfl rfl rfl (by decide +kernel) ⟨(Nat.le_of_ble_eq_true rfl), (Nat.le_of_ble_eq_true rfl)⟩) ⟨xBlind xOk_N, va_recv hK hP (ci := 0) (q0 := 0) rfl rfl, xAtN hK hPc hDc⟩ rfl rfl hl.1 rfl (lv_room (Nat.le_of_ble_eq_true rfl)) d_8_29_3 ⟨(Nat.le_of_ble_eq_true rfl), (Nat.le_of_ble_eq_true rfl)⟩) hS (fun q _ h => hFc q h) hFc (fun r_1 u t H1 locs ht hvm hw_2 hB hz1 hk1 hS => ?_)
  clear hz1
  obtain ⟨hP, hD⟩ := xJoin (wr := []) (w1 := [(h2, .inr (0, [.ref h9, .ref h10, .ref h11, .ref h12, .int tc, .int ta, .int td, .int tf])), (h9, .inl (kI, 3001, .inl f9)), (h10, .inl (kI, 3001, .inl f10)), (h11, .inl (kJ, 3001, .inr (.inl f11))), (h12, .inl (kJ, 27, .inr (.inl f12)))]) hP hD [0, 1, 2, 3, 4] [] rfl rfl (by decide) (by decide) hk1 hFc ht hB
  generalize H1 = H at hP hS ⊢
  have hP : va_P D cls9 [(h2, .inr (0, [.ref h9, .ref h10, .ref h11, .ref h12, .int tc, .int ta, .int td, .int tf])), (h9, .inl (kI, 3001, .inl f9)), (h10, .inl (kI, 3001, .inl f10)), (h11, .inl (kJ, 3001, .inr (.inl f11))), (h12, .inl (kJ, 27, .inr (.inl f12)))] H := hP
  have hD : va_D A [(h2, .inr (0, [.ref h9, .ref h10, .ref h11, .ref h12, .int tc, .int ta, .int td, .int tf])), (h9, .inl (kI, 3001, .inl f9)), (h10, .inl (kI, 3001, .inl f10)), (h11, .inl (kJ, 3001, .inr (.inl f11))), (h12, .inl (kJ, 27, .inr (.inl f12)))] := hD
  have hw_2 : r_1.toInt = 0 ∨ (27 : Int) = -2 ∨ tf.toInt = -2 := hw_2
  refine lv_if_ne (tgt := 11) hx hb d_8_29_6 (by decide +kernel) (fun c_3 => ?_) (fun c_3 => ?_)
  · skip
    have tc_3 : ¬ r_1.toInt = 0 := fun h9 => c_3 (Int32.toInt_inj.mp h9)
    refine lv_aload_n hx hb d_8_29_11 rfl (lv_at hl 0 rfl) ?_
    have hPc := hP.sub (ws' := [(h2, .inr (0, [.ref h9, .ref h10, .ref h11, .ref h12, .int tc, .int ta, .int td, .int tf])), (h9, .inl (kI, 3001, .inl f9)), (h10, .inl (kI, 3001, .inl f10)), (h11, .inl (kJ, 3001, .inr (.inl f11))), (h12, .inl (kJ, 27, .inr (.inl f12)))]) [0, 1, 2, 3, 4] rfl
    have hDc := hD.sub (ws' := [(h2, .inr (0, [.ref h9, .ref h10, .ref h11, .ref h12, .int tc, .int ta, .int td, .int tf])), (h9, .inl (kI, 3001, .inl f9)), (h10, .inl (kI, 3001, .inl f10)), (h11, .inl (kJ, 3001, .inr (.inl f11))), (h12, .inl (kJ, 27, .inr (.inl f12)))]) [0, 1, 2, 3, 4] (by decide) rfl
    have hFc := va_free (wc := [(h2, .inr (0, [.ref h9, .ref h10, .ref h11, .ref h12, .int tc, .int ta, .int td, .int tf])), (h9, .inl (kI, 3001, .inl f9)), (h10, .inl (kI, 3001, .inl f10)), (h11, .inl (kJ, 3001, .inr (.inl f11))), (h12, .inl (kJ, 27, .inr (.inl f12)))]) hD hS hA [0, 1, 2, 3, 4] rfl
    refine va_calli (va_runV (As := []) (rest := []) ⟨hx, hb, hml, hown, hts⟩ (g_Tokens_next l D kI kJ kB kZ _ (h2) (h9) (h10) (h11) (h12) (tc) (ta) (td) (tf) (f9) (f10) (f11) (f12) (by first | assumption | omega) (by first | assumption | omega) (by first | assumption | omega) (by first | assumption | omega) (by first | assumption | omega) (by first | assumption | exact zpl (by assumption) (by omega))) (cwV 0 hts (gT_V m_812 m_800 m_801 m_121 (gT_ws m_802)) rfl rfl rfl (by decide +kernel) ⟨(Nat.le_of_ble_eq_true rfl), (Nat.le_of_ble_eq_true rfl)⟩) ⟨xBlind xOk_N, va_recv hK hP (ci := 0) (q0 := 0) rfl rfl, xAtN hK hPc hDc⟩ rfl rfl hl.1 rfl (lv_room (Nat.le_of_ble_eq_true rfl)) d_8_29_12 ⟨(Nat.le_of_ble_eq_true rfl), (Nat.le_of_ble_eq_true rfl)⟩) hS (fun q _ h => hFc q h) hFc (fun r_4 u t H1 locs ht hvm hw_5 hB hz1 hk1 hS => ?_)
    clear hz1
    obtain ⟨hP, hD⟩ := xJoin (wr := []) (w1 := [(h2, .inr (0, [.ref h9, .ref h10, .ref h11, .ref h12, .int tc, .int ta, .int td, .int tf])), (h9, .inl (kI, 3001, .inl f9)), (h10, .inl (kI, 3001, .inl f10)), (h11, .inl (kJ, 3001, .inr (.inl f11))), (h12, .inl (kJ, 27, .inr (.inl f12)))]) hP hD [0, 1, 2, 3, 4] [] rfl rfl (by decide) (by decide) hk1 hFc ht hB
    generalize H1 = H at hP hS ⊢
    have hP : va_P D cls9 [(h2, .inr (0, [.ref h9, .ref h10, .ref h11, .ref h12, .int tc, .int ta, .int td, .int tf])), (h9, .inl (kI, 3001, .inl f9)), (h10, .inl (kI, 3001, .inl f10)), (h11, .inl (kJ, 3001, .inr (.inl f11))), (h12, .inl (kJ, 27, .inr (.inl f12)))] H := hP
    have hD : va_D A [(h2, .inr (0, [.ref h9, .ref h10, .ref h11, .ref h12, .int tc, .int ta, .int td, .int tf])), (h9, .inl (kI, 3001, .inl f9)), (h10, .inl (kI, 3001, .inl f10)), (h11, .inl (kJ, 3001, .inr (.inl f11))), (h12, .inl (kJ, 27, .inr (.inl f12)))] := hD
    refine lv_bipush (v := 36) hx hb d_8_29_15 (by decide +kernel) ?_
    refine lv_icmp_eq (tgt := 35) hx hb d_8_29_17 (by decide +kernel) (fun c_6 => ?_) (fun c_6 => ?_)
    · skip
      have tc_6 : r_4.toInt = 36 := congrArg Int32.toInt c_6
      refine lv_iconst (v := 0) hx hb d_8_29_35 (by decide +kernel) ?_
      refine lv_istore_n (lv' := [(1, .int 0), (0, .ref h2)]) hx hb d_8_29_36 rfl hl (by decide +kernel) rfl (fun ls hl => ?_)
      refine lv_aload_n hx hb d_8_29_37 rfl (lv_at hl 1 rfl) ?_
      refine va_get (D := D) (ci := 0) (v := .int ta) (C := "AlgolJudge$Tokens") (T := T_Tokens) (N := 8) hx hb hts i_Tokens hown hK hP 0 rfl rfl 5 (by decide +kernel) (hts _ m_215) (fun _ h9 => h9) rfl d_8_29_38 ?_
      refine lv_iconst (v := 1) hx hb d_8_29_41 (by decide +kernel) ?_
      refine lv_iadd hx hb d_8_29_42 ?_
      refine lv_topi (fun y_7 ey_7 => ?_)
      have ty_7 : y_7.toInt = ta.toInt + 1 := by rw [ey_7]; exact zaddc (by decide +kernel) (by omega) (by omega)
      refine lv_istore_n (lv' := [(2, .int y_7), (1, .int 0), (0, .ref h2)]) hx hb d_8_29_43 rfl hl (by decide +kernel) rfl (fun ls hl => ?_)
      refine xLoop (I := fun n H locs ls => ∃ v44_2 : Int32, ∃ v44_1 : Int32, (0 ≤ v44_2.toInt) ∧ (v44_2.toInt ≤ 3001) ∧ n = (3001 - v44_2.toInt).toNat ∧ va_P D cls9 [(h2, .inr (0, [.ref h9, .ref h10, .ref h11, .ref h12, .int tc, .int ta, .int td, .int tf])), (h9, .inl (kI, 3001, .inl f9)), (h10, .inl (kI, 3001, .inl f10)), (h11, .inl (kJ, 3001, .inr (.inl f11))), (h12, .inl (kJ, 27, .inr (.inl f12)))] H ∧ va_D A [(h2, .inr (0, [.ref h9, .ref h10, .ref h11, .ref h12, .int tc, .int ta, .int td, .int tf])), (h9, .inl (kI, 3001, .inl f9)), (h10, .inl (kI, 3001, .inl f10)), (h11, .inl (kJ, 3001, .inr (.inl f11))), (h12, .inl (kJ, 27, .inr (.inl f12)))] ∧ va_S A s.heap H locs ∧ lv_has ls 3 [(2, .int v44_2), (1, .int v44_1), (0, .ref h2)]) ?_ _ _ _ _ ⟨y_7, 0, (show 0 ≤ y_7.toInt from (by first | assumption | omega)), (show y_7.toInt ≤ 3001 from (by first | assumption | omega)), rfl, hP.sub (ws' := [(h2, .inr (0, [.ref h9, .ref h10, .ref h11, .ref h12, .int tc, .int ta, .int td, .int tf])), (h9, .inl (kI, 3001, .inl f9)), (h10, .inl (kI, 3001, .inl f10)), (h11, .inl (kJ, 3001, .inr (.inl f11))), (h12, .inl (kJ, 27, .inr (.inl f12)))]) [0, 1, 2, 3, 4] rfl, hD.sub (ws' := [(h2, .inr (0, [.ref h9, .ref h10, .ref h11, .ref h12, .int tc, .int ta, .int td, .int tf])), (h9, .inl (kI, 3001, .inl f9)), (h10, .inl (kI, 3001, .inl f10)), (h11, .inl (kJ, 3001, .inr (.inl f11))), (h12, .inl (kJ, 27, .inr (.inl f12)))]) [0, 1, 2, 3, 4] (by decide) rfl, hS, lv_sub hl [0, 1, 2] rfl⟩
      intro n_10 H locs ls hI9 ih_11
      obtain ⟨v44_2, v44_1, hl_8, hl_9, hn_10, hP, hD, hS, hl⟩ := hI9
      refine lv_iload_n hx hb d_8_29_44 rfl (lv_at hl 0 rfl) ?_
      refine lv_aload_n hx hb d_8_29_45 rfl (lv_at hl 2 rfl) ?_
      refine va_get (D := D) (ci := 0) (v := .int tc) (C := "AlgolJudge$Tokens") (T := T_Tokens) (N := 8) hx hb hts i_Tokens hown hK hP 0 rfl rfl 4 (by decide +kernel) (hts _ m_214) (fun _ h9 => h9) rfl d_8_29_46 ?_
      refine lv_iconst (v := 1) hx hb d_8_29_49 (by decide +kernel) ?_
      refine lv_isub hx hb d_8_29_50 ?_
      refine lv_topi (fun y_12 ey_12 => ?_)
      have ty_12 : y_12.toInt = tc.toInt - 1 := by rw [ey_12]; exact zsubc (by decide +kernel) (by omega) (by omega)
      refine lv_icmp_ge (tgt := 114) hx hb d_8_29_51 (by decide +kernel) (fun c_13 => ?_) (fun c_13 => ?_)
      · skip
        have tc_13 : y_12.toInt ≤ v44_2.toInt := Int32.le_iff_toInt_le.mp c_13
        refine lv_iconst (v := 0) hx hb d_8_29_114 (by decide +kernel) ?_
        have hP9 := hP.sub (ws' := [(h2, .inr (0, [.ref h9, .ref h10, .ref h11, .ref h12, .int tc, .int ta, .int td, .int tf])), (h9, .inl (kI, 3001, .inl f9)), (h10, .inl (kI, 3001, .inl f10)), (h11, .inl (kJ, 3001, .inr (.inl f11))), (h12, .inl (kJ, 27, .inr (.inl f12)))]) [0, 1, 2, 3, 4] rfl
        have hD9 := hD.sub (ws' := [(h2, .inr (0, [.ref h9, .ref h10, .ref h11, .ref h12, .int tc, .int ta, .int td, .int tf])), (h9, .inl (kI, 3001, .inl f9)), (h10, .inl (kI, 3001, .inl f10)), (h11, .inl (kJ, 3001, .inr (.inl f11))), (h12, .inl (kJ, 27, .inr (.inl f12)))]) [0, 1, 2, 3, 4] (by decide) rfl
        exact W.zret (v := 0) (ty := .boolean) hx hb hr (by decide +kernel) (fun t ht hW => ⟨⟨0, (), rfl, trivial, xEnd hK hP9 hD9 ht hW⟩, hS.F ht⟩) hS.2.2 d_8_29_115
      · skip
        have tc_13 : ¬ y_12.toInt ≤ v44_2.toInt := fun h9 => c_13 (Int32.le_iff_toInt_le.mpr h9)
        refine lv_aload_n hx hb d_8_29_54 rfl (lv_at hl 2 rfl) ?_
        refine va_get (D := D) (ci := 0) (v := .ref h9) (C := "AlgolJudge$Tokens") (T := T_Tokens) (N := 8) hx hb hts i_Tokens hown hK hP 0 rfl rfl 0 (by decide +kernel) (hts _ m_210) (fun _ h9 => h9) rfl d_8_29_55 ?_
        refine lv_iload_n hx hb d_8_29_58 rfl (lv_at hl 0 rfl) ?_
        refine va_iald hx hb hK hP 1 0 rfl rfl (vp_in_iff.mpr ⟨by omega, by omega⟩) d_8_29_59 ?_
        refine lv_topi (fun z_14 ez_14 => ?_)
        refine lv_bipush (v := 36) hx hb d_8_29_60 (by decide +kernel) ?_
        refine lv_icmp_ne (tgt := 71) hx hb d_8_29_62 (by decide +kernel) (fun c_15 => ?_) (fun c_15 => ?_)
        · skip
          have tc_15 : ¬ z_14.toInt = 36 := fun h9 => c_15 (Int32.toInt_inj.mp h9)
          refine lv_aload_n hx hb d_8_29_71 rfl (lv_at hl 2 rfl) ?_
          refine va_get (D := D) (ci := 0) (v := .ref h9) (C := "AlgolJudge$Tokens") (T := T_Tokens) (N := 8) hx hb hts i_Tokens hown hK hP 0 rfl rfl 0 (by decide +kernel) (hts _ m_210) (fun _ h9 => h9) rfl d_8_29_72 ?_
          refine lv_iload_n hx hb d_8_29_75 rfl (lv_at hl 0 rfl) ?_
          refine va_iald hx hb hK hP 1 0 rfl rfl (vp_in_iff.mpr ⟨by omega, by omega⟩) d_8_29_76 ?_
          refine lv_topi (fun z_16 ez_16 => ?_)
          refine lv_bipush (v := 37) hx hb d_8_29_77 (by decide +kernel) ?_
          refine lv_icmp_ne (tgt := 85) hx hb d_8_29_79 (by decide +kernel) (fun c_17 => ?_) (fun c_17 => ?_)
          · skip
            have tc_17 : ¬ z_16.toInt = 37 := fun h9 => c_17 (Int32.toInt_inj.mp h9)
            refine lv_iload_n hx hb d_8_29_85 rfl (lv_at hl 1 rfl) ?_
            refine lv_if_ne (tgt := 108) hx hb d_8_29_86 (by decide +kernel) (fun c_18 => ?_) (fun c_18 => ?_)
            · skip
              have tc_18 : ¬ v44_1.toInt = 0 := fun h9 => c_18 (Int32.toInt_inj.mp h9)
              obtain ⟨y_19, ey_19⟩ : ∃ y : Int32, y = v44_2 + 1 := ⟨_, rfl⟩
              have ty_19 : y_19.toInt = v44_2.toInt + 1 := by rw [ey_19]; exact zaddc (by decide +kernel) (by omega) (by omega)
              refine lv_iinc (v := y_19) (lv' := [(2, .int y_19), (1, .int v44_1), (0, .ref h2)]) hx hb d_8_29_108 hl (k := 0) rfl (by rw [ey_19]; rfl) (by decide +kernel) rfl (fun ls hl => ?_)
              refine lv_goto (tgt := 44) hx hb d_8_29_111 (by decide +kernel) ?_
              exact ih_11 _ _ _ _ (by omega) ⟨y_19, v44_1, (show 0 ≤ y_19.toInt from (by first | assumption | omega)), (show y_19.toInt ≤ 3001 from (by first | assumption | omega)), rfl, hP.sub (ws' := [(h2, .inr (0, [.ref h9, .ref h10, .ref h11, .ref h12, .int tc, .int ta, .int td, .int tf])), (h9, .inl (kI, 3001, .inl f9)), (h10, .inl (kI, 3001, .inl f10)), (h11, .inl (kJ, 3001, .inr (.inl f11))), (h12, .inl (kJ, 27, .inr (.inl f12)))]) [0, 1, 2, 3, 4] rfl, hD.sub (ws' := [(h2, .inr (0, [.ref h9, .ref h10, .ref h11, .ref h12, .int tc, .int ta, .int td, .int tf])), (h9, .inl (kI, 3001, .inl f9)), (h10, .inl (kI, 3001, .inl f10)), (h11, .inl (kJ, 3001, .inr (.inl f11))), (h12, .inl (kJ, 27, .inr (.inl f12)))]) [0, 1, 2, 3, 4] (by decide) rfl, hS, lv_sub hl [0, 1, 2] rfl⟩
            · skip
              have tc_18 : v44_1.toInt = 0 := congrArg Int32.toInt c_18
              refine lv_aload_n hx hb d_8_29_89 rfl (lv_at hl 2 rfl) ?_
              refine va_get (D := D) (ci := 0) (v := .ref h9) (C := "AlgolJudge$Tokens") (T := T_Tokens) (N := 8) hx hb hts i_Tokens hown hK hP 0 rfl rfl 0 (by decide +kernel) (hts _ m_210) (fun _ h9 => h9) rfl d_8_29_90 ?_
              refine lv_iload_n hx hb d_8_29_93 rfl (lv_at hl 0 rfl) ?_
              refine lv_iconst (v := 1) hx hb d_8_29_94 (by decide +kernel) ?_
              refine lv_iadd hx hb d_8_29_95 ?_
              refine lv_topi (fun y_20 ey_20 => ?_)
              have ty_20 : y_20.toInt = v44_2.toInt + 1 := by rw [ey_20]; exact zaddc (by decide +kernel) (by omega) (by omega)
              refine va_iald hx hb hK hP 1 0 rfl rfl (vp_in_iff.mpr ⟨by omega, by omega⟩) d_8_29_96 ?_
              refine lv_topi (fun z_21 ez_21 => ?_)
              refine lv_bipush (v := 47) hx hb d_8_29_97 (by decide +kernel) ?_
              refine lv_icmp_ne (tgt := 106) hx hb d_8_29_99 (by decide +kernel) (fun c_22 => ?_) (fun c_22 => ?_)
              · skip
                have tc_22 : ¬ z_21.toInt = 47 := fun h9 => c_22 (Int32.toInt_inj.mp h9)
                refine lv_iconst (v := 0) hx hb d_8_29_106 (by decide +kernel) ?_
                have hP9 := hP.sub (ws' := [(h2, .inr (0, [.ref h9, .ref h10, .ref h11, .ref h12, .int tc, .int ta, .int td, .int tf])), (h9, .inl (kI, 3001, .inl f9)), (h10, .inl (kI, 3001, .inl f10)), (h11, .inl (kJ, 3001, .inr (.inl f11))), (h12, .inl (kJ, 27, .inr (.inl f12)))]) [0, 1, 2, 3, 4] rfl
                have hD9 := hD.sub (ws' := [(h2, .inr (0, [.ref h9, .ref h10, .ref h11, .ref h12, .int tc, .int ta, .int td, .int tf])), (h9, .inl (kI, 3001, .inl f9)), (h10, .inl (kI, 3001, .inl f10)), (h11, .inl (kJ, 3001, .inr (.inl f11))), (h12, .inl (kJ, 27, .inr (.inl f12)))]) [0, 1, 2, 3, 4] (by decide) rfl
                exact W.zret (v := 0) (ty := .boolean) hx hb hr (by decide +kernel) (fun t ht hW => ⟨⟨0, (), rfl, trivial, xEnd hK hP9 hD9 ht hW⟩, hS.F ht⟩) hS.2.2 d_8_29_107
              · skip
                have tc_22 : z_21.toInt = 47 := congrArg Int32.toInt c_22
                refine lv_iconst (v := 1) hx hb d_8_29_102 (by decide +kernel) ?_
                refine lv_goto (tgt := 107) hx hb d_8_29_103 (by decide +kernel) ?_
                have hP9 := hP.sub (ws' := [(h2, .inr (0, [.ref h9, .ref h10, .ref h11, .ref h12, .int tc, .int ta, .int td, .int tf])), (h9, .inl (kI, 3001, .inl f9)), (h10, .inl (kI, 3001, .inl f10)), (h11, .inl (kJ, 3001, .inr (.inl f11))), (h12, .inl (kJ, 27, .inr (.inl f12)))]) [0, 1, 2, 3, 4] rfl
                have hD9 := hD.sub (ws' := [(h2, .inr (0, [.ref h9, .ref h10, .ref h11, .ref h12, .int tc, .int ta, .int td, .int tf])), (h9, .inl (kI, 3001, .inl f9)), (h10, .inl (kI, 3001, .inl f10)), (h11, .inl (kJ, 3001, .inr (.inl f11))), (h12, .inl (kJ, 27, .inr (.inl f12)))]) [0, 1, 2, 3, 4] (by decide) rfl
                exact W.zret (v := 1) (ty := .boolean) hx hb hr (by decide +kernel) (fun t ht hW => ⟨⟨1, (), rfl, trivial, xEnd hK hP9 hD9 ht hW⟩, hS.F ht⟩) hS.2.2 d_8_29_107
          · skip
            have tc_17 : z_16.toInt = 37 := congrArg Int32.toInt c_17
            obtain ⟨y_23, ey_23⟩ : ∃ y : Int32, y = v44_1 + (-1) := ⟨_, rfl⟩
            refine lv_iinc (v := y_23) (lv' := [(1, .int y_23), (2, .int v44_2), (0, .ref h2)]) hx hb d_8_29_82 hl (k := 1) rfl (by rw [ey_23]; rfl) (by decide +kernel) rfl (fun ls hl => ?_)
            refine lv_iload_n hx hb d_8_29_85 rfl (lv_at hl 0 rfl) ?_
            refine lv_if_ne (tgt := 108) hx hb d_8_29_86 (by decide +kernel) (fun c_24 => ?_) (fun c_24 => ?_)
            · skip
              have tc_24 : ¬ y_23.toInt = 0 := fun h9 => c_24 (Int32.toInt_inj.mp h9)
              obtain ⟨y_25, ey_25⟩ : ∃ y : Int32, y = v44_2 + 1 := ⟨_, rfl⟩
              have ty_25 : y_25.toInt = v44_2.toInt + 1 := by rw [ey_25]; exact zaddc (by decide +kernel) (by omega) (by omega)
              refine lv_iinc (v := y_25) (lv' := [(2, .int y_25), (1, .int y_23), (0, .ref h2)]) hx hb d_8_29_108 hl (k := 1) rfl (by rw [ey_25]; rfl) (by decide +kernel) rfl (fun ls hl => ?_)
              refine lv_goto (tgt := 44) hx hb d_8_29_111 (by decide +kernel) ?_
              exact ih_11 _ _ _ _ (by omega) ⟨y_25, y_23, (show 0 ≤ y_25.toInt from (by first | assumption | omega)), (show y_25.toInt ≤ 3001 from (by first | assumption | omega)), rfl, hP.sub (ws' := [(h2, .inr (0, [.ref h9, .ref h10, .ref h11, .ref h12, .int tc, .int ta, .int td, .int tf])), (h9, .inl (kI, 3001, .inl f9)), (h10, .inl (kI, 3001, .inl f10)), (h11, .inl (kJ, 3001, .inr (.inl f11))), (h12, .inl (kJ, 27, .inr (.inl f12)))]) [0, 1, 2, 3, 4] rfl, hD.sub (ws' := [(h2, .inr (0, [.ref h9, .ref h10, .ref h11, .ref h12, .int tc, .int ta, .int td, .int tf])), (h9, .inl (kI, 3001, .inl f9)), (h10, .inl (kI, 3001, .inl f10)), (h11, .inl (kJ, 3001, .inr (.inl f11))), (h12, .inl (kJ, 27, .inr (.inl f12)))]) [0, 1, 2, 3, 4] (by decide) rfl, hS, lv_sub hl [0, 1, 2] rfl⟩
            · skip
              have tc_24 : y_23.toInt = 0 := congrArg Int32.toInt c_24
              refine lv_aload_n hx hb d_8_29_89 rfl (lv_at hl 2 rfl) ?_
              refine va_get (D := D) (ci := 0) (v := .ref h9) (C := "AlgolJudge$Tokens") (T := T_Tokens) (N := 8) hx hb hts i_Tokens hown hK hP 0 rfl rfl 0 (by decide +kernel) (hts _ m_210) (fun _ h9 => h9) rfl d_8_29_90 ?_
              refine lv_iload_n hx hb d_8_29_93 rfl (lv_at hl 1 rfl) ?_
              refine lv_iconst (v := 1) hx hb d_8_29_94 (by decide +kernel) ?_
              refine lv_iadd hx hb d_8_29_95 ?_
              refine lv_topi (fun y_26 ey_26 => ?_)
              have ty_26 : y_26.toInt = v44_2.toInt + 1 := by rw [ey_26]; exact zaddc (by decide +kernel) (by omega) (by omega)
              refine va_iald hx hb hK hP 1 0 rfl rfl (vp_in_iff.mpr ⟨by omega, by omega⟩) d_8_29_96 ?_
              refine lv_topi (fun z_27 ez_27 => ?_)
              refine lv_bipush (v := 47) hx hb d_8_29_97 (by decide +kernel) ?_
              refine lv_icmp_ne (tgt := 106) hx hb d_8_29_99 (by decide +kernel) (fun c_28 => ?_) (fun c_28 => ?_)
              · skip
                have tc_28 : ¬ z_27.toInt = 47 := fun h9 => c_28 (Int32.toInt_inj.mp h9)
                refine lv_iconst (v := 0) hx hb d_8_29_106 (by decide +kernel) ?_
                have hP9 := hP.sub (ws' := [(h2, .inr (0, [.ref h9, .ref h10, .ref h11, .ref h12, .int tc, .int ta, .int td, .int tf])), (h9, .inl (kI, 3001, .inl f9)), (h10, .inl (kI, 3001, .inl f10)), (h11, .inl (kJ, 3001, .inr (.inl f11))), (h12, .inl (kJ, 27, .inr (.inl f12)))]) [0, 1, 2, 3, 4] rfl
                have hD9 := hD.sub (ws' := [(h2, .inr (0, [.ref h9, .ref h10, .ref h11, .ref h12, .int tc, .int ta, .int td, .int tf])), (h9, .inl (kI, 3001, .inl f9)), (h10, .inl (kI, 3001, .inl f10)), (h11, .inl (kJ, 3001, .inr (.inl f11))), (h12, .inl (kJ, 27, .inr (.inl f12)))]) [0, 1, 2, 3, 4] (by decide) rfl
                exact W.zret (v := 0) (ty := .boolean) hx hb hr (by decide +kernel) (fun t ht hW => ⟨⟨0, (), rfl, trivial, xEnd hK hP9 hD9 ht hW⟩, hS.F ht⟩) hS.2.2 d_8_29_107
              · skip
                have tc_28 : z_27.toInt = 47 := congrArg Int32.toInt c_28
                refine lv_iconst (v := 1) hx hb d_8_29_102 (by decide +kernel) ?_
                refine lv_goto (tgt := 107) hx hb d_8_29_103 (by decide +kernel) ?_
                have hP9 := hP.sub (ws' := [(h2, .inr (0, [.ref h9, .ref h10, .ref h11, .ref h12, .int tc, .int ta, .int td, .int tf])), (h9, .inl (kI, 3001, .inl f9)), (h10, .inl (kI, 3001, .inl f10)), (h11, .inl (kJ, 3001, .inr (.inl f11))), (h12, .inl (kJ, 27, .inr (.inl f12)))]) [0, 1, 2, 3, 4] rfl
                have hD9 := hD.sub (ws' := [(h2, .inr (0, [.ref h9, .ref h10, .ref h11, .ref h12, .int tc, .int ta, .int td, .int tf])), (h9, .inl (kI, 3001, .inl f9)), (h10, .inl (kI, 3001, .inl f10)), (h11, .inl (kJ, 3001, .inr (.inl f11))), (h12, .inl (kJ, 27, .inr (.inl f12)))]) [0, 1, 2, 3, 4] (by decide) rfl
                exact W.zret (v := 1) (ty := .boolean) hx hb hr (by decide +kernel) (fun t ht hW => ⟨⟨1, (), rfl, trivial, xEnd hK hP9 hD9 ht hW⟩, hS.F ht⟩) hS.2.2 d_8_29_107
        · skip
          have tc_15 : z_14.toInt = 36 := congrArg Int32.toInt c_15
          obtain ⟨y_29, ey_29⟩ : ∃ y : Int32, y = v44_1 + 1 := ⟨_, rfl⟩
          refine lv_iinc (v := y_29) (lv' := [(1, .int y_29), (2, .int v44_2), (0, .ref h2)]) hx hb d_8_29_65 hl (k := 1) rfl (by rw [ey_29]; rfl) (by decide +kernel) rfl (fun ls hl => ?_)
          refine lv_goto (tgt := 85) hx hb d_8_29_68 (by decide +kernel) ?_
          refine lv_iload_n hx hb d_8_29_85 rfl (lv_at hl 0 rfl) ?_
          refine lv_if_ne (tgt := 108) hx hb d_8_29_86 (by decide +kernel) (fun c_30 => ?_) (fun c_30 => ?_)
          · skip
            have tc_30 : ¬ y_29.toInt = 0 := fun h9 => c_30 (Int32.toInt_inj.mp h9)
            obtain ⟨y_31, ey_31⟩ : ∃ y : Int32, y = v44_2 + 1 := ⟨_, rfl⟩
            have ty_31 : y_31.toInt = v44_2.toInt + 1 := by rw [ey_31]; exact zaddc (by decide +kernel) (by omega) (by omega)
            refine lv_iinc (v := y_31) (lv' := [(2, .int y_31), (1, .int y_29), (0, .ref h2)]) hx hb d_8_29_108 hl (k := 1) rfl (by rw [ey_31]; rfl) (by decide +kernel) rfl (fun ls hl => ?_)
            refine lv_goto (tgt := 44) hx hb d_8_29_111 (by decide +kernel) ?_
            exact ih_11 _ _ _ _ (by omega) ⟨y_31, y_29, (show 0 ≤ y_31.toInt from (by first | assumption | omega)), (show y_31.toInt ≤ 3001 from (by first | assumption | omega)), rfl, hP.sub (ws' := [(h2, .inr (0, [.ref h9, .ref h10, .ref h11, .ref h12, .int tc, .int ta, .int td, .int tf])), (h9, .inl (kI, 3001, .inl f9)), (h10, .inl (kI, 3001, .inl f10)), (h11, .inl (kJ, 3001, .inr (.inl f11))), (h12, .inl (kJ, 27, .inr (.inl f12)))]) [0, 1, 2, 3, 4] rfl, hD.sub (ws' := [(h2, .inr (0, [.ref h9, .ref h10, .ref h11, .ref h12, .int tc, .int ta, .int td, .int tf])), (h9, .inl (kI, 3001, .inl f9)), (h10, .inl (kI, 3001, .inl f10)), (h11, .inl (kJ, 3001, .inr (.inl f11))), (h12, .inl (kJ, 27, .inr (.inl f12)))]) [0, 1, 2, 3, 4] (by decide) rfl, hS, lv_sub hl [0, 1, 2] rfl⟩
          · skip
            have tc_30 : y_29.toInt = 0 := congrArg Int32.toInt c_30
            refine lv_aload_n hx hb d_8_29_89 rfl (lv_at hl 2 rfl) ?_
            refine va_get (D := D) (ci := 0) (v := .ref h9) (C := "AlgolJudge$Tokens") (T := T_Tokens) (N := 8) hx hb hts i_Tokens hown hK hP 0 rfl rfl 0 (by decide +kernel) (hts _ m_210) (fun _ h9 => h9) rfl d_8_29_90 ?_
            refine lv_iload_n hx hb d_8_29_93 rfl (lv_at hl 1 rfl) ?_
            refine lv_iconst (v := 1) hx hb d_8_29_94 (by decide +kernel) ?_
            refine lv_iadd hx hb d_8_29_95 ?_
            refine lv_topi (fun y_32 ey_32 => ?_)
            have ty_32 : y_32.toInt = v44_2.toInt + 1 := by rw [ey_32]; exact zaddc (by decide +kernel) (by omega) (by omega)
            refine va_iald hx hb hK hP 1 0 rfl rfl (vp_in_iff.mpr ⟨by omega, by omega⟩) d_8_29_96 ?_
            refine lv_topi (fun z_33 ez_33 => ?_)
            refine lv_bipush (v := 47) hx hb d_8_29_97 (by decide +kernel) ?_
            refine lv_icmp_ne (tgt := 106) hx hb d_8_29_99 (by decide +kernel) (fun c_34 => ?_) (fun c_34 => ?_)
            · skip
              have tc_34 : ¬ z_33.toInt = 47 := fun h9 => c_34 (Int32.toInt_inj.mp h9)
              refine lv_iconst (v := 0) hx hb d_8_29_106 (by decide +kernel) ?_
              have hP9 := hP.sub (ws' := [(h2, .inr (0, [.ref h9, .ref h10, .ref h11, .ref h12, .int tc, .int ta, .int td, .int tf])), (h9, .inl (kI, 3001, .inl f9)), (h10, .inl (kI, 3001, .inl f10)), (h11, .inl (kJ, 3001, .inr (.inl f11))), (h12, .inl (kJ, 27, .inr (.inl f12)))]) [0, 1, 2, 3, 4] rfl
              have hD9 := hD.sub (ws' := [(h2, .inr (0, [.ref h9, .ref h10, .ref h11, .ref h12, .int tc, .int ta, .int td, .int tf])), (h9, .inl (kI, 3001, .inl f9)), (h10, .inl (kI, 3001, .inl f10)), (h11, .inl (kJ, 3001, .inr (.inl f11))), (h12, .inl (kJ, 27, .inr (.inl f12)))]) [0, 1, 2, 3, 4] (by decide) rfl
              exact W.zret (v := 0) (ty := .boolean) hx hb hr (by decide +kernel) (fun t ht hW => ⟨⟨0, (), rfl, trivial, xEnd hK hP9 hD9 ht hW⟩, hS.F ht⟩) hS.2.2 d_8_29_107
            · skip
              have tc_34 : z_33.toInt = 47 := congrArg Int32.toInt c_34
              refine lv_iconst (v := 1) hx hb d_8_29_102 (by decide +kernel) ?_
              refine lv_goto (tgt := 107) hx hb d_8_29_103 (by decide +kernel) ?_
              have hP9 := hP.sub (ws' := [(h2, .inr (0, [.ref h9, .ref h10, .ref h11, .ref h12, .int tc, .int ta, .int td, .int tf])), (h9, .inl (kI, 3001, .inl f9)), (h10, .inl (kI, 3001, .inl f10)), (h11, .inl (kJ, 3001, .inr (.inl f11))), (h12, .inl (kJ, 27, .inr (.inl f12)))]) [0, 1, 2, 3, 4] rfl
              have hD9 := hD.sub (ws' := [(h2, .inr (0, [.ref h9, .ref h10, .ref h11, .ref h12, .int tc, .int ta, .int td, .int tf])), (h9, .inl (kI, 3001, .inl f9)), (h10, .inl (kI, 3001, .inl f10)), (h11, .inl (kJ, 3001, .inr (.inl f11))), (h12, .inl (kJ, 27, .inr (.inl f12)))]) [0, 1, 2, 3, 4] (by decide) rfl
              exact W.zret (v := 1) (ty := .boolean) hx hb hr (by decide +kernel) (fun t ht hW => ⟨⟨1, (), rfl, trivial, xEnd hK hP9 hD9 ht hW⟩, hS.F ht⟩) hS.2.2 d_8_29_107
    · skip
      have tc_6 : ¬ r_4.toInt = 36 := fun h9 => c_6 (Int32.toInt_inj.mp h9)
      refine lv_aload_n hx hb d_8_29_20 rfl (lv_at hl 0 rfl) ?_
      have hPc := hP.sub (ws' := [(h2, .inr (0, [.ref h9, .ref h10, .ref h11, .ref h12, .int tc, .int ta, .int td, .int tf])), (h9, .inl (kI, 3001, .inl f9)), (h10, .inl (kI, 3001, .inl f10)), (h11, .inl (kJ, 3001, .inr (.inl f11))), (h12, .inl (kJ, 27, .inr (.inl f12)))]) [0, 1, 2, 3, 4] rfl
      have hDc := hD.sub (ws' := [(h2, .inr (0, [.ref h9, .ref h10, .ref h11, .ref h12, .int tc, .int ta, .int td, .int tf])), (h9, .inl (kI, 3001, .inl f9)), (h10, .inl (kI, 3001, .inl f10)), (h11, .inl (kJ, 3001, .inr (.inl f11))), (h12, .inl (kJ, 27, .inr (.inl f12)))]) [0, 1, 2, 3, 4] (by decide) rfl
      have hFc := va_free (wc := [(h2, .inr (0, [.ref h9, .ref h10, .ref h11, .ref h12, .int tc, .int ta, .int td, .int tf])), (h9, .inl (kI, 3001, .inl f9)), (h10, .inl (kI, 3001, .inl f10)), (h11, .inl (kJ, 3001, .inr (.inl f11))), (h12, .inl (kJ, 27, .inr (.inl f12)))]) hD hS hA [0, 1, 2, 3, 4] rfl
      refine va_calli (va_runV (As := []) (rest := []) ⟨hx, hb, hml, hown, hts⟩ (g_Tokens_next l D kI kJ kB kZ _ (h2) (h9) (h10) (h11) (h12) (tc) (ta) (td) (tf) (f9) (f10) (f11) (f12) (by first | assumption | omega) (by first | assumption | omega) (by first | assumption | omega) (by first | assumption | omega) (by first | assumption | omega) (by first | assumption | exact zpl (by assumption) (by omega))) (cwV 0 hts (gT_V m_812 m_800 m_801 m_121 (gT_ws m_802)) rfl rfl rfl (by decide +kernel) ⟨(Nat.le_of_ble_eq_true rfl), (Nat.le_of_ble_eq_true rfl)⟩) ⟨xBlind xOk_N, va_recv hK hP (ci := 0) (q0 := 0) rfl rfl, xAtN hK hPc hDc⟩ rfl rfl hl.1 rfl (lv_room (Nat.le_of_ble_eq_true rfl)) d_8_29_21 ⟨(Nat.le_of_ble_eq_true rfl), (Nat.le_of_ble_eq_true rfl)⟩) hS (fun q _ h => hFc q h) hFc (fun r_35 u t H1 locs ht hvm hw_36 hB hz1 hk1 hS => ?_)
      clear hz1
      obtain ⟨hP, hD⟩ := xJoin (wr := []) (w1 := [(h2, .inr (0, [.ref h9, .ref h10, .ref h11, .ref h12, .int tc, .int ta, .int td, .int tf])), (h9, .inl (kI, 3001, .inl f9)), (h10, .inl (kI, 3001, .inl f10)), (h11, .inl (kJ, 3001, .inr (.inl f11))), (h12, .inl (kJ, 27, .inr (.inl f12)))]) hP hD [0, 1, 2, 3, 4] [] rfl rfl (by decide) (by decide) hk1 hFc ht hB
      generalize H1 = H at hP hS ⊢
      have hP : va_P D cls9 [(h2, .inr (0, [.ref h9, .ref h10, .ref h11, .ref h12, .int tc, .int ta, .int td, .int tf])), (h9, .inl (kI, 3001, .inl f9)), (h10, .inl (kI, 3001, .inl f10)), (h11, .inl (kJ, 3001, .inr (.inl f11))), (h12, .inl (kJ, 27, .inr (.inl f12)))] H := hP
      have hD : va_D A [(h2, .inr (0, [.ref h9, .ref h10, .ref h11, .ref h12, .int tc, .int ta, .int td, .int tf])), (h9, .inl (kI, 3001, .inl f9)), (h10, .inl (kI, 3001, .inl f10)), (h11, .inl (kJ, 3001, .inr (.inl f11))), (h12, .inl (kJ, 27, .inr (.inl f12)))] := hD
      refine lv_bipush (v := 47) hx hb d_8_29_24 (by decide +kernel) ?_
      refine lv_icmp_ne (tgt := 33) hx hb d_8_29_26 (by decide +kernel) (fun c_37 => ?_) (fun c_37 => ?_)
      · skip
        have tc_37 : ¬ r_35.toInt = 47 := fun h9 => c_37 (Int32.toInt_inj.mp h9)
        refine lv_iconst (v := 0) hx hb d_8_29_33 (by decide +kernel) ?_
        have hP9 := hP.sub (ws' := [(h2, .inr (0, [.ref h9, .ref h10, .ref h11, .ref h12, .int tc, .int ta, .int td, .int tf])), (h9, .inl (kI, 3001, .inl f9)), (h10, .inl (kI, 3001, .inl f10)), (h11, .inl (kJ, 3001, .inr (.inl f11))), (h12, .inl (kJ, 27, .inr (.inl f12)))]) [0, 1, 2, 3, 4] rfl
        have hD9 := hD.sub (ws' := [(h2, .inr (0, [.ref h9, .ref h10, .ref h11, .ref h12, .int tc, .int ta, .int td, .int tf])), (h9, .inl (kI, 3001, .inl f9)), (h10, .inl (kI, 3001, .inl f10)), (h11, .inl (kJ, 3001, .inr (.inl f11))), (h12, .inl (kJ, 27, .inr (.inl f12)))]) [0, 1, 2, 3, 4] (by decide) rfl
        exact W.zret (v := 0) (ty := .boolean) hx hb hr (by decide +kernel) (fun t ht hW => ⟨⟨0, (), rfl, trivial, xEnd hK hP9 hD9 ht hW⟩, hS.F ht⟩) hS.2.2 d_8_29_34
      · skip
        have tc_37 : r_35.toInt = 47 := congrArg Int32.toInt c_37
        refine lv_iconst (v := 1) hx hb d_8_29_29 (by decide +kernel) ?_
        refine lv_goto (tgt := 34) hx hb d_8_29_30 (by decide +kernel) ?_
        have hP9 := hP.sub (ws' := [(h2, .inr (0, [.ref h9, .ref h10, .ref h11, .ref h12, .int tc, .int ta, .int td, .int tf])), (h9, .inl (kI, 3001, .inl f9)), (h10, .inl (kI, 3001, .inl f10)), (h11, .inl (kJ, 3001, .inr (.inl f11))), (h12, .inl (kJ, 27, .inr (.inl f12)))]) [0, 1, 2, 3, 4] rfl
        have hD9 := hD.sub (ws' := [(h2, .inr (0, [.ref h9, .ref h10, .ref h11, .ref h12, .int tc, .int ta, .int td, .int tf])), (h9, .inl (kI, 3001, .inl f9)), (h10, .inl (kI, 3001, .inl f10)), (h11, .inl (kJ, 3001, .inr (.inl f11))), (h12, .inl (kJ, 27, .inr (.inl f12)))]) [0, 1, 2, 3, 4] (by decide) rfl
        exact W.zret (v := 1) (ty := .boolean) hx hb hr (by decide +kernel) (fun t ht hW => ⟨⟨1, (), rfl, trivial, xEnd hK hP9 hD9 ht hW⟩, hS.F ht⟩) hS.2.2 d_8_29_34
  · skip
    have tc_3 : r_1.toInt = 0 := congrArg Int32.toInt c_3
    refine lv_iconst (v := 0) hx hb d_8_29_9 (by decide +kernel) ?_
    have hP9 := hP.sub (ws' := [(h2, .inr (0, [.ref h9, .ref h10, .ref h11, .ref h12, .int tc, .int ta, .int td, .int tf])), (h9, .inl (kI, 3001, .inl f9)), (h10, .inl (kI, 3001, .inl f10)), (h11, .inl (kJ, 3001, .inr (.inl f11))), (h12, .inl (kJ, 27, .inr (.inl f12)))]) [0, 1, 2, 3, 4] rfl
    have hD9 := hD.sub (ws' := [(h2, .inr (0, [.ref h9, .ref h10, .ref h11, .ref h12, .int tc, .int ta, .int td, .int tf])), (h9, .inl (kI, 3001, .inl f9)), (h10, .inl (kI, 3001, .inl f10)), (h11, .inl (kJ, 3001, .inr (.inl f11))), (h12, .inl (kJ, 27, .inr (.inl f12)))]) [0, 1, 2, 3, 4] (by decide) rfl
    exact W.zret (v := 0) (ty := .boolean) hx hb hr (by decide +kernel) (fun t ht hW => ⟨⟨0, (), rfl, trivial, xEnd hK hP9 hD9 ht hW⟩, hS.F ht⟩) hS.2.2 d_8_29_10
set_option maxHeartbeats 8000000 in
set_option maxRecDepth 100000 in
theorem g_Table_clear (l : Launch) (D : va_G) (kI kJ kB kZ : ClassId) (sz : Nat) (h3 : Nat) (h13 : Nat) (h14 : Nat) (h15 : Nat) (h16 : Nat) (h17 : Nat) (h18 : Nat) (h19 : Nat) (h20 : Nat) (h21 : Nat) (h22 : Nat) (bn : Int32) (f13 : Nat → Int64) (f14 : Nat → Int32) (f15 : Nat → Int32) (f16 : Nat → Int32) (f17 : Nat → Int32) (f18 : Nat → Int32) (f19 : Nat → Int32) (f20 : Nat → Int32) (f21 : Nat → Int32) (f22 : Nat → Int32) (hf_B1 : 0 ≤ bn.toInt) (hf_B2 : bn.toInt ≤ 1501) : Met l (⟨"AlgolJudge$Table", "clear", "()V"⟩ : MethodName) (Cond.code (⟨"AlgolJudge$Table", "clear", "()V"⟩ : MethodName) prog_7_method_2_code 1 (none) :: gT) ({ frames := 0, cells := 0, slots := 0, locals := 0 }) (va_Pc [.ref h3] (xP D (xT kI kJ kB kZ) xN [(h3, .inr (1, [.ref h13, .ref h14, .ref h15, .ref h16, .ref h17, .ref h18, .ref h19, .ref h20, .ref h21, .ref h22, .int bn])), (h13, .inl (kJ, 1501, .inr (.inl f13))), (h14, .inl (kI, 1501, .inl f14)), (h15, .inl (kI, 1501, .inl f15)), (h16, .inl (kI, 1501, .inl f16)), (h17, .inl (kI, 1501, .inl f17)), (h18, .inl (kI, 1501, .inl f18)), (h19, .inl (kI, 1501, .inl f19)), (h20, .inl (kI, 1501, .inl f20)), (h21, .inl (kI, 1501, .inl f21)), (h22, .inl (kZ, 1501, .inl f22))] sz)) (va_Qv (fun _ : Unit => True) (fun _ t => (0 ≤ (0 : Int)) ∧ ((0 : Int) ≤ 1501) ∧ xQ D (xT kI kJ kB kZ) (va_A [(h3, .inr (1, [.ref h13, .ref h14, .ref h15, .ref h16, .ref h17, .ref h18, .ref h19, .ref h20, .ref h21, .ref h22, .int bn])), (h13, .inl (kJ, 1501, .inr (.inl f13))), (h14, .inl (kI, 1501, .inl f14)), (h15, .inl (kI, 1501, .inl f15)), (h16, .inl (kI, 1501, .inl f16)), (h17, .inl (kI, 1501, .inl f17)), (h18, .inl (kI, 1501, .inl f18)), (h19, .inl (kI, 1501, .inl f19)), (h20, .inl (kI, 1501, .inl f20)), (h21, .inl (kI, 1501, .inl f21)), (h22, .inl (kZ, 1501, .inl f22))] sz) [(h3, .inr (1, [.ref h13, .ref h14, .ref h15, .ref h16, .ref h17, .ref h18, .ref h19, .ref h20, .ref h21, .ref h22, .int 0])), (h13, .inl (kJ, 1501, .inr (.inl f13))), (h14, .inl (kI, 1501, .inl f14)), (h15, .inl (kI, 1501, .inl f15)), (h16, .inl (kI, 1501, .inl f16)), (h17, .inl (kI, 1501, .inl f17)), (h18, .inl (kI, 1501, .inl f18)), (h19, .inl (kI, 1501, .inl f19)), (h20, .inl (kI, 1501, .inl f20)), (h21, .inl (kI, 1501, .inl f21)), (h22, .inl (kZ, 1501, .inl f22))] t) (va_A [(h3, .inr (1, [.ref h13, .ref h14, .ref h15, .ref h16, .ref h17, .ref h18, .ref h19, .ref h20, .ref h21, .ref h22, .int bn])), (h13, .inl (kJ, 1501, .inr (.inl f13))), (h14, .inl (kI, 1501, .inl f14)), (h15, .inl (kI, 1501, .inl f15)), (h16, .inl (kI, 1501, .inl f16)), (h17, .inl (kI, 1501, .inl f17)), (h18, .inl (kI, 1501, .inl f18)), (h19, .inl (kI, 1501, .inl f19)), (h20, .inl (kI, 1501, .inl f20)), (h21, .inl (kI, 1501, .inl f21)), (h22, .inl (kZ, 1501, .inl f22))] sz)) 0 0 (va_A [(h3, .inr (1, [.ref h13, .ref h14, .ref h15, .ref h16, .ref h17, .ref h18, .ref h19, .ref h20, .ref h21, .ref h22, .int bn])), (h13, .inl (kJ, 1501, .inr (.inl f13))), (h14, .inl (kI, 1501, .inl f14)), (h15, .inl (kI, 1501, .inl f15)), (h16, .inl (kI, 1501, .inl f16)), (h17, .inl (kI, 1501, .inl f17)), (h18, .inl (kI, 1501, .inl f18)), (h19, .inl (kI, 1501, .inl f19)), (h20, .inl (kI, 1501, .inl f20)), (h21, .inl (kI, 1501, .inl f21)), (h22, .inl (kZ, 1501, .inl f22))] sz) := by
  refine Met.ofW (cc := prog_7_method_2_code) (maxL := 1) (ret := none) (by decide +kernel) rfl ?_
  intro p e s m args below meth c s₁ B hml hv
  obtain ⟨rfl, hsz, hP, hK, hD0, hE⟩ := hv
  have hx := B.exec
  have hb := B.bytes
  have hr := B.returns
  have hts : ∀ w ∈ gT, w.before _ s = true := fun w h => atoms_spec (ws := Cond.code (⟨"AlgolJudge$Table", "clear", "()V"⟩ : MethodName) prog_7_method_2_code 1 (none) :: gT) B.pre w (List.mem_cons_of_mem _ h)
  have hown : s.vm.findClass "AlgolJudge$Table" = some m.cls := findClass_of_methodNamed B.named
  have hlocks := B.notSynchronized
  subst hsz
  have hD := hD0.self (sz := s.heap.size)
  generalize hAe : va_A [(h3, .inr (1, [.ref h13, .ref h14, .ref h15, .ref h16, .ref h17, .ref h18, .ref h19, .ref h20, .ref h21, .ref h22, .int bn])), (h13, .inl (kJ, 1501, .inr (.inl f13))), (h14, .inl (kI, 1501, .inl f14)), (h15, .inl (kI, 1501, .inl f15)), (h16, .inl (kI, 1501, .inl f16)), (h17, .inl (kI, 1501, .inl f17)), (h18, .inl (kI, 1501, .inl f18)), (h19, .inl (kI, 1501, .inl f19)), (h20, .inl (kI, 1501, .inl f20)), (h21, .inl (kI, 1501, .inl f21)), (h22, .inl (kZ, 1501, .inl f22))] s.heap.size = A at hD hE ⊢
  have hA : ∀ q : Nat, s.heap.size ≤ q → A q := fun q h => by rw [← hAe]; exact Or.inr h
  have hS : va_S A s.heap s.heap [] := va_S.rf
  have hP : va_P D cls9 [(h3, .inr (1, [.ref h13, .ref h14, .ref h15, .ref h16, .ref h17, .ref h18, .ref h19, .ref h20, .ref h21, .ref h22, .int bn])), (h13, .inl (kJ, 1501, .inr (.inl f13))), (h14, .inl (kI, 1501, .inl f14)), (h15, .inl (kI, 1501, .inl f15)), (h16, .inl (kI, 1501, .inl f16)), (h17, .inl (kI, 1501, .inl f17)), (h18, .inl (kI, 1501, .inl f18)), (h19, .inl (kI, 1501, .inl f19)), (h20, .inl (kI, 1501, .inl f20)), (h21, .inl (kI, 1501, .inl f21)), (h22, .inl (kZ, 1501, .inl f22))] s.heap := hP
  have hl := lv_entry ([.ref h3]) (n := 1) (Nat.le_of_ble_eq_true rfl)
  rw [lg_entry_eq]
  generalize (lg_sl ([.ref h3]) ++ List.replicate (1 - (lg_sl ([.ref h3])).length) Slot.unset).toArray = ls at hl ⊢
  have hl : lv_has ls 1 [(0, .ref h3)] := hl
  refine lv_aload_n hx hb d_7_2_0 rfl (lv_at hl 0 rfl) ?_
  refine lv_iconst (v := 0) hx hb d_7_2_1 (by decide +kernel) ?_
  refine va_put (D := D) (ci := 1) (v := .int 0) (ty := .int) (C := "AlgolJudge$Table") (T := T_Table) (N := 11) hx hb hts i_Table t_Table t_Table_ok n_Table hown hK hP hD hS 0 rfl rfl 10 (by decide +kernel) (hts _ m_254) (fun _ h9 => h9) rfl (by decide +kernel) rfl rfl (Nat.le_of_ble_eq_true rfl) d_7_2_2 (fun H locs hP hD hS => ?_)
  have hP : va_P D cls9 [(h3, .inr (1, [.ref h13, .ref h14, .ref h15, .ref h16, .ref h17, .ref h18, .ref h19, .ref h20, .ref h21, .ref h22, .int 0])), (h13, .inl (kJ, 1501, .inr (.inl f13))), (h14, .inl (kI, 1501, .inl f14)), (h15, .inl (kI, 1501, .inl f15)), (h16, .inl (kI, 1501, .inl f16)), (h17, .inl (kI, 1501, .inl f17)), (h18, .inl (kI, 1501, .inl f18)), (h19, .inl (kI, 1501, .inl f19)), (h20, .inl (kI, 1501, .inl f20)), (h21, .inl (kI, 1501, .inl f21)), (h22, .inl (kZ, 1501, .inl f22))] H := hP
  have hD : va_D A [(h3, .inr (1, [.ref h13, .ref h14, .ref h15, .ref h16, .ref h17, .ref h18, .ref h19, .ref h20, .ref h21, .ref h22, .int 0])), (h13, .inl (kJ, 1501, .inr (.inl f13))), (h14, .inl (kI, 1501, .inl f14)), (h15, .inl (kI, 1501, .inl f15)), (h16, .inl (kI, 1501, .inl f16)), (h17, .inl (kI, 1501, .inl f17)), (h18, .inl (kI, 1501, .inl f18)), (h19, .inl (kI, 1501, .inl f19)), (h20, .inl (kI, 1501, .inl f20)), (h21, .inl (kI, 1501, .inl f21)), (h22, .inl (kZ, 1501, .inl f22))] := hD
  have hP9 := hP.sub (ws' := [(h3, .inr (1, [.ref h13, .ref h14, .ref h15, .ref h16, .ref h17, .ref h18, .ref h19, .ref h20, .ref h21, .ref h22, .int 0])), (h13, .inl (kJ, 1501, .inr (.inl f13))), (h14, .inl (kI, 1501, .inl f14)), (h15, .inl (kI, 1501, .inl f15)), (h16, .inl (kI, 1501, .inl f16)), (h17, .inl (kI, 1501, .inl f17)), (h18, .inl (kI, 1501, .inl f18)), (h19, .inl (kI, 1501, .inl f19)), (h20, .inl (kI, 1501, .inl f20)), (h21, .inl (kI, 1501, .inl f21)), (h22, .inl (kZ, 1501, .inl f22))]) [0, 1, 2, 3, 4, 5, 6, 7, 8, 9, 10] rfl
  have hD9 := hD.sub (ws' := [(h3, .inr (1, [.ref h13, .ref h14, .ref h15, .ref h16, .ref h17, .ref h18, .ref h19, .ref h20, .ref h21, .ref h22, .int 0])), (h13, .inl (kJ, 1501, .inr (.inl f13))), (h14, .inl (kI, 1501, .inl f14)), (h15, .inl (kI, 1501, .inl f15)), (h16, .inl (kI, 1501, .inl f16)), (h17, .inl (kI, 1501, .inl f17)), (h18, .inl (kI, 1501, .inl f18)), (h19, .inl (kI, 1501, .inl f19)), (h20, .inl (kI, 1501, .inl f20)), (h21, .inl (kI, 1501, .inl f21)), (h22, .inl (kZ, 1501, .inl f22))]) [0, 1, 2, 3, 4, 5, 6, 7, 8, 9, 10] (by decide) rfl
  have hz_0 : 0 ≤ (0 : Int) := (by first | assumption | omega)
  have hz_1 : (0 : Int) ≤ 1501 := (by first | assumption | omega)
  exact W.vret hx hb hr (fun t ht hW => ⟨⟨(), rfl, trivial, hz_0, hz_1, xEnd hK hP9 hD9 ht hW⟩, hS.F ht⟩) hS.2.2 d_7_2_5
set_option maxHeartbeats 8000000 in
set_option maxRecDepth 100000 in
theorem g_Table_size (l : Launch) (D : va_G) (kI kJ kB kZ : ClassId) (sz : Nat) (h3 : Nat) (h13 : Nat) (h14 : Nat) (h15 : Nat) (h16 : Nat) (h17 : Nat) (h18 : Nat) (h19 : Nat) (h20 : Nat) (h21 : Nat) (h22 : Nat) (bn : Int32) (f13 : Nat → Int64) (f14 : Nat → Int32) (f15 : Nat → Int32) (f16 : Nat → Int32) (f17 : Nat → Int32) (f18 : Nat → Int32) (f19 : Nat → Int32) (f20 : Nat → Int32) (f21 : Nat → Int32) (f22 : Nat → Int32) (hf_B1 : 0 ≤ bn.toInt) (hf_B2 : bn.toInt ≤ 1501) : Met l (⟨"AlgolJudge$Table", "size", "()I"⟩ : MethodName) (Cond.code (⟨"AlgolJudge$Table", "size", "()I"⟩ : MethodName) prog_7_method_3_code 1 (some .int) :: gT) ({ frames := 0, cells := 0, slots := 0, locals := 0 }) (va_Pc [.ref h3] (xP D (xT kI kJ kB kZ) xN [(h3, .inr (1, [.ref h13, .ref h14, .ref h15, .ref h16, .ref h17, .ref h18, .ref h19, .ref h20, .ref h21, .ref h22, .int bn])), (h13, .inl (kJ, 1501, .inr (.inl f13))), (h14, .inl (kI, 1501, .inl f14)), (h15, .inl (kI, 1501, .inl f15)), (h16, .inl (kI, 1501, .inl f16)), (h17, .inl (kI, 1501, .inl f17)), (h18, .inl (kI, 1501, .inl f18)), (h19, .inl (kI, 1501, .inl f19)), (h20, .inl (kI, 1501, .inl f20)), (h21, .inl (kI, 1501, .inl f21)), (h22, .inl (kZ, 1501, .inl f22))] sz)) (va_Qi (fun (r : Int32) (_ : Unit) => r = bn) (fun _ t => xQ D (xT kI kJ kB kZ) (va_A [(h3, .inr (1, [.ref h13, .ref h14, .ref h15, .ref h16, .ref h17, .ref h18, .ref h19, .ref h20, .ref h21, .ref h22, .int bn])), (h13, .inl (kJ, 1501, .inr (.inl f13))), (h14, .inl (kI, 1501, .inl f14)), (h15, .inl (kI, 1501, .inl f15)), (h16, .inl (kI, 1501, .inl f16)), (h17, .inl (kI, 1501, .inl f17)), (h18, .inl (kI, 1501, .inl f18)), (h19, .inl (kI, 1501, .inl f19)), (h20, .inl (kI, 1501, .inl f20)), (h21, .inl (kI, 1501, .inl f21)), (h22, .inl (kZ, 1501, .inl f22))] sz) [(h3, .inr (1, [.ref h13, .ref h14, .ref h15, .ref h16, .ref h17, .ref h18, .ref h19, .ref h20, .ref h21, .ref h22, .int bn])), (h13, .inl (kJ, 1501, .inr (.inl f13))), (h14, .inl (kI, 1501, .inl f14)), (h15, .inl (kI, 1501, .inl f15)), (h16, .inl (kI, 1501, .inl f16)), (h17, .inl (kI, 1501, .inl f17)), (h18, .inl (kI, 1501, .inl f18)), (h19, .inl (kI, 1501, .inl f19)), (h20, .inl (kI, 1501, .inl f20)), (h21, .inl (kI, 1501, .inl f21)), (h22, .inl (kZ, 1501, .inl f22))] t) (va_A [(h3, .inr (1, [.ref h13, .ref h14, .ref h15, .ref h16, .ref h17, .ref h18, .ref h19, .ref h20, .ref h21, .ref h22, .int bn])), (h13, .inl (kJ, 1501, .inr (.inl f13))), (h14, .inl (kI, 1501, .inl f14)), (h15, .inl (kI, 1501, .inl f15)), (h16, .inl (kI, 1501, .inl f16)), (h17, .inl (kI, 1501, .inl f17)), (h18, .inl (kI, 1501, .inl f18)), (h19, .inl (kI, 1501, .inl f19)), (h20, .inl (kI, 1501, .inl f20)), (h21, .inl (kI, 1501, .inl f21)), (h22, .inl (kZ, 1501, .inl f22))] sz)) 0 0 (va_A [(h3, .inr (1, [.ref h13, .ref h14, .ref h15, .ref h16, .ref h17, .ref h18, .ref h19, .ref h20, .ref h21, .ref h22, .int bn])), (h13, .inl (kJ, 1501, .inr (.inl f13))), (h14, .inl (kI, 1501, .inl f14)), (h15, .inl (kI, 1501, .inl f15)), (h16, .inl (kI, 1501, .inl f16)), (h17, .inl (kI, 1501, .inl f17)), (h18, .inl (kI, 1501, .inl f18)), (h19, .inl (kI, 1501, .inl f19)), (h20, .inl (kI, 1501, .inl f20)), (h21, .inl (kI, 1501, .inl f21)), (h22, .inl (kZ, 1501, .inl f22))] sz) := by
  refine Met.ofW (cc := prog_7_method_3_code) (maxL := 1) (ret := some .int) (by decide +kernel) rfl ?_
  intro p e s m args below meth c s₁ B hml hv
  obtain ⟨rfl, hsz, hP, hK, hD0, hE⟩ := hv
  have hx := B.exec
  have hb := B.bytes
  have hr := B.returns
  have hts : ∀ w ∈ gT, w.before _ s = true := fun w h => atoms_spec (ws := Cond.code (⟨"AlgolJudge$Table", "size", "()I"⟩ : MethodName) prog_7_method_3_code 1 (some .int) :: gT) B.pre w (List.mem_cons_of_mem _ h)
  have hown : s.vm.findClass "AlgolJudge$Table" = some m.cls := findClass_of_methodNamed B.named
  have hlocks := B.notSynchronized
  subst hsz
  have hD := hD0.self (sz := s.heap.size)
  generalize hAe : va_A [(h3, .inr (1, [.ref h13, .ref h14, .ref h15, .ref h16, .ref h17, .ref h18, .ref h19, .ref h20, .ref h21, .ref h22, .int bn])), (h13, .inl (kJ, 1501, .inr (.inl f13))), (h14, .inl (kI, 1501, .inl f14)), (h15, .inl (kI, 1501, .inl f15)), (h16, .inl (kI, 1501, .inl f16)), (h17, .inl (kI, 1501, .inl f17)), (h18, .inl (kI, 1501, .inl f18)), (h19, .inl (kI, 1501, .inl f19)), (h20, .inl (kI, 1501, .inl f20)), (h21, .inl (kI, 1501, .inl f21)), (h22, .inl (kZ, 1501, .inl f22))] s.heap.size = A at hD hE ⊢
  have hA : ∀ q : Nat, s.heap.size ≤ q → A q := fun q h => by rw [← hAe]; exact Or.inr h
  have hS : va_S A s.heap s.heap [] := va_S.rf
  have hP : va_P D cls9 [(h3, .inr (1, [.ref h13, .ref h14, .ref h15, .ref h16, .ref h17, .ref h18, .ref h19, .ref h20, .ref h21, .ref h22, .int bn])), (h13, .inl (kJ, 1501, .inr (.inl f13))), (h14, .inl (kI, 1501, .inl f14)), (h15, .inl (kI, 1501, .inl f15)), (h16, .inl (kI, 1501, .inl f16)), (h17, .inl (kI, 1501, .inl f17)), (h18, .inl (kI, 1501, .inl f18)), (h19, .inl (kI, 1501, .inl f19)), (h20, .inl (kI, 1501, .inl f20)), (h21, .inl (kI, 1501, .inl f21)), (h22, .inl (kZ, 1501, .inl f22))] s.heap := hP
  have hl := lv_entry ([.ref h3]) (n := 1) (Nat.le_of_ble_eq_true rfl)
  rw [lg_entry_eq]
  generalize (lg_sl ([.ref h3]) ++ List.replicate (1 - (lg_sl ([.ref h3])).length) Slot.unset).toArray = ls at hl ⊢
  have hl : lv_has ls 1 [(0, .ref h3)] := hl
  refine lv_aload_n hx hb d_7_3_0 rfl (lv_at hl 0 rfl) ?_
  refine va_get (D := D) (ci := 1) (v := .int bn) (C := "AlgolJudge$Table") (T := T_Table) (N := 11) hx hb hts i_Table hown hK hP 0 rfl rfl 10 (by decide +kernel) (hts _ m_254) (fun _ h9 => h9) rfl d_7_3_1 ?_
  have hP9 := hP.sub (ws' := [(h3, .inr (1, [.ref h13, .ref h14, .ref h15, .ref h16, .ref h17, .ref h18, .ref h19, .ref h20, .ref h21, .ref h22, .int bn])), (h13, .inl (kJ, 1501, .inr (.inl f13))), (h14, .inl (kI, 1501, .inl f14)), (h15, .inl (kI, 1501, .inl f15)), (h16, .inl (kI, 1501, .inl f16)), (h17, .inl (kI, 1501, .inl f17)), (h18, .inl (kI, 1501, .inl f18)), (h19, .inl (kI, 1501, .inl f19)), (h20, .inl (kI, 1501, .inl f20)), (h21, .inl (kI, 1501, .inl f21)), (h22, .inl (kZ, 1501, .inl f22))]) [0, 1, 2, 3, 4, 5, 6, 7, 8, 9, 10] rfl
  have hD9 := hD.sub (ws' := [(h3, .inr (1, [.ref h13, .ref h14, .ref h15, .ref h16, .ref h17, .ref h18, .ref h19, .ref h20, .ref h21, .ref h22, .int bn])), (h13, .inl (kJ, 1501, .inr (.inl f13))), (h14, .inl (kI, 1501, .inl f14)), (h15, .inl (kI, 1501, .inl f15)), (h16, .inl (kI, 1501, .inl f16)), (h17, .inl (kI, 1501, .inl f17)), (h18, .inl (kI, 1501, .inl f18)), (h19, .inl (kI, 1501, .inl f19)), (h20, .inl (kI, 1501, .inl f20)), (h21, .inl (kI, 1501, .inl f21)), (h22, .inl (kZ, 1501, .inl f22))]) [0, 1, 2, 3, 4, 5, 6, 7, 8, 9, 10] (by decide) rfl
  exact W.iret (v := bn) hx hb hr (fun t ht hW => ⟨⟨bn, (), rfl, rfl, xEnd hK hP9 hD9 ht hW⟩, hS.F ht⟩) hS.2.2 d_7_3_4
