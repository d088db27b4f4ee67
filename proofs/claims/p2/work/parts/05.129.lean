set_option maxHeartbeats 8000000 in
set_option maxRecDepth 100000 in
theorem g_Blocks_declaration (l : Launch) (D : va_G) (kI kJ kB kZ : ClassId) (n : Nat) (hrec : ∀ k : Nat, k + 1 = n → R_B l D kI kJ kB kZ k) : P_Blocks_declaration l D kI kJ kB kZ n := by
  intro sz h2 h3 h4 h5 h7 h8 h9 h10 h11 h12 h13 h14 h15 h16 h17 h18 h19 h20 h21 h22 h23 h24 h25 h26 h27 ks sn so sc sl sw ss tc ta td tf bn f23 f24 f25 f26 f27 f9 f10 f11 f12 f13 f14 f15 f16 f17 f18 f19 f20 f21 f22 hf_T1 hf_T2 hf_T3 hf_T4 hf_T5 hf_T6 hf_B1 hf_B2 hf_S1 hf_S2 hf_S3 hf_S4 hf_SI hfu
  refine Met.ofW (cc := prog_2_method_6_code) (maxL := 1) (ret := none) (by decide +kernel) rfl ?_
  intro p e s m args below meth c s₁ B hml hv
  obtain ⟨rfl, hsz, hP, hK, hD0, hE⟩ := hv
  have hx := B.exec
  have hb := B.bytes
  have hr := B.returns
  have hts : ∀ w ∈ gT, w.before _ s = true := fun w h => atoms_spec (ws := Cond.code (⟨"AlgolJudge$Blocks", "declaration", "()V"⟩ : MethodName) prog_2_method_6_code 1 (none) :: gT) B.pre w (List.mem_cons_of_mem _ h)
  have hown : s.vm.findClass "AlgolJudge$Blocks" = some m.cls := findClass_of_methodNamed B.named
  have hlocks := B.notSynchronized
  subst hsz
  have hD := hD0.self (sz := s.heap.size)
  generalize hAe : va_A [(h5, .inr (5, [.ref h2, .ref h4, .ref h7, .ref h8, .int ks])), (h8, .inr (4, [.ref h2, .ref h4, .ref h7])), (h7, .inr (3, [.ref h3, .ref h4])), (h4, .inr (2, [.ref h2, .ref h3, .ref h23, .ref h24, .ref h25, .ref h26, .ref h27, .int sn, .int so, .int sc, .int sl, .int sw, .int ss])), (h23, .inl (kI, 333, .inl f23)), (h24, .inl (kI, 333, .inl f24)), (h25, .inl (kI, 333, .inl f25)), (h26, .inl (kI, 333, .inl f26)), (h27, .inl (kI, 3000, .inl f27)), (h2, .inr (0, [.ref h9, .ref h10, .ref h11, .ref h12, .int tc, .int ta, .int td, .int tf])), (h9, .inl (kI, 3001, .inl f9)), (h10, .inl (kI, 3001, .inl f10)), (h11, .inl (kJ, 3001, .inr (.inl f11))), (h12, .inl (kJ, 27, .inr (.inl f12))), (h3, .inr (1, [.ref h13, .ref h14, .ref h15, .ref h16, .ref h17, .ref h18, .ref h19, .ref h20, .ref h21, .ref h22, .int bn])), (h13, .inl (kJ, 1501, .inr (.inl f13))), (h14, .inl (kI, 1501, .inl f14)), (h15, .inl (kI, 1501, .inl f15)), (h16, .inl (kI, 1501, .inl f16)), (h17, .inl (kI, 1501, .inl f17)), (h18, .inl (kI, 1501, .inl f18)), (h19, .inl (kI, 1501, .inl f19)), (h20, .inl (kI, 1501, .inl f20)), (h21, .inl (kI, 1501, .inl f21)), (h22, .inl (kZ, 1501, .inl f22))] s.heap.size = A at hD hE ⊢
  have hA : ∀ q : Nat, s.heap.size ≤ q → A q := fun q h => by rw [← hAe]; exact Or.inr h
  have hS : va_S A s.heap s.heap [] := va_S.rf
  have hP : va_P D cls9 [(h5, .inr (5, [.ref h2, .ref h4, .ref h7, .ref h8, .int ks])), (h8, .inr (4, [.ref h2, .ref h4, .ref h7])), (h7, .inr (3, [.ref h3, .ref h4])), (h4, .inr (2, [.ref h2, .ref h3, .ref h23, .ref h24, .ref h25, .ref h26, .ref h27, .int sn, .int so, .int sc, .int sl, .int sw, .int ss])), (h23, .inl (kI, 333, .inl f23)), (h24, .inl (kI, 333, .inl f24)), (h25, .inl (kI, 333, .inl f25)), (h26, .inl (kI, 333, .inl f26)), (h27, .inl (kI, 3000, .inl f27)), (h2, .inr (0, [.ref h9, .ref h10, .ref h11, .ref h12, .int tc, .int ta, .int td, .int tf])), (h9, .inl (kI, 3001, .inl f9)), (h10, .inl (kI, 3001, .inl f10)), (h11, .inl (kJ, 3001, .inr (.inl f11))), (h12, .inl (kJ, 27, .inr (.inl f12))), (h3, .inr (1, [.ref h13, .ref h14, .ref h15, .ref h16, .ref h17, .ref h18, .ref h19, .ref h20, .ref h21, .ref h22, .int bn])), (h13, .inl (kJ, 1501, .inr (.inl f13))), (h14, .inl (kI, 1501, .inl f14)), (h15, .inl (kI, 1501, .inl f15)), (h16, .inl (kI, 1501, .inl f16)), (h17, .inl (kI, 1501, .inl f17)), (h18, .inl (kI, 1501, .inl f18)), (h19, .inl (kI, 1501, .inl f19)), (h20, .inl (kI, 1501, .inl f20)), (h21, .inl (kI, 1501, .inl f21)), (h22, .inl (kZ, 1501, .inl f22))] s.heap := hP
  have hl := lv_entry ([.ref h5]) (n := 1) (Nat.le_of_ble_eq_true rfl)
  rw [lg_entry_eq]
  generalize (lg_sl ([.ref h5]) ++ List.replicate (1 - (lg_sl ([.ref h5])).length) Slot.unset).toArray = ls at hl ⊢
  have hl : lv_has ls 1 [(0, .ref h5)] := hl
  refine lv_aload_n hx hb d_2_6_0 rfl (lv_at hl 0 rfl) ?_
  refine va_get (D := D) (ci := 5) (v := .ref h2) (C := "AlgolJudge$Blocks") (T := T_Blocks) (N := 5) hx hb hts i_Blocks hown hK hP 0 rfl rfl 0 (by decide +kernel) (hts _ m_360) (fun _ h9 => h9) rfl d_2_6_1 ?_
  refine lv_bipush (v := 9) hx hb d_2_6_4 (by decide +kernel) ?_
  have hPc := hP.sub (ws' := [(h2, .inr (0, [.ref h9, .ref h10, .ref h11, .ref h12, .int tc, .int ta, .int td, .int tf])), (h9, .inl (kI, 3001, .inl f9)), (h10, .inl (kI, 3001, .inl f10)), (h11, .inl (kJ, 3001, .inr (.inl f11))), (h12, .inl (kJ, 27, .inr (.inl f12)))]) [9, 10, 11, 12, 13] rfl
  have hDc := hD.sub (ws' := [(h2, .inr (0, [.ref h9, .ref h10, .ref h11, .ref h12, .int tc, .int ta, .int td, .int tf])), (h9, .inl (kI, 3001, .inl f9)), (h10, .inl (kI, 3001, .inl f10)), (h11, .inl (kJ, 3001, .inr (.inl f11))), (h12, .inl (kJ, 27, .inr (.inl f12)))]) [9, 10, 11, 12, 13] (by decide) rfl
  have hFc := va_free (wc := [(h2, .inr (0, [.ref h9, .ref h10, .ref h11, .ref h12, .int tc, .int ta, .int td, .int tf])), (h9, .inl (kI, 3001, .inl f9)), (h10, .inl (kI, 3001, .inl f10)), (h11, .inl (kJ, 3001, .inr (.inl f11))), (h12, .inl (kJ, 27, .inr (.inl f12)))]) hD hS hA [9, 10, 11, 12, 13] rfl
  refine va_calli (va_runV (As := [.int 9]) (rest := []) ⟨hx, hb, hml, hown, hts⟩ (g_Tokens_sees l D kI kJ kB kZ _ (h2) (h9) (h10) (h11) (h12) (tc) (ta) (td) (tf) (f9) (f10) (f11) (f12) ((9 : Int32)) (by first | assumption | omega) (by first | assumption | omega) (by first | assumption | omega) (by first | assumption | omega) (by first | assumption | omega) (by first | assumption | exact zpl (by assumption) (by omega))) (cwV 1 hts (gT_V m_616 m_617 m_618 m_121 (gT_ws m_619)) rfl rfl rfl (by decide +kernel) ⟨show 1 + 1 ≤ 60 * n + 26 by omega, show 8 + (2 + 11) + 20 ≤ 32 * (60 * n + 26) by omega⟩) ⟨xBlind xOk_N, va_recv hK hP (ci := 0) (q0 := 9) rfl rfl, xAtN hK hPc hDc⟩ rfl rfl hl.1 rfl (lv_room (Nat.le_of_ble_eq_true rfl)) d_2_6_6 ⟨(Nat.le_of_ble_eq_true rfl), (Nat.le_of_ble_eq_true rfl)⟩) hS (fun q _ h => hFc q h) hFc (fun r_1 u t H1 locs ht hvm hw_2 hB hz1 hk1 hS => ?_)
  clear hz1
  obtain ⟨hP, hD⟩ := xJoin (wr := [(h5, .inr (5, [.ref h2, .ref h4, .ref h7, .ref h8, .int ks])), (h8, .inr (4, [.ref h2, .ref h4, .ref h7])), (h7, .inr (3, [.ref h3, .ref h4])), (h4, .inr (2, [.ref h2, .ref h3, .ref h23, .ref h24, .ref h25, .ref h26, .ref h27, .int sn, .int so, .int sc, .int sl, .int sw, .int ss])), (h23, .inl (kI, 333, .inl f23)), (h24, .inl (kI, 333, .inl f24)), (h25, .inl (kI, 333, .inl f25)), (h26, .inl (kI, 333, .inl f26)), (h27, .inl (kI, 3000, .inl f27)), (h3, .inr (1, [.ref h13, .ref h14, .ref h15, .ref h16, .ref h17, .ref h18, .ref h19, .ref h20, .ref h21, .ref h22, .int bn])), (h13, .inl (kJ, 1501, .inr (.inl f13))), (h14, .inl (kI, 1501, .inl f14)), (h15, .inl (kI, 1501, .inl f15)), (h16, .inl (kI, 1501, .inl f16)), (h17, .inl (kI, 1501, .inl f17)), (h18, .inl (kI, 1501, .inl f18)), (h19, .inl (kI, 1501, .inl f19)), (h20, .inl (kI, 1501, .inl f20)), (h21, .inl (kI, 1501, .inl f21)), (h22, .inl (kZ, 1501, .inl f22))]) (w1 := [(h2, .inr (0, [.ref h9, .ref h10, .ref h11, .ref h12, .int tc, .int ta, .int td, .int tf])), (h9, .inl (kI, 3001, .inl f9)), (h10, .inl (kI, 3001, .inl f10)), (h11, .inl (kJ, 3001, .inr (.inl f11))), (h12, .inl (kJ, 27, .inr (.inl f12)))]) hP hD [9, 10, 11, 12, 13] [0, 1, 2, 3, 4, 5, 6, 7, 8, 14, 15, 16, 17, 18, 19, 20, 21, 22, 23, 24] rfl rfl (by decide) (by decide) hk1 hFc ht hB
  generalize H1 = H at hP hS ⊢
  have hP : va_P D cls9 [(h5, .inr (5, [.ref h2, .ref h4, .ref h7, .ref h8, .int ks])), (h8, .inr (4, [.ref h2, .ref h4, .ref h7])), (h7, .inr (3, [.ref h3, .ref h4])), (h4, .inr (2, [.ref h2, .ref h3, .ref h23, .ref h24, .ref h25, .ref h26, .ref h27, .int sn, .int so, .int sc, .int sl, .int sw, .int ss])), (h23, .inl (kI, 333, .inl f23)), (h24, .inl (kI, 333, .inl f24)), (h25, .inl (kI, 333, .inl f25)), (h26, .inl (kI, 333, .inl f26)), (h27, .inl (kI, 3000, .inl f27)), (h3, .inr (1, [.ref h13, .ref h14, .ref h15, .ref h16, .ref h17, .ref h18, .ref h19, .ref h20, .ref h21, .ref h22, .int bn])), (h13, .inl (kJ, 1501, .inr (.inl f13))), (h14, .inl (kI, 1501, .inl f14)), (h15, .inl (kI, 1501, .inl f15)), (h16, .inl (kI, 1501, .inl f16)), (h17, .inl (kI, 1501, .inl f17)), (h18, .inl (kI, 1501, .inl f18)), (h19, .inl (kI, 1501, .inl f19)), (h20, .inl (kI, 1501, .inl f20)), (h21, .inl (kI, 1501, .inl f21)), (h22, .inl (kZ, 1501, .inl f22)), (h2, .inr (0, [.ref h9, .ref h10, .ref h11, .ref h12, .int tc, .int ta, .int td, .int tf])), (h9, .inl (kI, 3001, .inl f9)), (h10, .inl (kI, 3001, .inl f10)), (h11, .inl (kJ, 3001, .inr (.inl f11))), (h12, .inl (kJ, 27, .inr (.inl f12)))] H := hP
  have hD : va_D A [(h5, .inr (5, [.ref h2, .ref h4, .ref h7, .ref h8, .int ks])), (h8, .inr (4, [.ref h2, .ref h4, .ref h7])), (h7, .inr (3, [.ref h3, .ref h4])), (h4, .inr (2, [.ref h2, .ref h3, .ref h23, .ref h24, .ref h25, .ref h26, .ref h27, .int sn, .int so, .int sc, .int sl, .int sw, .int ss])), (h23, .inl (kI, 333, .inl f23)), (h24, .inl (kI, 333, .inl f24)), (h25, .inl (kI, 333, .inl f25)), (h26, .inl (kI, 333, .inl f26)), (h27, .inl (kI, 3000, .inl f27)), (h3, .inr (1, [.ref h13, .ref h14, .ref h15, .ref h16, .ref h17, .ref h18, .ref h19, .ref h20, .ref h21, .ref h22, .int bn])), (h13, .inl (kJ, 1501, .inr (.inl f13))), (h14, .inl (kI, 1501, .inl f14)), (h15, .inl (kI, 1501, .inl f15)), (h16, .inl (kI, 1501, .inl f16)), (h17, .inl (kI, 1501, .inl f17)), (h18, .inl (kI, 1501, .inl f18)), (h19, .inl (kI, 1501, .inl f19)), (h20, .inl (kI, 1501, .inl f20)), (h21, .inl (kI, 1501, .inl f21)), (h22, .inl (kZ, 1501, .inl f22)), (h2, .inr (0, [.ref h9, .ref h10, .ref h11, .ref h12, .int tc, .int ta, .int td, .int tf])), (h9, .inl (kI, 3001, .inl f9)), (h10, .inl (kI, 3001, .inl f10)), (h11, .inl (kJ, 3001, .inr (.inl f11))), (h12, .inl (kJ, 27, .inr (.inl f12)))] := hD
  have hw_2 : r_1.toInt = 0 ∨ (9 : Int) = -2 ∨ tf.toInt = -2 := hw_2
  refine lv_if_eq (tgt := 19) hx hb d_2_6_9 (by decide +kernel) (fun c_3 => ?_) (fun c_3 => ?_)
  · skip
    have tc_3 : r_1.toInt = 0 := congrArg Int32.toInt c_3
    refine lv_aload_n hx hb d_2_6_19 rfl (lv_at hl 0 rfl) ?_
    refine va_get (D := D) (ci := 5) (v := .ref h2) (C := "AlgolJudge$Blocks") (T := T_Blocks) (N := 5) hx hb hts i_Blocks hown hK hP 0 rfl rfl 0 (by decide +kernel) (hts _ m_360) (fun _ h9 => h9) rfl d_2_6_20 ?_
    refine lv_bipush (v := 8) hx hb d_2_6_23 (by decide +kernel) ?_
    have hPc := hP.sub (ws' := [(h2, .inr (0, [.ref h9, .ref h10, .ref h11, .ref h12, .int tc, .int ta, .int td, .int tf])), (h9, .inl (kI, 3001, .inl f9)), (h10, .inl (kI, 3001, .inl f10)), (h11, .inl (kJ, 3001, .inr (.inl f11))), (h12, .inl (kJ, 27, .inr (.inl f12)))]) [20, 21, 22, 23, 24] rfl
    have hDc := hD.sub (ws' := [(h2, .inr (0, [.ref h9, .ref h10, .ref h11, .ref h12, .int tc, .int ta, .int td, .int tf])), (h9, .inl (kI, 3001, .inl f9)), (h10, .inl (kI, 3001, .inl f10)), (h11, .inl (kJ, 3001, .inr (.inl f11))), (h12, .inl (kJ, 27, .inr (.inl f12)))]) [20, 21, 22, 23, 24] (by decide) rfl
    have hFc := va_free (wc := [(h2, .inr (0, [.ref h9, .ref h10, .ref h11, .ref h12, .int tc, .int ta, .int td, .int tf])), (h9, .inl (kI, 3001, .inl f9)), (h10, .inl (kI, 3001, .inl f10)), (h11, .inl (kJ, 3001, .inr (.inl f11))), (h12, .inl (kJ, 27, .inr (.inl f12)))]) hD hS hA [20, 21, 22, 23, 24] rfl
    refine va_calli (va_runV (As := [.int 8]) (rest := []) ⟨hx, hb, hml, hown, hts⟩ (g_Tokens_accept l D kI kJ kB kZ _ (h2) (h9) (h10) (h11) (h12) (tc) (ta) (td) (tf) (f9) (f10) (f11) (f12) ((8 : Int32)) (by first | assumption | omega) (by first | assumption | omega) (by first | assumption | omega) (by first | assumption | omega) (by first | assumption | omega) (by first | assumption | exact zpl (by assumption) (by omega))) (cwV 1 hts (gT_V m_663 m_664 m_665 m_121 (gT_ws m_666)) rfl rfl rfl (by decide +kernel) ⟨show 1 + 1 ≤ 60 * n + 26 by omega, show 8 + (2 + 11) + 20 ≤ 32 * (60 * n + 26) by omega⟩) ⟨xBlind xOk_N, va_recv hK hP (ci := 0) (q0 := 20) rfl rfl, xAtN hK hPc hDc⟩ rfl rfl hl.1 rfl (lv_room (Nat.le_of_ble_eq_true rfl)) d_2_6_25 ⟨(Nat.le_of_ble_eq_true rfl), (Nat.le_of_ble_eq_true rfl)⟩) hS (fun q _ h => hFc q h) hFc (fun r_4 u t H1 locs ht hvm hw_5 hB hz1 hk1 hS => ?_)
    clear hz1
    obtain ⟨x_6, hb_7, hb_8, hB⟩ := hB
    obtain ⟨hP, hD⟩ := xJoin (wr := [(h5, .inr (5, [.ref h2, .ref h4, .ref h7, .ref h8, .int ks])), (h8, .inr (4, [.ref h2, .ref h4, .ref h7])), (h7, .inr (3, [.ref h3, .ref h4])), (h4, .inr (2, [.ref h2, .ref h3, .ref h23, .ref h24, .ref h25, .ref h26, .ref h27, .int sn, .int so, .int sc, .int sl, .int sw, .int ss])), (h23, .inl (kI, 333, .inl f23)), (h24, .inl (kI, 333, .inl f24)), (h25, .inl (kI, 333, .inl f25)), (h26, .inl (kI, 333, .inl f26)), (h27, .inl (kI, 3000, .inl f27)), (h3, .inr (1, [.ref h13, .ref h14, .ref h15, .ref h16, .ref h17, .ref h18, .ref h19, .ref h20, .ref h21, .ref h22, .int bn])), (h13, .inl (kJ, 1501, .inr (.inl f13))), (h14, .inl (kI, 1501, .inl f14)), (h15, .inl (kI, 1501, .inl f15)), (h16, .inl (kI, 1501, .inl f16)), (h17, .inl (kI, 1501, .inl f17)), (h18, .inl (kI, 1501, .inl f18)), (h19, .inl (kI, 1501, .inl f19)), (h20, .inl (kI, 1501, .inl f20)), (h21, .inl (kI, 1501, .inl f21)), (h22, .inl (kZ, 1501, .inl f22))]) (w1 := [(h2, .inr (0, [.ref h9, .ref h10, .ref h11, .ref h12, .int tc, .int x_6, .int td, .int tf])), (h9, .inl (kI, 3001, .inl f9)), (h10, .inl (kI, 3001, .inl f10)), (h11, .inl (kJ, 3001, .inr (.inl f11))), (h12, .inl (kJ, 27, .inr (.inl f12)))]) hP hD [20, 21, 22, 23, 24] [0, 1, 2, 3, 4, 5, 6, 7, 8, 9, 10, 11, 12, 13, 14, 15, 16, 17, 18, 19] rfl rfl (by decide) (by decide) hk1 hFc ht hB
    generalize H1 = H at hP hS ⊢
    have hP : va_P D cls9 [(h5, .inr (5, [.ref h2, .ref h4, .ref h7, .ref h8, .int ks])), (h8, .inr (4, [.ref h2, .ref h4, .ref h7])), (h7, .inr (3, [.ref h3, .ref h4])), (h4, .inr (2, [.ref h2, .ref h3, .ref h23, .ref h24, .ref h25, .ref h26, .ref h27, .int sn, .int so, .int sc, .int sl, .int sw, .int ss])), (h23, .inl (kI, 333, .inl f23)), (h24, .inl (kI, 333, .inl f24)), (h25, .inl (kI, 333, .inl f25)), (h26, .inl (kI, 333, .inl f26)), (h27, .inl (kI, 3000, .inl f27)), (h3, .inr (1, [.ref h13, .ref h14, .ref h15, .ref h16, .ref h17, .ref h18, .ref h19, .ref h20, .ref h21, .ref h22, .int bn])), (h13, .inl (kJ, 1501, .inr (.inl f13))), (h14, .inl (kI, 1501, .inl f14)), (h15, .inl (kI, 1501, .inl f15)), (h16, .inl (kI, 1501, .inl f16)), (h17, .inl (kI, 1501, .inl f17)), (h18, .inl (kI, 1501, .inl f18)), (h19, .inl (kI, 1501, .inl f19)), (h20, .inl (kI, 1501, .inl f20)), (h21, .inl (kI, 1501, .inl f21)), (h22, .inl (kZ, 1501, .inl f22)), (h2, .inr (0, [.ref h9, .ref h10, .ref h11, .ref h12, .int tc, .int x_6, .int td, .int tf])), (h9, .inl (kI, 3001, .inl f9)), (h10, .inl (kI, 3001, .inl f10)), (h11, .inl (kJ, 3001, .inr (.inl f11))), (h12, .inl (kJ, 27, .inr (.inl f12)))] H := hP
    have hD : va_D A [(h5, .inr (5, [.ref h2, .ref h4, .ref h7, .ref h8, .int ks])), (h8, .inr (4, [.ref h2, .ref h4, .ref h7])), (h7, .inr (3, [.ref h3, .ref h4])), (h4, .inr (2, [.ref h2, .ref h3, .ref h23, .ref h24, .ref h25, .ref h26, .ref h27, .int sn, .int so, .int sc, .int sl, .int sw, .int ss])), (h23, .inl (kI, 333, .inl f23)), (h24, .inl (kI, 333, .inl f24)), (h25, .inl (kI, 333, .inl f25)), (h26, .inl (kI, 333, .inl f26)), (h27, .inl (kI, 3000, .inl f27)), (h3, .inr (1, [.ref h13, .ref h14, .ref h15, .ref h16, .ref h17, .ref h18, .ref h19, .ref h20, .ref h21, .ref h22, .int bn])), (h13, .inl (kJ, 1501, .inr (.inl f13))), (h14, .inl (kI, 1501, .inl f14)), (h15, .inl (kI, 1501, .inl f15)), (h16, .inl (kI, 1501, .inl f16)), (h17, .inl (kI, 1501, .inl f17)), (h18, .inl (kI, 1501, .inl f18)), (h19, .inl (kI, 1501, .inl f19)), (h20, .inl (kI, 1501, .inl f20)), (h21, .inl (kI, 1501, .inl f21)), (h22, .inl (kZ, 1501, .inl f22)), (h2, .inr (0, [.ref h9, .ref h10, .ref h11, .ref h12, .int tc, .int x_6, .int td, .int tf])), (h9, .inl (kI, 3001, .inl f9)), (h10, .inl (kI, 3001, .inl f10)), (h11, .inl (kJ, 3001, .inr (.inl f11))), (h12, .inl (kJ, 27, .inr (.inl f12)))] := hD
    refine lv_if_eq (tgt := 43) hx hb d_2_6_28 (by decide +kernel) (fun c_9 => ?_) (fun c_9 => ?_)
    · skip
      have tc_9 : r_4.toInt = 0 := congrArg Int32.toInt c_9
      refine lv_aload_n hx hb d_2_6_43 rfl (lv_at hl 0 rfl) ?_
      refine lv_aload_n hx hb d_2_6_44 rfl (lv_at hl 0 rfl) ?_
      have hPc := hP.sub (ws' := [(h5, .inr (5, [.ref h2, .ref h4, .ref h7, .ref h8, .int ks])), (h8, .inr (4, [.ref h2, .ref h4, .ref h7])), (h7, .inr (3, [.ref h3, .ref h4])), (h4, .inr (2, [.ref h2, .ref h3, .ref h23, .ref h24, .ref h25, .ref h26, .ref h27, .int sn, .int so, .int sc, .int sl, .int sw, .int ss])), (h23, .inl (kI, 333, .inl f23)), (h24, .inl (kI, 333, .inl f24)), (h25, .inl (kI, 333, .inl f25)), (h26, .inl (kI, 333, .inl f26)), (h27, .inl (kI, 3000, .inl f27)), (h2, .inr (0, [.ref h9, .ref h10, .ref h11, .ref h12, .int tc, .int x_6, .int td, .int tf])), (h9, .inl (kI, 3001, .inl f9)), (h10, .inl (kI, 3001, .inl f10)), (h11, .inl (kJ, 3001, .inr (.inl f11))), (h12, .inl (kJ, 27, .inr (.inl f12))), (h3, .inr (1, [.ref h13, .ref h14, .ref h15, .ref h16, .ref h17, .ref h18, .ref h19, .ref h20, .ref h21, .ref h22, .int bn])), (h13, .inl (kJ, 1501, .inr (.inl f13))), (h14, .inl (kI, 1501, .inl f14)), (h15, .inl (kI, 1501, .inl f15)), (h16, .inl (kI, 1501, .inl f16)), (h17, .inl (kI, 1501, .inl f17)), (h18, .inl (kI, 1501, .inl f18)), (h19, .inl (kI, 1501, .inl f19)), (h20, .inl (kI, 1501, .inl f20)), (h21, .inl (kI, 1501, .inl f21)), (h22, .inl (kZ, 1501, .inl f22))]) [0, 1, 2, 3, 4, 5, 6, 7, 8, 20, 21, 22, 23, 24, 9, 10, 11, 12, 13, 14, 15, 16, 17, 18, 19] rfl
      have hDc := hD.sub (ws' := [(h5, .inr (5, [.ref h2, .ref h4, .ref h7, .ref h8, .int ks])), (h8, .inr (4, [.ref h2, .ref h4, .ref h7])), (h7, .inr (3, [.ref h3, .ref h4])), (h4, .inr (2, [.ref h2, .ref h3, .ref h23, .ref h24, .ref h25, .ref h26, .ref h27, .int sn, .int so, .int sc, .int sl, .int sw, .int ss])), (h23, .inl (kI, 333, .inl f23)), (h24, .inl (kI, 333, .inl f24)), (h25, .inl (kI, 333, .inl f25)), (h26, .inl (kI, 333, .inl f26)), (h27, .inl (kI, 3000, .inl f27)), (h2, .inr (0, [.ref h9, .ref h10, .ref h11, .ref h12, .int tc, .int x_6, .int td, .int tf])), (h9, .inl (kI, 3001, .inl f9)), (h10, .inl (kI, 3001, .inl f10)), (h11, .inl (kJ, 3001, .inr (.inl f11))), (h12, .inl (kJ, 27, .inr (.inl f12))), (h3, .inr (1, [.ref h13, .ref h14, .ref h15, .ref h16, .ref h17, .ref h18, .ref h19, .ref h20, .ref h21, .ref h22, .int bn])), (h13, .inl (kJ, 1501, .inr (.inl f13))), (h14, .inl (kI, 1501, .inl f14)), (h15, .inl (kI, 1501, .inl f15)), (h16, .inl (kI, 1501, .inl f16)), (h17, .inl (kI, 1501, .inl f17)), (h18, .inl (kI, 1501, .inl f18)), (h19, .inl (kI, 1501, .inl f19)), (h20, .inl (kI, 1501, .inl f20)), (h21, .inl (kI, 1501, .inl f21)), (h22, .inl (kZ, 1501, .inl f22))]) [0, 1, 2, 3, 4, 5, 6, 7, 8, 20, 21, 22, 23, 24, 9, 10, 11, 12, 13, 14, 15, 16, 17, 18, 19] (by decide) rfl
      have hFc := va_free (wc := [(h5, .inr (5, [.ref h2, .ref h4, .ref h7, .ref h8, .int ks])), (h8, .inr (4, [.ref h2, .ref h4, .ref h7])), (h7, .inr (3, [.ref h3, .ref h4])), (h4, .inr (2, [.ref h2, .ref h3, .ref h23, .ref h24, .ref h25, .ref h26, .ref h27, .int sn, .int so, .int sc, .int sl, .int sw, .int ss])), (h23, .inl (kI, 333, .inl f23)), (h24, .inl (kI, 333, .inl f24)), (h25, .inl (kI, 333, .inl f25)), (h26, .inl (kI, 333, .inl f26)), (h27, .inl (kI, 3000, .inl f27)), (h2, .inr (0, [.ref h9, .ref h10, .ref h11, .ref h12, .int tc, .int x_6, .int td, .int tf])), (h9, .inl (kI, 3001, .inl f9)), (h10, .inl (kI, 3001, .inl f10)), (h11, .inl (kJ, 3001, .inr (.inl f11))), (h12, .inl (kJ, 27, .inr (.inl f12))), (h3, .inr (1, [.ref h13, .ref h14, .ref h15, .ref h16, .ref h17, .ref h18, .ref h19, .ref h20, .ref h21, .ref h22, .int bn])), (h13, .inl (kJ, 1501, .inr (.inl f13))), (h14, .inl (kI, 1501, .inl f14)), (h15, .inl (kI, 1501, .inl f15)), (h16, .inl (kI, 1501, .inl f16)), (h17, .inl (kI, 1501, .inl f17)), (h18, .inl (kI, 1501, .inl f18)), (h19, .inl (kI, 1501, .inl f19)), (h20, .inl (kI, 1501, .inl f20)), (h21, .inl (kI, 1501, .inl f21)), (h22, .inl (kZ, 1501, .inl f22))]) hD hS hA [0, 1, 2, 3, 4, 5, 6, 7, 8, 20, 21, 22, 23, 24, 9, 10, 11, 12, 13, 14, 15, 16, 17, 18, 19] rfl
      refine va_calli (va_runV (As := []) (rest := [.ref h5]) ⟨hx, hb, hml, hown, hts⟩ (g_Blocks_seesType l D kI kJ kB kZ _ (h2) (h3) (h4) (h5) (h7) (h8) (h9) (h10) (h11) (h12) (h13) (h14) (h15) (h16) (h17) (h18) (h19) (h20) (h21) (h22) (h23) (h24) (h25) (h26) (h27) (ks) (sn) (so) (sc) (sl) (sw) (ss) (tc) (x_6) (td) (tf) (bn) (f23) (f24) (f25) (f26) (f27) (f9) (f10) (f11) (f12) (f13) (f14) (f15) (f16) (f17) (f18) (f19) (f20) (f21) (f22) (by first | assumption | omega) (by first | assumption | omega) (by first | assumption | omega) (by first | assumption | omega) (by first | assumption | omega) (by first | assumption | exact zpl (by assumption) (by omega)) (by first | assumption | omega) (by first | assumption | omega) (by first | assumption | omega) (by first | assumption | omega) (by first | assumption | omega) (by first | assumption | omega)) (cwV 0 hts (gT_V m_612 m_614 m_12 m_128 (gT_ws m_615)) rfl rfl rfl (by decide +kernel) ⟨show 2 + 1 ≤ 60 * n + 26 by omega, show 8 + (1 + 11) + 41 ≤ 32 * (60 * n + 26) by omega⟩) ⟨xBlind xOk_N, va_recv hK hP (ci := 5) (q0 := 0) rfl rfl, xAtN hK hPc hDc⟩ rfl rfl hl.1 rfl (lv_room (Nat.le_of_ble_eq_true rfl)) d_2_6_45 ⟨(Nat.le_of_ble_eq_true rfl), (Nat.le_of_ble_eq_true rfl)⟩) hS (fun q _ h => hFc q h) hFc (fun r_10 u t H1 locs ht hvm hw_11 hB hz1 hk1 hS => ?_)
      clear hz1
      obtain ⟨hP, hD⟩ := xJoin (wr := []) (w1 := [(h5, .inr (5, [.ref h2, .ref h4, .ref h7, .ref h8, .int ks])), (h8, .inr (4, [.ref h2, .ref h4, .ref h7])), (h7, .inr (3, [.ref h3, .ref h4])), (h4, .inr (2, [.ref h2, .ref h3, .ref h23, .ref h24, .ref h25, .ref h26, .ref h27, .int sn, .int so, .int sc, .int sl, .int sw, .int ss])), (h23, .inl (kI, 333, .inl f23)), (h24, .inl (kI, 333, .inl f24)), (h25, .inl (kI, 333, .inl f25)), (h26, .inl (kI, 333, .inl f26)), (h27, .inl (kI, 3000, .inl f27)), (h2, .inr (0, [.ref h9, .ref h10, .ref h11, .ref h12, .int tc, .int x_6, .int td, .int tf])), (h9, .inl (kI, 3001, .inl f9)), (h10, .inl (kI, 3001, .inl f10)), (h11, .inl (kJ, 3001, .inr (.inl f11))), (h12, .inl (kJ, 27, .inr (.inl f12))), (h3, .inr (1, [.ref h13, .ref h14, .ref h15, .ref h16, .ref h17, .ref h18, .ref h19, .ref h20, .ref h21, .ref h22, .int bn])), (h13, .inl (kJ, 1501, .inr (.inl f13))), (h14, .inl (kI, 1501, .inl f14)), (h15, .inl (kI, 1501, .inl f15)), (h16, .inl (kI, 1501, .inl f16)), (h17, .inl (kI, 1501, .inl f17)), (h18, .inl (kI, 1501, .inl f18)), (h19, .inl (kI, 1501, .inl f19)), (h20, .inl (kI, 1501, .inl f20)), (h21, .inl (kI, 1501, .inl f21)), (h22, .inl (kZ, 1501, .inl f22))]) hP hD [0, 1, 2, 3, 4, 5, 6, 7, 8, 20, 21, 22, 23, 24, 9, 10, 11, 12, 13, 14, 15, 16, 17, 18, 19] [] rfl rfl (by decide) (by decide) hk1 hFc ht hB
      generalize H1 = H at hP hS ⊢
      have hP : va_P D cls9 [(h5, .inr (5, [.ref h2, .ref h4, .ref h7, .ref h8, .int ks])), (h8, .inr (4, [.ref h2, .ref h4, .ref h7])), (h7, .inr (3, [.ref h3, .ref h4])), (h4, .inr (2, [.ref h2, .ref h3, .ref h23, .ref h24, .ref h25, .ref h26, .ref h27, .int sn, .int so, .int sc, .int sl, .int sw, .int ss])), (h23, .inl (kI, 333, .inl f23)), (h24, .inl (kI, 333, .inl f24)), (h25, .inl (kI, 333, .inl f25)), (h26, .inl (kI, 333, .inl f26)), (h27, .inl (kI, 3000, .inl f27)), (h2, .inr (0, [.ref h9, .ref h10, .ref h11, .ref h12, .int tc, .int x_6, .int td, .int tf])), (h9, .inl (kI, 3001, .inl f9)), (h10, .inl (kI, 3001, .inl f10)), (h11, .inl (kJ, 3001, .inr (.inl f11))), (h12, .inl (kJ, 27, .inr (.inl f12))), (h3, .inr (1, [.ref h13, .ref h14, .ref h15, .ref h16, .ref h17, .ref h18, .ref h19, .ref h20, .ref h21, .ref h22, .int bn])), (h13, .inl (kJ, 1501, .inr (.inl f13))), (h14, .inl (kI, 1501, .inl f14)), (h15, .inl (kI, 1501, .inl f15)), (h16, .inl (kI, 1501, .inl f16)), (h17, .inl (kI, 1501, .inl f17)), (h18, .inl (kI, 1501, .inl f18)), (h19, .inl (kI, 1501, .inl f19)), (h20, .inl (kI, 1501, .inl f20)), (h21, .inl (kI, 1501, .inl f21)), (h22, .inl (kZ, 1501, .inl f22))] H := hP
      have hD : va_D A [(h5, .inr (5, [.ref h2, .ref h4, .ref h7, .ref h8, .int ks])), (h8, .inr (4, [.ref h2, .ref h4, .ref h7])), (h7, .inr (3, [.ref h3, .ref h4])), (h4, .inr (2, [.ref h2, .ref h3, .ref h23, .ref h24, .ref h25, .ref h26, .ref h27, .int sn, .int so, .int sc, .int sl, .int sw, .int ss])), (h23, .inl (kI, 333, .inl f23)), (h24, .inl (kI, 333, .inl f24)), (h25, .inl (kI, 333, .inl f25)), (h26, .inl (kI, 333, .inl f26)), (h27, .inl (kI, 3000, .inl f27)), (h2, .inr (0, [.ref h9, .ref h10, .ref h11, .ref h12, .int tc, .int x_6, .int td, .int tf])), (h9, .inl (kI, 3001, .inl f9)), (h10, .inl (kI, 3001, .inl f10)), (h11, .inl (kJ, 3001, .inr (.inl f11))), (h12, .inl (kJ, 27, .inr (.inl f12))), (h3, .inr (1, [.ref h13, .ref h14, .ref h15, .ref h16, .ref h17, .ref h18, .ref h19, .ref h20, .ref h21, .ref h22, .int bn])), (h13, .inl (kJ, 1501, .inr (.inl f13))), (h14, .inl (kI, 1501, .inl f14)), (h15, .inl (kI, 1501, .inl f15)), (h16, .inl (kI, 1501, .inl f16)), (h17, .inl (kI, 1501, .inl f17)), (h18, .inl (kI, 1501, .inl f18)), (h19, .inl (kI, 1501, .inl f19)), (h20, .inl (kI, 1501, .inl f20)), (h21, .inl (kI, 1501, .inl f21)), (h22, .inl (kZ, 1501, .inl f22))] := hD
      refine lv_if_eq (tgt := 58) hx hb d_2_6_48 (by decide +kernel) (fun c_12 => ?_) (fun c_12 => ?_)
      · skip
        have tc_12 : r_10.toInt = 0 := congrArg Int32.toInt c_12
        refine lv_iconst (v := 0) hx hb d_2_6_58 (by decide +kernel) ?_
        have hPc := hP.sub (ws' := [(h5, .inr (5, [.ref h2, .ref h4, .ref h7, .ref h8, .int ks])), (h8, .inr (4, [.ref h2, .ref h4, .ref h7])), (h7, .inr (3, [.ref h3, .ref h4])), (h4, .inr (2, [.ref h2, .ref h3, .ref h23, .ref h24, .ref h25, .ref h26, .ref h27, .int sn, .int so, .int sc, .int sl, .int sw, .int ss])), (h23, .inl (kI, 333, .inl f23)), (h24, .inl (kI, 333, .inl f24)), (h25, .inl (kI, 333, .inl f25)), (h26, .inl (kI, 333, .inl f26)), (h27, .inl (kI, 3000, .inl f27)), (h2, .inr (0, [.ref h9, .ref h10, .ref h11, .ref h12, .int tc, .int x_6, .int td, .int tf])), (h9, .inl (kI, 3001, .inl f9)), (h10, .inl (kI, 3001, .inl f10)), (h11, .inl (kJ, 3001, .inr (.inl f11))), (h12, .inl (kJ, 27, .inr (.inl f12))), (h3, .inr (1, [.ref h13, .ref h14, .ref h15, .ref h16, .ref h17, .ref h18, .ref h19, .ref h20, .ref h21, .ref h22, .int bn])), (h13, .inl (kJ, 1501, .inr (.inl f13))), (h14, .inl (kI, 1501, .inl f14)), (h15, .inl (kI, 1501, .inl f15)), (h16, .inl (kI, 1501, .inl f16)), (h17, .inl (kI, 1501, .inl f17)), (h18, .inl (kI, 1501, .inl f18)), (h19, .inl (kI, 1501, .inl f19)), (h20, .inl (kI, 1501, .inl f20)), (h21, .inl (kI, 1501, .inl f21)), (h22, .inl (kZ, 1501, .inl f22))]) [0, 1, 2, 3, 4, 5, 6, 7, 8, 9, 10, 11, 12, 13, 14, 15, 16, 17, 18, 19, 20, 21, 22, 23, 24] rfl
        have hDc := hD.sub (ws' := [(h5, .inr (5, [.ref h2, .ref h4, .ref h7, .ref h8, .int ks])), (h8, .inr (4, [.ref h2, .ref h4, .ref h7])), (h7, .inr (3, [.ref h3, .ref h4])), (h4, .inr (2, [.ref h2, .ref h3, .ref h23, .ref h24, .ref h25, .ref h26, .ref h27, .int sn, .int so, .int sc, .int sl, .int sw, .int ss])), (h23, .inl (kI, 333, .inl f23)), (h24, .inl (kI, 333, .inl f24)), (h25, .inl (kI, 333, .inl f25)), (h26, .inl (kI, 333, .inl f26)), (h27, .inl (kI, 3000, .inl f27)), (h2, .inr (0, [.ref h9, .ref h10, .ref h11, .ref h12, .int tc, .int x_6, .int td, .int tf])), (h9, .inl (kI, 3001, .inl f9)), (h10, .inl (kI, 3001, .inl f10)), (h11, .inl (kJ, 3001, .inr (.inl f11))), (h12, .inl (kJ, 27, .inr (.inl f12))), (h3, .inr (1, [.ref h13, .ref h14, .ref h15, .ref h16, .ref h17, .ref h18, .ref h19, .ref h20, .ref h21, .ref h22, .int bn])), (h13, .inl (kJ, 1501, .inr (.inl f13))), (h14, .inl (kI, 1501, .inl f14)), (h15, .inl (kI, 1501, .inl f15)), (h16, .inl (kI, 1501, .inl f16)), (h17, .inl (kI, 1501, .inl f17)), (h18, .inl (kI, 1501, .inl f18)), (h19, .inl (kI, 1501, .inl f19)), (h20, .inl (kI, 1501, .inl f20)), (h21, .inl (kI, 1501, .inl f21)), (h22, .inl (kZ, 1501, .inl f22))]) [0, 1, 2, 3, 4, 5, 6, 7, 8, 9, 10, 11, 12, 13, 14, 15, 16, 17, 18, 19, 20, 21, 22, 23, 24] (by decide) rfl
        have hFc := va_free (wc := [(h5, .inr (5, [.ref h2, .ref h4, .ref h7, .ref h8, .int ks])), (h8, .inr (4, [.ref h2, .ref h4, .ref h7])), (h7, .inr (3, [.ref h3, .ref h4])), (h4, .inr (2, [.ref h2, .ref h3, .ref h23, .ref h24, .ref h25, .ref h26, .ref h27, .int sn, .int so, .int sc, .int sl, .int sw, .int ss])), (h23, .inl (kI, 333, .inl f23)), (h24, .inl (kI, 333, .inl f24)), (h25, .inl (kI, 333, .inl f25)), (h26, .inl (kI, 333, .inl f26)), (h27, .inl (kI, 3000, .inl f27)), (h2, .inr (0, [.ref h9, .ref h10, .ref h11, .ref h12, .int tc, .int x_6, .int td, .int tf])), (h9, .inl (kI, 3001, .inl f9)), (h10, .inl (kI, 3001, .inl f10)), (h11, .inl (kJ, 3001, .inr (.inl f11))), (h12, .inl (kJ, 27, .inr (.inl f12))), (h3, .inr (1, [.ref h13, .ref h14, .ref h15, .ref h16, .ref h17, .ref h18, .ref h19, .ref h20, .ref h21, .ref h22, .int bn])), (h13, .inl (kJ, 1501, .inr (.inl f13))), (h14, .inl (kI, 1501, .inl f14)), (h15, .inl (kI, 1501, .inl f15)), (h16, .inl (kI, 1501, .inl f16)), (h17, .inl (kI, 1501, .inl f17)), (h18, .inl (kI, 1501, .inl f18)), (h19, .inl (kI, 1501, .inl f19)), (h20, .inl (kI, 1501, .inl f20)), (h21, .inl (kI, 1501, .inl f21)), (h22, .inl (kZ, 1501, .inl f22))]) hD hS hA [0, 1, 2, 3, 4, 5, 6, 7, 8, 9, 10, 11, 12, 13, 14, 15, 16, 17, 18, 19, 20, 21, 22, 23, 24] rfl
        refine va_callv (va_runV (As := [.int 0]) (rest := []) ⟨hx, hb, hml, hown, hts⟩ (g_Blocks_typedDeclaration l D kI kJ kB kZ n hrec _ (h2) (h3) (h4) (h5) (h7) (h8) (h9) (h10) (h11) (h12) (h13) (h14) (h15) (h16) (h17) (h18) (h19) (h20) (h21) (h22) (h23) (h24) (h25) (h26) (h27) (ks) (sn) (so) (sc) (sl) (sw) (ss) (tc) (x_6) (td) (tf) (bn) (f23) (f24) (f25) (f26) (f27) (f9) (f10) (f11) (f12) (f13) (f14) (f15) (f16) (f17) (f18) (f19) (f20) (f21) (f22) ((0 : Int32)) (by first | assumption | omega) (by first | assumption | omega) (by first | assumption | omega) (by first | assumption | omega) (by first | assumption | omega) (by first | assumption | exact zpl (by assumption) (by omega)) (by first | assumption | omega) (by first | assumption | omega) (by first | assumption | omega) (by first | assumption | omega) (by first | assumption | omega) (by first | assumption | omega) (by first | assumption | exact sI_0 | exact sI_st (by assumption) (by decide +kernel)) (by first | assumption | omega)) (cwV 1 hts (gT_V m_717 m_719 m_21 m_128 (gT_ws m_720)) rfl rfl rfl (by decide +kernel) ⟨show 60 * n + 25 + 1 ≤ 60 * n + 26 by omega, show 8 + (3 + 11) + 32 * (60 * n + 25) ≤ 32 * (60 * n + 26) by omega⟩) ⟨xBlind xOk_N, va_recv hK hP (ci := 5) (q0 := 0) rfl rfl, xAtN hK hPc hDc⟩ rfl rfl hl.1 rfl (lv_room (Nat.le_of_ble_eq_true rfl)) d_2_6_59 ⟨(Nat.le_of_ble_eq_true rfl), (Nat.le_of_ble_eq_true rfl)⟩) hS (fun q _ h => hFc q h) hFc (fun u t H1 locs ht hvm hw_14 hB hz1 hk1 hS => ?_)
        clear hz1
        obtain ⟨x_15, x_16, x_17, x_18, x_19, x_20, x_21, x_22, x_23, x_24, x_25, x_26, x_27, x_28, x_29, x_30, x_31, x_32, x_33, x_34, x_35, x_36, x_37, x_38, x_39, hb_40, hb_41, hb_42, hb_43, hb_44, hb_45, hb_46, hb_47, hb_48, hb_49, hb_50, hB⟩ := hB
        obtain ⟨hP, hD⟩ := xJoin (wr := []) (w1 := [(h5, .inr (5, [.ref h2, .ref h4, .ref h7, .ref h8, .int x_15])), (h8, .inr (4, [.ref h2, .ref h4, .ref h7])), (h7, .inr (3, [.ref h3, .ref h4])), (h4, .inr (2, [.ref h2, .ref h3, .ref h23, .ref h24, .ref h25, .ref h26, .ref h27, .int x_16, .int x_17, .int x_18, .int x_19, .int x_20, .int ss])), (h23, .inl (kI, 333, .inl x_21)), (h24, .inl (kI, 333, .inl x_22)), (h25, .inl (kI, 333, .inl x_23)), (h26, .inl (kI, 333, .inl x_24)), (h27, .inl (kI, 3000, .inl x_25)), (h2, .inr (0, [.ref h9, .ref h10, .ref h11, .ref h12, .int tc, .int x_26, .int x_27, .int x_28])), (h9, .inl (kI, 3001, .inl f9)), (h10, .inl (kI, 3001, .inl f10)), (h11, .inl (kJ, 3001, .inr (.inl f11))), (h12, .inl (kJ, 27, .inr (.inl f12))), (h3, .inr (1, [.ref h13, .ref h14, .ref h15, .ref h16, .ref h17, .ref h18, .ref h19, .ref h20, .ref h21, .ref h22, .int x_29])), (h13, .inl (kJ, 1501, .inr (.inl x_30))), (h14, .inl (kI, 1501, .inl x_31)), (h15, .inl (kI, 1501, .inl x_32)), (h16, .inl (kI, 1501, .inl x_33)), (h17, .inl (kI, 1501, .inl x_34)), (h18, .inl (kI, 1501, .inl x_35)), (h19, .inl (kI, 1501, .inl x_36)), (h20, .inl (kI, 1501, .inl x_37)), (h21, .inl (kI, 1501, .inl x_38)), (h22, .inl (kZ, 1501, .inl x_39))]) hP hD [0, 1, 2, 3, 4, 5, 6, 7, 8, 9, 10, 11, 12, 13, 14, 15, 16, 17, 18, 19, 20, 21, 22, 23, 24] [] rfl rfl (by decide) (by decide) hk1 hFc ht hB
        generalize H1 = H at hP hS ⊢
        have hP : va_P D cls9 [(h5, .inr (5, [.ref h2, .ref h4, .ref h7, .ref h8, .int x_15])), (h8, .inr (4, [.ref h2, .ref h4, .ref h7])), (h7, .inr (3, [.ref h3, .ref h4])), (h4, .inr (2, [.ref h2, .ref h3, .ref h23, .ref h24, .ref h25, .ref h26, .ref h27, .int x_16, .int x_17, .int x_18, .int x_19, .int x_20, .int ss])), (h23, .inl (kI, 333, .inl x_21)), (h24, .inl (kI, 333, .inl x_22)), (h25, .inl (kI, 333, .inl x_23)), (h26, .inl (kI, 333, .inl x_24)), (h27, .inl (kI, 3000, .inl x_25)), (h2, .inr (0, [.ref h9, .ref h10, .ref h11, .ref h12, .int tc, .int x_26, .int x_27, .int x_28])), (h9, .inl (kI, 3001, .inl f9)), (h10, .inl (kI, 3001, .inl f10)), (h11, .inl (kJ, 3001, .inr (.inl f11))), (h12, .inl (kJ, 27, .inr (.inl f12))), (h3, .inr (1, [.ref h13, .ref h14, .ref h15, .ref h16, .ref h17, .ref h18, .ref h19, .ref h20, .ref h21, .ref h22, .int x_29])), (h13, .inl (kJ, 1501, .inr (.inl x_30))), (h14, .inl (kI, 1501, .inl x_31)), (h15, .inl (kI, 1501, .inl x_32)), (h16, .inl (kI, 1501, .inl x_33)), (h17, .inl (kI, 1501, .inl x_34)), (h18, .inl (kI, 1501, .inl x_35)), (h19, .inl (kI, 1501, .inl x_36)), (h20, .inl (kI, 1501, .inl x_37)), (h21, .inl (kI, 1501, .inl x_38)), (h22, .inl (kZ, 1501, .inl x_39))] H := hP
        have hD : va_D A [(h5, .inr (5, [.ref h2, .ref h4, .ref h7, .ref h8, .int x_15])), (h8, .inr (4, [.ref h2, .ref h4, .ref h7])), (h7, .inr (3, [.ref h3, .ref h4])), (h4, .inr (2, [.ref h2, .ref h3, .ref h23, .ref h24, .ref h25, .ref h26, .ref h27, .int x_16, .int x_17, .int x_18, .int x_19, .int x_20, .int ss])), (h23, .inl (kI, 333, .inl x_21)), (h24, .inl (kI, 333, .inl x_22)), (h25, .inl (kI, 333, .inl x_23)), (h26, .inl (kI, 333, .inl x_24)), (h27, .inl (kI, 3000, .inl x_25)), (h2, .inr (0, [.ref h9, .ref h10, .ref h11, .ref h12, .int tc, .int x_26, .int x_27, .int x_28])), (h9, .inl (kI, 3001, .inl f9)), (h10, .inl (kI, 3001, .inl f10)), (h11, .inl (kJ, 3001, .inr (.inl f11))), (h12, .inl (kJ, 27, .inr (.inl f12))), (h3, .inr (1, [.ref h13, .ref h14, .ref h15, .ref h16, .ref h17, .ref h18, .ref h19, .ref h20, .ref h21, .ref h22, .int x_29])), (h13, .inl (kJ, 1501, .inr (.inl x_30))), (h14, .inl (kI, 1501, .inl x_31)), (h15, .inl (kI, 1501, .inl x_32)), (h16, .inl (kI, 1501, .inl x_33)), (h17, .inl (kI, 1501, .inl x_34)), (h18, .inl (kI, 1501, .inl x_35)), (h19, .inl (kI, 1501, .inl x_36)), (h20, .inl (kI, 1501, .inl x_37)), (h21, .inl (kI, 1501, .inl x_38)), (h22, .inl (kZ, 1501, .inl x_39))] := hD
        have hP9 := hP.sub (ws' := [(h5, .inr (5, [.ref h2, .ref h4, .ref h7, .ref h8, .int x_15])), (h8, .inr (4, [.ref h2, .ref h4, .ref h7])), (h7, .inr (3, [.ref h3, .ref h4])), (h4, .inr (2, [.ref h2, .ref h3, .ref h23, .ref h24, .ref h25, .ref h26, .ref h27, .int x_16, .int x_17, .int x_18, .int x_19, .int x_20, .int ss])), (h23, .inl (kI, 333, .inl x_21)), (h24, .inl (kI, 333, .inl x_22)), (h25, .inl (kI, 333, .inl x_23)), (h26, .inl (kI, 333, .inl x_24)), (h27, .inl (kI, 3000, .inl x_25)), (h2, .inr (0, [.ref h9, .ref h10, .ref h11, .ref h12, .int tc, .int x_26, .int x_27, .int x_28])), (h9, .inl (kI, 3001, .inl f9)), (h10, .inl (kI, 3001, .inl f10)), (h11, .inl (kJ, 3001, .inr (.inl f11))), (h12, .inl (kJ, 27, .inr (.inl f12))), (h3, .inr (1, [.ref h13, .ref h14, .ref h15, .ref h16, .ref h17, .ref h18, .ref h19, .ref h20, .ref h21, .ref h22, .int x_29])), (h13, .inl (kJ, 1501, .inr (.inl x_30))), (h14, .inl (kI, 1501, .inl x_31)), (h15, .inl (kI, 1501, .inl x_32)), (h16, .inl (kI, 1501, .inl x_33)), (h17, .inl (kI, 1501, .inl x_34)), (h18, .inl (kI, 1501, .inl x_35)), (h19, .inl (kI, 1501, .inl x_36)), (h20, .inl (kI, 1501, .inl x_37)), (h21, .inl (kI, 1501, .inl x_38)), (h22, .inl (kZ, 1501, .inl x_39))]) [0, 1, 2, 3, 4, 5, 6, 7, 8, 9, 10, 11, 12, 13, 14, 15, 16, 17, 18, 19, 20, 21, 22, 23, 24] rfl
        have hD9 := hD.sub (ws' := [(h5, .inr (5, [.ref h2, .ref h4, .ref h7, .ref h8, .int x_15])), (h8, .inr (4, [.ref h2, .ref h4, .ref h7])), (h7, .inr (3, [.ref h3, .ref h4])), (h4, .inr (2, [.ref h2, .ref h3, .ref h23, .ref h24, .ref h25, .ref h26, .ref h27, .int x_16, .int x_17, .int x_18, .int x_19, .int x_20, .int ss])), (h23, .inl (kI, 333, .inl x_21)), (h24, .inl (kI, 333, .inl x_22)), (h25, .inl (kI, 333, .inl x_23)), (h26, .inl (kI, 333, .inl x_24)), (h27, .inl (kI, 3000, .inl x_25)), (h2, .inr (0, [.ref h9, .ref h10, .ref h11, .ref h12, .int tc, .int x_26, .int x_27, .int x_28])), (h9, .inl (kI, 3001, .inl f9)), (h10, .inl (kI, 3001, .inl f10)), (h11, .inl (kJ, 3001, .inr (.inl f11))), (h12, .inl (kJ, 27, .inr (.inl f12))), (h3, .inr (1, [.ref h13, .ref h14, .ref h15, .ref h16, .ref h17, .ref h18, .ref h19, .ref h20, .ref h21, .ref h22, .int x_29])), (h13, .inl (kJ, 1501, .inr (.inl x_30))), (h14, .inl (kI, 1501, .inl x_31)), (h15, .inl (kI, 1501, .inl x_32)), (h16, .inl (kI, 1501, .inl x_33)), (h17, .inl (kI, 1501, .inl x_34)), (h18, .inl (kI, 1501, .inl x_35)), (h19, .inl (kI, 1501, .inl x_36)), (h20, .inl (kI, 1501, .inl x_37)), (h21, .inl (kI, 1501, .inl x_38)), (h22, .inl (kZ, 1501, .inl x_39))]) [0, 1, 2, 3, 4, 5, 6, 7, 8, 9, 10, 11, 12, 13, 14, 15, 16, 17, 18, 19, 20, 21, 22, 23, 24] (by decide) rfl
        have hz_0 : 0 ≤ x_26.toInt := (by first | assumption | omega)
        have hz_1 : x_26.toInt < tc.toInt := (by first | assumption | omega)
        have hz_2 : x_28.toInt = -2 → 0 ≤ x_27.toInt ∧ x_27.toInt ≤ 20 := (by first | assumption | omega)
        have hz_3 : 0 ≤ x_29.toInt := (by first | assumption | omega)
        have hz_4 : x_29.toInt ≤ 1501 := (by first | assumption | omega)
        have hz_5 : 0 ≤ x_16.toInt := (by first | assumption | omega)
        have hz_6 : x_16.toInt ≤ 333 := (by first | assumption | omega)
        have hz_7 : 0 ≤ x_17.toInt := (by first | assumption | omega)
        have hz_8 : x_17.toInt ≤ 333 := (by first | assumption | omega)
        have hz_9 : sI x_35 x_36 x_37 x_22 x_23 x_24 x_29 x_16 x_17 ss := (by first | assumption | exact sI_0 | exact sI_st (by assumption) (by decide +kernel))
        have hz_10 : (x_28.toInt = -2 → tf.toInt = -2 ∧ x_27.toInt = td.toInt + 0) := (by first | assumption | omega)
        exact W.vret hx hb hr (fun t ht hW => ⟨⟨(), rfl, trivial, x_15, x_16, x_17, x_18, x_19, x_20, x_21, x_22, x_23, x_24, x_25, x_26, x_27, x_28, x_29, x_30, x_31, x_32, x_33, x_34, x_35, x_36, x_37, x_38, x_39, hz_0, hz_1, hz_2, hz_3, hz_4, hz_5, hz_6, hz_7, hz_8, hz_9, hz_10, xEnd hK hP9 hD9 ht hW⟩, hS.F ht⟩) hS.2.2 d_2_6_62
      · skip
        have tc_12 : ¬ r_10.toInt = 0 := fun h9 => c_12 (Int32.toInt_inj.mp h9)
        refine lv_aload_n hx hb d_2_6_51 rfl (lv_at hl 0 rfl) ?_
        have hPc := hP.sub (ws' := [(h5, .inr (5, [.ref h2, .ref h4, .ref h7, .ref h8, .int ks])), (h8, .inr (4, [.ref h2, .ref h4, .ref h7])), (h7, .inr (3, [.ref h3, .ref h4])), (h4, .inr (2, [.ref h2, .ref h3, .ref h23, .ref h24, .ref h25, .ref h26, .ref h27, .int sn, .int so, .int sc, .int sl, .int sw, .int ss])), (h23, .inl (kI, 333, .inl f23)), (h24, .inl (kI, 333, .inl f24)), (h25, .inl (kI, 333, .inl f25)), (h26, .inl (kI, 333, .inl f26)), (h27, .inl (kI, 3000, .inl f27)), (h2, .inr (0, [.ref h9, .ref h10, .ref h11, .ref h12, .int tc, .int x_6, .int td, .int tf])), (h9, .inl (kI, 3001, .inl f9)), (h10, .inl (kI, 3001, .inl f10)), (h11, .inl (kJ, 3001, .inr (.inl f11))), (h12, .inl (kJ, 27, .inr (.inl f12))), (h3, .inr (1, [.ref h13, .ref h14, .ref h15, .ref h16, .ref h17, .ref h18, .ref h19, .ref h20, .ref h21, .ref h22, .int bn])), (h13, .inl (kJ, 1501, .inr (.inl f13))), (h14, .inl (kI, 1501, .inl f14)), (h15, .inl (kI, 1501, .inl f15)), (h16, .inl (kI, 1501, .inl f16)), (h17, .inl (kI, 1501, .inl f17)), (h18, .inl (kI, 1501, .inl f18)), (h19, .inl (kI, 1501, .inl f19)), (h20, .inl (kI, 1501, .inl f20)), (h21, .inl (kI, 1501, .inl f21)), (h22, .inl (kZ, 1501, .inl f22))]) [0, 1, 2, 3, 4, 5, 6, 7, 8, 9, 10, 11, 12, 13, 14, 15, 16, 17, 18, 19, 20, 21, 22, 23, 24] rfl
        have hDc := hD.sub (ws' := [(h5, .inr (5, [.ref h2, .ref h4, .ref h7, .ref h8, .int ks])), (h8, .inr (4, [.ref h2, .ref h4, .ref h7])), (h7, .inr (3, [.ref h3, .ref h4])), (h4, .inr (2, [.ref h2, .ref h3, .ref h23, .ref h24, .ref h25, .ref h26, .ref h27, .int sn, .int so, .int sc, .int sl, .int sw, .int ss])), (h23, .inl (kI, 333, .inl f23)), (h24, .inl (kI, 333, .inl f24)), (h25, .inl (kI, 333, .inl f25)), (h26, .inl (kI, 333, .inl f26)), (h27, .inl (kI, 3000, .inl f27)), (h2, .inr (0, [.ref h9, .ref h10, .ref h11, .ref h12, .int tc, .int x_6, .int td, .int tf])), (h9, .inl (kI, 3001, .inl f9)), (h10, .inl (kI, 3001, .inl f10)), (h11, .inl (kJ, 3001, .inr (.inl f11))), (h12, .inl (kJ, 27, .inr (.inl f12))), (h3, .inr (1, [.ref h13, .ref h14, .ref h15, .ref h16, .ref h17, .ref h18, .ref h19, .ref h20, .ref h21, .ref h22, .int bn])), (h13, .inl (kJ, 1501, .inr (.inl f13))), (h14, .inl (kI, 1501, .inl f14)), (h15, .inl (kI, 1501, .inl f15)), (h16, .inl (kI, 1501, .inl f16)), (h17, .inl (kI, 1501, .inl f17)), (h18, .inl (kI, 1501, .inl f18)), (h19, .inl (kI, 1501, .inl f19)), (h20, .inl (kI, 1501, .inl f20)), (h21, .inl (kI, 1501, .inl f21)), (h22, .inl (kZ, 1501, .inl f22))]) [0, 1, 2, 3, 4, 5, 6, 7, 8, 9, 10, 11, 12, 13, 14, 15, 16, 17, 18, 19, 20, 21, 22, 23, 24] (by decide) rfl
        have hFc := va_free (wc := [(h5, .inr (5, [.ref h2, .ref h4, .ref h7, .ref h8, .int ks])), (h8, .inr (4, [.ref h2, .ref h4, .ref h7])), (h7, .inr (3, [.ref h3, .ref h4])), (h4, .inr (2, [.ref h2, .ref h3, .ref h23, .ref h24, .ref h25, .ref h26, .ref h27, .int sn, .int so, .int sc, .int sl, .int sw, .int ss])), (h23, .inl (kI, 333, .inl f23)), (h24, .inl (kI, 333, .inl f24)), (h25, .inl (kI, 333, .inl f25)), (h26, .inl (kI, 333, .inl f26)), (h27, .inl (kI, 3000, .inl f27)), (h2, .inr (0, [.ref h9, .ref h10, .ref h11, .ref h12, .int tc, .int x_6, .int td, .int tf])), (h9, .inl (kI, 3001, .inl f9)), (h10, .inl (kI, 3001, .inl f10)), (h11, .inl (kJ, 3001, .inr (.inl f11))), (h12, .inl (kJ, 27, .inr (.inl f12))), (h3, .inr (1, [.ref h13, .ref h14, .ref h15, .ref h16, .ref h17, .ref h18, .ref h19, .ref h20, .ref h21, .ref h22, .int bn])), (h13, .inl (kJ, 1501, .inr (.inl f13))), (h14, .inl (kI, 1501, .inl f14)), (h15, .inl (kI, 1501, .inl f15)), (h16, .inl (kI, 1501, .inl f16)), (h17, .inl (kI, 1501, .inl f17)), (h18, .inl (kI, 1501, .inl f18)), (h19, .inl (kI, 1501, .inl f19)), (h20, .inl (kI, 1501, .inl f20)), (h21, .inl (kI, 1501, .inl f21)), (h22, .inl (kZ, 1501, .inl f22))]) hD hS hA [0, 1, 2, 3, 4, 5, 6, 7, 8, 9, 10, 11, 12, 13, 14, 15, 16, 17, 18, 19, 20, 21, 22, 23, 24] rfl
        refine va_calli (va_runV (As := []) (rest := [.ref h5]) ⟨hx, hb, hml, hown, hts⟩ (g_Blocks_type l D kI kJ kB kZ _ (h2) (h3) (h4) (h5) (h7) (h8) (h9) (h10) (h11) (h12) (h13) (h14) (h15) (h16) (h17) (h18) (h19) (h20) (h21) (h22) (h23) (h24) (h25) (h26) (h27) (ks) (sn) (so) (sc) (sl) (sw) (ss) (tc) (x_6) (td) (tf) (bn) (f23) (f24) (f25) (f26) (f27) (f9) (f10) (f11) (f12) (f13) (f14) (f15) (f16) (f17) (f18) (f19) (f20) (f21) (f22) (by first | assumption | omega) (by first | assumption | omega) (by first | assumption | omega) (by first | assumption | omega) (by first | assumption | omega) (by first | assumption | exact zpl (by assumption) (by omega)) (by first | assumption | omega) (by first | assumption | omega) (by first | assumption | omega) (by first | assumption | omega) (by first | assumption | omega) (by first | assumption | omega)) (cwV 0 hts (gT_V m_697 m_699 m_18 m_128 (gT_ws m_700)) rfl rfl rfl (by decide +kernel) ⟨show 2 + 1 ≤ 60 * n + 26 by omega, show 8 + (1 + 11) + 41 ≤ 32 * (60 * n + 26) by omega⟩) ⟨xBlind xOk_N, va_recv hK hP (ci := 5) (q0 := 0) rfl rfl, xAtN hK hPc hDc⟩ rfl rfl hl.1 rfl (lv_room (Nat.le_of_ble_eq_true rfl)) d_2_6_52 ⟨(Nat.le_of_ble_eq_true rfl), (Nat.le_of_ble_eq_true rfl)⟩) hS (fun q _ h => hFc q h) hFc (fun r_51 u t H1 locs ht hvm hw_52 hB hz1 hk1 hS => ?_)
        clear hz1
        obtain ⟨x_53, x_54, hb_55, hb_56, hb_57, hb_58, hB⟩ := hB
        obtain ⟨hP, hD⟩ := xJoin (wr := []) (w1 := [(h5, .inr (5, [.ref h2, .ref h4, .ref h7, .ref h8, .int ks])), (h8, .inr (4, [.ref h2, .ref h4, .ref h7])), (h7, .inr (3, [.ref h3, .ref h4])), (h4, .inr (2, [.ref h2, .ref h3, .ref h23, .ref h24, .ref h25, .ref h26, .ref h27, .int sn, .int so, .int sc, .int sl, .int sw, .int ss])), (h23, .inl (kI, 333, .inl f23)), (h24, .inl (kI, 333, .inl f24)), (h25, .inl (kI, 333, .inl f25)), (h26, .inl (kI, 333, .inl f26)), (h27, .inl (kI, 3000, .inl f27)), (h2, .inr (0, [.ref h9, .ref h10, .ref h11, .ref h12, .int tc, .int x_53, .int td, .int x_54])), (h9, .inl (kI, 3001, .inl f9)), (h10, .inl (kI, 3001, .inl f10)), (h11, .inl (kJ, 3001, .inr (.inl f11))), (h12, .inl (kJ, 27, .inr (.inl f12))), (h3, .inr (1, [.ref h13, .ref h14, .ref h15, .ref h16, .ref h17, .ref h18, .ref h19, .ref h20, .ref h21, .ref h22, .int bn])), (h13, .inl (kJ, 1501, .inr (.inl f13))), (h14, .inl (kI, 1501, .inl f14)), (h15, .inl (kI, 1501, .inl f15)), (h16, .inl (kI, 1501, .inl f16)), (h17, .inl (kI, 1501, .inl f17)), (h18, .inl (kI, 1501, .inl f18)), (h19, .inl (kI, 1501, .inl f19)), (h20, .inl (kI, 1501, .inl f20)), (h21, .inl (kI, 1501, .inl f21)), (h22, .inl (kZ, 1501, .inl f22))]) hP hD [0, 1, 2, 3, 4, 5, 6, 7, 8, 9, 10, 11, 12, 13, 14, 15, 16, 17, 18, 19, 20, 21, 22, 23, 24] [] rfl rfl (by decide) (by decide) hk1 hFc ht hB
        generalize H1 = H at hP hS ⊢
        have hP : va_P D cls9 [(h5, .inr (5, [.ref h2, .ref h4, .ref h7, .ref h8, .int ks])), (h8, .inr (4, [.ref h2, .ref h4, .ref h7])), (h7, .inr (3, [.ref h3, .ref h4])), (h4, .inr (2, [.ref h2, .ref h3, .ref h23, .ref h24, .ref h25, .ref h26, .ref h27, .int sn, .int so, .int sc, .int sl, .int sw, .int ss])), (h23, .inl (kI, 333, .inl f23)), (h24, .inl (kI, 333, .inl f24)), (h25, .inl (kI, 333, .inl f25)), (h26, .inl (kI, 333, .inl f26)), (h27, .inl (kI, 3000, .inl f27)), (h2, .inr (0, [.ref h9, .ref h10, .ref h11, .ref h12, .int tc, .int x_53, .int td, .int x_54])), (h9, .inl (kI, 3001, .inl f9)), (h10, .inl (kI, 3001, .inl f10)), (h11, .inl (kJ, 3001, .inr (.inl f11))), (h12, .inl (kJ, 27, .inr (.inl f12))), (h3, .inr (1, [.ref h13, .ref h14, .ref h15, .ref h16, .ref h17, .ref h18, .ref h19, .ref h20, .ref h21, .ref h22, .int bn])), (h13, .inl (kJ, 1501, .inr (.inl f13))), (h14, .inl (kI, 1501, .inl f14)), (h15, .inl (kI, 1501, .inl f15)), (h16, .inl (kI, 1501, .inl f16)), (h17, .inl (kI, 1501, .inl f17)), (h18, .inl (kI, 1501, .inl f18)), (h19, .inl (kI, 1501, .inl f19)), (h20, .inl (kI, 1501, .inl f20)), (h21, .inl (kI, 1501, .inl f21)), (h22, .inl (kZ, 1501, .inl f22))] H := hP
        have hD : va_D A [(h5, .inr (5, [.ref h2, .ref h4, .ref h7, .ref h8, .int ks])), (h8, .inr (4, [.ref h2, .ref h4, .ref h7])), (h7, .inr (3, [.ref h3, .ref h4])), (h4, .inr (2, [.ref h2, .ref h3, .ref h23, .ref h24, .ref h25, .ref h26, .ref h27, .int sn, .int so, .int sc, .int sl, .int sw, .int ss])), (h23, .inl (kI, 333, .inl f23)), (h24, .inl (kI, 333, .inl f24)), (h25, .inl (kI, 333, .inl f25)), (h26, .inl (kI, 333, .inl f26)), (h27, .inl (kI, 3000, .inl f27)), (h2, .inr (0, [.ref h9, .ref h10, .ref h11, .ref h12, .int tc, .int x_53, .int td, .int x_54])), (h9, .inl (kI, 3001, .inl f9)), (h10, .inl (kI, 3001, .inl f10)), (h11, .inl (kJ, 3001, .inr (.inl f11))), (h12, .inl (kJ, 27, .inr (.inl f12))), (h3, .inr (1, [.ref h13, .ref h14, .ref h15, .ref h16, .ref h17, .ref h18, .ref h19, .ref h20, .ref h21, .ref h22, .int bn])), (h13, .inl (kJ, 1501, .inr (.inl f13))), (h14, .inl (kI, 1501, .inl f14)), (h15, .inl (kI, 1501, .inl f15)), (h16, .inl (kI, 1501, .inl f16)), (h17, .inl (kI, 1501, .inl f17)), (h18, .inl (kI, 1501, .inl f18)), (h19, .inl (kI, 1501, .inl f19)), (h20, .inl (kI, 1501, .inl f20)), (h21, .inl (kI, 1501, .inl f21)), (h22, .inl (kZ, 1501, .inl f22))] := hD
        refine lv_goto (tgt := 59) hx hb d_2_6_55 (by decide +kernel) ?_
        have hPc := hP.sub (ws' := [(h5, .inr (5, [.ref h2, .ref h4, .ref h7, .ref h8, .int ks])), (h8, .inr (4, [.ref h2, .ref h4, .ref h7])), (h7, .inr (3, [.ref h3, .ref h4])), (h4, .inr (2, [.ref h2, .ref h3, .ref h23, .ref h24, .ref h25, .ref h26, .ref h27, .int sn, .int so, .int sc, .int sl, .int sw, .int ss])), (h23, .inl (kI, 333, .inl f23)), (h24, .inl (kI, 333, .inl f24)), (h25, .inl (kI, 333, .inl f25)), (h26, .inl (kI, 333, .inl f26)), (h27, .inl (kI, 3000, .inl f27)), (h2, .inr (0, [.ref h9, .ref h10, .ref h11, .ref h12, .int tc, .int x_53, .int td, .int x_54])), (h9, .inl (kI, 3001, .inl f9)), (h10, .inl (kI, 3001, .inl f10)), (h11, .inl (kJ, 3001, .inr (.inl f11))), (h12, .inl (kJ, 27, .inr (.inl f12))), (h3, .inr (1, [.ref h13, .ref h14, .ref h15, .ref h16, .ref h17, .ref h18, .ref h19, .ref h20, .ref h21, .ref h22, .int bn])), (h13, .inl (kJ, 1501, .inr (.inl f13))), (h14, .inl (kI, 1501, .inl f14)), (h15, .inl (kI, 1501, .inl f15)), (h16, .inl (kI, 1501, .inl f16)), (h17, .inl (kI, 1501, .inl f17)), (h18, .inl (kI, 1501, .inl f18)), (h19, .inl (kI, 1501, .inl f19)), (h20, .inl (kI, 1501, .inl f20)), (h21, .inl (kI, 1501, .inl f21)), (h22, .inl (kZ, 1501, .inl f22))]) [0, 1, 2, 3, 4, 5, 6, 7, 8, 9, 10, 11, 12, 13, 14, 15, 16, 17, 18, 19, 20, 21, 22, 23, 24] rfl
        have hDc := hD.sub (ws' := [(h5, .inr (5, [.ref h2, .ref h4, .ref h7, .ref h8, .int ks])), (h8, .inr (4, [.ref h2, .ref h4, .ref h7])), (h7, .inr (3, [.ref h3, .ref h4])), (h4, .inr (2, [.ref h2, .ref h3, .ref h23, .ref h24, .ref h25, .ref h26, .ref h27, .int sn, .int so, .int sc, .int sl, .int sw, .int ss])), (h23, .inl (kI, 333, .inl f23)), (h24, .inl (kI, 333, .inl f24)), (h25, .inl (kI, 333, .inl f25)), (h26, .inl (kI, 333, .inl f26)), (h27, .inl (kI, 3000, .inl f27)), (h2, .inr (0, [.ref h9, .ref h10, .ref h11, .ref h12, .int tc, .int x_53, .int td, .int x_54])), (h9, .inl (kI, 3001, .inl f9)), (h10, .inl (kI, 3001, .inl f10)), (h11, .inl (kJ, 3001, .inr (.inl f11))), (h12, .inl (kJ, 27, .inr (.inl f12))), (h3, .inr (1, [.ref h13, .ref h14, .ref h15, .ref h16, .ref h17, .ref h18, .ref h19, .ref h20, .ref h21, .ref h22, .int bn])), (h13, .inl (kJ, 1501, .inr (.inl f13))), (h14, .inl (kI, 1501, .inl f14)), (h15, .inl (kI, 1501, .inl f15)), (h16, .inl (kI, 1501, .inl f16)), (h17, .inl (kI, 1501, .inl f17)), (h18, .inl (kI, 1501, .inl f18)), (h19, .inl (kI, 1501, .inl f19)), (h20, .inl (kI, 1501, .inl f20)), (h21, .inl (kI, 1501, .inl f21)), (h22, .inl (kZ, 1501, .inl f22))]) [0, 1, 2, 3, 4, 5, 6, 7, 8, 9, 10, 11, 12, 13, 14, 15, 16, 17, 18, 19, 20, 21, 22, 23, 24] (by decide) rfl
        have hFc := va_free (wc := [(h5, .inr (5, [.ref h2, .ref h4, .ref h7, .ref h8, .int ks])), (h8, .inr (4, [.ref h2, .ref h4, .ref h7])), (h7, .inr (3, [.ref h3, .ref h4])), (h4, .inr (2, [.ref h2, .ref h3, .ref h23, .ref h24, .ref h25, .ref h26, .ref h27, .int sn, .int so, .int sc, .int sl, .int sw, .int ss])), (h23, .inl (kI, 333, .inl f23)), (h24, .inl (kI, 333, .inl f24)), (h25, .inl (kI, 333, .inl f25)), (h26, .inl (kI, 333, .inl f26)), (h27, .inl (kI, 3000, .inl f27)), (h2, .inr (0, [.ref h9, .ref h10, .ref h11, .ref h12, .int tc, .int x_53, .int td, .int x_54])), (h9, .inl (kI, 3001, .inl f9)), (h10, .inl (kI, 3001, .inl f10)), (h11, .inl (kJ, 3001, .inr (.inl f11))), (h12, .inl (kJ, 27, .inr (.inl f12))), (h3, .inr (1, [.ref h13, .ref h14, .ref h15, .ref h16, .ref h17, .ref h18, .ref h19, .ref h20, .ref h21, .ref h22, .int bn])), (h13, .inl (kJ, 1501, .inr (.inl f13))), (h14, .inl (kI, 1501, .inl f14)), (h15, .inl (kI, 1501, .inl f15)), (h16, .inl (kI, 1501, .inl f16)), (h17, .inl (kI, 1501, .inl f17)), (h18, .inl (kI, 1501, .inl f18)), (h19, .inl (kI, 1501, .inl f19)), (h20, .inl (kI, 1501, .inl f20)), (h21, .inl (kI, 1501, .inl f21)), (h22, .inl (kZ, 1501, .inl f22))]) hD hS hA [0, 1, 2, 3, 4, 5, 6, 7, 8, 9, 10, 11, 12, 13, 14, 15, 16, 17, 18, 19, 20, 21, 22, 23, 24] rfl
        refine va_callv (va_runV (As := [.int r_51]) (rest := []) ⟨hx, hb, hml, hown, hts⟩ (g_Blocks_typedDeclaration l D kI kJ kB kZ n hrec _ (h2) (h3) (h4) (h5) (h7) (h8) (h9) (h10) (h11) (h12) (h13) (h14) (h15) (h16) (h17) (h18) (h19) (h20) (h21) (h22) (h23) (h24) (h25) (h26) (h27) (ks) (sn) (so) (sc) (sl) (sw) (ss) (tc) (x_53) (td) (x_54) (bn) (f23) (f24) (f25) (f26) (f27) (f9) (f10) (f11) (f12) (f13) (f14) (f15) (f16) (f17) (f18) (f19) (f20) (f21) (f22) (r_51) (by first | assumption | omega) (by first | assumption | omega) (by first | assumption | omega) (by first | assumption | omega) (by first | assumption | omega) (by first | assumption | exact zpl (by assumption) (by omega)) (by first | assumption | omega) (by first | assumption | omega) (by first | assumption | omega) (by first | assumption | omega) (by first | assumption | omega) (by first | assumption | omega) (by first | assumption | exact sI_0 | exact sI_st (by assumption) (by decide +kernel)) (by first | assumption | omega)) (cwV 1 hts (gT_V m_717 m_719 m_21 m_128 (gT_ws m_720)) rfl rfl rfl (by decide +kernel) ⟨show 60 * n + 25 + 1 ≤ 60 * n + 26 by omega, show 8 + (3 + 11) + 32 * (60 * n + 25) ≤ 32 * (60 * n + 26) by omega⟩) ⟨xBlind xOk_N, va_recv hK hP (ci := 5) (q0 := 0) rfl rfl, xAtN hK hPc hDc⟩ rfl rfl hl.1 rfl (lv_room (Nat.le_of_ble_eq_true rfl)) d_2_6_59 ⟨(Nat.le_of_ble_eq_true rfl), (Nat.le_of_ble_eq_true rfl)⟩) hS (fun q _ h => hFc q h) hFc (fun u t H1 locs ht hvm hw_60 hB hz1 hk1 hS => ?_)
        clear hz1
        obtain ⟨x_61, x_62, x_63, x_64, x_65, x_66, x_67, x_68, x_69, x_70, x_71, x_72, x_73, x_74, x_75, x_76, x_77, x_78, x_79, x_80, x_81, x_82, x_83, x_84, x_85, hb_86, hb_87, hb_88, hb_89, hb_90, hb_91, hb_92, hb_93, hb_94, hb_95, hb_96, hB⟩ := hB
        obtain ⟨hP, hD⟩ := xJoin (wr := []) (w1 := [(h5, .inr (5, [.ref h2, .ref h4, .ref h7, .ref h8, .int x_61])), (h8, .inr (4, [.ref h2, .ref h4, .ref h7])), (h7, .inr (3, [.ref h3, .ref h4])), (h4, .inr (2, [.ref h2, .ref h3, .ref h23, .ref h24, .ref h25, .ref h26, .ref h27, .int x_62, .int x_63, .int x_64, .int x_65, .int x_66, .int ss])), (h23, .inl (kI, 333, .inl x_67)), (h24, .inl (kI, 333, .inl x_68)), (h25, .inl (kI, 333, .inl x_69)), (h26, .inl (kI, 333, .inl x_70)), (h27, .inl (kI, 3000, .inl x_71)), (h2, .inr (0, [.ref h9, .ref h10, .ref h11, .ref h12, .int tc, .int x_72, .int x_73, .int x_74])), (h9, .inl (kI, 3001, .inl f9)), (h10, .inl (kI, 3001, .inl f10)), (h11, .inl (kJ, 3001, .inr (.inl f11))), (h12, .inl (kJ, 27, .inr (.inl f12))), (h3, .inr (1, [.ref h13, .ref h14, .ref h15, .ref h16, .ref h17, .ref h18, .ref h19, .ref h20, .ref h21, .ref h22, .int x_75])), (h13, .inl (kJ, 1501, .inr (.inl x_76))), (h14, .inl (kI, 1501, .inl x_77)), (h15, .inl (kI, 1501, .inl x_78)), (h16, .inl (kI, 1501, .inl x_79)), (h17, .inl (kI, 1501, .inl x_80)), (h18, .inl (kI, 1501, .inl x_81)), (h19, .inl (kI, 1501, .inl x_82)), (h20, .inl (kI, 1501, .inl x_83)), (h21, .inl (kI, 1501, .inl x_84)), (h22, .inl (kZ, 1501, .inl x_85))]) hP hD [0, 1, 2, 3, 4, 5, 6, 7, 8, 9, 10, 11, 12, 13, 14, 15, 16, 17, 18, 19, 20, 21, 22, 23, 24] [] rfl rfl (by decide) (by decide) hk1 hFc ht hB
        generalize H1 = H at hP hS ⊢
        have hP : va_P D cls9 [(h5, .inr (5, [.ref h2, .ref h4, .ref h7, .ref h8, .int x_61])), (h8, .inr (4, [.ref h2, .ref h4, .ref h7])), (h7, .inr (3, [.ref h3, .ref h4])), (h4, .inr (2, [.ref h2, .ref h3, .ref h23, .ref h24, .ref h25, .ref h26, .ref h27, .int x_62, .int x_63, .int x_64, .int x_65, .int x_66, .int ss])), (h23, .inl (kI, 333, .inl x_67)), (h24, .inl (kI, 333, .inl x_68)), (h25, .inl (kI, 333, .inl x_69)), (h26, .inl (kI, 333, .inl x_70)), (h27, .inl (kI, 3000, .inl x_71)), (h2, .inr (0, [.ref h9, .ref h10, .ref h11, .ref h12, .int tc, .int x_72, .int x_73, .int x_74])), (h9, .inl (kI, 3001, .inl f9)), (h10, .inl (kI, 3001, .inl f10)), (h11, .inl (kJ, 3001, .inr (.inl f11))), (h12, .inl (kJ, 27, .inr (.inl f12))), (h3, .inr (1, [.ref h13, .ref h14, .ref h15, .ref h16, .ref h17, .ref h18, .ref h19, .ref h20, .ref h21, .ref h22, .int x_75])), (h13, .inl (kJ, 1501, .inr (.inl x_76))), (h14, .inl (kI, 1501, .inl x_77)), (h15, .inl (kI, 1501, .inl x_78)), (h16, .inl (kI, 1501, .inl x_79)), (h17, .inl (kI, 1501, .inl x_80)), (h18, .inl (kI, 1501, .inl x_81)), (h19, .inl (kI, 1501, .inl x_82)), (h20, .inl (kI, 1501, .inl x_83)), (h21, .inl (kI, 1501, .inl x_84)), (h22, .inl (kZ, 1501, .inl x_85))] H := hP
        have hD : va_D A [(h5, .inr (5, [.ref h2, .ref h4, .ref h7, .ref h8, .int x_61])), (h8, .inr (4, [.ref h2, .ref h4, .ref h7])), (h7, .inr (3, [.ref h3, .ref h4])), (h4, .inr (2, [.ref h2, .ref h3, .ref h23, .ref h24, .ref h25, .ref h26, .ref h27, .int x_62, .int x_63, .int x_64, .int x_65, .int x_66, .int ss])), (h23, .inl (kI, 333, .inl x_67)), (h24, .inl (kI, 333, .inl x_68)), (h25, .inl (kI, 333, .inl x_69)), (h26, .inl (kI, 333, .inl x_70)), (h27, .inl (kI, 3000, .inl x_71)), (h2, .inr (0, [.ref h9, .ref h10, .ref h11, .ref h12, .int tc, .int x_72, .int x_73, .int x_74])), (h9, .inl (kI, 3001, .inl f9)), (h10, .inl (kI, 3001, .inl f10)), (h11, .inl (kJ, 3001, .inr (.inl f11))), (h12, .inl (kJ, 27, .inr (.inl f12))), (h3, .inr (1, [.ref h13, .ref h14, .ref h15, .ref h16, .ref h17, .ref h18, .ref h19, .ref h20, .ref h21, .ref h22, .int x_75])), (h13, .inl (kJ, 1501, .inr (.inl x_76))), (h14, .inl (kI, 1501, .inl x_77)), (h15, .inl (kI, 1501, .inl x_78)), (h16, .inl (kI, 1501, .inl x_79)), (h17, .inl (kI, 1501, .inl x_80)), (h18, .inl (kI, 1501, .inl x_81)), (h19, .inl (kI, 1501, .inl x_82)), (h20, .inl (kI, 1501, .inl x_83)), (h21, .inl (kI, 1501, .inl x_84)), (h22, .inl (kZ, 1501, .inl x_85))] := hD
        have hP9 := hP.sub (ws' := [(h5, .inr (5, [.ref h2, .ref h4, .ref h7, .ref h8, .int x_61])), (h8, .inr (4, [.ref h2, .ref h4, .ref h7])), (h7, .inr (3, [.ref h3, .ref h4])), (h4, .inr (2, [.ref h2, .ref h3, .ref h23, .ref h24, .ref h25, .ref h26, .ref h27, .int x_62, .int x_63, .int x_64, .int x_65, .int x_66, .int ss])), (h23, .inl (kI, 333, .inl x_67)), (h24, .inl (kI, 333, .inl x_68)), (h25, .inl (kI, 333, .inl x_69)), (h26, .inl (kI, 333, .inl x_70)), (h27, .inl (kI, 3000, .inl x_71)), (h2, .inr (0, [.ref h9, .ref h10, .ref h11, .ref h12, .int tc, .int x_72, .int x_73, .int x_74])), (h9, .inl (kI, 3001, .inl f9)), (h10, .inl (kI, 3001, .inl f10)), (h11, .inl (kJ, 3001, .inr (.inl f11))), (h12, .inl (kJ, 27, .inr (.inl f12))), (h3, .inr (1, [.ref h13, .ref h14, .ref h15, .ref h16, .ref h17, .ref h18, .ref h19, .ref h20, .ref h21, .ref h22, .int x_75])), (h13, .inl (kJ, 1501, .inr (.inl x_76))), (h14, .inl (kI, 1501, .inl x_77)), (h15, .inl (kI, 1501, .inl x_78)), (h16, .inl (kI, 1501, .inl x_79)), (h17, .inl (kI, 1501, .inl x_80)), (h18, .inl (kI, 1501, .inl x_81)), (h19, .inl (kI, 1501, .inl x_82)), (h20, .inl (kI, 1501, .inl x_83)), (h21, .inl (kI, 1501, .inl x_84)), (h22, .inl (kZ, 1501, .inl x_85))]) [0, 1, 2, 3, 4, 5, 6, 7, 8, 9, 10, 11, 12, 13, 14, 15, 16, 17, 18, 19, 20, 21, 22, 23, 24] rfl
        have hD9 := hD.sub (ws' := [(h5, .inr (5, [.ref h2, .ref h4, .ref h7, .ref h8, .int x_61])), (h8, .inr (4, [.ref h2, .ref h4, .ref h7])), (h7, .inr (3, [.ref h3, .ref h4])), (h4, .inr (2, [.ref h2, .ref h3, .ref h23, .ref h24, .ref h25, .ref h26, .ref h27, .int x_62, .int x_63, .int x_64, .int x_65, .int x_66, .int ss])), (h23, .inl (kI, 333, .inl x_67)), (h24, .inl (kI, 333, .inl x_68)), (h25, .inl (kI, 333, .inl x_69)), (h26, .inl (kI, 333, .inl x_70)), (h27, .inl (kI, 3000, .inl x_71)), (h2, .inr (0, [.ref h9, .ref h10, .ref h11, .ref h12, .int tc, .int x_72, .int x_73, .int x_74])), (h9, .inl (kI, 3001, .inl f9)), (h10, .inl (kI, 3001, .inl f10)), (h11, .inl (kJ, 3001, .inr (.inl f11))), (h12, .inl (kJ, 27, .inr (.inl f12))), (h3, .inr (1, [.ref h13, .ref h14, .ref h15, .ref h16, .ref h17, .ref h18, .ref h19, .ref h20, .ref h21, .ref h22, .int x_75])), (h13, .inl (kJ, 1501, .inr (.inl x_76))), (h14, .inl (kI, 1501, .inl x_77)), (h15, .inl (kI, 1501, .inl x_78)), (h16, .inl (kI, 1501, .inl x_79)), (h17, .inl (kI, 1501, .inl x_80)), (h18, .inl (kI, 1501, .inl x_81)), (h19, .inl (kI, 1501, .inl x_82)), (h20, .inl (kI, 1501, .inl x_83)), (h21, .inl (kI, 1501, .inl x_84)), (h22, .inl (kZ, 1501, .inl x_85))]) [0, 1, 2, 3, 4, 5, 6, 7, 8, 9, 10, 11, 12, 13, 14, 15, 16, 17, 18, 19, 20, 21, 22, 23, 24] (by decide) rfl
        have hz_0 : 0 ≤ x_72.toInt := (by first | assumption | omega)
        have hz_1 : x_72.toInt < tc.toInt := (by first | assumption | omega)
        have hz_2 : x_74.toInt = -2 → 0 ≤ x_73.toInt ∧ x_73.toInt ≤ 20 := (by first | assumption | omega)
        have hz_3 : 0 ≤ x_75.toInt := (by first | assumption | omega)
        have hz_4 : x_75.toInt ≤ 1501 := (by first | assumption | omega)
        have hz_5 : 0 ≤ x_62.toInt := (by first | assumption | omega)
        have hz_6 : x_62.toInt ≤ 333 := (by first | assumption | omega)
        have hz_7 : 0 ≤ x_63.toInt := (by first | assumption | omega)
        have hz_8 : x_63.toInt ≤ 333 := (by first | assumption | omega)
        have hz_9 : sI x_81 x_82 x_83 x_68 x_69 x_70 x_75 x_62 x_63 ss := (by first | assumption | exact sI_0 | exact sI_st (by assumption) (by decide +kernel))
        have hz_10 : (x_74.toInt = -2 → tf.toInt = -2 ∧ x_73.toInt = td.toInt + 0) := (by first | assumption | omega)
        exact W.vret hx hb hr (fun t ht hW => ⟨⟨(), rfl, trivial, x_61, x_62, x_63, x_64, x_65, x_66, x_67, x_68, x_69, x_70, x_71, x_72, x_73, x_74, x_75, x_76, x_77, x_78, x_79, x_80, x_81, x_82, x_83, x_84, x_85, hz_0, hz_1, hz_2, hz_3, hz_4, hz_5, hz_6, hz_7, hz_8, hz_9, hz_10, xEnd hK hP9 hD9 ht hW⟩, hS.F ht⟩) hS.2.2 d_2_6_62
    · skip
      have tc_9 : ¬ r_4.toInt = 0 := fun h9 => c_9 (Int32.toInt_inj.mp h9)
      refine lv_aload_n hx hb d_2_6_31 rfl (lv_at hl 0 rfl) ?_
      refine lv_aload_n hx hb d_2_6_32 rfl (lv_at hl 0 rfl) ?_
      have hPc := hP.sub (ws' := [(h5, .inr (5, [.ref h2, .ref h4, .ref h7, .ref h8, .int ks])), (h8, .inr (4, [.ref h2, .ref h4, .ref h7])), (h7, .inr (3, [.ref h3, .ref h4])), (h4, .inr (2, [.ref h2, .ref h3, .ref h23, .ref h24, .ref h25, .ref h26, .ref h27, .int sn, .int so, .int sc, .int sl, .int sw, .int ss])), (h23, .inl (kI, 333, .inl f23)), (h24, .inl (kI, 333, .inl f24)), (h25, .inl (kI, 333, .inl f25)), (h26, .inl (kI, 333, .inl f26)), (h27, .inl (kI, 3000, .inl f27)), (h2, .inr (0, [.ref h9, .ref h10, .ref h11, .ref h12, .int tc, .int x_6, .int td, .int tf])), (h9, .inl (kI, 3001, .inl f9)), (h10, .inl (kI, 3001, .inl f10)), (h11, .inl (kJ, 3001, .inr (.inl f11))), (h12, .inl (kJ, 27, .inr (.inl f12))), (h3, .inr (1, [.ref h13, .ref h14, .ref h15, .ref h16, .ref h17, .ref h18, .ref h19, .ref h20, .ref h21, .ref h22, .int bn])), (h13, .inl (kJ, 1501, .inr (.inl f13))), (h14, .inl (kI, 1501, .inl f14)), (h15, .inl (kI, 1501, .inl f15)), (h16, .inl (kI, 1501, .inl f16)), (h17, .inl (kI, 1501, .inl f17)), (h18, .inl (kI, 1501, .inl f18)), (h19, .inl (kI, 1501, .inl f19)), (h20, .inl (kI, 1501, .inl f20)), (h21, .inl (kI, 1501, .inl f21)), (h22, .inl (kZ, 1501, .inl f22))]) [0, 1, 2, 3, 4, 5, 6, 7, 8, 20, 21, 22, 23, 24, 9, 10, 11, 12, 13, 14, 15, 16, 17, 18, 19] rfl
      have hDc := hD.sub (ws' := [(h5, .inr (5, [.ref h2, .ref h4, .ref h7, .ref h8, .int ks])), (h8, .inr (4, [.ref h2, .ref h4, .ref h7])), (h7, .inr (3, [.ref h3, .ref h4])), (h4, .inr (2, [.ref h2, .ref h3, .ref h23, .ref h24, .ref h25, .ref h26, .ref h27, .int sn, .int so, .int sc, .int sl, .int sw, .int ss])), (h23, .inl (kI, 333, .inl f23)), (h24, .inl (kI, 333, .inl f24)), (h25, .inl (kI, 333, .inl f25)), (h26, .inl (kI, 333, .inl f26)), (h27, .inl (kI, 3000, .inl f27)), (h2, .inr (0, [.ref h9, .ref h10, .ref h11, .ref h12, .int tc, .int x_6, .int td, .int tf])), (h9, .inl (kI, 3001, .inl f9)), (h10, .inl (kI, 3001, .inl f10)), (h11, .inl (kJ, 3001, .inr (.inl f11))), (h12, .inl (kJ, 27, .inr (.inl f12))), (h3, .inr (1, [.ref h13, .ref h14, .ref h15, .ref h16, .ref h17, .ref h18, .ref h19, .ref h20, .ref h21, .ref h22, .int bn])), (h13, .inl (kJ, 1501, .inr (.inl f13))), (h14, .inl (kI, 1501, .inl f14)), (h15, .inl (kI, 1501, .inl f15)), (h16, .inl (kI, 1501, .inl f16)), (h17, .inl (kI, 1501, .inl f17)), (h18, .inl (kI, 1501, .inl f18)), (h19, .inl (kI, 1501, .inl f19)), (h20, .inl (kI, 1501, .inl f20)), (h21, .inl (kI, 1501, .inl f21)), (h22, .inl (kZ, 1501, .inl f22))]) [0, 1, 2, 3, 4, 5, 6, 7, 8, 20, 21, 22, 23, 24, 9, 10, 11, 12, 13, 14, 15, 16, 17, 18, 19] (by decide) rfl
      have hFc := va_free (wc := [(h5, .inr (5, [.ref h2, .ref h4, .ref h7, .ref h8, .int ks])), (h8, .inr (4, [.ref h2, .ref h4, .ref h7])), (h7, .inr (3, [.ref h3, .ref h4])), (h4, .inr (2, [.ref h2, .ref h3, .ref h23, .ref h24, .ref h25, .ref h26, .ref h27, .int sn, .int so, .int sc, .int sl, .int sw, .int ss])), (h23, .inl (kI, 333, .inl f23)), (h24, .inl (kI, 333, .inl f24)), (h25, .inl (kI, 333, .inl f25)), (h26, .inl (kI, 333, .inl f26)), (h27, .inl (kI, 3000, .inl f27)), (h2, .inr (0, [.ref h9, .ref h10, .ref h11, .ref h12, .int tc, .int x_6, .int td, .int tf])), (h9, .inl (kI, 3001, .inl f9)), (h10, .inl (kI, 3001, .inl f10)), (h11, .inl (kJ, 3001, .inr (.inl f11))), (h12, .inl (kJ, 27, .inr (.inl f12))), (h3, .inr (1, [.ref h13, .ref h14, .ref h15, .ref h16, .ref h17, .ref h18, .ref h19, .ref h20, .ref h21, .ref h22, .int bn])), (h13, .inl (kJ, 1501, .inr (.inl f13))), (h14, .inl (kI, 1501, .inl f14)), (h15, .inl (kI, 1501, .inl f15)), (h16, .inl (kI, 1501, .inl f16)), (h17, .inl (kI, 1501, .inl f17)), (h18, .inl (kI, 1501, .inl f18)), (h19, .inl (kI, 1501, .inl f19)), (h20, .inl (kI, 1501, .inl f20)), (h21, .inl (kI, 1501, .inl f21)), (h22, .inl (kZ, 1501, .inl f22))]) hD hS hA [0, 1, 2, 3, 4, 5, 6, 7, 8, 20, 21, 22, 23, 24, 9, 10, 11, 12, 13, 14, 15, 16, 17, 18, 19] rfl
      refine va_calli (va_runV (As := []) (rest := [.ref h5]) ⟨hx, hb, hml, hown, hts⟩ (g_Blocks_type l D kI kJ kB kZ _ (h2) (h3) (h4) (h5) (h7) (h8) (h9) (h10) (h11) (h12) (h13) (h14) (h15) (h16) (h17) (h18) (h19) (h20) (h21) (h22) (h23) (h24) (h25) (h26) (h27) (ks) (sn) (so) (sc) (sl) (sw) (ss) (tc) (x_6) (td) (tf) (bn) (f23) (f24) (f25) (f26) (f27) (f9) (f10) (f11) (f12) (f13) (f14) (f15) (f16) (f17) (f18) (f19) (f20) (f21) (f22) (by first | assumption | omega) (by first | assumption | omega) (by first | assumption | omega) (by first | assumption | omega) (by first | assumption | omega) (by first | assumption | exact zpl (by assumption) (by omega)) (by first | assumption | omega) (by first | assumption | omega) (by first | assumption | omega) (by first | assumption | omega) (by first | assumption | omega) (by first | assumption | omega)) (cwV 0 hts (gT_V m_697 m_699 m_18 m_128 (gT_ws m_700)) rfl rfl rfl (by decide +kernel) ⟨show 2 + 1 ≤ 60 * n + 26 by omega, show 8 + (1 + 11) + 41 ≤ 32 * (60 * n + 26) by omega⟩) ⟨xBlind xOk_N, va_recv hK hP (ci := 5) (q0 := 0) rfl rfl, xAtN hK hPc hDc⟩ rfl rfl hl.1 rfl (lv_room (Nat.le_of_ble_eq_true rfl)) d_2_6_33 ⟨(Nat.le_of_ble_eq_true rfl), (Nat.le_of_ble_eq_true rfl)⟩) hS (fun q _ h => hFc q h) hFc (fun r_97 u t H1 locs ht hvm hw_98 hB hz1 hk1 hS => ?_)
      clear hz1
      obtain ⟨x_99, x_100, hb_101, hb_102, hb_103, hb_104, hB⟩ := hB
      obtain ⟨hP, hD⟩ := xJoin (wr := []) (w1 := [(h5, .inr (5, [.ref h2, .ref h4, .ref h7, .ref h8, .int ks])), (h8, .inr (4, [.ref h2, .ref h4, .ref h7])), (h7, .inr (3, [.ref h3, .ref h4])), (h4, .inr (2, [.ref h2, .ref h3, .ref h23, .ref h24, .ref h25, .ref h26, .ref h27, .int sn, .int so, .int sc, .int sl, .int sw, .int ss])), (h23, .inl (kI, 333, .inl f23)), (h24, .inl (kI, 333, .inl f24)), (h25, .inl (kI, 333, .inl f25)), (h26, .inl (kI, 333, .inl f26)), (h27, .inl (kI, 3000, .inl f27)), (h2, .inr (0, [.ref h9, .ref h10, .ref h11, .ref h12, .int tc, .int x_99, .int td, .int x_100])), (h9, .inl (kI, 3001, .inl f9)), (h10, .inl (kI, 3001, .inl f10)), (h11, .inl (kJ, 3001, .inr (.inl f11))), (h12, .inl (kJ, 27, .inr (.inl f12))), (h3, .inr (1, [.ref h13, .ref h14, .ref h15, .ref h16, .ref h17, .ref h18, .ref h19, .ref h20, .ref h21, .ref h22, .int bn])), (h13, .inl (kJ, 1501, .inr (.inl f13))), (h14, .inl (kI, 1501, .inl f14)), (h15, .inl (kI, 1501, .inl f15)), (h16, .inl (kI, 1501, .inl f16)), (h17, .inl (kI, 1501, .inl f17)), (h18, .inl (kI, 1501, .inl f18)), (h19, .inl (kI, 1501, .inl f19)), (h20, .inl (kI, 1501, .inl f20)), (h21, .inl (kI, 1501, .inl f21)), (h22, .inl (kZ, 1501, .inl f22))]) hP hD [0, 1, 2, 3, 4, 5, 6, 7, 8, 20, 21, 22, 23, 24, 9, 10, 11, 12, 13, 14, 15, 16, 17, 18, 19] [] rfl rfl (by decide) (by decide) hk1 hFc ht hB
      generalize H1 = H at hP hS ⊢
      have hP : va_P D cls9 [(h5, .inr (5, [.ref h2, .ref h4, .ref h7, .ref h8, .int ks])), (h8, .inr (4, [.ref h2, .ref h4, .ref h7])), (h7, .inr (3, [.ref h3, .ref h4])), (h4, .inr (2, [.ref h2, .ref h3, .ref h23, .ref h24, .ref h25, .ref h26, .ref h27, .int sn, .int so, .int sc, .int sl, .int sw, .int ss])), (h23, .inl (kI, 333, .inl f23)), (h24, .inl (kI, 333, .inl f24)), (h25, .inl (kI, 333, .inl f25)), (h26, .inl (kI, 333, .inl f26)), (h27, .inl (kI, 3000, .inl f27)), (h2, .inr (0, [.ref h9, .ref h10, .ref h11, .ref h12, .int tc, .int x_99, .int td, .int x_100])), (h9, .inl (kI, 3001, .inl f9)), (h10, .inl (kI, 3001, .inl f10)), (h11, .inl (kJ, 3001, .inr (.inl f11))), (h12, .inl (kJ, 27, .inr (.inl f12))), (h3, .inr (1, [.ref h13, .ref h14, .ref h15, .ref h16, .ref h17, .ref h18, .ref h19, .ref h20, .ref h21, .ref h22, .int bn])), (h13, .inl (kJ, 1501, .inr (.inl f13))), (h14, .inl (kI, 1501, .inl f14)), (h15, .inl (kI, 1501, .inl f15)), (h16, .inl (kI, 1501, .inl f16)), (h17, .inl (kI, 1501, .inl f17)), (h18, .inl (kI, 1501, .inl f18)), (h19, .inl (kI, 1501, .inl f19)), (h20, .inl (kI, 1501, .inl f20)), (h21, .inl (kI, 1501, .inl f21)), (h22, .inl (kZ, 1501, .inl f22))] H := hP
      have hD : va_D A [(h5, .inr (5, [.ref h2, .ref h4, .ref h7, .ref h8, .int ks])), (h8, .inr (4, [.ref h2, .ref h4, .ref h7])), (h7, .inr (3, [.ref h3, .ref h4])), (h4, .inr (2, [.ref h2, .ref h3, .ref h23, .ref h24, .ref h25, .ref h26, .ref h27, .int sn, .int so, .int sc, .int sl, .int sw, .int ss])), (h23, .inl (kI, 333, .inl f23)), (h24, .inl (kI, 333, .inl f24)), (h25, .inl (kI, 333, .inl f25)), (h26, .inl (kI, 333, .inl f26)), (h27, .inl (kI, 3000, .inl f27)), (h2, .inr (0, [.ref h9, .ref h10, .ref h11, .ref h12, .int tc, .int x_99, .int td, .int x_100])), (h9, .inl (kI, 3001, .inl f9)), (h10, .inl (kI, 3001, .inl f10)), (h11, .inl (kJ, 3001, .inr (.inl f11))), (h12, .inl (kJ, 27, .inr (.inl f12))), (h3, .inr (1, [.ref h13, .ref h14, .ref h15, .ref h16, .ref h17, .ref h18, .ref h19, .ref h20, .ref h21, .ref h22, .int bn])), (h13, .inl (kJ, 1501, .inr (.inl f13))), (h14, .inl (kI, 1501, .inl f14)), (h15, .inl (kI, 1501, .inl f15)), (h16, .inl (kI, 1501, .inl f16)), (h17, .inl (kI, 1501, .inl f17)), (h18, .inl (kI, 1501, .inl f18)), (h19, .inl (kI, 1501, .inl f19)), (h20, .inl (kI, 1501, .inl f20)), (h21, .inl (kI, 1501, .inl f21)), (h22, .inl (kZ, 1501, .inl f22))] := hD
      refine lv_iconst (v := 1) hx hb d_2_6_36 (by decide +kernel) ?_
      have hPc := hP.sub (ws' := [(h5, .inr (5, [.ref h2, .ref h4, .ref h7, .ref h8, .int ks])), (h8, .inr (4, [.ref h2, .ref h4, .ref h7])), (h7, .inr (3, [.ref h3, .ref h4])), (h4, .inr (2, [.ref h2, .ref h3, .ref h23, .ref h24, .ref h25, .ref h26, .ref h27, .int sn, .int so, .int sc, .int sl, .int sw, .int ss])), (h23, .inl (kI, 333, .inl f23)), (h24, .inl (kI, 333, .inl f24)), (h25, .inl (kI, 333, .inl f25)), (h26, .inl (kI, 333, .inl f26)), (h27, .inl (kI, 3000, .inl f27)), (h2, .inr (0, [.ref h9, .ref h10, .ref h11, .ref h12, .int tc, .int x_99, .int td, .int x_100])), (h9, .inl (kI, 3001, .inl f9)), (h10, .inl (kI, 3001, .inl f10)), (h11, .inl (kJ, 3001, .inr (.inl f11))), (h12, .inl (kJ, 27, .inr (.inl f12))), (h3, .inr (1, [.ref h13, .ref h14, .ref h15, .ref h16, .ref h17, .ref h18, .ref h19, .ref h20, .ref h21, .ref h22, .int bn])), (h13, .inl (kJ, 1501, .inr (.inl f13))), (h14, .inl (kI, 1501, .inl f14)), (h15, .inl (kI, 1501, .inl f15)), (h16, .inl (kI, 1501, .inl f16)), (h17, .inl (kI, 1501, .inl f17)), (h18, .inl (kI, 1501, .inl f18)), (h19, .inl (kI, 1501, .inl f19)), (h20, .inl (kI, 1501, .inl f20)), (h21, .inl (kI, 1501, .inl f21)), (h22, .inl (kZ, 1501, .inl f22))]) [0, 1, 2, 3, 4, 5, 6, 7, 8, 9, 10, 11, 12, 13, 14, 15, 16, 17, 18, 19, 20, 21, 22, 23, 24] rfl
      have hDc := hD.sub (ws' := [(h5, .inr (5, [.ref h2, .ref h4, .ref h7, .ref h8, .int ks])), (h8, .inr (4, [.ref h2, .ref h4, .ref h7])), (h7, .inr (3, [.ref h3, .ref h4])), (h4, .inr (2, [.ref h2, .ref h3, .ref h23, .ref h24, .ref h25, .ref h26, .ref h27, .int sn, .int so, .int sc, .int sl, .int sw, .int ss])), (h23, .inl (kI, 333, .inl f23)), (h24, .inl (kI, 333, .inl f24)), (h25, .inl (kI, 333, .inl f25)), (h26, .inl (kI, 333, .inl f26)), (h27, .inl (kI, 3000, .inl f27)), (h2, .inr (0, [.ref h9, .ref h10, .ref h11, .ref h12, .int tc, .int x_99, .int td, .int x_100])), (h9, .inl (kI, 3001, .inl f9)), (h10, .inl (kI, 3001, .inl f10)), (h11, .inl (kJ, 3001, .inr (.inl f11))), (h12, .inl (kJ, 27, .inr (.inl f12))), (h3, .inr (1, [.ref h13, .ref h14, .ref h15, .ref h16, .ref h17, .ref h18, .ref h19, .ref h20, .ref h21, .ref h22, .int bn])), (h13, .inl (kJ, 1501, .inr (.inl f13))), (h14, .inl (kI, 1501, .inl f14)), (h15, .inl (kI, 1501, .inl f15)), (h16, .inl (kI, 1501, .inl f16)), (h17, .inl (kI, 1501, .inl f17)), (h18, .inl (kI, 1501, .inl f18)), (h19, .inl (kI, 1501, .inl f19)), (h20, .inl (kI, 1501, .inl f20)), (h21, .inl (kI, 1501, .inl f21)), (h22, .inl (kZ, 1501, .inl f22))]) [0, 1, 2, 3, 4, 5, 6, 7, 8, 9, 10, 11, 12, 13, 14, 15, 16, 17, 18, 19, 20, 21, 22, 23, 24] (by decide) rfl
      have hFc := va_free (wc := [(h5, .inr (5, [.ref h2, .ref h4, .ref h7, .ref h8, .int ks])), (h8, .inr (4, [.ref h2, .ref h4, .ref h7])), (h7, .inr (3, [.ref h3, .ref h4])), (h4, .inr (2, [.ref h2, .ref h3, .ref h23, .ref h24, .ref h25, .ref h26, .ref h27, .int sn, .int so, .int sc, .int sl, .int sw, .int ss])), (h23, .inl (kI, 333, .inl f23)), (h24, .inl (kI, 333, .inl f24)), (h25, .inl (kI, 333, .inl f25)), (h26, .inl (kI, 333, .inl f26)), (h27, .inl (kI, 3000, .inl f27)), (h2, .inr (0, [.ref h9, .ref h10, .ref h11, .ref h12, .int tc, .int x_99, .int td, .int x_100])), (h9, .inl (kI, 3001, .inl f9)), (h10, .inl (kI, 3001, .inl f10)), (h11, .inl (kJ, 3001, .inr (.inl f11))), (h12, .inl (kJ, 27, .inr (.inl f12))), (h3, .inr (1, [.ref h13, .ref h14, .ref h15, .ref h16, .ref h17, .ref h18, .ref h19, .ref h20, .ref h21, .ref h22, .int bn])), (h13, .inl (kJ, 1501, .inr (.inl f13))), (h14, .inl (kI, 1501, .inl f14)), (h15, .inl (kI, 1501, .inl f15)), (h16, .inl (kI, 1501, .inl f16)), (h17, .inl (kI, 1501, .inl f17)), (h18, .inl (kI, 1501, .inl f18)), (h19, .inl (kI, 1501, .inl f19)), (h20, .inl (kI, 1501, .inl f20)), (h21, .inl (kI, 1501, .inl f21)), (h22, .inl (kZ, 1501, .inl f22))]) hD hS hA [0, 1, 2, 3, 4, 5, 6, 7, 8, 9, 10, 11, 12, 13, 14, 15, 16, 17, 18, 19, 20, 21, 22, 23, 24] rfl
      refine va_callv (va_runV (As := [.int r_97, .int 1]) (rest := []) ⟨hx, hb, hml, hown, hts⟩ (g_Blocks_variables l D kI kJ kB kZ _ (h2) (h3) (h4) (h5) (h7) (h8) (h9) (h10) (h11) (h12) (h13) (h14) (h15) (h16) (h17) (h18) (h19) (h20) (h21) (h22) (h23) (h24) (h25) (h26) (h27) (ks) (sn) (so) (sc) (sl) (sw) (ss) (tc) (x_99) (td) (x_100) (bn) (f23) (f24) (f25) (f26) (f27) (f9) (f10) (f11) (f12) (f13) (f14) (f15) (f16) (f17) (f18) (f19) (f20) (f21) (f22) (r_97) ((1 : Int32)) (by first | assumption | omega) (by first | assumption | omega) (by first | assumption | omega) (by first | assumption | omega) (by first | assumption | omega) (by first | assumption | exact zpl (by assumption) (by omega)) (by first | assumption | omega) (by first | assumption | omega) (by first | assumption | omega) (by first | assumption | omega) (by first | assumption | omega) (by first | assumption | omega) (by first | assumption | exact sI_0 | exact sI_st (by assumption) (by decide +kernel))) (cwV 2 hts (gT_V m_701 m_703 m_19 m_128 (gT_ws m_704)) rfl rfl rfl (by decide +kernel) ⟨show 4 + 1 ≤ 60 * n + 26 by omega, show 8 + (5 + 11) + 89 ≤ 32 * (60 * n + 26) by omega⟩) ⟨xBlind xOk_N, va_recv hK hP (ci := 5) (q0 := 0) rfl rfl, xAtN hK hPc hDc⟩ rfl rfl hl.1 rfl (lv_room (Nat.le_of_ble_eq_true rfl)) d_2_6_37 ⟨(Nat.le_of_ble_eq_true rfl), (Nat.le_of_ble_eq_true rfl)⟩) hS (fun q _ h => hFc q h) hFc (fun u t H1 locs ht hvm hw_106 hB hz1 hk1 hS => ?_)
      clear hz1
      obtain ⟨x_107, x_108, x_109, x_110, x_111, x_112, x_113, x_114, x_115, x_116, x_117, x_118, x_119, x_120, x_121, x_122, x_123, hb_124, hb_125, hb_126, hb_127, hb_128, hb_129, hb_130, hB⟩ := hB
      obtain ⟨hP, hD⟩ := xJoin (wr := []) (w1 := [(h5, .inr (5, [.ref h2, .ref h4, .ref h7, .ref h8, .int x_107])), (h8, .inr (4, [.ref h2, .ref h4, .ref h7])), (h7, .inr (3, [.ref h3, .ref h4])), (h4, .inr (2, [.ref h2, .ref h3, .ref h23, .ref h24, .ref h25, .ref h26, .ref h27, .int sn, .int so, .int sc, .int sl, .int x_108, .int ss])), (h23, .inl (kI, 333, .inl f23)), (h24, .inl (kI, 333, .inl x_109)), (h25, .inl (kI, 333, .inl x_110)), (h26, .inl (kI, 333, .inl f26)), (h27, .inl (kI, 3000, .inl f27)), (h2, .inr (0, [.ref h9, .ref h10, .ref h11, .ref h12, .int tc, .int x_111, .int td, .int x_112])), (h9, .inl (kI, 3001, .inl f9)), (h10, .inl (kI, 3001, .inl f10)), (h11, .inl (kJ, 3001, .inr (.inl f11))), (h12, .inl (kJ, 27, .inr (.inl f12))), (h3, .inr (1, [.ref h13, .ref h14, .ref h15, .ref h16, .ref h17, .ref h18, .ref h19, .ref h20, .ref h21, .ref h22, .int x_113])), (h13, .inl (kJ, 1501, .inr (.inl x_114))), (h14, .inl (kI, 1501, .inl x_115)), (h15, .inl (kI, 1501, .inl x_116)), (h16, .inl (kI, 1501, .inl x_117)), (h17, .inl (kI, 1501, .inl x_118)), (h18, .inl (kI, 1501, .inl x_119)), (h19, .inl (kI, 1501, .inl x_120)), (h20, .inl (kI, 1501, .inl x_121)), (h21, .inl (kI, 1501, .inl x_122)), (h22, .inl (kZ, 1501, .inl x_123))]) hP hD [0, 1, 2, 3, 4, 5, 6, 7, 8, 9, 10, 11, 12, 13, 14, 15, 16, 17, 18, 19, 20, 21, 22, 23, 24] [] rfl rfl (by decide) (by decide) hk1 hFc ht hB
      generalize H1 = H at hP hS ⊢
      have hP : va_P D cls9 [(h5, .inr (5, [.ref h2, .ref h4, .ref h7, .ref h8, .int x_107])), (h8, .inr (4, [.ref h2, .ref h4, .ref h7])), (h7, .inr (3, [.ref h3, .ref h4])), (h4, .inr (2, [.ref h2, .ref h3, .ref h23, .ref h24, .ref h25, .ref h26, .ref h27, .int sn, .int so, .int sc, .int sl, .int x_108, .int ss])), (h23, .inl (kI, 333, .inl f23)), (h24, .inl (kI, 333, .inl x_109)), (h25, .inl (kI, 333, .inl x_110)), (h26, .inl (kI, 333, .inl f26)), (h27, .inl (kI, 3000, .inl f27)), (h2, .inr (0, [.ref h9, .ref h10, .ref h11, .ref h12, .int tc, .int x_111, .int td, .int x_112])), (h9, .inl (kI, 3001, .inl f9)), (h10, .inl (kI, 3001, .inl f10)), (h11, .inl (kJ, 3001, .inr (.inl f11))), (h12, .inl (kJ, 27, .inr (.inl f12))), (h3, .inr (1, [.ref h13, .ref h14, .ref h15, .ref h16, .ref h17, .ref h18, .ref h19, .ref h20, .ref h21, .ref h22, .int x_113])), (h13, .inl (kJ, 1501, .inr (.inl x_114))), (h14, .inl (kI, 1501, .inl x_115)), (h15, .inl (kI, 1501, .inl x_116)), (h16, .inl (kI, 1501, .inl x_117)), (h17, .inl (kI, 1501, .inl x_118)), (h18, .inl (kI, 1501, .inl x_119)), (h19, .inl (kI, 1501, .inl x_120)), (h20, .inl (kI, 1501, .inl x_121)), (h21, .inl (kI, 1501, .inl x_122)), (h22, .inl (kZ, 1501, .inl x_123))] H := hP
      have hD : va_D A [(h5, .inr (5, [.ref h2, .ref h4, .ref h7, .ref h8, .int x_107])), (h8, .inr (4, [.ref h2, .ref h4, .ref h7])), (h7, .inr (3, [.ref h3, .ref h4])), (h4, .inr (2, [.ref h2, .ref h3, .ref h23, .ref h24, .ref h25, .ref h26, .ref h27, .int sn, .int so, .int sc, .int sl, .int x_108, .int ss])), (h23, .inl (kI, 333, .inl f23)), (h24, .inl (kI, 333, .inl x_109)), (h25, .inl (kI, 333, .inl x_110)), (h26, .inl (kI, 333, .inl f26)), (h27, .inl (kI, 3000, .inl f27)), (h2, .inr (0, [.ref h9, .ref h10, .ref h11, .ref h12, .int tc, .int x_111, .int td, .int x_112])), (h9, .inl (kI, 3001, .inl f9)), (h10, .inl (kI, 3001, .inl f10)), (h11, .inl (kJ, 3001, .inr (.inl f11))), (h12, .inl (kJ, 27, .inr (.inl f12))), (h3, .inr (1, [.ref h13, .ref h14, .ref h15, .ref h16, .ref h17, .ref h18, .ref h19, .ref h20, .ref h21, .ref h22, .int x_113])), (h13, .inl (kJ, 1501, .inr (.inl x_114))), (h14, .inl (kI, 1501, .inl x_115)), (h15, .inl (kI, 1501, .inl x_116)), (h16, .inl (kI, 1501, .inl x_117)), (h17, .inl (kI, 1501, .inl x_118)), (h18, .inl (kI, 1501, .inl x_119)), (h19, .inl (kI, 1501, .inl x_120)), (h20, .inl (kI, 1501, .inl x_121)), (h21, .inl (kI, 1501, .inl x_122)), (h22, .inl (kZ, 1501, .inl x_123))] := hD
      refine lv_goto (tgt := 62) hx hb d_2_6_40 (by decide +kernel) ?_
      have hP9 := hP.sub (ws' := [(h5, .inr (5, [.ref h2, .ref h4, .ref h7, .ref h8, .int x_107])), (h8, .inr (4, [.ref h2, .ref h4, .ref h7])), (h7, .inr (3, [.ref h3, .ref h4])), (h4, .inr (2, [.ref h2, .ref h3, .ref h23, .ref h24, .ref h25, .ref h26, .ref h27, .int sn, .int so, .int sc, .int sl, .int x_108, .int ss])), (h23, .inl (kI, 333, .inl f23)), (h24, .inl (kI, 333, .inl x_109)), (h25, .inl (kI, 333, .inl x_110)), (h26, .inl (kI, 333, .inl f26)), (h27, .inl (kI, 3000, .inl f27)), (h2, .inr (0, [.ref h9, .ref h10, .ref h11, .ref h12, .int tc, .int x_111, .int td, .int x_112])), (h9, .inl (kI, 3001, .inl f9)), (h10, .inl (kI, 3001, .inl f10)), (h11, .inl (kJ, 3001, .inr (.inl f11))), (h12, .inl (kJ, 27, .inr (.inl f12))), (h3, .inr (1, [.ref h13, .ref h14, .ref h15, .ref h16, .ref h17, .ref h18, .ref h19, .ref h20, .ref h21, .ref h22, .int x_113])), (h13, .inl (kJ, 1501, .inr (.inl x_114))), (h14, .inl (kI, 1501, .inl x_115)), (h15, .inl (kI, 1501, .inl x_116)), (h16, .inl (kI, 1501, .inl x_117)), (h17, .inl (kI, 1501, .inl x_118)), (h18, .inl (kI, 1501, .inl x_119)), (h19, .inl (kI, 1501, .inl x_120)), (h20, .inl (kI, 1501, .inl x_121)), (h21, .inl (kI, 1501, .inl x_122)), (h22, .inl (kZ, 1501, .inl x_123))]) [0, 1, 2, 3, 4, 5, 6, 7, 8, 9, 10, 11, 12, 13, 14, 15, 16, 17, 18, 19, 20, 21, 22, 23, 24] rfl
      have hD9 := hD.sub (ws' := [(h5, .inr (5, [.ref h2, .ref h4, .ref h7, .ref h8, .int x_107])), (h8, .inr (4, [.ref h2, .ref h4, .ref h7])), (h7, .inr (3, [.ref h3, .ref h4])), (h4, .inr (2, [.ref h2, .ref h3, .ref h23, .ref h24, .ref h25, .ref h26, .ref h27, .int sn, .int so, .int sc, .int sl, .int x_108, .int ss])), (h23, .inl (kI, 333, .inl f23)), (h24, .inl (kI, 333, .inl x_109)), (h25, .inl (kI, 333, .inl x_110)), (h26, .inl (kI, 333, .inl f26)), (h27, .inl (kI, 3000, .inl f27)), (h2, .inr (0, [.ref h9, .ref h10, .ref h11, .ref h12, .int tc, .int x_111, .int td, .int x_112])), (h9, .inl (kI, 3001, .inl f9)), (h10, .inl (kI, 3001, .inl f10)), (h11, .inl (kJ, 3001, .inr (.inl f11))), (h12, .inl (kJ, 27, .inr (.inl f12))), (h3, .inr (1, [.ref h13, .ref h14, .ref h15, .ref h16, .ref h17, .ref h18, .ref h19, .ref h20, .ref h21, .ref h22, .int x_113])), (h13, .inl (kJ, 1501, .inr (.inl x_114))), (h14, .inl (kI, 1501, .inl x_115)), (h15, .inl (kI, 1501, .inl x_116)), (h16, .inl (kI, 1501, .inl x_117)), (h17, .inl (kI, 1501, .inl x_118)), (h18, .inl (kI, 1501, .inl x_119)), (h19, .inl (kI, 1501, .inl x_120)), (h20, .inl (kI, 1501, .inl x_121)), (h21, .inl (kI, 1501, .inl x_122)), (h22, .inl (kZ, 1501, .inl x_123))]) [0, 1, 2, 3, 4, 5, 6, 7, 8, 9, 10, 11, 12, 13, 14, 15, 16, 17, 18, 19, 20, 21, 22, 23, 24] (by decide) rfl
      have hz_0 : 0 ≤ x_111.toInt := (by first | assumption | omega)
      have hz_1 : x_111.toInt < tc.toInt := (by first | assumption | omega)
      have hz_2 : x_112.toInt = -2 → 0 ≤ td.toInt ∧ td.toInt ≤ 20 := (by first | assumption | omega)
      have hz_3 : 0 ≤ x_113.toInt := (by first | assumption | omega)
      have hz_4 : x_113.toInt ≤ 1501 := (by first | assumption | omega)
      have hz_5 : 0 ≤ sn.toInt := (by first | assumption | omega)
      have hz_6 : sn.toInt ≤ 333 := (by first | assumption | omega)
      have hz_7 : 0 ≤ so.toInt := (by first | assumption | omega)
      have hz_8 : so.toInt ≤ 333 := (by first | assumption | omega)
      have hz_9 : sI x_119 x_120 x_121 x_109 x_110 f26 x_113 sn so ss := (by first | assumption | exact sI_0 | exact sI_st (by assumption) (by decide +kernel))
      have hz_10 : (x_112.toInt = -2 → tf.toInt = -2 ∧ td.toInt = td.toInt + 0) := (by first | assumption | omega)
      exact W.vret hx hb hr (fun t ht hW => ⟨⟨(), rfl, trivial, x_107, sn, so, sc, sl, x_108, f23, x_109, x_110, f26, f27, x_111, td, x_112, x_113, x_114, x_115, x_116, x_117, x_118, x_119, x_120, x_121, x_122, x_123, hz_0, hz_1, hz_2, hz_3, hz_4, hz_5, hz_6, hz_7, hz_8, hz_9, hz_10, xEnd hK hP9 hD9 ht hW⟩, hS.F ht⟩) hS.2.2 d_2_6_62
  · skip
    have tc_3 : ¬ r_1.toInt = 0 := fun h9 => c_3 (Int32.toInt_inj.mp h9)
    refine lv_aload_n hx hb d_2_6_12 rfl (lv_at hl 0 rfl) ?_
    have hPc := hP.sub (ws' := [(h5, .inr (5, [.ref h2, .ref h4, .ref h7, .ref h8, .int ks])), (h8, .inr (4, [.ref h2, .ref h4, .ref h7])), (h7, .inr (3, [.ref h3, .ref h4])), (h4, .inr (2, [.ref h2, .ref h3, .ref h23, .ref h24, .ref h25, .ref h26, .ref h27, .int sn, .int so, .int sc, .int sl, .int sw, .int ss])), (h23, .inl (kI, 333, .inl f23)), (h24, .inl (kI, 333, .inl f24)), (h25, .inl (kI, 333, .inl f25)), (h26, .inl (kI, 333, .inl f26)), (h27, .inl (kI, 3000, .inl f27)), (h2, .inr (0, [.ref h9, .ref h10, .ref h11, .ref h12, .int tc, .int ta, .int td, .int tf])), (h9, .inl (kI, 3001, .inl f9)), (h10, .inl (kI, 3001, .inl f10)), (h11, .inl (kJ, 3001, .inr (.inl f11))), (h12, .inl (kJ, 27, .inr (.inl f12))), (h3, .inr (1, [.ref h13, .ref h14, .ref h15, .ref h16, .ref h17, .ref h18, .ref h19, .ref h20, .ref h21, .ref h22, .int bn])), (h13, .inl (kJ, 1501, .inr (.inl f13))), (h14, .inl (kI, 1501, .inl f14)), (h15, .inl (kI, 1501, .inl f15)), (h16, .inl (kI, 1501, .inl f16)), (h17, .inl (kI, 1501, .inl f17)), (h18, .inl (kI, 1501, .inl f18)), (h19, .inl (kI, 1501, .inl f19)), (h20, .inl (kI, 1501, .inl f20)), (h21, .inl (kI, 1501, .inl f21)), (h22, .inl (kZ, 1501, .inl f22))]) [0, 1, 2, 3, 4, 5, 6, 7, 8, 20, 21, 22, 23, 24, 9, 10, 11, 12, 13, 14, 15, 16, 17, 18, 19] rfl
    have hDc := hD.sub (ws' := [(h5, .inr (5, [.ref h2, .ref h4, .ref h7, .ref h8, .int ks])), (h8, .inr (4, [.ref h2, .ref h4, .ref h7])), (h7, .inr (3, [.ref h3, .ref h4])), (h4, .inr (2, [.ref h2, .ref h3, .ref h23, .ref h24, .ref h25, .ref h26, .ref h27, .int sn, .int so, .int sc, .int sl, .int sw, .int ss])), (h23, .inl (kI, 333, .inl f23)), (h24, .inl (kI, 333, .inl f24)), (h25, .inl (kI, 333, .inl f25)), (h26, .inl (kI, 333, .inl f26)), (h27, .inl (kI, 3000, .inl f27)), (h2, .inr (0, [.ref h9, .ref h10, .ref h11, .ref h12, .int tc, .int ta, .int td, .int tf])), (h9, .inl (kI, 3001, .inl f9)), (h10, .inl (kI, 3001, .inl f10)), (h11, .inl (kJ, 3001, .inr (.inl f11))), (h12, .inl (kJ, 27, .inr (.inl f12))), (h3, .inr (1, [.ref h13, .ref h14, .ref h15, .ref h16, .ref h17, .ref h18, .ref h19, .ref h20, .ref h21, .ref h22, .int bn])), (h13, .inl (kJ, 1501, .inr (.inl f13))), (h14, .inl (kI, 1501, .inl f14)), (h15, .inl (kI, 1501, .inl f15)), (h16, .inl (kI, 1501, .inl f16)), (h17, .inl (kI, 1501, .inl f17)), (h18, .inl (kI, 1501, .inl f18)), (h19, .inl (kI, 1501, .inl f19)), (h20, .inl (kI, 1501, .inl f20)), (h21, .inl (kI, 1501, .inl f21)), (h22, .inl (kZ, 1501, .inl f22))]) [0, 1, 2, 3, 4, 5, 6, 7, 8, 20, 21, 22, 23, 24, 9, 10, 11, 12, 13, 14, 15, 16, 17, 18, 19] (by decide) rfl
    have hFc := va_free (wc := [(h5, .inr (5, [.ref h2, .ref h4, .ref h7, .ref h8, .int ks])), (h8, .inr (4, [.ref h2, .ref h4, .ref h7])), (h7, .inr (3, [.ref h3, .ref h4])), (h4, .inr (2, [.ref h2, .ref h3, .ref h23, .ref h24, .ref h25, .ref h26, .ref h27, .int sn, .int so, .int sc, .int sl, .int sw, .int ss])), (h23, .inl (kI, 333, .inl f23)), (h24, .inl (kI, 333, .inl f24)), (h25, .inl (kI, 333, .inl f25)), (h26, .inl (kI, 333, .inl f26)), (h27, .inl (kI, 3000, .inl f27)), (h2, .inr (0, [.ref h9, .ref h10, .ref h11, .ref h12, .int tc, .int ta, .int td, .int tf])), (h9, .inl (kI, 3001, .inl f9)), (h10, .inl (kI, 3001, .inl f10)), (h11, .inl (kJ, 3001, .inr (.inl f11))), (h12, .inl (kJ, 27, .inr (.inl f12))), (h3, .inr (1, [.ref h13, .ref h14, .ref h15, .ref h16, .ref h17, .ref h18, .ref h19, .ref h20, .ref h21, .ref h22, .int bn])), (h13, .inl (kJ, 1501, .inr (.inl f13))), (h14, .inl (kI, 1501, .inl f14)), (h15, .inl (kI, 1501, .inl f15)), (h16, .inl (kI, 1501, .inl f16)), (h17, .inl (kI, 1501, .inl f17)), (h18, .inl (kI, 1501, .inl f18)), (h19, .inl (kI, 1501, .inl f19)), (h20, .inl (kI, 1501, .inl f20)), (h21, .inl (kI, 1501, .inl f21)), (h22, .inl (kZ, 1501, .inl f22))]) hD hS hA [0, 1, 2, 3, 4, 5, 6, 7, 8, 20, 21, 22, 23, 24, 9, 10, 11, 12, 13, 14, 15, 16, 17, 18, 19] rfl
    refine va_callv (va_runV (As := []) (rest := []) ⟨hx, hb, hml, hown, hts⟩ (g_Blocks_switchList l D kI kJ kB kZ _ (h2) (h3) (h4) (h5) (h7) (h8) (h9) (h10) (h11) (h12) (h13) (h14) (h15) (h16) (h17) (h18) (h19) (h20) (h21) (h22) (h23) (h24) (h25) (h26) (h27) (ks) (sn) (so) (sc) (sl) (sw) (ss) (tc) (ta) (td) (tf) (bn) (f23) (f24) (f25) (f26) (f27) (f9) (f10) (f11) (f12) (f13) (f14) (f15) (f16) (f17) (f18) (f19) (f20) (f21) (f22) (by first | assumption | omega) (by first | assumption | omega) (by first | assumption | omega) (by first | assumption | omega) (by first | assumption | omega) (by first | assumption | exact zpl (by assumption) (by omega)) (by first | assumption | omega) (by first | assumption | omega) (by first | assumption | omega) (by first | assumption | omega) (by first | assumption | omega) (by first | assumption | omega) (by first | assumption | exact sI_0 | exact sI_st (by assumption) (by decide +kernel))) (cwV 0 hts (gT_V m_624 m_626 m_14 m_128 (gT_ws m_627)) rfl rfl rfl (by decide +kernel) ⟨show 4 + 1 ≤ 60 * n + 26 by omega, show 8 + (2 + 11) + 95 ≤ 32 * (60 * n + 26) by omega⟩) ⟨xBlind xOk_N, va_recv hK hP (ci := 5) (q0 := 0) rfl rfl, xAtN hK hPc hDc⟩ rfl rfl hl.1 rfl (lv_room (Nat.le_of_ble_eq_true rfl)) d_2_6_13 ⟨(Nat.le_of_ble_eq_true rfl), (Nat.le_of_ble_eq_true rfl)⟩) hS (fun q _ h => hFc q h) hFc (fun u t H1 locs ht hvm hw_132 hB hz1 hk1 hS => ?_)
    clear hz1
    obtain ⟨x_133, x_134, x_135, x_136, x_137, x_138, x_139, x_140, x_141, x_142, x_143, x_144, x_145, x_146, x_147, x_148, x_149, hb_150, hb_151, hb_152, hb_153, hb_154, hb_155, hb_156, hB⟩ := hB
    obtain ⟨hP, hD⟩ := xJoin (wr := []) (w1 := [(h5, .inr (5, [.ref h2, .ref h4, .ref h7, .ref h8, .int ks])), (h8, .inr (4, [.ref h2, .ref h4, .ref h7])), (h7, .inr (3, [.ref h3, .ref h4])), (h4, .inr (2, [.ref h2, .ref h3, .ref h23, .ref h24, .ref h25, .ref h26, .ref h27, .int sn, .int so, .int sc, .int sl, .int x_133, .int ss])), (h23, .inl (kI, 333, .inl f23)), (h24, .inl (kI, 333, .inl x_134)), (h25, .inl (kI, 333, .inl x_135)), (h26, .inl (kI, 333, .inl f26)), (h27, .inl (kI, 3000, .inl x_136)), (h2, .inr (0, [.ref h9, .ref h10, .ref h11, .ref h12, .int tc, .int x_137, .int td, .int x_138])), (h9, .inl (kI, 3001, .inl f9)), (h10, .inl (kI, 3001, .inl f10)), (h11, .inl (kJ, 3001, .inr (.inl f11))), (h12, .inl (kJ, 27, .inr (.inl f12))), (h3, .inr (1, [.ref h13, .ref h14, .ref h15, .ref h16, .ref h17, .ref h18, .ref h19, .ref h20, .ref h21, .ref h22, .int x_139])), (h13, .inl (kJ, 1501, .inr (.inl x_140))), (h14, .inl (kI, 1501, .inl x_141)), (h15, .inl (kI, 1501, .inl x_142)), (h16, .inl (kI, 1501, .inl x_143)), (h17, .inl (kI, 1501, .inl x_144)), (h18, .inl (kI, 1501, .inl x_145)), (h19, .inl (kI, 1501, .inl x_146)), (h20, .inl (kI, 1501, .inl x_147)), (h21, .inl (kI, 1501, .inl x_148)), (h22, .inl (kZ, 1501, .inl x_149))]) hP hD [0, 1, 2, 3, 4, 5, 6, 7, 8, 20, 21, 22, 23, 24, 9, 10, 11, 12, 13, 14, 15, 16, 17, 18, 19] [] rfl rfl (by decide) (by decide) hk1 hFc ht hB
    generalize H1 = H at hP hS ⊢
    have hP : va_P D cls9 [(h5, .inr (5, [.ref h2, .ref h4, .ref h7, .ref h8, .int ks])), (h8, .inr (4, [.ref h2, .ref h4, .ref h7])), (h7, .inr (3, [.ref h3, .ref h4])), (h4, .inr (2, [.ref h2, .ref h3, .ref h23, .ref h24, .ref h25, .ref h26, .ref h27, .int sn, .int so, .int sc, .int sl, .int x_133, .int ss])), (h23, .inl (kI, 333, .inl f23)), (h24, .inl (kI, 333, .inl x_134)), (h25, .inl (kI, 333, .inl x_135)), (h26, .inl (kI, 333, .inl f26)), (h27, .inl (kI, 3000, .inl x_136)), (h2, .inr (0, [.ref h9, .ref h10, .ref h11, .ref h12, .int tc, .int x_137, .int td, .int x_138])), (h9, .inl (kI, 3001, .inl f9)), (h10, .inl (kI, 3001, .inl f10)), (h11, .inl (kJ, 3001, .inr (.inl f11))), (h12, .inl (kJ, 27, .inr (.inl f12))), (h3, .inr (1, [.ref h13, .ref h14, .ref h15, .ref h16, .ref h17, .ref h18, .ref h19, .ref h20, .ref h21, .ref h22, .int x_139])), (h13, .inl (kJ, 1501, .inr (.inl x_140))), (h14, .inl (kI, 1501, .inl x_141)), (h15, .inl (kI, 1501, .inl x_142)), (h16, .inl (kI, 1501, .inl x_143)), (h17, .inl (kI, 1501, .inl x_144)), (h18, .inl (kI, 1501, .inl x_145)), (h19, .inl (kI, 1501, .inl x_146)), (h20, .inl (kI, 1501, .inl x_147)), (h21, .inl (kI, 1501, .inl x_148)), (h22, .inl (kZ, 1501, .inl x_149))] H := hP
    have hD : va_D A [(h5, .inr (5, [.ref h2, .ref h4, .ref h7, .ref h8, .int ks])), (h8, .inr (4, [.ref h2, .ref h4, .ref h7])), (h7, .inr (3, [.ref h3, .ref h4])), (h4, .inr (2, [.ref h2, .ref h3, .ref h23, .ref h24, .ref h25, .ref h26, .ref h27, .int sn, .int so, .int sc, .int sl, .int x_133, .int ss])), (h23, .inl (kI, 333, .inl f23)), (h24, .inl (kI, 333, .inl x_134)), (h25, .inl (kI, 333, .inl x_135)), (h26, .inl (kI, 333, .inl f26)), (h27, .inl (kI, 3000, .inl x_136)), (h2, .inr (0, [.ref h9, .ref h10, .ref h11, .ref h12, .int tc, .int x_137, .int td, .int x_138])), (h9, .inl (kI, 3001, .inl f9)), (h10, .inl (kI, 3001, .inl f10)), (h11, .inl (kJ, 3001, .inr (.inl f11))), (h12, .inl (kJ, 27, .inr (.inl f12))), (h3, .inr (1, [.ref h13, .ref h14, .ref h15, .ref h16, .ref h17, .ref h18, .ref h19, .ref h20, .ref h21, .ref h22, .int x_139])), (h13, .inl (kJ, 1501, .inr (.inl x_140))), (h14, .inl (kI, 1501, .inl x_141)), (h15, .inl (kI, 1501, .inl x_142)), (h16, .inl (kI, 1501, .inl x_143)), (h17, .inl (kI, 1501, .inl x_144)), (h18, .inl (kI, 1501, .inl x_145)), (h19, .inl (kI, 1501, .inl x_146)), (h20, .inl (kI, 1501, .inl x_147)), (h21, .inl (kI, 1501, .inl x_148)), (h22, .inl (kZ, 1501, .inl x_149))] := hD
    refine lv_goto (tgt := 62) hx hb d_2_6_16 (by decide +kernel) ?_
    have hP9 := hP.sub (ws' := [(h5, .inr (5, [.ref h2, .ref h4, .ref h7, .ref h8, .int ks])), (h8, .inr (4, [.ref h2, .ref h4, .ref h7])), (h7, .inr (3, [.ref h3, .ref h4])), (h4, .inr (2, [.ref h2, .ref h3, .ref h23, .ref h24, .ref h25, .ref h26, .ref h27, .int sn, .int so, .int sc, .int sl, .int x_133, .int ss])), (h23, .inl (kI, 333, .inl f23)), (h24, .inl (kI, 333, .inl x_134)), (h25, .inl (kI, 333, .inl x_135)), (h26, .inl (kI, 333, .inl f26)), (h27, .inl (kI, 3000, .inl x_136)), (h2, .inr (0, [.ref h9, .ref h10, .ref h11, .ref h12, .int tc, .int x_137, .int td, .int x_138])), (h9, .inl (kI, 3001, .inl f9)), (h10, .inl (kI, 3001, .inl f10)), (h11, .inl (kJ, 3001, .inr (.inl f11))), (h12, .inl (kJ, 27, .inr (.inl f12))), (h3, .inr (1, [.ref h13, .ref h14, .ref h15, .ref h16, .ref h17, .ref h18, .ref h19, .ref h20, .ref h21, .ref h22, .int x_139])), (h13, .inl (kJ, 1501, .inr (.inl x_140))), (h14, .inl (kI, 1501, .inl x_141)), (h15, .inl (kI, 1501, .inl x_142)), (h16, .inl (kI, 1501, .inl x_143)), (h17, .inl (kI, 1501, .inl x_144)), (h18, .inl (kI, 1501, .inl x_145)), (h19, .inl (kI, 1501, .inl x_146)), (h20, .inl (kI, 1501, .inl x_147)), (h21, .inl (kI, 1501, .inl x_148)), (h22, .inl (kZ, 1501, .inl x_149))]) [0, 1, 2, 3, 4, 5, 6, 7, 8, 9, 10, 11, 12, 13, 14, 15, 16, 17, 18, 19, 20, 21, 22, 23, 24] rfl
    have hD9 := hD.sub (ws' := [(h5, .inr (5, [.ref h2, .ref h4, .ref h7, .ref h8, .int ks])), (h8, .inr (4, [.ref h2, .ref h4, .ref h7])), (h7, .inr (3, [.ref h3, .ref h4])), (h4, .inr (2, [.ref h2, .ref h3, .ref h23, .ref h24, .ref h25, .ref h26, .ref h27, .int sn, .int so, .int sc, .int sl, .int x_133, .int ss])), (h23, .inl (kI, 333, .inl f23)), (h24, .inl (kI, 333, .inl x_134)), (h25, .inl (kI, 333, .inl x_135)), (h26, .inl (kI, 333, .inl f26)), (h27, .inl (kI, 3000, .inl x_136)), (h2, .inr (0, [.ref h9, .ref h10, .ref h11, .ref h12, .int tc, .int x_137, .int td, .int x_138])), (h9, .inl (kI, 3001, .inl f9)), (h10, .inl (kI, 3001, .inl f10)), (h11, .inl (kJ, 3001, .inr (.inl f11))), (h12, .inl (kJ, 27, .inr (.inl f12))), (h3, .inr (1, [.ref h13, .ref h14, .ref h15, .ref h16, .ref h17, .ref h18, .ref h19, .ref h20, .ref h21, .ref h22, .int x_139])), (h13, .inl (kJ, 1501, .inr (.inl x_140))), (h14, .inl (kI, 1501, .inl x_141)), (h15, .inl (kI, 1501, .inl x_142)), (h16, .inl (kI, 1501, .inl x_143)), (h17, .inl (kI, 1501, .inl x_144)), (h18, .inl (kI, 1501, .inl x_145)), (h19, .inl (kI, 1501, .inl x_146)), (h20, .inl (kI, 1501, .inl x_147)), (h21, .inl (kI, 1501, .inl x_148)), (h22, .inl (kZ, 1501, .inl x_149))]) [0, 1, 2, 3, 4, 5, 6, 7, 8, 9, 10, 11, 12, 13, 14, 15, 16, 17, 18, 19, 20, 21, 22, 23, 24] (by decide) rfl
    have hz_0 : 0 ≤ x_137.toInt := (by first | assumption | omega)
    have hz_1 : x_137.toInt < tc.toInt := (by first | assumption | omega)
    have hz_2 : x_138.toInt = -2 → 0 ≤ td.toInt ∧ td.toInt ≤ 20 := (by first | assumption | omega)
    have hz_3 : 0 ≤ x_139.toInt := (by first | assumption | omega)
    have hz_4 : x_139.toInt ≤ 1501 := (by first | assumption | omega)
    have hz_5 : 0 ≤ sn.toInt := (by first | assumption | omega)
    have hz_6 : sn.toInt ≤ 333 := (by first | assumption | omega)
    have hz_7 : 0 ≤ so.toInt := (by first | assumption | omega)
    have hz_8 : so.toInt ≤ 333 := (by first | assumption | omega)
    have hz_9 : sI x_145 x_146 x_147 x_134 x_135 f26 x_139 sn so ss := (by first | assumption | exact sI_0 | exact sI_st (by assumption) (by decide +kernel))
    have hz_10 : (x_138.toInt = -2 → tf.toInt = -2 ∧ td.toInt = td.toInt + 0) := (by first | assumption | omega)
    exact W.vret hx hb hr (fun t ht hW => ⟨⟨(), rfl, trivial, ks, sn, so, sc, sl, x_133, f23, x_134, x_135, f26, x_136, x_137, td, x_138, x_139, x_140, x_141, x_142, x_143, x_144, x_145, x_146, x_147, x_148, x_149, hz_0, hz_1, hz_2, hz_3, hz_4, hz_5, hz_6, hz_7, hz_8, hz_9, hz_10, xEnd hK hP9 hD9 ht hW⟩, hS.F ht⟩) hS.2.2 d_2_6_62
theorem all_B (l : Launch) (D : va_G) (kI kJ kB kZ : ClassId) : ∀ n : Nat, R_B l D kI kJ kB kZ n := by
  intro n
  induction n with
  | zero => exact ⟨g_Blocks_declaration l D kI kJ kB kZ 0 (fun k h => absurd h (by omega)), g_Blocks_statement l D kI kJ kB kZ 0 (fun k h => absurd h (by omega)), g_Blocks_plain l D kI kJ kB kZ 0 (fun k h => absurd h (by omega))⟩
  | succ n ih => exact ⟨g_Blocks_declaration l D kI kJ kB kZ (n + 1) (fun k h => by rw [show k = n from (by omega)]; exact ih), g_Blocks_statement l D kI kJ kB kZ (n + 1) (fun k h => by rw [show k = n from (by omega)]; exact ih), g_Blocks_plain l D kI kJ kB kZ (n + 1) (fun k h => by rw [show k = n from (by omega)]; exact ih)⟩
theorem a_B_element (l : Launch) (D : va_G) (kI kJ kB kZ : ClassId) (n : Nat) : P_Blocks_element l D kI kJ kB kZ n := g_Blocks_element l D kI kJ kB kZ n (fun k _ => all_B l D kI kJ kB kZ k)
theorem a_B_segment (l : Launch) (D : va_G) (kI kJ kB kZ : ClassId) (n : Nat) : P_Blocks_segment l D kI kJ kB kZ n := g_Blocks_segment l D kI kJ kB kZ n (fun k _ => all_B l D kI kJ kB kZ k)
theorem a_B_assignment (l : Launch) (D : va_G) (kI kJ kB kZ : ClassId) (n : Nat) : P_Blocks_assignment l D kI kJ kB kZ n := g_Blocks_assignment l D kI kJ kB kZ n (fun k _ => all_B l D kI kJ kB kZ k)
theorem a_B_call (l : Launch) (D : va_G) (kI kJ kB kZ : ClassId) (n : Nat) : P_Blocks_call l D kI kJ kB kZ n := g_Blocks_call l D kI kJ kB kZ n (fun k _ => all_B l D kI kJ kB kZ k)
theorem a_B_jump (l : Launch) (D : va_G) (kI kJ kB kZ : ClassId) (n : Nat) : P_Blocks_jump l D kI kJ kB kZ n := g_Blocks_jump l D kI kJ kB kZ n (fun k _ => all_B l D kI kJ kB kZ k)
theorem a_B_plain (l : Launch) (D : va_G) (kI kJ kB kZ : ClassId) (n : Nat) : P_Blocks_plain l D kI kJ kB kZ n := g_Blocks_plain l D kI kJ kB kZ n (fun k _ => all_B l D kI kJ kB kZ k)
theorem a_B_block (l : Launch) (D : va_G) (kI kJ kB kZ : ClassId) (n : Nat) : P_Blocks_block l D kI kJ kB kZ n := g_Blocks_block l D kI kJ kB kZ n (fun k _ => all_B l D kI kJ kB kZ k)
theorem a_B_choice (l : Launch) (D : va_G) (kI kJ kB kZ : ClassId) (n : Nat) : P_Blocks_choice l D kI kJ kB kZ n := g_Blocks_choice l D kI kJ kB kZ n (fun k _ => all_B l D kI kJ kB kZ k)
theorem a_B_loop (l : Launch) (D : va_G) (kI kJ kB kZ : ClassId) (n : Nat) : P_Blocks_loop l D kI kJ kB kZ n := g_Blocks_loop l D kI kJ kB kZ n (fun k _ => all_B l D kI kJ kB kZ k)
theorem a_B_statement (l : Launch) (D : va_G) (kI kJ kB kZ : ClassId) (n : Nat) : P_Blocks_statement l D kI kJ kB kZ n := g_Blocks_statement l D kI kJ kB kZ n (fun k _ => all_B l D kI kJ kB kZ k)
theorem a_B_declaration (l : Launch) (D : va_G) (kI kJ kB kZ : ClassId) (n : Nat) : P_Blocks_declaration l D kI kJ kB kZ n := g_Blocks_declaration l D kI kJ kB kZ n (fun k _ => all_B l D kI kJ kB kZ k)
theorem a_B_typedDeclaration (l : Launch) (D : va_G) (kI kJ kB kZ : ClassId) (n : Nat) : P_Blocks_typedDeclaration l D kI kJ kB kZ n := g_Blocks_typedDeclaration l D kI kJ kB kZ n (fun k _ => all_B l D kI kJ kB kZ k)
theorem a_B_procedure (l : Launch) (D : va_G) (kI kJ kB kZ : ClassId) (n : Nat) : P_Blocks_procedure l D kI kJ kB kZ n := g_Blocks_procedure l D kI kJ kB kZ n (fun k _ => all_B l D kI kJ kB kZ k)

theorem zmin {x y v : Int32} (e : v = (if y < x then y else x)) : v.toInt ≤ x.toInt ∧ v.toInt ≤ y.toInt := by
  by_cases h : y < x
  · rw [if_pos h] at e
    have h1 := Int32.lt_iff_toInt_lt.mp h
    subst e
    omega
  · rw [if_neg h] at e
    have h1 : ¬ y.toInt < x.toInt := fun q => h (Int32.lt_iff_toInt_lt.mpr q)
    subst e
    omega
theorem zmax {x y v : Int32} (e : v = (if x < y then y else x)) : x.toInt ≤ v.toInt ∧ y.toInt ≤ v.toInt := by
  by_cases h : x < y
  · rw [if_pos h] at e
    have h1 := Int32.lt_iff_toInt_lt.mp h
    subst e
    omega
  · rw [if_neg h] at e
    have h1 : ¬ x.toInt < y.toInt := fun q => h (Int32.lt_iff_toInt_lt.mpr q)
    subst e
    omega
set_option maxHeartbeats 8000000 in
set_option maxRecDepth 100000 in
theorem g_String_coder (l : Launch) (D : va_G) (kI kJ kB kZ : ClassId) (sz : Nat) (sA : Nat → Nat) (sV : Nat → Nat) (i : Nat) (hi : i < 47) : Met l (⟨"java/lang/String", "coder", "()B"⟩ : MethodName) (Cond.code (⟨"java/lang/String", "coder", "()B"⟩ : MethodName) prog_13_method_152_code 1 (some .byte) :: gT) ({ frames := 0, cells := 0, slots := 0, locals := 0 }) (va_Pc [.ref (sA i)] (xP D (xT kI kJ kB kZ) (xE sA sV) [] sz)) (va_Qi (fun (r : Int32) (_ : Unit) => r = 0) (fun _ t => xQ D (xT kI kJ kB kZ) (va_A [] sz) [] t) (va_A [] sz)) 0 0 (va_A [] sz) := by
  refine Met.ofW (cc := prog_13_method_152_code) (maxL := 1) (ret := some .byte) (by decide +kernel) rfl ?_
  intro p e s m args below meth c s₁ B hml hv
  obtain ⟨rfl, hsz, hP, hK, hD0, hE⟩ := hv
  have hx := B.exec
  have hb := B.bytes
  have hr := B.returns
  have hts : ∀ w ∈ gT, w.before _ s = true := fun w h => atoms_spec (ws := Cond.code (⟨"java/lang/String", "coder", "()B"⟩ : MethodName) prog_13_method_152_code 1 (some .byte) :: gT) B.pre w (List.mem_cons_of_mem _ h)
  have hown : s.vm.findClass "java/lang/String" = some m.cls := findClass_of_methodNamed B.named
  have hlocks := B.notSynchronized
  subst hsz
  have hD := hD0.self (sz := s.heap.size)
  generalize hAe : va_A [] s.heap.size = A at hD hE ⊢
  have hA : ∀ q : Nat, s.heap.size ≤ q → A q := fun q h => by rw [← hAe]; exact Or.inr h
  have hS : va_S A s.heap s.heap [] := va_S.rf
  have hP : va_P D cls9 [] s.heap := hP
  have hl := lv_entry ([.ref (sA i)]) (n := 1) (Nat.le_of_ble_eq_true rfl)
  rw [lg_entry_eq]
  generalize (lg_sl ([.ref (sA i)]) ++ List.replicate (1 - (lg_sl ([.ref (sA i)])).length) Slot.unset).toArray = ls at hl ⊢
  have hl : lv_has ls 1 [(0, .ref (sA i))] := hl
  refine va_gets hx hb (xE_Z hE) hS hown (hts _ m_163) (fun _ h9 => h9) d_13_152_0 ?_
  refine lv_if_eq (tgt := 13) hx hb d_13_152_3 (by decide +kernel) (fun c_1 => ?_) (fun c_1 => ?_)
  · exact absurd c_1 (by decide +kernel)
  refine lv_aload_n hx hb d_13_152_6 rfl (lv_at hl 0 rfl) ?_
  refine vk_getf hx hb (xE_c hE i hi) hS hown (hts _ m_1652) (fun _ h9 => h9) d_13_152_7 ?_
  refine lv_goto (tgt := 14) hx hb d_13_152_10 (by decide +kernel) ?_
  have hP9 := hP.sub (ws' := []) [] rfl
  have hD9 := hD.sub (ws' := []) [] (by decide) rfl
  exact W.zret (v := 0) (ty := .byte) hx hb hr (by decide +kernel) (fun t ht hW => ⟨⟨0, (), rfl, rfl, xEnd hK hP9 hD9 ht hW⟩, hS.F ht⟩) hS.2.2 d_13_152_14
set_option maxHeartbeats 8000000 in
set_option maxRecDepth 100000 in
theorem g_String_isLatin1 (l : Launch) (D : va_G) (kI kJ kB kZ : ClassId) (sz : Nat) (sA : Nat → Nat) (sV : Nat → Nat) (i : Nat) (hi : i < 47) : Met l (⟨"java/lang/String", "isLatin1", "()Z"⟩ : MethodName) (Cond.code (⟨"java/lang/String", "isLatin1", "()Z"⟩ : MethodName) prog_13_method_154_code 1 (some .boolean) :: gT) ({ frames := 0, cells := 0, slots := 0, locals := 0 }) (va_Pc [.ref (sA i)] (xP D (xT kI kJ kB kZ) (xE sA sV) [] sz)) (va_Qi (fun (r : Int32) (_ : Unit) => r = 1) (fun _ t => xQ D (xT kI kJ kB kZ) (va_A [] sz) [] t) (va_A [] sz)) 0 0 (va_A [] sz) := by
  refine Met.ofW (cc := prog_13_method_154_code) (maxL := 1) (ret := some .boolean) (by decide +kernel) rfl ?_
  intro p e s m args below meth c s₁ B hml hv
  obtain ⟨rfl, hsz, hP, hK, hD0, hE⟩ := hv
  have hx := B.exec
  have hb := B.bytes
  have hr := B.returns
  have hts : ∀ w ∈ gT, w.before _ s = true := fun w h => atoms_spec (ws := Cond.code (⟨"java/lang/String", "isLatin1", "()Z"⟩ : MethodName) prog_13_method_154_code 1 (some .boolean) :: gT) B.pre w (List.mem_cons_of_mem _ h)
  have hown : s.vm.findClass "java/lang/String" = some m.cls := findClass_of_methodNamed B.named
  have hlocks := B.notSynchronized
  subst hsz
  have hD := hD0.self (sz := s.heap.size)
  generalize hAe : va_A [] s.heap.size = A at hD hE ⊢
  have hA : ∀ q : Nat, s.heap.size ≤ q → A q := fun q h => by rw [← hAe]; exact Or.inr h
  have hS : va_S A s.heap s.heap [] := va_S.rf
  have hP : va_P D cls9 [] s.heap := hP
  have hl := lv_entry ([.ref (sA i)]) (n := 1) (Nat.le_of_ble_eq_true rfl)
  rw [lg_entry_eq]
  generalize (lg_sl ([.ref (sA i)]) ++ List.replicate (1 - (lg_sl ([.ref (sA i)])).length) Slot.unset).toArray = ls at hl ⊢
  have hl : lv_has ls 1 [(0, .ref (sA i))] := hl
  refine va_gets hx hb (xE_Z hE) hS hown (hts _ m_163) (fun _ h9 => h9) d_13_154_0 ?_
  refine lv_if_eq (tgt := 17) hx hb d_13_154_3 (by decide +kernel) (fun c_1 => ?_) (fun c_1 => ?_)
  · exact absurd c_1 (by decide +kernel)
  refine lv_aload_n hx hb d_13_154_6 rfl (lv_at hl 0 rfl) ?_
  refine vk_getf hx hb (xE_c hE i hi) hS hown (hts _ m_1652) (fun _ h9 => h9) d_13_154_7 ?_
  refine lv_if_ne (tgt := 17) hx hb d_13_154_10 (by decide +kernel) (fun c_2 => ?_) (fun c_2 => ?_)
  · exact absurd c_2 (by decide +kernel)
  refine lv_iconst (v := 1) hx hb d_13_154_13 (by decide +kernel) ?_
  refine lv_goto (tgt := 18) hx hb d_13_154_14 (by decide +kernel) ?_
  have hP9 := hP.sub (ws' := []) [] rfl
  have hD9 := hD.sub (ws' := []) [] (by decide) rfl
  exact W.zret (v := 1) (ty := .boolean) hx hb hr (by decide +kernel) (fun t ht hW => ⟨⟨1, (), rfl, rfl, xEnd hK hP9 hD9 ht hW⟩, hS.F ht⟩) hS.2.2 d_13_154_18
set_option maxHeartbeats 8000000 in
set_option maxRecDepth 100000 in
theorem g_String_length (l : Launch) (D : va_G) (kI kJ kB kZ : ClassId) (sz : Nat) (sA : Nat → Nat) (sV : Nat → Nat) (i : Nat) (hi : i < 47) : Met l (⟨"java/lang/String", "length", "()I"⟩ : MethodName) (Cond.code (⟨"java/lang/String", "length", "()I"⟩ : MethodName) prog_13_method_54_code 1 (some .int) :: gT) ({ frames := 1, cells := 0, slots := 0, locals := 20 }) (va_Pc [.ref (sA i)] (xP D (xT kI kJ kB kZ) (xE sA sV) [] sz)) (va_Qi (fun (r : Int32) (_ : Unit) => r.toInt = sN i) (fun _ t => xQ D (xT kI kJ kB kZ) (va_A [] sz) [] t) (va_A [] sz)) 0 0 (va_A [] sz) := by
  refine Met.ofW (cc := prog_13_method_54_code) (maxL := 1) (ret := some .int) (by decide +kernel) rfl ?_
  intro p e s m args below meth c s₁ B hml hv
  obtain ⟨rfl, hsz, hP, hK, hD0, hE⟩ := hv
  have hx := B.exec
  have hb := B.bytes
  have hr := B.returns
  have hts : ∀ w ∈ gT, w.before _ s = true := fun w h => atoms_spec (ws := Cond.code (⟨"java/lang/String", "length", "()I"⟩ : MethodName) prog_13_method_54_code 1 (some .int) :: gT) B.pre w (List.mem_cons_of_mem _ h)
  have hown : s.vm.findClass "java/lang/String" = some m.cls := findClass_of_methodNamed B.named
  have hlocks := B.notSynchronized
  subst hsz
  have hD := hD0.self (sz := s.heap.size)
  generalize hAe : va_A [] s.heap.size = A at hD hE ⊢
  have hA : ∀ q : Nat, s.heap.size ≤ q → A q := fun q h => by rw [← hAe]; exact Or.inr h
  have hS : va_S A s.heap s.heap [] := va_S.rf
  have hP : va_P D cls9 [] s.heap := hP
  have hl := lv_entry ([.ref (sA i)]) (n := 1) (Nat.le_of_ble_eq_true rfl)
  rw [lg_entry_eq]
  generalize (lg_sl ([.ref (sA i)]) ++ List.replicate (1 - (lg_sl ([.ref (sA i)])).length) Slot.unset).toArray = ls at hl ⊢
  have hl : lv_has ls 1 [(0, .ref (sA i))] := hl
  refine lv_aload_n hx hb d_13_54_0 rfl (lv_at hl 0 rfl) ?_
  refine vk_getf hx hb (xE_v hE i hi) hS hown (hts _ m_1651) (fun _ h9 => h9) d_13_54_1 ?_
  refine va_tlen (v := nI (sN i)) hx hb (xE_T hE i hi) hS rfl d_13_54_4 ?_
  refine lv_topi (fun y_1 ey_1 => ?_)
  have ty_1 : y_1.toInt = sN i := by rw [ey_1]; exact sN_toInt i hi
  have uy_1 : sN i ≤ 140 := sN_le i hi
  refine lv_aload_n hx hb d_13_54_5 rfl (lv_at hl 0 rfl) ?_
  have hPc := hP.sub (ws' := []) [] rfl
  have hDc := hD.sub (ws' := []) [] (by decide) rfl
  have hFc := va_free (wc := []) hD hS hA [] rfl
  refine va_calli (va_runV (As := []) (rest := [.int y_1]) ⟨hx, hb, hml, hown, hts⟩ (g_String_coder l D kI kJ kB kZ _ (sA) (sV) (i) (by first | assumption | omega)) (cwV 0 hts (gT_V m_159 m_160 m_161 m_122 (gT_ws m_162)) rfl rfl rfl (by decide +kernel) ⟨(Nat.le_of_ble_eq_true rfl), (Nat.le_of_ble_eq_true rfl)⟩) ⟨xBlind (xOk_E sA sV), (xE_O hE i hi hS), xAt (xOk_E sA sV) hK hPc hDc hS hFc hE⟩ rfl rfl hl.1 rfl (lv_room (Nat.le_of_ble_eq_true rfl)) d_13_54_6 ⟨(Nat.le_of_ble_eq_true rfl), (Nat.le_of_ble_eq_true rfl)⟩) hS (fun q _ h => hFc q h) hFc (fun r_2 u t H1 locs ht hvm hw_3 hB hz1 hk1 hS => ?_)
  clear hz1
  obtain ⟨hP, hD⟩ := xJoin (wr := []) (w1 := []) hP hD [] [] rfl rfl (by decide) (by decide) hk1 hFc ht hB
  generalize H1 = H at hP hS ⊢
  have hP : va_P D cls9 [] H := hP
  have hD : va_D A [] := hD
  refine xtopi (v := 0) hw_3 ?_
  refine lv_ishr hx hb d_13_54_9 ?_
  refine xtopi (v := y_1) (sb_shr0 _) ?_
  have hP9 := hP.sub (ws' := []) [] rfl
  have hD9 := hD.sub (ws' := []) [] (by decide) rfl
  have hrp : y_1.toInt = sN i := by first |  omega | assumption | exact pk_nc _ | exact Or.inl ⟨by omega, by omega, by assumption⟩ | exact Or.inr ⟨by omega, by decide +kernel⟩ | exact fun h9 => absurd h9 (by omega) | exact fun _ => isH_no1 (by omega) | exact fun _ => isH_no2 (by assumption) (by assumption) (by omega) | (intro h9; omega) | (intro h8 h9; omega)
  exact W.iret (v := y_1) hx hb hr (fun t ht hW => ⟨⟨y_1, (), rfl, hrp, xEnd hK hP9 hD9 ht hW⟩, hS.F ht⟩) hS.2.2 d_13_54_10
set_option maxHeartbeats 8000000 in
set_option maxRecDepth 100000 in
theorem g_Preconditions_checkIndex_null (l : Launch) (D : va_G) (kI kJ kB kZ : ClassId) (sz : Nat) (p1 : Int32) (p2 : Int32) (hq_0 : 0 ≤ p1.toInt) (hq_1 : p1.toInt < p2.toInt) : Met l (⟨"jdk/internal/util/Preconditions", "checkIndex", "(IILjava/util/function/BiFunction;)I"⟩ : MethodName) (Cond.code (⟨"jdk/internal/util/Preconditions", "checkIndex", "(IILjava/util/function/BiFunction;)I"⟩ : MethodName) prog_17_method_11_code 3 (some .int) :: gT) ({ frames := 0, cells := 0, slots := 0, locals := 0 }) (va_Pc [.int p1, .int p2, .null] (xP D (xT kI kJ kB kZ) xN [] sz)) (va_Qi (fun (r : Int32) (_ : Unit) => r = p1) (fun _ t => xQ D (xT kI kJ kB kZ) (va_A [] sz) [] t) (va_A [] sz)) 0 0 (va_A [] sz) := by
  refine Met.ofW (cc := prog_17_method_11_code) (maxL := 3) (ret := some .int) (by decide +kernel) rfl ?_
  intro p e s m args below meth c s₁ B hml hv
  obtain ⟨rfl, hsz, hP, hK, hD0, hE⟩ := hv
  have hx := B.exec
  have hb := B.bytes
  have hr := B.returns
  have hts : ∀ w ∈ gT, w.before _ s = true := fun w h => atoms_spec (ws := Cond.code (⟨"jdk/internal/util/Preconditions", "checkIndex", "(IILjava/util/function/BiFunction;)I"⟩ : MethodName) prog_17_method_11_code 3 (some .int) :: gT) B.pre w (List.mem_cons_of_mem _ h)
  have hown : s.vm.findClass "jdk/internal/util/Preconditions" = some m.cls := findClass_of_methodNamed B.named
  have hlocks := B.notSynchronized
  subst hsz
  have hD := hD0.self (sz := s.heap.size)
  generalize hAe : va_A [] s.heap.size = A at hD hE ⊢
  have hA : ∀ q : Nat, s.heap.size ≤ q → A q := fun q h => by rw [← hAe]; exact Or.inr h
  have hS : va_S A s.heap s.heap [] := va_S.rf
  have hP : va_P D cls9 [] s.heap := hP
  have hl := lv_entry ([.int p1, .int p2, .null]) (n := 3) (Nat.le_of_ble_eq_true rfl)
  rw [lg_entry_eq]
  generalize (lg_sl ([.int p1, .int p2, .null]) ++ List.replicate (3 - (lg_sl ([.int p1, .int p2, .null])).length) Slot.unset).toArray = ls at hl ⊢
  have hl : lv_has ls 3 [(0, .int p1), (1, .int p2), (2, .null)] := hl
  refine lv_iload_n hx hb d_17_11_0 rfl (lv_at hl 0 rfl) ?_
  refine lv_if_lt (tgt := 9) hx hb d_17_11_1 (by decide +kernel) (fun c_1 => ?_) (fun c_1 => ?_)
  · skip
    have tc_1 : p1.toInt < 0 := Int32.lt_iff_toInt_lt.mp c_1
    exfalso
    omega
  · skip
    have tc_1 : ¬ p1.toInt < 0 := fun h9 => c_1 (Int32.lt_iff_toInt_lt.mpr h9)
    refine lv_iload_n hx hb d_17_11_4 rfl (lv_at hl 0 rfl) ?_
    refine lv_iload_n hx hb d_17_11_5 rfl (lv_at hl 1 rfl) ?_
    refine lv_icmp_lt (tgt := 16) hx hb d_17_11_6 (by decide +kernel) (fun c_2 => ?_) (fun c_2 => ?_)
    · skip
      have tc_2 : p1.toInt < p2.toInt := Int32.lt_iff_toInt_lt.mp c_2
      refine lv_iload_n hx hb d_17_11_16 rfl (lv_at hl 0 rfl) ?_
      have hP9 := hP.sub (ws' := []) [] rfl
      have hD9 := hD.sub (ws' := []) [] (by decide) rfl
      exact W.iret (v := p1) hx hb hr (fun t ht hW => ⟨⟨p1, (), rfl, rfl, xEnd hK hP9 hD9 ht hW⟩, hS.F ht⟩) hS.2.2 d_17_11_17
    · skip
      have tc_2 : ¬ p1.toInt < p2.toInt := fun h9 => c_2 (Int32.lt_iff_toInt_lt.mpr h9)
      exfalso
      omega
set_option maxHeartbeats 8000000 in
set_option maxRecDepth 100000 in
theorem g_Preconditions_checkIndex_ref (l : Launch) (D : va_G) (kI kJ kB kZ : ClassId) (sz : Nat) (p1 : Int32) (p2 : Int32) (sF : Nat) (hq_0 : 0 ≤ p1.toInt) (hq_1 : p1.toInt < p2.toInt) : Met l (⟨"jdk/internal/util/Preconditions", "checkIndex", "(IILjava/util/function/BiFunction;)I"⟩ : MethodName) (Cond.code (⟨"jdk/internal/util/Preconditions", "checkIndex", "(IILjava/util/function/BiFunction;)I"⟩ : MethodName) prog_17_method_11_code 3 (some .int) :: gT) ({ frames := 0, cells := 0, slots := 0, locals := 0 }) (va_Pc [.int p1, .int p2, .ref sF] (xP D (xT kI kJ kB kZ) xN [] sz)) (va_Qi (fun (r : Int32) (_ : Unit) => r = p1) (fun _ t => xQ D (xT kI kJ kB kZ) (va_A [] sz) [] t) (va_A [] sz)) 0 0 (va_A [] sz) := by
  refine Met.ofW (cc := prog_17_method_11_code) (maxL := 3) (ret := some .int) (by decide +kernel) rfl ?_
  intro p e s m args below meth c s₁ B hml hv
  obtain ⟨rfl, hsz, hP, hK, hD0, hE⟩ := hv
  have hx := B.exec
  have hb := B.bytes
  have hr := B.returns
  have hts : ∀ w ∈ gT, w.before _ s = true := fun w h => atoms_spec (ws := Cond.code (⟨"jdk/internal/util/Preconditions", "checkIndex", "(IILjava/util/function/BiFunction;)I"⟩ : MethodName) prog_17_method_11_code 3 (some .int) :: gT) B.pre w (List.mem_cons_of_mem _ h)
  have hown : s.vm.findClass "jdk/internal/util/Preconditions" = some m.cls := findClass_of_methodNamed B.named
  have hlocks := B.notSynchronized
  subst hsz
  have hD := hD0.self (sz := s.heap.size)
  generalize hAe : va_A [] s.heap.size = A at hD hE ⊢
  have hA : ∀ q : Nat, s.heap.size ≤ q → A q := fun q h => by rw [← hAe]; exact Or.inr h
  have hS : va_S A s.heap s.heap [] := va_S.rf
  have hP : va_P D cls9 [] s.heap := hP
  have hl := lv_entry ([.int p1, .int p2, .ref sF]) (n := 3) (Nat.le_of_ble_eq_true rfl)
  rw [lg_entry_eq]
  generalize (lg_sl ([.int p1, .int p2, .ref sF]) ++ List.replicate (3 - (lg_sl ([.int p1, .int p2, .ref sF])).length) Slot.unset).toArray = ls at hl ⊢
  have hl : lv_has ls 3 [(0, .int p1), (1, .int p2), (2, .ref sF)] := hl
  refine lv_iload_n hx hb d_17_11_0 rfl (lv_at hl 0 rfl) ?_
  refine lv_if_lt (tgt := 9) hx hb d_17_11_1 (by decide +kernel) (fun c_1 => ?_) (fun c_1 => ?_)
  · skip
    have tc_1 : p1.toInt < 0 := Int32.lt_iff_toInt_lt.mp c_1
    exfalso
    omega
  · skip
    have tc_1 : ¬ p1.toInt < 0 := fun h9 => c_1 (Int32.lt_iff_toInt_lt.mpr h9)
    refine lv_iload_n hx hb d_17_11_4 rfl (lv_at hl 0 rfl) ?_
    refine lv_iload_n hx hb d_17_11_5 rfl (lv_at hl 1 rfl) ?_
    refine lv_icmp_lt (tgt := 16) hx hb d_17_11_6 (by decide +kernel) (fun c_2 => ?_) (fun c_2 => ?_)
    · skip
      have tc_2 : p1.toInt < p2.toInt := Int32.lt_iff_toInt_lt.mp c_2
      refine lv_iload_n hx hb d_17_11_16 rfl (lv_at hl 0 rfl) ?_
      have hP9 := hP.sub (ws' := []) [] rfl
      have hD9 := hD.sub (ws' := []) [] (by decide) rfl
      exact W.iret (v := p1) hx hb hr (fun t ht hW => ⟨⟨p1, (), rfl, rfl, xEnd hK hP9 hD9 ht hW⟩, hS.F ht⟩) hS.2.2 d_17_11_17
    · skip
      have tc_2 : ¬ p1.toInt < p2.toInt := fun h9 => c_2 (Int32.lt_iff_toInt_lt.mpr h9)
      exfalso
      omega
set_option maxHeartbeats 8000000 in
set_option maxRecDepth 100000 in
theorem g_String_checkIndex (l : Launch) (D : va_G) (kI kJ kB kZ : ClassId) (sz : Nat) (p1 : Int32) (p2 : Int32) (sA : Nat → Nat) (sV : Nat → Nat) (hq_0 : 0 ≤ p1.toInt) (hq_1 : p1.toInt < p2.toInt) : Met l (⟨"java/lang/String", "checkIndex", "(II)V"⟩ : MethodName) (Cond.code (⟨"java/lang/String", "checkIndex", "(II)V"⟩ : MethodName) prog_13_method_155_code 2 (none) :: gT) ({ frames := 1, cells := 0, slots := 0, locals := 22 }) (va_Pc [.int p1, .int p2] (xP D (xT kI kJ kB kZ) (xE sA sV) [] sz)) (va_Qv (fun _ : Unit => True) (fun _ t => xQ D (xT kI kJ kB kZ) (va_A [] sz) [] t) (va_A [] sz)) 0 0 (va_A [] sz) := by
  refine Met.ofW (cc := prog_13_method_155_code) (maxL := 2) (ret := none) (by decide +kernel) rfl ?_
  intro p e s m args below meth c s₁ B hml hv
  obtain ⟨rfl, hsz, hP, hK, hD0, hE⟩ := hv
  have hx := B.exec
  have hb := B.bytes
  have hr := B.returns
  have hts : ∀ w ∈ gT, w.before _ s = true := fun w h => atoms_spec (ws := Cond.code (⟨"java/lang/String", "checkIndex", "(II)V"⟩ : MethodName) prog_13_method_155_code 2 (none) :: gT) B.pre w (List.mem_cons_of_mem _ h)
  have hown : s.vm.findClass "java/lang/String" = some m.cls := findClass_of_methodNamed B.named
  have hlocks := B.notSynchronized
  subst hsz
  have hD := hD0.self (sz := s.heap.size)
  generalize hAe : va_A [] s.heap.size = A at hD hE ⊢
  have hA : ∀ q : Nat, s.heap.size ≤ q → A q := fun q h => by rw [← hAe]; exact Or.inr h
  have hS : va_S A s.heap s.heap [] := va_S.rf
  have hP : va_P D cls9 [] s.heap := hP
  have hl := lv_entry ([.int p1, .int p2]) (n := 2) (Nat.le_of_ble_eq_true rfl)
  rw [lg_entry_eq]
  generalize (lg_sl ([.int p1, .int p2]) ++ List.replicate (2 - (lg_sl ([.int p1, .int p2])).length) Slot.unset).toArray = ls at hl ⊢
  have hl : lv_has ls 2 [(0, .int p1), (1, .int p2)] := hl
  refine lv_iload_n hx hb d_13_155_0 rfl (lv_at hl 0 rfl) ?_
  refine lv_iload_n hx hb d_13_155_1 rfl (lv_at hl 1 rfl) ?_
  rcases xE_Zq hE with hz | ⟨sF, hz⟩
  · skip
    refine va_gets hx hb hz hS hown (hts _ m_179) (fun _ h9 => h9) d_13_155_2 ?_
    have hPc := hP.sub (ws' := []) [] rfl
    have hDc := hD.sub (ws' := []) [] (by decide) rfl
    have hFc := va_free (wc := []) hD hS hA [] rfl
    refine va_calli (va_runS (As := [.int p1, .int p2, .null]) (rest := []) ⟨hx, hb, hml, hown, hts⟩ (g_Preconditions_checkIndex_null l D kI kJ kB kZ _ (p1) (p2) (by first | assumption | omega) (by first | assumption | omega)) (va_cwS 3 hts (gT_S m_181 m_182 m_124 (gT_ws m_183)) rfl rfl rfl (by decide +kernel) ⟨(Nat.le_of_ble_eq_true rfl), (Nat.le_of_ble_eq_true rfl)⟩) ⟨xBlind xOk_N, xAtN hK hPc hDc⟩ rfl rfl hl.1 rfl (lv_room (Nat.le_of_ble_eq_true rfl)) d_13_155_5 ⟨(Nat.le_of_ble_eq_true rfl), (Nat.le_of_ble_eq_true rfl)⟩) hS (fun q _ h => hFc q h) hFc (fun r_1 u t H1 locs ht hvm hw_2 hB hz1 hk1 hS => ?_)
    clear hz1
    obtain ⟨hP, hD⟩ := xJoin (wr := []) (w1 := []) hP hD [] [] rfl rfl (by decide) (by decide) hk1 hFc ht hB
    generalize H1 = H at hP hS ⊢
    have hP : va_P D cls9 [] H := hP
    have hD : va_D A [] := hD
    refine xtopi (v := p1) hw_2 ?_
    refine lv_pop hx hb d_13_155_8 rfl ?_
    have hP9 := hP.sub (ws' := []) [] rfl
    have hD9 := hD.sub (ws' := []) [] (by decide) rfl
    exact W.vret hx hb hr (fun t ht hW => ⟨⟨(), rfl, trivial, xEnd hK hP9 hD9 ht hW⟩, hS.F ht⟩) hS.2.2 d_13_155_9
  · skip
    refine va_gets hx hb hz hS hown (hts _ m_179) (fun _ h9 => h9) d_13_155_2 ?_
    have hPc := hP.sub (ws' := []) [] rfl
    have hDc := hD.sub (ws' := []) [] (by decide) rfl
    have hFc := va_free (wc := []) hD hS hA [] rfl
    refine va_calli (va_runS (As := [.int p1, .int p2, .ref sF]) (rest := []) ⟨hx, hb, hml, hown, hts⟩ (g_Preconditions_checkIndex_ref l D kI kJ kB kZ _ (p1) (p2) (sF) (by first | assumption | omega) (by first | assumption | omega)) (va_cwS 3 hts (gT_S m_181 m_182 m_124 (gT_ws m_183)) rfl rfl rfl (by decide +kernel) ⟨(Nat.le_of_ble_eq_true rfl), (Nat.le_of_ble_eq_true rfl)⟩) ⟨xBlind xOk_N, xAtN hK hPc hDc⟩ rfl rfl hl.1 rfl (lv_room (Nat.le_of_ble_eq_true rfl)) d_13_155_5 ⟨(Nat.le_of_ble_eq_true rfl), (Nat.le_of_ble_eq_true rfl)⟩) hS (fun q _ h => hFc q h) hFc (fun r_3 u t H1 locs ht hvm hw_4 hB hz1 hk1 hS => ?_)
    clear hz1
    obtain ⟨hP, hD⟩ := xJoin (wr := []) (w1 := []) hP hD [] [] rfl rfl (by decide) (by decide) hk1 hFc ht hB
    generalize H1 = H at hP hS ⊢
    have hP : va_P D cls9 [] H := hP
    have hD : va_D A [] := hD
    refine xtopi (v := p1) hw_4 ?_
    refine lv_pop hx hb d_13_155_8 rfl ?_
    have hP9 := hP.sub (ws' := []) [] rfl
    have hD9 := hD.sub (ws' := []) [] (by decide) rfl
    exact W.vret hx hb hr (fun t ht hW => ⟨⟨(), rfl, trivial, xEnd hK hP9 hD9 ht hW⟩, hS.F ht⟩) hS.2.2 d_13_155_9
set_option maxHeartbeats 8000000 in
set_option maxRecDepth 100000 in
theorem g_StringLatin1_charAt (l : Launch) (D : va_G) (kI kJ kB kZ : ClassId) (sz : Nat) (p2 : Int32) (sA : Nat → Nat) (sV : Nat → Nat) (i : Nat) (hq_0 : 0 ≤ p2.toInt) (hq_1 : p2.toInt < sN i) (hi : i < 47) : Met l (⟨"java/lang/StringLatin1", "charAt", "([BI)C"⟩ : MethodName) (Cond.code (⟨"java/lang/StringLatin1", "charAt", "([BI)C"⟩ : MethodName) prog_14_method_2_code 2 (some .char) :: gT) ({ frames := 2, cells := 0, slots := 0, locals := 43 }) (va_Pc [.ref (sV i), .int p2] (xP D (xT kI kJ kB kZ) (xE sA sV) [] sz)) (va_Qi (fun (r : Int32) (_ : Unit) => narrow .char (.int r) = .int r) (fun _ t => xQ D (xT kI kJ kB kZ) (va_A [] sz) [] t) (va_A [] sz)) 0 0 (va_A [] sz) := by
  refine Met.ofW (cc := prog_14_method_2_code) (maxL := 2) (ret := some .char) (by decide +kernel) rfl ?_
  intro p e s m args below meth c s₁ B hml hv
  obtain ⟨rfl, hsz, hP, hK, hD0, hE⟩ := hv
  have hx := B.exec
  have hb := B.bytes
  have hr := B.returns
  have hts : ∀ w ∈ gT, w.before _ s = true := fun w h => atoms_spec (ws := Cond.code (⟨"java/lang/StringLatin1", "charAt", "([BI)C"⟩ : MethodName) prog_14_method_2_code 2 (some .char) :: gT) B.pre w (List.mem_cons_of_mem _ h)
  have hown : s.vm.findClass "java/lang/StringLatin1" = some m.cls := findClass_of_methodNamed B.named
  have hlocks := B.notSynchronized
  subst hsz
  have hD := hD0.self (sz := s.heap.size)
  generalize hAe : va_A [] s.heap.size = A at hD hE ⊢
  have hA : ∀ q : Nat, s.heap.size ≤ q → A q := fun q h => by rw [← hAe]; exact Or.inr h
  have hS : va_S A s.heap s.heap [] := va_S.rf
  have hP : va_P D cls9 [] s.heap := hP
  have hl := lv_entry ([.ref (sV i), .int p2]) (n := 2) (Nat.le_of_ble_eq_true rfl)
  rw [lg_entry_eq]
  generalize (lg_sl ([.ref (sV i), .int p2]) ++ List.replicate (2 - (lg_sl ([.ref (sV i), .int p2])).length) Slot.unset).toArray = ls at hl ⊢
  have hl : lv_has ls 2 [(0, .ref (sV i)), (1, .int p2)] := hl
  refine lv_iload_n hx hb d_14_2_0 rfl (lv_at hl 1 rfl) ?_
  refine lv_aload_n hx hb d_14_2_1 rfl (lv_at hl 0 rfl) ?_
  refine va_tlen (v := nI (sN i)) hx hb (xE_T hE i hi) hS rfl d_14_2_2 ?_
  refine lv_topi (fun y_1 ey_1 => ?_)
  have ty_1 : y_1.toInt = sN i := by rw [ey_1]; exact sN_toInt i hi
  have uy_1 : sN i ≤ 140 := sN_le i hi
  have hPc := hP.sub (ws' := []) [] rfl
  have hDc := hD.sub (ws' := []) [] (by decide) rfl
  have hFc := va_free (wc := []) hD hS hA [] rfl
  refine va_callv (va_runS (As := [.int p2, .int y_1]) (rest := []) ⟨hx, hb, hml, hown, hts⟩ (g_String_checkIndex l D kI kJ kB kZ _ (p2) (y_1) (sA) (sV) (by first | assumption | omega) (by first | assumption | omega)) (va_cwS 2 hts (gT_S m_176 m_177 m_122 (gT_ws m_178)) rfl rfl rfl (by decide +kernel) ⟨(Nat.le_of_ble_eq_true rfl), (Nat.le_of_ble_eq_true rfl)⟩) ⟨xBlind (xOk_E sA sV), xAt (xOk_E sA sV) hK hPc hDc hS hFc hE⟩ rfl rfl hl.1 rfl (lv_room (Nat.le_of_ble_eq_true rfl)) d_14_2_3 ⟨(Nat.le_of_ble_eq_true rfl), (Nat.le_of_ble_eq_true rfl)⟩) hS (fun q _ h => hFc q h) hFc (fun u t H1 locs ht hvm hw_3 hB hz1 hk1 hS => ?_)
  clear hz1
  obtain ⟨hP, hD⟩ := xJoin (wr := []) (w1 := []) hP hD [] [] rfl rfl (by decide) (by decide) hk1 hFc ht hB
  generalize H1 = H at hP hS ⊢
  have hP : va_P D cls9 [] H := hP
  have hD : va_D A [] := hD
  refine lv_aload_n hx hb d_14_2_6 rfl (lv_at hl 0 rfl) ?_
  refine lv_iload_n hx hb d_14_2_7 rfl (lv_at hl 1 rfl) ?_
  refine va_tb hx hb (xE_T hE i hi) hS (vp_in_iff.mpr ⟨by omega, by omega⟩) rfl d_14_2_8 ?_
  refine lv_topi (fun z_4 ez_4 => ?_)
  refine lv_sipush (v := 255) hx hb d_14_2_9 (by decide +kernel) ?_
  refine lv_iand hx hb d_14_2_12 ?_
  refine lv_topi (fun y_5 ey_5 => ?_)
  refine lv_i2c (v := ((y_5.toUInt32 % 65536).toInt32)) hx hb d_14_2_13 rfl ?_
  have hP9 := hP.sub (ws' := []) [] rfl
  have hD9 := hD.sub (ws' := []) [] (by decide) rfl
  have hrp : narrow .char (.int ((y_5.toUInt32 % 65536).toInt32)) = .int ((y_5.toUInt32 % 65536).toInt32) := by first |  omega | assumption | exact pk_nc _ | exact Or.inl ⟨by omega, by omega, by assumption⟩ | exact Or.inr ⟨by omega, by decide +kernel⟩ | exact fun h9 => absurd h9 (by omega) | exact fun _ => isH_no1 (by omega) | exact fun _ => isH_no2 (by assumption) (by assumption) (by omega) | (intro h9; omega) | (intro h8 h9; omega)
  exact W.zret (v := ((y_5.toUInt32 % 65536).toInt32)) (ty := .char) hx hb hr (by first | assumption | exact pk_nc _) (fun t ht hW => ⟨⟨((y_5.toUInt32 % 65536).toInt32), (), rfl, hrp, xEnd hK hP9 hD9 ht hW⟩, hS.F ht⟩) hS.2.2 d_14_2_14
set_option maxHeartbeats 8000000 in
set_option maxRecDepth 100000 in
theorem g_String_charAt (l : Launch) (D : va_G) (kI kJ kB kZ : ClassId) (sz : Nat) (p1 : Int32) (sA : Nat → Nat) (sV : Nat → Nat) (i : Nat) (hq_0 : 0 ≤ p1.toInt) (hq_1 : p1.toInt < sN i) (hi : i < 47) : Met l (⟨"java/lang/String", "charAt", "(I)C"⟩ : MethodName) (Cond.code (⟨"java/lang/String", "charAt", "(I)C"⟩ : MethodName) prog_13_method_56_code 2 (some .char) :: gT) ({ frames := 3, cells := 0, slots := 0, locals := 64 }) (va_Pc [.ref (sA i), .int p1] (xP D (xT kI kJ kB kZ) (xE sA sV) [] sz)) (va_Qi (fun (r : Int32) (_ : Unit) => narrow .char (.int r) = .int r) (fun _ t => xQ D (xT kI kJ kB kZ) (va_A [] sz) [] t) (va_A [] sz)) 0 0 (va_A [] sz) := by
  refine Met.ofW (cc := prog_13_method_56_code) (maxL := 2) (ret := some .char) (by decide +kernel) rfl ?_
  intro p e s m args below meth c s₁ B hml hv
  obtain ⟨rfl, hsz, hP, hK, hD0, hE⟩ := hv
  have hx := B.exec
  have hb := B.bytes
  have hr := B.returns
  have hts : ∀ w ∈ gT, w.before _ s = true := fun w h => atoms_spec (ws := Cond.code (⟨"java/lang/String", "charAt", "(I)C"⟩ : MethodName) prog_13_method_56_code 2 (some .char) :: gT) B.pre w (List.mem_cons_of_mem _ h)
  have hown : s.vm.findClass "java/lang/String" = some m.cls := findClass_of_methodNamed B.named
  have hlocks := B.notSynchronized
  subst hsz
  have hD := hD0.self (sz := s.heap.size)
  generalize hAe : va_A [] s.heap.size = A at hD hE ⊢
  have hA : ∀ q : Nat, s.heap.size ≤ q → A q := fun q h => by rw [← hAe]; exact Or.inr h
  have hS : va_S A s.heap s.heap [] := va_S.rf
  have hP : va_P D cls9 [] s.heap := hP
  have hl := lv_entry ([.ref (sA i), .int p1]) (n := 2) (Nat.le_of_ble_eq_true rfl)
  rw [lg_entry_eq]
  generalize (lg_sl ([.ref (sA i), .int p1]) ++ List.replicate (2 - (lg_sl ([.ref (sA i), .int p1])).length) Slot.unset).toArray = ls at hl ⊢
  have hl : lv_has ls 2 [(0, .ref (sA i)), (1, .int p1)] := hl
  refine lv_aload_n hx hb d_13_56_0 rfl (lv_at hl 0 rfl) ?_
  have hPc := hP.sub (ws' := []) [] rfl
  have hDc := hD.sub (ws' := []) [] (by decide) rfl
  have hFc := va_free (wc := []) hD hS hA [] rfl
  refine va_calli (va_runV (As := []) (rest := []) ⟨hx, hb, hml, hown, hts⟩ (g_String_isLatin1 l D kI kJ kB kZ _ (sA) (sV) (i) (by first | assumption | omega)) (cwV 0 hts (gT_V m_169 m_170 m_171 m_122 (gT_ws m_172)) rfl rfl rfl (by decide +kernel) ⟨(Nat.le_of_ble_eq_true rfl), (Nat.le_of_ble_eq_true rfl)⟩) ⟨xBlind (xOk_E sA sV), (xE_O hE i hi hS), xAt (xOk_E sA sV) hK hPc hDc hS hFc hE⟩ rfl rfl hl.1 rfl (lv_room (Nat.le_of_ble_eq_true rfl)) d_13_56_1 ⟨(Nat.le_of_ble_eq_true rfl), (Nat.le_of_ble_eq_true rfl)⟩) hS (fun q _ h => hFc q h) hFc (fun r_1 u t H1 locs ht hvm hw_2 hB hz1 hk1 hS => ?_)
  clear hz1
  obtain ⟨hP, hD⟩ := xJoin (wr := []) (w1 := []) hP hD [] [] rfl rfl (by decide) (by decide) hk1 hFc ht hB
  generalize H1 = H at hP hS ⊢
  have hP : va_P D cls9 [] H := hP
  have hD : va_D A [] := hD
  refine xtopi (v := 1) hw_2 ?_
  refine lv_if_eq (tgt := 16) hx hb d_13_56_4 (by decide +kernel) (fun c_3 => ?_) (fun c_3 => ?_)
  · exact absurd c_3 (by decide +kernel)
  refine lv_aload_n hx hb d_13_56_7 rfl (lv_at hl 0 rfl) ?_
  refine vk_getf hx hb (xE_v hE i hi) hS hown (hts _ m_1651) (fun _ h9 => h9) d_13_56_8 ?_
  refine lv_iload_n hx hb d_13_56_11 rfl (lv_at hl 1 rfl) ?_
  have hPc := hP.sub (ws' := []) [] rfl
  have hDc := hD.sub (ws' := []) [] (by decide) rfl
  have hFc := va_free (wc := []) hD hS hA [] rfl
  refine va_calli (va_runS (As := [.ref (sV i), .int p1]) (rest := []) ⟨hx, hb, hml, hown, hts⟩ (g_StringLatin1_charAt l D kI kJ kB kZ _ (p1) (sA) (sV) (i) (by first | assumption | omega) (by first | assumption | omega) (by first | assumption | omega)) (va_cwS 2 hts (gT_S m_173 m_174 m_123 (gT_ws m_175)) rfl rfl rfl (by decide +kernel) ⟨(Nat.le_of_ble_eq_true rfl), (Nat.le_of_ble_eq_true rfl)⟩) ⟨xBlind (xOk_E sA sV), xAt (xOk_E sA sV) hK hPc hDc hS hFc hE⟩ rfl rfl hl.1 rfl (lv_room (Nat.le_of_ble_eq_true rfl)) d_13_56_12 ⟨(Nat.le_of_ble_eq_true rfl), (Nat.le_of_ble_eq_true rfl)⟩) hS (fun q _ h => hFc q h) hFc (fun r_4 u t H1 locs ht hvm hw_5 hB hz1 hk1 hS => ?_)
  clear hz1
  obtain ⟨hP, hD⟩ := xJoin (wr := []) (w1 := []) hP hD [] [] rfl rfl (by decide) (by decide) hk1 hFc ht hB
  generalize H1 = H at hP hS ⊢
  have hP : va_P D cls9 [] H := hP
  have hD : va_D A [] := hD
  have hw_5 : narrow .char (.int r_4) = .int r_4 := hw_5
  have hP9 := hP.sub (ws' := []) [] rfl
  have hD9 := hD.sub (ws' := []) [] (by decide) rfl
  have hrp : narrow .char (.int r_4) = .int r_4 := by first |  omega | assumption | exact pk_nc _ | exact Or.inl ⟨by omega, by omega, by assumption⟩ | exact Or.inr ⟨by omega, by decide +kernel⟩ | exact fun h9 => absurd h9 (by omega) | exact fun _ => isH_no1 (by omega) | exact fun _ => isH_no2 (by assumption) (by assumption) (by omega) | (intro h9; omega) | (intro h8 h9; omega)
  exact W.zret (v := r_4) (ty := .char) hx hb hr (by first | assumption | exact pk_nc _) (fun t ht hW => ⟨⟨r_4, (), rfl, hrp, xEnd hK hP9 hD9 ht hW⟩, hS.F ht⟩) hS.2.2 d_13_56_15
set_option maxHeartbeats 8000000 in
set_option maxRecDepth 100000 in
theorem g_StringLatin1_canEncode (l : Launch) (D : va_G) (kI kJ kB kZ : ClassId) (sz : Nat) (p1 : Int32)  : Met l (⟨"java/lang/StringLatin1", "canEncode", "(I)Z"⟩ : MethodName) (Cond.code (⟨"java/lang/StringLatin1", "canEncode", "(I)Z"⟩ : MethodName) prog_14_method_4_code 1 (some .boolean) :: gT) ({ frames := 0, cells := 0, slots := 0, locals := 0 }) (va_Pc [.int p1] (xP D (xT kI kJ kB kZ) xN [] sz)) (va_Qi (fun (r : Int32) (_ : Unit) => True) (fun _ t => xQ D (xT kI kJ kB kZ) (va_A [] sz) [] t) (va_A [] sz)) 0 0 (va_A [] sz) := by
  refine Met.ofW (cc := prog_14_method_4_code) (maxL := 1) (ret := some .boolean) (by decide +kernel) rfl ?_
  intro p e s m args below meth c s₁ B hml hv
  obtain ⟨rfl, hsz, hP, hK, hD0, hE⟩ := hv
  have hx := B.exec
  have hb := B.bytes
  have hr := B.returns
  have hts : ∀ w ∈ gT, w.before _ s = true := fun w h => atoms_spec (ws := Cond.code (⟨"java/lang/StringLatin1", "canEncode", "(I)Z"⟩ : MethodName) prog_14_method_4_code 1 (some .boolean) :: gT) B.pre w (List.mem_cons_of_mem _ h)
  have hown : s.vm.findClass "java/lang/StringLatin1" = some m.cls := findClass_of_methodNamed B.named
  have hlocks := B.notSynchronized
  subst hsz
  have hD := hD0.self (sz := s.heap.size)
  generalize hAe : va_A [] s.heap.size = A at hD hE ⊢
  have hA : ∀ q : Nat, s.heap.size ≤ q → A q := fun q h => by rw [← hAe]; exact Or.inr h
  have hS : va_S A s.heap s.heap [] := va_S.rf
  have hP : va_P D cls9 [] s.heap := hP
  have hl := lv_entry ([.int p1]) (n := 1) (Nat.le_of_ble_eq_true rfl)
  rw [lg_entry_eq]
  generalize (lg_sl ([.int p1]) ++ List.replicate (1 - (lg_sl ([.int p1])).length) Slot.unset).toArray = ls at hl ⊢
  have hl : lv_has ls 1 [(0, .int p1)] := hl
  refine lv_iload_n hx hb d_14_4_0 rfl (lv_at hl 0 rfl) ?_
  refine lv_if_lt (tgt := 15) hx hb d_14_4_1 (by decide +kernel) (fun c_1 => ?_) (fun c_1 => ?_)
  · skip
    have tc_1 : p1.toInt < 0 := Int32.lt_iff_toInt_lt.mp c_1
    refine lv_iconst (v := 0) hx hb d_14_4_15 (by decide +kernel) ?_
    have hP9 := hP.sub (ws' := []) [] rfl
    have hD9 := hD.sub (ws' := []) [] (by decide) rfl
    exact W.zret (v := 0) (ty := .boolean) hx hb hr (by decide +kernel) (fun t ht hW => ⟨⟨0, (), rfl, trivial, xEnd hK hP9 hD9 ht hW⟩, hS.F ht⟩) hS.2.2 d_14_4_16
  · skip
    have tc_1 : ¬ p1.toInt < 0 := fun h9 => c_1 (Int32.lt_iff_toInt_lt.mpr h9)
    refine lv_iload_n hx hb d_14_4_4 rfl (lv_at hl 0 rfl) ?_
    refine lv_sipush (v := 255) hx hb d_14_4_5 (by decide +kernel) ?_
    refine lv_icmp_gt (tgt := 15) hx hb d_14_4_8 (by decide +kernel) (fun c_2 => ?_) (fun c_2 => ?_)
    · skip
      have tc_2 : 255 < p1.toInt := Int32.lt_iff_toInt_lt.mp c_2
      refine lv_iconst (v := 0) hx hb d_14_4_15 (by decide +kernel) ?_
      have hP9 := hP.sub (ws' := []) [] rfl
      have hD9 := hD.sub (ws' := []) [] (by decide) rfl
      exact W.zret (v := 0) (ty := .boolean) hx hb hr (by decide +kernel) (fun t ht hW => ⟨⟨0, (), rfl, trivial, xEnd hK hP9 hD9 ht hW⟩, hS.F ht⟩) hS.2.2 d_14_4_16
    · skip
      have tc_2 : ¬ 255 < p1.toInt := fun h9 => c_2 (Int32.lt_iff_toInt_lt.mpr h9)
      refine lv_iconst (v := 1) hx hb d_14_4_11 (by decide +kernel) ?_
      refine lv_goto (tgt := 16) hx hb d_14_4_12 (by decide +kernel) ?_
      have hP9 := hP.sub (ws' := []) [] rfl
      have hD9 := hD.sub (ws' := []) [] (by decide) rfl
      exact W.zret (v := 1) (ty := .boolean) hx hb hr (by decide +kernel) (fun t ht hW => ⟨⟨1, (), rfl, trivial, xEnd hK hP9 hD9 ht hW⟩, hS.F ht⟩) hS.2.2 d_14_4_16
set_option maxHeartbeats 8000000 in
set_option maxRecDepth 100000 in
theorem g_StringLatin1_indexOfChar (l : Launch) (D : va_G) (kI kJ kB kZ : ClassId) (sz : Nat) (p2 : Int32) (p3 : Int32) (p4 : Int32) (sA : Nat → Nat) (sV : Nat → Nat) (i : Nat) (hq_0 : 0 ≤ p3.toInt) (hq_1 : p4.toInt ≤ sN i) (hi : i < 47) : Met l (⟨"java/lang/StringLatin1", "indexOfChar", "([BIII)I"⟩ : MethodName) (Cond.code (⟨"java/lang/StringLatin1", "indexOfChar", "([BIII)I"⟩ : MethodName) prog_14_method_23_code 6 (some .int) :: gT) ({ frames := 0, cells := 0, slots := 0, locals := 0 }) (va_Pc [.ref (sV i), .int p2, .int p3, .int p4] (xP D (xT kI kJ kB kZ) (xE sA sV) [] sz)) (va_Qi (fun (r : Int32) (_ : Unit) => True) (fun _ t => xQ D (xT kI kJ kB kZ) (va_A [] sz) [] t) (va_A [] sz)) 0 0 (va_A [] sz) := by
  refine Met.ofW (cc := prog_14_method_23_code) (maxL := 6) (ret := some .int) (by decide +kernel) rfl ?_
  intro p e s m args below meth c s₁ B hml hv
  obtain ⟨rfl, hsz, hP, hK, hD0, hE⟩ := hv
  have hx := B.exec
  have hb := B.bytes
  have hr := B.returns
  have hts : ∀ w ∈ gT, w.before _ s = true := fun w h => atoms_spec (ws := Cond.code (⟨"java/lang/StringLatin1", "indexOfChar", "([BIII)I"⟩ : MethodName) prog_14_method_23_code 6 (some .int) :: gT) B.pre w (List.mem_cons_of_mem _ h)
  have hown : s.vm.findClass "java/lang/StringLatin1" = some m.cls := findClass_of_methodNamed B.named
  have hlocks := B.notSynchronized
  subst hsz
  have hD := hD0.self (sz := s.heap.size)
  generalize hAe : va_A [] s.heap.size = A at hD hE ⊢
  have hA : ∀ q : Nat, s.heap.size ≤ q → A q := fun q h => by rw [← hAe]; exact Or.inr h
  have hS : va_S A s.heap s.heap [] := va_S.rf
  have hP : va_P D cls9 [] s.heap := hP
  have hl := lv_entry ([.ref (sV i), .int p2, .int p3, .int p4]) (n := 6) (Nat.le_of_ble_eq_true rfl)
  rw [lg_entry_eq]
  generalize (lg_sl ([.ref (sV i), .int p2, .int p3, .int p4]) ++ List.replicate (6 - (lg_sl ([.ref (sV i), .int p2, .int p3, .int p4])).length) Slot.unset).toArray = ls at hl ⊢
  have hl : lv_has ls 6 [(0, .ref (sV i)), (1, .int p2), (2, .int p3), (3, .int p4)] := hl
  have hsn := sN_le i hi
  refine lv_iload_n hx hb d_14_23_0 rfl (lv_at hl 1 rfl) ?_
  refine lv_i2b (v := (p2.toInt8.toInt32)) hx hb d_14_23_1 rfl ?_
  refine lv_istore (lv' := [(4, .int (p2.toInt8.toInt32)), (0, .ref (sV i)), (1, .int p2), (2, .int p3), (3, .int p4)]) hx hb d_14_23_2 hl (by decide +kernel) rfl (fun ls hl => ?_)
  refine lv_iload_n hx hb d_14_23_4 rfl (lv_at hl 3 rfl) ?_
  refine lv_istore (lv' := [(5, .int p3), (4, .int (p2.toInt8.toInt32)), (0, .ref (sV i)), (1, .int p2), (2, .int p3), (3, .int p4)]) hx hb d_14_23_5 hl (by decide +kernel) rfl (fun ls hl => ?_)
  refine xLoop (I := fun n H locs ls => ∃ v7_5 : Int32, (0 ≤ v7_5.toInt) ∧ n = (p4.toInt - v7_5.toInt).toNat ∧ va_P D cls9 [] H ∧ va_D A [] ∧ va_S A s.heap H locs ∧ lv_has ls 6 [(5, .int v7_5), (4, .int (p2.toInt8.toInt32)), (0, .ref (sV i)), (1, .int p2), (2, .int p3), (3, .int p4)]) ?_ _ _ _ _ ⟨p3, (show 0 ≤ p3.toInt from (by first | assumption | omega)), rfl, hP.sub (ws' := []) [] rfl, hD.sub (ws' := []) [] (by decide) rfl, hS, lv_sub hl [0, 1, 2, 3, 4, 5] rfl⟩
  intro n_2 H locs ls hI9 ih_3
  obtain ⟨v7_5, hl_1, hn_2, hP, hD, hS, hl⟩ := hI9
  refine lv_iload hx hb d_14_23_7 (lv_at hl 0 rfl) ?_
  refine lv_iload_n hx hb d_14_23_9 rfl (lv_at hl 5 rfl) ?_
  refine lv_icmp_ge (tgt := 31) hx hb d_14_23_10 (by decide +kernel) (fun c_4 => ?_) (fun c_4 => ?_)
  · skip
    have tc_4 : p4.toInt ≤ v7_5.toInt := Int32.le_iff_toInt_le.mp c_4
    refine lv_iconst (v := (-1)) hx hb d_14_23_31 (by decide +kernel) ?_
    have hP9 := hP.sub (ws' := []) [] rfl
    have hD9 := hD.sub (ws' := []) [] (by decide) rfl
    exact W.iret (v := (-1)) hx hb hr (fun t ht hW => ⟨⟨(-1), (), rfl, trivial, xEnd hK hP9 hD9 ht hW⟩, hS.F ht⟩) hS.2.2 d_14_23_32
  · skip
    have tc_4 : ¬ p4.toInt ≤ v7_5.toInt := fun h9 => c_4 (Int32.le_iff_toInt_le.mpr h9)
    refine lv_aload_n hx hb d_14_23_13 rfl (lv_at hl 2 rfl) ?_
    refine lv_iload hx hb d_14_23_14 (lv_at hl 0 rfl) ?_
    refine va_tb hx hb (xE_T hE i hi) hS (vp_in_iff.mpr ⟨by omega, by omega⟩) rfl d_14_23_16 ?_
    refine lv_topi (fun z_5 ez_5 => ?_)
    refine lv_iload hx hb d_14_23_17 (lv_at hl 1 rfl) ?_
    refine lv_icmp_ne (tgt := 25) hx hb d_14_23_19 (by decide +kernel) (fun c_6 => ?_) (fun c_6 => ?_)
    · skip
      have tc_6 : ¬ z_5.toInt = (p2.toInt8.toInt32).toInt := fun h9 => c_6 (Int32.toInt_inj.mp h9)
      obtain ⟨y_7, ey_7⟩ : ∃ y : Int32, y = v7_5 + 1 := ⟨_, rfl⟩
      have ty_7 : y_7.toInt = v7_5.toInt + 1 := by rw [ey_7]; exact zaddc (by decide +kernel) (by omega) (by omega)
      refine lv_iinc (v := y_7) (lv' := [(5, .int y_7), (4, .int (p2.toInt8.toInt32)), (0, .ref (sV i)), (1, .int p2), (2, .int p3), (3, .int p4)]) hx hb d_14_23_25 hl (k := 0) rfl (by rw [ey_7]; rfl) (by decide +kernel) rfl (fun ls hl => ?_)
      refine lv_goto (tgt := 7) hx hb d_14_23_28 (by decide +kernel) ?_
      exact ih_3 _ _ _ _ (by omega) ⟨y_7, (show 0 ≤ y_7.toInt from (by first | assumption | omega)), rfl, hP.sub (ws' := []) [] rfl, hD.sub (ws' := []) [] (by decide) rfl, hS, lv_sub hl [0, 1, 2, 3, 4, 5] rfl⟩
    · skip
      have tc_6 : z_5.toInt = (p2.toInt8.toInt32).toInt := congrArg Int32.toInt c_6
      refine lv_iload hx hb d_14_23_22 (lv_at hl 0 rfl) ?_
      have hP9 := hP.sub (ws' := []) [] rfl
      have hD9 := hD.sub (ws' := []) [] (by decide) rfl
      exact W.iret (v := v7_5) hx hb hr (fun t ht hW => ⟨⟨v7_5, (), rfl, trivial, xEnd hK hP9 hD9 ht hW⟩, hS.F ht⟩) hS.2.2 d_14_23_24
set_option maxHeartbeats 8000000 in
set_option maxRecDepth 100000 in
theorem g_StringLatin1_indexOf (l : Launch) (D : va_G) (kI kJ kB kZ : ClassId) (sz : Nat) (p2 : Int32) (p3 : Int32) (p4 : Int32) (sA : Nat → Nat) (sV : Nat → Nat) (i : Nat) (hi : i < 47) : Met l (⟨"java/lang/StringLatin1", "indexOf", "([BIII)I"⟩ : MethodName) (Cond.code (⟨"java/lang/StringLatin1", "indexOf", "([BIII)I"⟩ : MethodName) prog_14_method_22_code 4 (some .int) :: gT) ({ frames := 1, cells := 0, slots := 0, locals := 25 }) (va_Pc [.ref (sV i), .int p2, .int p3, .int p4] (xP D (xT kI kJ kB kZ) (xE sA sV) [] sz)) (va_Qi (fun (r : Int32) (_ : Unit) => True) (fun _ t => xQ D (xT kI kJ kB kZ) (va_A [] sz) [] t) (va_A [] sz)) 0 0 (va_A [] sz) := by
  refine Met.ofW (cc := prog_14_method_22_code) (maxL := 4) (ret := some .int) (by decide +kernel) rfl ?_
  intro p e s m args below meth c s₁ B hml hv
  obtain ⟨rfl, hsz, hP, hK, hD0, hE⟩ := hv
  have hx := B.exec
  have hb := B.bytes
  have hr := B.returns
  have hts : ∀ w ∈ gT, w.before _ s = true := fun w h => atoms_spec (ws := Cond.code (⟨"java/lang/StringLatin1", "indexOf", "([BIII)I"⟩ : MethodName) prog_14_method_22_code 4 (some .int) :: gT) B.pre w (List.mem_cons_of_mem _ h)
  have hown : s.vm.findClass "java/lang/StringLatin1" = some m.cls := findClass_of_methodNamed B.named
  have hlocks := B.notSynchronized
  subst hsz
  have hD := hD0.self (sz := s.heap.size)
  generalize hAe : va_A [] s.heap.size = A at hD hE ⊢
  have hA : ∀ q : Nat, s.heap.size ≤ q → A q := fun q h => by rw [← hAe]; exact Or.inr h
  have hS : va_S A s.heap s.heap [] := va_S.rf
  have hP : va_P D cls9 [] s.heap := hP
  have hl := lv_entry ([.ref (sV i), .int p2, .int p3, .int p4]) (n := 4) (Nat.le_of_ble_eq_true rfl)
  rw [lg_entry_eq]
  generalize (lg_sl ([.ref (sV i), .int p2, .int p3, .int p4]) ++ List.replicate (4 - (lg_sl ([.ref (sV i), .int p2, .int p3, .int p4])).length) Slot.unset).toArray = ls at hl ⊢
  have hl : lv_has ls 4 [(0, .ref (sV i)), (1, .int p2), (2, .int p3), (3, .int p4)] := hl
  refine lv_iload_n hx hb d_14_22_0 rfl (lv_at hl 1 rfl) ?_
  have hPc := hP.sub (ws' := []) [] rfl
  have hDc := hD.sub (ws' := []) [] (by decide) rfl
  have hFc := va_free (wc := []) hD hS hA [] rfl
  refine va_calli (va_runS (As := [.int p2]) (rest := []) ⟨hx, hb, hml, hown, hts⟩ (g_StringLatin1_canEncode l D kI kJ kB kZ _ (p2) ) (va_cwS 1 hts (gT_S m_497 m_498 m_123 (gT_ws m_499)) rfl rfl rfl (by decide +kernel) ⟨(Nat.le_of_ble_eq_true rfl), (Nat.le_of_ble_eq_true rfl)⟩) ⟨xBlind xOk_N, xAtN hK hPc hDc⟩ rfl rfl hl.1 rfl (lv_room (Nat.le_of_ble_eq_true rfl)) d_14_22_1 ⟨(Nat.le_of_ble_eq_true rfl), (Nat.le_of_ble_eq_true rfl)⟩) hS (fun q _ h => hFc q h) hFc (fun r_1 u t H1 locs ht hvm hw_2 hB hz1 hk1 hS => ?_)
  clear hz1
  obtain ⟨hP, hD⟩ := xJoin (wr := []) (w1 := []) hP hD [] [] rfl rfl (by decide) (by decide) hk1 hFc ht hB
  generalize H1 = H at hP hS ⊢
  have hP : va_P D cls9 [] H := hP
  have hD : va_D A [] := hD
  refine lv_if_ne (tgt := 9) hx hb d_14_22_4 (by decide +kernel) (fun c_3 => ?_) (fun c_3 => ?_)
  · skip
    have tc_3 : ¬ r_1.toInt = 0 := fun h9 => c_3 (Int32.toInt_inj.mp h9)
    refine lv_iload_n hx hb d_14_22_9 rfl (lv_at hl 2 rfl) ?_
    refine lv_iconst (v := 0) hx hb d_14_22_10 (by decide +kernel) ?_
    refine va_mmax hx hb (by rw [hml]; exact hl.1.symm) hown (hts _ m_500) (hts _ m_501) (hts _ m_133) (hts _ m_max) (Nat.le_of_ble_eq_true rfl) (Nat.le_of_ble_eq_true rfl) (Nat.le_of_ble_eq_true rfl) (Nat.le_of_ble_eq_true rfl) d_14_22_11 ?_
    refine lv_topi (fun y_4 ey_4 => ?_)
    have ty_4 := zmax ey_4
    rw [show (0 : Int32).toInt = 0 from (by decide +kernel)] at ty_4
    refine lv_istore_n (lv' := [(2, .int y_4), (0, .ref (sV i)), (1, .int p2), (3, .int p4)]) hx hb d_14_22_14 rfl hl (by decide +kernel) rfl (fun ls hl => ?_)
    refine lv_iload_n hx hb d_14_22_15 rfl (lv_at hl 3 rfl) ?_
    refine lv_aload_n hx hb d_14_22_16 rfl (lv_at hl 1 rfl) ?_
    refine va_tlen (v := nI (sN i)) hx hb (xE_T hE i hi) hS rfl d_14_22_17 ?_
    refine lv_topi (fun y_5 ey_5 => ?_)
    have ty_5 : y_5.toInt = sN i := by rw [ey_5]; exact sN_toInt i hi
    have uy_5 : sN i ≤ 140 := sN_le i hi
    refine va_mmin hx hb (by rw [hml]; exact hl.1.symm) hown (hts _ m_503) (hts _ m_504) (hts _ m_133) (hts _ m_min) (Nat.le_of_ble_eq_true rfl) (Nat.le_of_ble_eq_true rfl) (Nat.le_of_ble_eq_true rfl) (Nat.le_of_ble_eq_true rfl) d_14_22_18 ?_
    refine lv_topi (fun y_6 ey_6 => ?_)
    have ty_6 := zmin ey_6
    refine lv_istore_n (lv' := [(3, .int y_6), (2, .int y_4), (0, .ref (sV i)), (1, .int p2)]) hx hb d_14_22_21 rfl hl (by decide +kernel) rfl (fun ls hl => ?_)
    refine lv_iload_n hx hb d_14_22_22 rfl (lv_at hl 1 rfl) ?_
    refine lv_iload_n hx hb d_14_22_23 rfl (lv_at hl 0 rfl) ?_
    refine lv_icmp_lt (tgt := 29) hx hb d_14_22_24 (by decide +kernel) (fun c_7 => ?_) (fun c_7 => ?_)
    · skip
      have tc_7 : y_4.toInt < y_6.toInt := Int32.lt_iff_toInt_lt.mp c_7
      refine lv_aload_n hx hb d_14_22_29 rfl (lv_at hl 2 rfl) ?_
      refine lv_iload_n hx hb d_14_22_30 rfl (lv_at hl 3 rfl) ?_
      refine lv_iload_n hx hb d_14_22_31 rfl (lv_at hl 1 rfl) ?_
      refine lv_iload_n hx hb d_14_22_32 rfl (lv_at hl 0 rfl) ?_
      have hPc := hP.sub (ws' := []) [] rfl
      have hDc := hD.sub (ws' := []) [] (by decide) rfl
      have hFc := va_free (wc := []) hD hS hA [] rfl
      refine va_calli (va_runS (As := [.ref (sV i), .int p2, .int y_4, .int y_6]) (rest := []) ⟨hx, hb, hml, hown, hts⟩ (g_StringLatin1_indexOfChar l D kI kJ kB kZ _ (p2) (y_4) (y_6) (sA) (sV) (i) (by first | assumption | omega) (by first | assumption | omega) (by first | assumption | omega)) (va_cwS 4 hts (gT_S m_506 m_507 m_123 (gT_ws m_508)) rfl rfl rfl (by decide +kernel) ⟨(Nat.le_of_ble_eq_true rfl), (Nat.le_of_ble_eq_true rfl)⟩) ⟨xBlind (xOk_E sA sV), xAt (xOk_E sA sV) hK hPc hDc hS hFc hE⟩ rfl rfl hl.1 rfl (lv_room (Nat.le_of_ble_eq_true rfl)) d_14_22_33 ⟨(Nat.le_of_ble_eq_true rfl), (Nat.le_of_ble_eq_true rfl)⟩) hS (fun q _ h => hFc q h) hFc (fun r_8 u t H1 locs ht hvm hw_9 hB hz1 hk1 hS => ?_)
      clear hz1
      obtain ⟨hP, hD⟩ := xJoin (wr := []) (w1 := []) hP hD [] [] rfl rfl (by decide) (by decide) hk1 hFc ht hB
      generalize H1 = H at hP hS ⊢
      have hP : va_P D cls9 [] H := hP
      have hD : va_D A [] := hD
      have hP9 := hP.sub (ws' := []) [] rfl
      have hD9 := hD.sub (ws' := []) [] (by decide) rfl
      exact W.iret (v := r_8) hx hb hr (fun t ht hW => ⟨⟨r_8, (), rfl, trivial, xEnd hK hP9 hD9 ht hW⟩, hS.F ht⟩) hS.2.2 d_14_22_36
    · skip
      have tc_7 : ¬ y_4.toInt < y_6.toInt := fun h9 => c_7 (Int32.lt_iff_toInt_lt.mpr h9)
      refine lv_iconst (v := (-1)) hx hb d_14_22_27 (by decide +kernel) ?_
      have hP9 := hP.sub (ws' := []) [] rfl
      have hD9 := hD.sub (ws' := []) [] (by decide) rfl
      exact W.iret (v := (-1)) hx hb hr (fun t ht hW => ⟨⟨(-1), (), rfl, trivial, xEnd hK hP9 hD9 ht hW⟩, hS.F ht⟩) hS.2.2 d_14_22_28
  · skip
    have tc_3 : r_1.toInt = 0 := congrArg Int32.toInt c_3
    refine lv_iconst (v := (-1)) hx hb d_14_22_7 (by decide +kernel) ?_
    have hP9 := hP.sub (ws' := []) [] rfl
    have hD9 := hD.sub (ws' := []) [] (by decide) rfl
    exact W.iret (v := (-1)) hx hb hr (fun t ht hW => ⟨⟨(-1), (), rfl, trivial, xEnd hK hP9 hD9 ht hW⟩, hS.F ht⟩) hS.2.2 d_14_22_8
