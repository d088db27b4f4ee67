set_option maxHeartbeats 8000000 in
set_option maxRecDepth 100000 in
theorem g_Tokens_seesLeft (l : Launch) (D : va_G) (kI kJ kB kZ : ClassId) (sz : Nat) (h2 : Nat) (h9 : Nat) (h10 : Nat) (h11 : Nat) (h12 : Nat) (tc : Int32) (ta : Int32) (td : Int32) (tf : Int32) (f9 : Nat → Int32) (f10 : Nat → Int32) (f11 : Nat → Int64) (f12 : Nat → Int64) (hf_T1 : 1 ≤ tc.toInt) (hf_T2 : tc.toInt ≤ 3001) (hf_T3 : 0 ≤ ta.toInt) (hf_T4 : ta.toInt < tc.toInt) (hf_T5 : tf.toInt = -2 → 0 ≤ td.toInt ∧ td.toInt ≤ 20) (hf_T6 : ∀ j : Nat, 0 ≤ (f10 j).toInt ∧ (f10 j).toInt ≤ 3000) (hf_T8 : tL f9 tc) : Met l (⟨"AlgolJudge$Tokens", "seesLeft", "()Z"⟩ : MethodName) (Cond.code (⟨"AlgolJudge$Tokens", "seesLeft", "()Z"⟩ : MethodName) prog_8_method_29_code 3 (some .boolean) :: gT) ({ frames := 2, cells := 0, slots := 0, locals := 41 }) (va_Pc [.ref h2] (xP D (xT kI kJ kB kZ) xN [(h2, .inr (0, [.ref h9, .ref h10, .ref h11, .ref h12, .int tc, .int ta, .int td, .int tf])), (h9, .inl (kI, 3001, .inl f9)), (h10, .inl (kI, 3001, .inl f10)), (h11, .inl (kJ, 3001, .inr (.inl f11))), (h12, .inl (kJ, 27, .inr (.inl f12)))] sz)) (va_Qi (fun (r : Int32) (u : Int32) => r = u ∧ (True)) (fun u t => ((u.toInt = 1 ∧ tf.toInt = -2 ∧ gLfT (kC f9 tc) ta.toInt = true) ∨ (u.toInt = 0 ∧ (tf.toInt = -2 → ¬ gLfT (kC f9 tc) ta.toInt = true))) ∧ xQ D (xT kI kJ kB kZ) (va_A [(h2, .inr (0, [.ref h9, .ref h10, .ref h11, .ref h12, .int tc, .int ta, .int td, .int tf])), (h9, .inl (kI, 3001, .inl f9)), (h10, .inl (kI, 3001, .inl f10)), (h11, .inl (kJ, 3001, .inr (.inl f11))), (h12, .inl (kJ, 27, .inr (.inl f12)))] sz) [(h2, .inr (0, [.ref h9, .ref h10, .ref h11, .ref h12, .int tc, .int ta, .int td, .int tf])), (h9, .inl (kI, 3001, .inl f9)), (h10, .inl (kI, 3001, .inl f10)), (h11, .inl (kJ, 3001, .inr (.inl f11))), (h12, .inl (kJ, 27, .inr (.inl f12)))] t) (va_A [(h2, .inr (0, [.ref h9, .ref h10, .ref h11, .ref h12, .int tc, .int ta, .int td, .int tf])), (h9, .inl (kI, 3001, .inl f9)), (h10, .inl (kI, 3001, .inl f10)), (h11, .inl (kJ, 3001, .inr (.inl f11))), (h12, .inl (kJ, 27, .inr (.inl f12)))] sz)) 0 0 (va_A [(h2, .inr (0, [.ref h9, .ref h10, .ref h11, .ref h12, .int tc, .int ta, .int td, .int tf])), (h9, .inl (kI, 3001, .inl f9)), (h10, .inl (kI, 3001, .inl f10)), (h11, .inl (kJ, 3001, .inr (.inl f11))), (h12, .inl (kJ, 27, .inr (.inl f12)))] sz) := by
  refine Met.ofW (cc := prog_8_method_29_code) (maxL := 3) (ret := some .boolean) (by decide +kernel) rfl ?_
  intro p e s m args below meth c s₁ B hml hv
  obtain ⟨rfl, hsz, hP, hK, hD0, hE⟩ := hv
  have hx := B.exec
  have hb := B.bytes
  have hr := B.returns
  have hts : ∀ w ∈ gT, w.before _ s = true := fun w h => atoms_spec (ws := Cond.code (⟨"AlgolJudge$Tokens", "seesLeft", "()Z"⟩ : MethodName) prog_8_method_29_code 3 (some .boolean) :: gT) B.pre w (List.mem_cons_of_mem _ h)
  have hown : s.vm.findClass "AlgolJudge$Tokens" = some m.cls := findClass_of_methodNamed B.named
  have hlocks := B.notSynchronized
  subst hsz
  have hD := hD0.self (sz := s.heap.size)
  generalize hAe : va_A [(h2, .inr (0, [.ref h9, .ref h10, .ref h11, .ref h12, .int tc, .int ta, .int td, .int tf])), (h9, .inl (kI, 3001, .inl f9)), (h10, .inl (kI, 3001, .inl f10)), (h11, .inl (kJ, 3001, .inr (.inl f11))), (h12, .inl (kJ, 27, .inr (.inl f12)))] s.heap.size = A at hD hE ⊢
  have hA : ∀ q : Nat, s.heap.size ≤ q → A q := fun q h => by rw [← hAe]; exact Or.inr h
  have hS : va_S A s.heap s.heap [] := va_S.rf
  have hP : va_P D cls9 [(h2, .inr (0, [.ref h9, .ref h10, .ref h11, .ref h12, .int tc, .int ta, .int td, .int tf])), (h9, .inl (kI, 3001, .inl f9)), (h10, .inl (kI, 3001, .inl f10)), (h11, .inl (kJ, 3001, .inr (.inl f11))), (h12, .inl (kJ, 27, .inr (.inl f12)))] s.heap := hP
  have hl := lv_entry ([.ref h2]) (n := 3) (Nat.le_of_ble_eq_true rfl)
  rw [lg_entry_eq]
  generalize (lg_sl ([.ref h2]) ++ List.replicate (3 - (lg_sl ([.ref h2])).length) Slot.unset).toArray = ls at hl ⊢
  have hl : lv_has ls 3 [(0, .ref h2)] := hl
  refine lv_aload_n hx hb d_8_29_0 rfl (lv_at hl 0 rfl) ?_
  refine lv_bipush (v := 27) hx hb d_8_29_1 (by decide +kernel) ?_
  have hPc := hP.sub (ws' := [(h2, .inr (0, [.ref h9, .ref h10, .ref h11, .ref h12, .int tc, .int ta, .int td, .int tf])), (h9, .inl (kI, 3001, .inl f9)), (h10, .inl (kI, 3001, .inl f10)), (h11, .inl (kJ, 3001, .inr (.inl f11))), (h12, .inl (kJ, 27, .inr (.inl f12)))]) [0, 1, 2, 3, 4] rfl
  have hDc := hD.sub (ws' := [(h2, .inr (0, [.ref h9, .ref h10, .ref h11, .ref h12, .int tc, .int ta, .int td, .int tf])), (h9, .inl (kI, 3001, .inl f9)), (h10, .inl (kI, 3001, .inl f10)), (h11, .inl (kJ, 3001, .inr (.inl f11))), (h12, .inl (kJ, 27, .inr (.inl f12)))]) [0, 1, 2, 3, 4] (by decide) rfl
  have hFc := va_free (wc := [(h2, .inr (0, [.ref h9, .ref h10, .ref h11, .ref h12, .int tc, .int ta, .int td, .int tf])), (h9, .inl (kI, 3001, .inl f9)), (h10, .inl (kI, 3001, .inl f10)), (h11, .inl (kJ, 3001, .inr (.inl f11))), (h12, .inl (kJ, 27, .inr (.inl f12)))]) hD hS hA [0, 1, 2, 3, 4] rfl
  refine va_calli (va_runV (As := [.int 27]) (rest := []) ⟨hx, hb, hml, hown, hts⟩ (g_Tokens_sees l D kI kJ kB kZ _ (h2) (h9) (h10) (h11) (h12) (tc) (ta) (td) (tf) (f9) (f10) (f11) (f12) ((27 : Int32)) hf_T1 hf_T2 hf_T3 hf_T4 hf_T5 hf_T6 hf_T8) (cwV 1 hts (gT_V m_811 m_617 m_618 m_121 (gT_ws m_619)) rfl rfl rfl (by decide +kernel) ⟨(Nat.le_of_ble_eq_true rfl), (Nat.le_of_ble_eq_true rfl)⟩) ⟨xBlind xOk_N, va_recv hK hP (ci := 0) (q0 := 0) rfl rfl, xAtN hK hPc hDc⟩ rfl rfl hl.1 rfl (lv_room (Nat.le_of_ble_eq_true rfl)) d_8_29_3 ⟨(Nat.le_of_ble_eq_true rfl), (Nat.le_of_ble_eq_true rfl)⟩) hS (fun q _ h => hFc q h) hFc (fun r_1 u t H locs ht hvm hw_2 hB hz1 hk1 hS => ?_)
  clear hz1
  obtain ⟨hu9, hw_2⟩ := hw_2
  subst hu9
  revert hB
  refine anI fun hb_3 => fun hB => ?_
  have hb_3 : (r_1.toInt = 1 ∧ (kA f9 tc ta tf = (27 : Int))) ∨ (r_1.toInt = 0 ∧ ¬ (kA f9 tc ta tf = (27 : Int))) := hb_3
  have hPD := xJoin (wr := []) (w1 := [(h2, .inr (0, [.ref h9, .ref h10, .ref h11, .ref h12, .int tc, .int ta, .int td, .int tf])), (h9, .inl (kI, 3001, .inl f9)), (h10, .inl (kI, 3001, .inl f10)), (h11, .inl (kJ, 3001, .inr (.inl f11))), (h12, .inl (kJ, 27, .inr (.inl f12)))]) hP hD [0, 1, 2, 3, 4] [] rfl rfl (by decide) (by decide) hk1 hFc ht hB
  replace hP : va_P D cls9 [(h2, .inr (0, [.ref h9, .ref h10, .ref h11, .ref h12, .int tc, .int ta, .int td, .int tf])), (h9, .inl (kI, 3001, .inl f9)), (h10, .inl (kI, 3001, .inl f10)), (h11, .inl (kJ, 3001, .inr (.inl f11))), (h12, .inl (kJ, 27, .inr (.inl f12)))] H := hPD.1
  replace hD : va_D A [(h2, .inr (0, [.ref h9, .ref h10, .ref h11, .ref h12, .int tc, .int ta, .int td, .int tf])), (h9, .inl (kI, 3001, .inl f9)), (h10, .inl (kI, 3001, .inl f10)), (h11, .inl (kJ, 3001, .inr (.inl f11))), (h12, .inl (kJ, 27, .inr (.inl f12)))] := hPD.2
  clear hPD hB hk1 hPc hDc hFc
  have hw_2 : r_1.toInt = 0 ∨ (27 : Int) = -2 ∨ tf.toInt = -2 := hw_2
  refine lv_if_ne (tgt := 11) hx hb d_8_29_6 (by decide +kernel) (fun c_4 => ?_) (fun c_4 => ?_)
  · skip
    have tc_4 : ¬ r_1.toInt = 0 := fun h9 => c_4 (Int32.toInt_inj.mp h9)
    refine lv_aload_n hx hb d_8_29_11 rfl (lv_at hl 0 rfl) ?_
    have hPc := hP.sub (ws' := [(h2, .inr (0, [.ref h9, .ref h10, .ref h11, .ref h12, .int tc, .int ta, .int td, .int tf])), (h9, .inl (kI, 3001, .inl f9)), (h10, .inl (kI, 3001, .inl f10)), (h11, .inl (kJ, 3001, .inr (.inl f11))), (h12, .inl (kJ, 27, .inr (.inl f12)))]) [0, 1, 2, 3, 4] rfl
    have hDc := hD.sub (ws' := [(h2, .inr (0, [.ref h9, .ref h10, .ref h11, .ref h12, .int tc, .int ta, .int td, .int tf])), (h9, .inl (kI, 3001, .inl f9)), (h10, .inl (kI, 3001, .inl f10)), (h11, .inl (kJ, 3001, .inr (.inl f11))), (h12, .inl (kJ, 27, .inr (.inl f12)))]) [0, 1, 2, 3, 4] (by decide) rfl
    have hFc := va_free (wc := [(h2, .inr (0, [.ref h9, .ref h10, .ref h11, .ref h12, .int tc, .int ta, .int td, .int tf])), (h9, .inl (kI, 3001, .inl f9)), (h10, .inl (kI, 3001, .inl f10)), (h11, .inl (kJ, 3001, .inr (.inl f11))), (h12, .inl (kJ, 27, .inr (.inl f12)))]) hD hS hA [0, 1, 2, 3, 4] rfl
    refine va_calli (va_runV (As := []) (rest := []) ⟨hx, hb, hml, hown, hts⟩ (g_Tokens_next l D kI kJ kB kZ _ (h2) (h9) (h10) (h11) (h12) (tc) (ta) (td) (tf) (f9) (f10) (f11) (f12) hf_T1 hf_T2 hf_T3 hf_T4 hf_T5 hf_T6 hf_T8) (cwV 0 hts (gT_V m_812 m_800 m_801 m_121 (gT_ws m_802)) rfl rfl rfl (by decide +kernel) ⟨(Nat.le_of_ble_eq_true rfl), (Nat.le_of_ble_eq_true rfl)⟩) ⟨xBlind xOk_N, va_recv hK hP (ci := 0) (q0 := 0) rfl rfl, xAtN hK hPc hDc⟩ rfl rfl hl.1 rfl (lv_room (Nat.le_of_ble_eq_true rfl)) d_8_29_12 ⟨(Nat.le_of_ble_eq_true rfl), (Nat.le_of_ble_eq_true rfl)⟩) hS (fun q _ h => hFc q h) hFc (fun r_5 u t H locs ht hvm hw_6 hB hz1 hk1 hS => ?_)
    clear hz1
    obtain ⟨hu9, hw_6⟩ := hw_6
    subst hu9
    revert hB
    refine anI fun hb_7 => fun hB => ?_
    have hb_7 : r_5.toInt = kBn f9 tc ta tf := hb_7
    have hPD := xJoin (wr := []) (w1 := [(h2, .inr (0, [.ref h9, .ref h10, .ref h11, .ref h12, .int tc, .int ta, .int td, .int tf])), (h9, .inl (kI, 3001, .inl f9)), (h10, .inl (kI, 3001, .inl f10)), (h11, .inl (kJ, 3001, .inr (.inl f11))), (h12, .inl (kJ, 27, .inr (.inl f12)))]) hP hD [0, 1, 2, 3, 4] [] rfl rfl (by decide) (by decide) hk1 hFc ht hB
    replace hP : va_P D cls9 [(h2, .inr (0, [.ref h9, .ref h10, .ref h11, .ref h12, .int tc, .int ta, .int td, .int tf])), (h9, .inl (kI, 3001, .inl f9)), (h10, .inl (kI, 3001, .inl f10)), (h11, .inl (kJ, 3001, .inr (.inl f11))), (h12, .inl (kJ, 27, .inr (.inl f12)))] H := hPD.1
    replace hD : va_D A [(h2, .inr (0, [.ref h9, .ref h10, .ref h11, .ref h12, .int tc, .int ta, .int td, .int tf])), (h9, .inl (kI, 3001, .inl f9)), (h10, .inl (kI, 3001, .inl f10)), (h11, .inl (kJ, 3001, .inr (.inl f11))), (h12, .inl (kJ, 27, .inr (.inl f12)))] := hPD.2
    clear hPD hB hk1 hPc hDc hFc
    refine lv_bipush (v := 36) hx hb d_8_29_15 (by decide +kernel) ?_
    refine lv_icmp_eq (tgt := 35) hx hb d_8_29_17 (by decide +kernel) (fun c_8 => ?_) (fun c_8 => ?_)
    · skip
      have tc_8 : r_5.toInt = 36 := congrArg Int32.toInt c_8
      refine lv_iconst (v := 0) hx hb d_8_29_35 (by decide +kernel) ?_
      refine lv_istore_n (lv' := [(1, .int 0), (0, .ref h2)]) hx hb d_8_29_36 rfl hl (by decide +kernel) rfl (fun ls hl => ?_)
      refine lv_aload_n hx hb d_8_29_37 rfl (lv_at hl 1 rfl) ?_
      refine va_get (D := D) (ci := 0) (v := .int ta) (C := "AlgolJudge$Tokens") (T := T_Tokens) (N := 8) hx hb hts i_Tokens hown hK hP 0 rfl rfl 5 (by decide +kernel) (hts _ m_215) (fun _ h9 => h9) rfl d_8_29_38 ?_
      refine lv_iconst (v := 1) hx hb d_8_29_41 (by decide +kernel) ?_
      refine lv_iadd hx hb d_8_29_42 ?_
      refine lv_topi (fun y_9 ey_9 => ?_)
      have ty_9 : y_9.toInt = ta.toInt + 1 := by rw [ey_9]; exact zaddc (by decide +kernel) (by omega) (by omega)
      refine lv_istore_n (lv' := [(2, .int y_9), (1, .int 0), (0, .ref h2)]) hx hb d_8_29_43 rfl hl (by decide +kernel) rfl (fun ls hl => ?_)
      refine xLoop (I := fun n H locs ls => ∃ v44_2 : Int32, ∃ v44_1 : Int32, (0 ≤ v44_2.toInt) ∧ (v44_2.toInt ≤ 3001) ∧ (ta.toInt + 1 ≤ v44_2.toInt) ∧ (-v44_2.toInt ≤ v44_1.toInt) ∧ (v44_1.toInt ≤ v44_2.toInt) ∧ (¬ v44_1.toInt = 0 ∨ v44_2.toInt = ta.toInt + 1) ∧ (gScn (kC f9 tc) 3002 (ta.toInt + 1) 0 = gScn (kC f9 tc) (3003 + ta.toInt - v44_2.toInt).toNat v44_2.toInt v44_1.toInt) ∧ n = (3001 - v44_2.toInt).toNat ∧ va_P D cls9 [(h2, .inr (0, [.ref h9, .ref h10, .ref h11, .ref h12, .int tc, .int ta, .int td, .int tf])), (h9, .inl (kI, 3001, .inl f9)), (h10, .inl (kI, 3001, .inl f10)), (h11, .inl (kJ, 3001, .inr (.inl f11))), (h12, .inl (kJ, 27, .inr (.inl f12)))] H ∧ va_D A [(h2, .inr (0, [.ref h9, .ref h10, .ref h11, .ref h12, .int tc, .int ta, .int td, .int tf])), (h9, .inl (kI, 3001, .inl f9)), (h10, .inl (kI, 3001, .inl f10)), (h11, .inl (kJ, 3001, .inr (.inl f11))), (h12, .inl (kJ, 27, .inr (.inl f12)))] ∧ va_S A s.heap H locs ∧ lv_has ls 3 [(2, .int v44_2), (1, .int v44_1), (0, .ref h2)]) ?_ _ _ _ _ ⟨y_9, 0, (show 0 ≤ y_9.toInt from (by first | assumption | omega)), (show y_9.toInt ≤ 3001 from (by first | assumption | omega)), (show ta.toInt + 1 ≤ y_9.toInt from (by omega)), (show -y_9.toInt ≤ (0 : Int) from (by omega)), (show (0 : Int) ≤ y_9.toInt from (by omega)), (show ¬ (0 : Int) = 0 ∨ y_9.toInt = ta.toInt + 1 from (by omega)), (show gScn (kC f9 tc) 3002 (ta.toInt + 1) 0 = gScn (kC f9 tc) (3003 + ta.toInt - y_9.toInt).toNat y_9.toInt (0 : Int) from (sc_i (by omega))), rfl, hP.sub (ws' := [(h2, .inr (0, [.ref h9, .ref h10, .ref h11, .ref h12, .int tc, .int ta, .int td, .int tf])), (h9, .inl (kI, 3001, .inl f9)), (h10, .inl (kI, 3001, .inl f10)), (h11, .inl (kJ, 3001, .inr (.inl f11))), (h12, .inl (kJ, 27, .inr (.inl f12)))]) [0, 1, 2, 3, 4] rfl, hD.sub (ws' := [(h2, .inr (0, [.ref h9, .ref h10, .ref h11, .ref h12, .int tc, .int ta, .int td, .int tf])), (h9, .inl (kI, 3001, .inl f9)), (h10, .inl (kI, 3001, .inl f10)), (h11, .inl (kJ, 3001, .inr (.inl f11))), (h12, .inl (kJ, 27, .inr (.inl f12)))]) [0, 1, 2, 3, 4] (by decide) rfl, hS, lv_sub hl [0, 1, 2] rfl⟩
      intro n_17 H locs ls hI9 ih_18
      revert hI9
      refine exI fun v44_2 => exI fun v44_1 => anI fun hl_10 => anI fun hl_11 => anI fun hl_12 => anI fun hl_13 => anI fun hl_14 => anI fun hl_15 => anI fun hl_16 => anI fun hn_17 => anI fun hP => anI fun hD => anI fun hS => fun hl => ?_
      refine lv_iload_n hx hb d_8_29_44 rfl (lv_at hl 0 rfl) ?_
      refine lv_aload_n hx hb d_8_29_45 rfl (lv_at hl 2 rfl) ?_
      refine va_get (D := D) (ci := 0) (v := .int tc) (C := "AlgolJudge$Tokens") (T := T_Tokens) (N := 8) hx hb hts i_Tokens hown hK hP 0 rfl rfl 4 (by decide +kernel) (hts _ m_214) (fun _ h9 => h9) rfl d_8_29_46 ?_
      refine lv_iconst (v := 1) hx hb d_8_29_49 (by decide +kernel) ?_
      refine lv_isub hx hb d_8_29_50 ?_
      refine lv_topi (fun y_19 ey_19 => ?_)
      have ty_19 : y_19.toInt = tc.toInt - 1 := by rw [ey_19]; exact zsubc (by decide +kernel) (by omega) (by omega)
      refine lv_icmp_ge (tgt := 114) hx hb d_8_29_51 (by decide +kernel) (fun c_20 => ?_) (fun c_20 => ?_)
      · skip
        have tc_20 : y_19.toInt ≤ v44_2.toInt := Int32.le_iff_toInt_le.mp c_20
        refine lv_iconst (v := 0) hx hb d_8_29_114 (by decide +kernel) ?_
        have hP9 := hP.sub (ws' := [(h2, .inr (0, [.ref h9, .ref h10, .ref h11, .ref h12, .int tc, .int ta, .int td, .int tf])), (h9, .inl (kI, 3001, .inl f9)), (h10, .inl (kI, 3001, .inl f10)), (h11, .inl (kJ, 3001, .inr (.inl f11))), (h12, .inl (kJ, 27, .inr (.inl f12)))]) [0, 1, 2, 3, 4] rfl
        have hD9 := hD.sub (ws' := [(h2, .inr (0, [.ref h9, .ref h10, .ref h11, .ref h12, .int tc, .int ta, .int td, .int tf])), (h9, .inl (kI, 3001, .inl f9)), (h10, .inl (kI, 3001, .inl f10)), (h11, .inl (kJ, 3001, .inr (.inl f11))), (h12, .inl (kJ, 27, .inr (.inl f12)))]) [0, 1, 2, 3, 4] (by decide) rfl
        have hz_0 : ((0 : Int) = 1 ∧ tf.toInt = -2 ∧ gLfT (kC f9 tc) ta.toInt = true) ∨ ((0 : Int) = 0 ∧ (tf.toInt = -2 → ¬ gLfT (kC f9 tc) ta.toInt = true)) := (Or.inr ⟨rfl, fun _ => by rw [lf_s (show kA f9 tc ta tf = 27 from by omega) (by omega), hl_16]; exact sc_z (tL_n hf_T8 (by omega)) (by have q3 := lf_t (show kA f9 tc ta tf = 27 from by omega) (by omega) hf_T8 (by omega) (by omega); omega) _ _ (by omega)⟩)
        exact W.zret (v := 0) (ty := .boolean) hx hb hr (by decide +kernel) (fun t ht hW => ⟨⟨0, 0, rfl, ⟨rfl, trivial⟩, hz_0, xEnd hK hP9 hD9 ht hW⟩, hS.F ht⟩) hS.2.2 d_8_29_115
      · skip
        have tc_20 : ¬ y_19.toInt ≤ v44_2.toInt := fun h9 => c_20 (Int32.le_iff_toInt_le.mpr h9)
        refine lv_aload_n hx hb d_8_29_54 rfl (lv_at hl 2 rfl) ?_
        refine va_get (D := D) (ci := 0) (v := .ref h9) (C := "AlgolJudge$Tokens") (T := T_Tokens) (N := 8) hx hb hts i_Tokens hown hK hP 0 rfl rfl 0 (by decide +kernel) (hts _ m_210) (fun _ h9 => h9) rfl d_8_29_55 ?_
        refine lv_iload_n hx hb d_8_29_58 rfl (lv_at hl 0 rfl) ?_
        refine va_iald hx hb hK hP 1 0 rfl rfl (vp_in_iff.mpr ⟨by omega, by omega⟩) d_8_29_59 ?_
        refine lv_topi (fun z_21 ez_21 => ?_)
        refine lv_bipush (v := 36) hx hb d_8_29_60 (by decide +kernel) ?_
        refine lv_icmp_ne (tgt := 71) hx hb d_8_29_62 (by decide +kernel) (fun c_22 => ?_) (fun c_22 => ?_)
        · skip
          have tc_22 : ¬ z_21.toInt = 36 := fun h9 => c_22 (Int32.toInt_inj.mp h9)
          refine lv_aload_n hx hb d_8_29_71 rfl (lv_at hl 2 rfl) ?_
          refine va_get (D := D) (ci := 0) (v := .ref h9) (C := "AlgolJudge$Tokens") (T := T_Tokens) (N := 8) hx hb hts i_Tokens hown hK hP 0 rfl rfl 0 (by decide +kernel) (hts _ m_210) (fun _ h9 => h9) rfl d_8_29_72 ?_
          refine lv_iload_n hx hb d_8_29_75 rfl (lv_at hl 0 rfl) ?_
          refine va_iald hx hb hK hP 1 0 rfl rfl (vp_in_iff.mpr ⟨by omega, by omega⟩) d_8_29_76 ?_
          refine lv_topi (fun z_23 ez_23 => ?_)
          refine lv_bipush (v := 37) hx hb d_8_29_77 (by decide +kernel) ?_
          refine lv_icmp_ne (tgt := 85) hx hb d_8_29_79 (by decide +kernel) (fun c_24 => ?_) (fun c_24 => ?_)
          · skip
            have tc_24 : ¬ z_23.toInt = 37 := fun h9 => c_24 (Int32.toInt_inj.mp h9)
            refine lv_iload_n hx hb d_8_29_85 rfl (lv_at hl 1 rfl) ?_
            refine lv_if_ne (tgt := 108) hx hb d_8_29_86 (by decide +kernel) (fun c_25 => ?_) (fun c_25 => ?_)
            · skip
              have tc_25 : ¬ v44_1.toInt = 0 := fun h9 => c_25 (Int32.toInt_inj.mp h9)
              obtain ⟨y_26, ey_26⟩ : ∃ y : Int32, y = v44_2 + 1 := ⟨_, rfl⟩
              have ty_26 : y_26.toInt = v44_2.toInt + 1 := by rw [ey_26]; exact zaddc (by decide +kernel) (by omega) (by omega)
              refine lv_iinc (v := y_26) (lv' := [(2, .int y_26), (1, .int v44_1), (0, .ref h2)]) hx hb d_8_29_108 hl (k := 0) rfl (by rw [ey_26]; rfl) (by decide +kernel) rfl (fun ls hl => ?_)
              refine lv_goto (tgt := 44) hx hb d_8_29_111 (by decide +kernel) ?_
              exact ih_18 _ _ _ _ (by omega) ⟨y_26, v44_1, (show 0 ≤ y_26.toInt from (by first | assumption | omega)), (show y_26.toInt ≤ 3001 from (by first | assumption | omega)), (show ta.toInt + 1 ≤ y_26.toInt from (by omega)), (show -y_26.toInt ≤ v44_1.toInt from (by omega)), (show v44_1.toInt ≤ y_26.toInt from (by omega)), (show ¬ v44_1.toInt = 0 ∨ y_26.toInt = ta.toInt + 1 from (by omega)), (show gScn (kC f9 tc) 3002 (ta.toInt + 1) 0 = gScn (kC f9 tc) (3003 + ta.toInt - y_26.toInt).toNat y_26.toInt v44_1.toInt from (by rw [hl_16]; exact sc_n (by omega) (by omega) (by omega) (by have qz_21 := kC_q (f9 := f9) (tc := tc) (x := v44_2) (by omega) (by omega) ez_21; have qz_23 := kC_q (f9 := f9) (tc := tc) (x := v44_2) (by omega) (by omega) ez_23; omega) (by omega))), rfl, hP.sub (ws' := [(h2, .inr (0, [.ref h9, .ref h10, .ref h11, .ref h12, .int tc, .int ta, .int td, .int tf])), (h9, .inl (kI, 3001, .inl f9)), (h10, .inl (kI, 3001, .inl f10)), (h11, .inl (kJ, 3001, .inr (.inl f11))), (h12, .inl (kJ, 27, .inr (.inl f12)))]) [0, 1, 2, 3, 4] rfl, hD.sub (ws' := [(h2, .inr (0, [.ref h9, .ref h10, .ref h11, .ref h12, .int tc, .int ta, .int td, .int tf])), (h9, .inl (kI, 3001, .inl f9)), (h10, .inl (kI, 3001, .inl f10)), (h11, .inl (kJ, 3001, .inr (.inl f11))), (h12, .inl (kJ, 27, .inr (.inl f12)))]) [0, 1, 2, 3, 4] (by decide) rfl, hS, lv_sub hl [0, 1, 2] rfl⟩
            · skip
              have tc_25 : v44_1.toInt = 0 := congrArg Int32.toInt c_25
              refine lv_aload_n hx hb d_8_29_89 rfl (lv_at hl 2 rfl) ?_
              refine va_get (D := D) (ci := 0) (v := .ref h9) (C := "AlgolJudge$Tokens") (T := T_Tokens) (N := 8) hx hb hts i_Tokens hown hK hP 0 rfl rfl 0 (by decide +kernel) (hts _ m_210) (fun _ h9 => h9) rfl d_8_29_90 ?_
              refine lv_iload_n hx hb d_8_29_93 rfl (lv_at hl 0 rfl) ?_
              refine lv_iconst (v := 1) hx hb d_8_29_94 (by decide +kernel) ?_
              refine lv_iadd hx hb d_8_29_95 ?_
              refine lv_topi (fun y_27 ey_27 => ?_)
              have ty_27 : y_27.toInt = v44_2.toInt + 1 := by rw [ey_27]; exact zaddc (by decide +kernel) (by omega) (by omega)
              refine va_iald hx hb hK hP 1 0 rfl rfl (vp_in_iff.mpr ⟨by omega, by omega⟩) d_8_29_96 ?_
              refine lv_topi (fun z_28 ez_28 => ?_)
              refine lv_bipush (v := 47) hx hb d_8_29_97 (by decide +kernel) ?_
              refine lv_icmp_ne (tgt := 106) hx hb d_8_29_99 (by decide +kernel) (fun c_29 => ?_) (fun c_29 => ?_)
              · skip
                have tc_29 : ¬ z_28.toInt = 47 := fun h9 => c_29 (Int32.toInt_inj.mp h9)
                refine lv_iconst (v := 0) hx hb d_8_29_106 (by decide +kernel) ?_
                have hP9 := hP.sub (ws' := [(h2, .inr (0, [.ref h9, .ref h10, .ref h11, .ref h12, .int tc, .int ta, .int td, .int tf])), (h9, .inl (kI, 3001, .inl f9)), (h10, .inl (kI, 3001, .inl f10)), (h11, .inl (kJ, 3001, .inr (.inl f11))), (h12, .inl (kJ, 27, .inr (.inl f12)))]) [0, 1, 2, 3, 4] rfl
                have hD9 := hD.sub (ws' := [(h2, .inr (0, [.ref h9, .ref h10, .ref h11, .ref h12, .int tc, .int ta, .int td, .int tf])), (h9, .inl (kI, 3001, .inl f9)), (h10, .inl (kI, 3001, .inl f10)), (h11, .inl (kJ, 3001, .inr (.inl f11))), (h12, .inl (kJ, 27, .inr (.inl f12)))]) [0, 1, 2, 3, 4] (by decide) rfl
                have hz_0 : ((0 : Int) = 1 ∧ tf.toInt = -2 ∧ gLfT (kC f9 tc) ta.toInt = true) ∨ ((0 : Int) = 0 ∧ (tf.toInt = -2 → ¬ gLfT (kC f9 tc) ta.toInt = true)) := (Or.inr ⟨rfl, fun _ => by rw [lf_s (show kA f9 tc ta tf = 27 from by omega) (by omega), hl_16, sc_e (by omega) (by omega) (o2 := 0) (by have qz_21 := kC_q (f9 := f9) (tc := tc) (x := v44_2) (by omega) (by omega) ez_21; have qz_23 := kC_q (f9 := f9) (tc := tc) (x := v44_2) (by omega) (by omega) ez_23; omega) rfl]; exact fun h8 => absurd (of_decide_eq_true h8) (by have q3 := kC_q (f9 := f9) (tc := tc) (x := y_27) (by omega) (by omega) ez_28; rw [show y_27.toInt = v44_2.toInt + 1 from by omega] at q3; omega)⟩)
                exact W.zret (v := 0) (ty := .boolean) hx hb hr (by decide +kernel) (fun t ht hW => ⟨⟨0, 0, rfl, ⟨rfl, trivial⟩, hz_0, xEnd hK hP9 hD9 ht hW⟩, hS.F ht⟩) hS.2.2 d_8_29_107
              · skip
                have tc_29 : z_28.toInt = 47 := congrArg Int32.toInt c_29
                refine lv_iconst (v := 1) hx hb d_8_29_102 (by decide +kernel) ?_
                refine lv_goto (tgt := 107) hx hb d_8_29_103 (by decide +kernel) ?_
                have hP9 := hP.sub (ws' := [(h2, .inr (0, [.ref h9, .ref h10, .ref h11, .ref h12, .int tc, .int ta, .int td, .int tf])), (h9, .inl (kI, 3001, .inl f9)), (h10, .inl (kI, 3001, .inl f10)), (h11, .inl (kJ, 3001, .inr (.inl f11))), (h12, .inl (kJ, 27, .inr (.inl f12)))]) [0, 1, 2, 3, 4] rfl
                have hD9 := hD.sub (ws' := [(h2, .inr (0, [.ref h9, .ref h10, .ref h11, .ref h12, .int tc, .int ta, .int td, .int tf])), (h9, .inl (kI, 3001, .inl f9)), (h10, .inl (kI, 3001, .inl f10)), (h11, .inl (kJ, 3001, .inr (.inl f11))), (h12, .inl (kJ, 27, .inr (.inl f12)))]) [0, 1, 2, 3, 4] (by decide) rfl
                have hz_0 : ((1 : Int) = 1 ∧ tf.toInt = -2 ∧ gLfT (kC f9 tc) ta.toInt = true) ∨ ((1 : Int) = 0 ∧ (tf.toInt = -2 → ¬ gLfT (kC f9 tc) ta.toInt = true)) := (Or.inl ⟨rfl, (lf_a (show kA f9 tc ta tf = 27 from by omega)).1, by rw [lf_s (show kA f9 tc ta tf = 27 from by omega) (by omega), hl_16, sc_e (by omega) (by omega) (o2 := 0) (by have qz_21 := kC_q (f9 := f9) (tc := tc) (x := v44_2) (by omega) (by omega) ez_21; have qz_23 := kC_q (f9 := f9) (tc := tc) (x := v44_2) (by omega) (by omega) ez_23; omega) rfl]; exact decide_eq_true (by have q3 := kC_q (f9 := f9) (tc := tc) (x := y_27) (by omega) (by omega) ez_28; rw [show y_27.toInt = v44_2.toInt + 1 from by omega] at q3; omega)⟩)
                exact W.zret (v := 1) (ty := .boolean) hx hb hr (by decide +kernel) (fun t ht hW => ⟨⟨1, 1, rfl, ⟨rfl, trivial⟩, hz_0, xEnd hK hP9 hD9 ht hW⟩, hS.F ht⟩) hS.2.2 d_8_29_107
          · skip
            have tc_24 : z_23.toInt = 37 := congrArg Int32.toInt c_24
            obtain ⟨y_30, ey_30⟩ : ∃ y : Int32, y = v44_1 + (-1) := ⟨_, rfl⟩
            have ty_30 : y_30.toInt = v44_1.toInt + (-1) := by rw [ey_30]; exact zaddc (by decide +kernel) (by omega) (by omega)
            refine lv_iinc (v := y_30) (lv' := [(1, .int y_30), (2, .int v44_2), (0, .ref h2)]) hx hb d_8_29_82 hl (k := 1) rfl (by rw [ey_30]; rfl) (by decide +kernel) rfl (fun ls hl => ?_)
            refine lv_iload_n hx hb d_8_29_85 rfl (lv_at hl 0 rfl) ?_
            refine lv_if_ne (tgt := 108) hx hb d_8_29_86 (by decide +kernel) (fun c_31 => ?_) (fun c_31 => ?_)
            · skip
              have tc_31 : ¬ y_30.toInt = 0 := fun h9 => c_31 (Int32.toInt_inj.mp h9)
              obtain ⟨y_32, ey_32⟩ : ∃ y : Int32, y = v44_2 + 1 := ⟨_, rfl⟩
              have ty_32 : y_32.toInt = v44_2.toInt + 1 := by rw [ey_32]; exact zaddc (by decide +kernel) (by omega) (by omega)
              refine lv_iinc (v := y_32) (lv' := [(2, .int y_32), (1, .int y_30), (0, .ref h2)]) hx hb d_8_29_108 hl (k := 1) rfl (by rw [ey_32]; rfl) (by decide +kernel) rfl (fun ls hl => ?_)
              refine lv_goto (tgt := 44) hx hb d_8_29_111 (by decide +kernel) ?_
              exact ih_18 _ _ _ _ (by omega) ⟨y_32, y_30, (show 0 ≤ y_32.toInt from (by first | assumption | omega)), (show y_32.toInt ≤ 3001 from (by first | assumption | omega)), (show ta.toInt + 1 ≤ y_32.toInt from (by omega)), (show -y_32.toInt ≤ y_30.toInt from (by omega)), (show y_30.toInt ≤ y_32.toInt from (by omega)), (show ¬ y_30.toInt = 0 ∨ y_32.toInt = ta.toInt + 1 from (by omega)), (show gScn (kC f9 tc) 3002 (ta.toInt + 1) 0 = gScn (kC f9 tc) (3003 + ta.toInt - y_32.toInt).toNat y_32.toInt y_30.toInt from (by rw [hl_16]; exact sc_n (by omega) (by omega) (by omega) (by have qz_21 := kC_q (f9 := f9) (tc := tc) (x := v44_2) (by omega) (by omega) ez_21; have qz_23 := kC_q (f9 := f9) (tc := tc) (x := v44_2) (by omega) (by omega) ez_23; omega) (by omega))), rfl, hP.sub (ws' := [(h2, .inr (0, [.ref h9, .ref h10, .ref h11, .ref h12, .int tc, .int ta, .int td, .int tf])), (h9, .inl (kI, 3001, .inl f9)), (h10, .inl (kI, 3001, .inl f10)), (h11, .inl (kJ, 3001, .inr (.inl f11))), (h12, .inl (kJ, 27, .inr (.inl f12)))]) [0, 1, 2, 3, 4] rfl, hD.sub (ws' := [(h2, .inr (0, [.ref h9, .ref h10, .ref h11, .ref h12, .int tc, .int ta, .int td, .int tf])), (h9, .inl (kI, 3001, .inl f9)), (h10, .inl (kI, 3001, .inl f10)), (h11, .inl (kJ, 3001, .inr (.inl f11))), (h12, .inl (kJ, 27, .inr (.inl f12)))]) [0, 1, 2, 3, 4] (by decide) rfl, hS, lv_sub hl [0, 1, 2] rfl⟩
            · skip
              have tc_31 : y_30.toInt = 0 := congrArg Int32.toInt c_31
              refine lv_aload_n hx hb d_8_29_89 rfl (lv_at hl 2 rfl) ?_
              refine va_get (D := D) (ci := 0) (v := .ref h9) (C := "AlgolJudge$Tokens") (T := T_Tokens) (N := 8) hx hb hts i_Tokens hown hK hP 0 rfl rfl 0 (by decide +kernel) (hts _ m_210) (fun _ h9 => h9) rfl d_8_29_90 ?_
              refine lv_iload_n hx hb d_8_29_93 rfl (lv_at hl 1 rfl) ?_
              refine lv_iconst (v := 1) hx hb d_8_29_94 (by decide +kernel) ?_
              refine lv_iadd hx hb d_8_29_95 ?_
              refine lv_topi (fun y_33 ey_33 => ?_)
              have ty_33 : y_33.toInt = v44_2.toInt + 1 := by rw [ey_33]; exact zaddc (by decide +kernel) (by omega) (by omega)
              refine va_iald hx hb hK hP 1 0 rfl rfl (vp_in_iff.mpr ⟨by omega, by omega⟩) d_8_29_96 ?_
              refine lv_topi (fun z_34 ez_34 => ?_)
              refine lv_bipush (v := 47) hx hb d_8_29_97 (by decide +kernel) ?_
              refine lv_icmp_ne (tgt := 106) hx hb d_8_29_99 (by decide +kernel) (fun c_35 => ?_) (fun c_35 => ?_)
              · skip
                have tc_35 : ¬ z_34.toInt = 47 := fun h9 => c_35 (Int32.toInt_inj.mp h9)
                refine lv_iconst (v := 0) hx hb d_8_29_106 (by decide +kernel) ?_
                have hP9 := hP.sub (ws' := [(h2, .inr (0, [.ref h9, .ref h10, .ref h11, .ref h12, .int tc, .int ta, .int td, .int tf])), (h9, .inl (kI, 3001, .inl f9)), (h10, .inl (kI, 3001, .inl f10)), (h11, .inl (kJ, 3001, .inr (.inl f11))), (h12, .inl (kJ, 27, .inr (.inl f12)))]) [0, 1, 2, 3, 4] rfl
                have hD9 := hD.sub (ws' := [(h2, .inr (0, [.ref h9, .ref h10, .ref h11, .ref h12, .int tc, .int ta, .int td, .int tf])), (h9, .inl (kI, 3001, .inl f9)), (h10, .inl (kI, 3001, .inl f10)), (h11, .inl (kJ, 3001, .inr (.inl f11))), (h12, .inl (kJ, 27, .inr (.inl f12)))]) [0, 1, 2, 3, 4] (by decide) rfl
                have hz_0 : ((0 : Int) = 1 ∧ tf.toInt = -2 ∧ gLfT (kC f9 tc) ta.toInt = true) ∨ ((0 : Int) = 0 ∧ (tf.toInt = -2 → ¬ gLfT (kC f9 tc) ta.toInt = true)) := (Or.inr ⟨rfl, fun _ => by rw [lf_s (show kA f9 tc ta tf = 27 from by omega) (by omega), hl_16, sc_e (by omega) (by omega) (o2 := 0) (by have qz_21 := kC_q (f9 := f9) (tc := tc) (x := v44_2) (by omega) (by omega) ez_21; have qz_23 := kC_q (f9 := f9) (tc := tc) (x := v44_2) (by omega) (by omega) ez_23; omega) rfl]; exact fun h8 => absurd (of_decide_eq_true h8) (by have q3 := kC_q (f9 := f9) (tc := tc) (x := y_33) (by omega) (by omega) ez_34; rw [show y_33.toInt = v44_2.toInt + 1 from by omega] at q3; omega)⟩)
                exact W.zret (v := 0) (ty := .boolean) hx hb hr (by decide +kernel) (fun t ht hW => ⟨⟨0, 0, rfl, ⟨rfl, trivial⟩, hz_0, xEnd hK hP9 hD9 ht hW⟩, hS.F ht⟩) hS.2.2 d_8_29_107
              · skip
                have tc_35 : z_34.toInt = 47 := congrArg Int32.toInt c_35
                refine lv_iconst (v := 1) hx hb d_8_29_102 (by decide +kernel) ?_
                refine lv_goto (tgt := 107) hx hb d_8_29_103 (by decide +kernel) ?_
                have hP9 := hP.sub (ws' := [(h2, .inr (0, [.ref h9, .ref h10, .ref h11, .ref h12, .int tc, .int ta, .int td, .int tf])), (h9, .inl (kI, 3001, .inl f9)), (h10, .inl (kI, 3001, .inl f10)), (h11, .inl (kJ, 3001, .inr (.inl f11))), (h12, .inl (kJ, 27, .inr (.inl f12)))]) [0, 1, 2, 3, 4] rfl
                have hD9 := hD.sub (ws' := [(h2, .inr (0, [.ref h9, .ref h10, .ref h11, .ref h12, .int tc, .int ta, .int td, .int tf])), (h9, .inl (kI, 3001, .inl f9)), (h10, .inl (kI, 3001, .inl f10)), (h11, .inl (kJ, 3001, .inr (.inl f11))), (h12, .inl (kJ, 27, .inr (.inl f12)))]) [0, 1, 2, 3, 4] (by decide) rfl
                have hz_0 : ((1 : Int) = 1 ∧ tf.toInt = -2 ∧ gLfT (kC f9 tc) ta.toInt = true) ∨ ((1 : Int) = 0 ∧ (tf.toInt = -2 → ¬ gLfT (kC f9 tc) ta.toInt = true)) := (Or.inl ⟨rfl, (lf_a (show kA f9 tc ta tf = 27 from by omega)).1, by rw [lf_s (show kA f9 tc ta tf = 27 from by omega) (by omega), hl_16, sc_e (by omega) (by omega) (o2 := 0) (by have qz_21 := kC_q (f9 := f9) (tc := tc) (x := v44_2) (by omega) (by omega) ez_21; have qz_23 := kC_q (f9 := f9) (tc := tc) (x := v44_2) (by omega) (by omega) ez_23; omega) rfl]; exact decide_eq_true (by have q3 := kC_q (f9 := f9) (tc := tc) (x := y_33) (by omega) (by omega) ez_34; rw [show y_33.toInt = v44_2.toInt + 1 from by omega] at q3; omega)⟩)
                exact W.zret (v := 1) (ty := .boolean) hx hb hr (by decide +kernel) (fun t ht hW => ⟨⟨1, 1, rfl, ⟨rfl, trivial⟩, hz_0, xEnd hK hP9 hD9 ht hW⟩, hS.F ht⟩) hS.2.2 d_8_29_107
        · skip
          have tc_22 : z_21.toInt = 36 := congrArg Int32.toInt c_22
          obtain ⟨y_36, ey_36⟩ : ∃ y : Int32, y = v44_1 + 1 := ⟨_, rfl⟩
          have ty_36 : y_36.toInt = v44_1.toInt + 1 := by rw [ey_36]; exact zaddc (by decide +kernel) (by omega) (by omega)
          refine lv_iinc (v := y_36) (lv' := [(1, .int y_36), (2, .int v44_2), (0, .ref h2)]) hx hb d_8_29_65 hl (k := 1) rfl (by rw [ey_36]; rfl) (by decide +kernel) rfl (fun ls hl => ?_)
          refine lv_goto (tgt := 85) hx hb d_8_29_68 (by decide +kernel) ?_
          refine lv_iload_n hx hb d_8_29_85 rfl (lv_at hl 0 rfl) ?_
          refine lv_if_ne (tgt := 108) hx hb d_8_29_86 (by decide +kernel) (fun c_37 => ?_) (fun c_37 => ?_)
          · skip
            have tc_37 : ¬ y_36.toInt = 0 := fun h9 => c_37 (Int32.toInt_inj.mp h9)
            obtain ⟨y_38, ey_38⟩ : ∃ y : Int32, y = v44_2 + 1 := ⟨_, rfl⟩
            have ty_38 : y_38.toInt = v44_2.toInt + 1 := by rw [ey_38]; exact zaddc (by decide +kernel) (by omega) (by omega)
            refine lv_iinc (v := y_38) (lv' := [(2, .int y_38), (1, .int y_36), (0, .ref h2)]) hx hb d_8_29_108 hl (k := 1) rfl (by rw [ey_38]; rfl) (by decide +kernel) rfl (fun ls hl => ?_)
            refine lv_goto (tgt := 44) hx hb d_8_29_111 (by decide +kernel) ?_
            exact ih_18 _ _ _ _ (by omega) ⟨y_38, y_36, (show 0 ≤ y_38.toInt from (by first | assumption | omega)), (show y_38.toInt ≤ 3001 from (by first | assumption | omega)), (show ta.toInt + 1 ≤ y_38.toInt from (by omega)), (show -y_38.toInt ≤ y_36.toInt from (by omega)), (show y_36.toInt ≤ y_38.toInt from (by omega)), (show ¬ y_36.toInt = 0 ∨ y_38.toInt = ta.toInt + 1 from (by omega)), (show gScn (kC f9 tc) 3002 (ta.toInt + 1) 0 = gScn (kC f9 tc) (3003 + ta.toInt - y_38.toInt).toNat y_38.toInt y_36.toInt from (by rw [hl_16]; exact sc_n (by omega) (by omega) (by omega) (by have qz_21 := kC_q (f9 := f9) (tc := tc) (x := v44_2) (by omega) (by omega) ez_21; omega) (by omega))), rfl, hP.sub (ws' := [(h2, .inr (0, [.ref h9, .ref h10, .ref h11, .ref h12, .int tc, .int ta, .int td, .int tf])), (h9, .inl (kI, 3001, .inl f9)), (h10, .inl (kI, 3001, .inl f10)), (h11, .inl (kJ, 3001, .inr (.inl f11))), (h12, .inl (kJ, 27, .inr (.inl f12)))]) [0, 1, 2, 3, 4] rfl, hD.sub (ws' := [(h2, .inr (0, [.ref h9, .ref h10, .ref h11, .ref h12, .int tc, .int ta, .int td, .int tf])), (h9, .inl (kI, 3001, .inl f9)), (h10, .inl (kI, 3001, .inl f10)), (h11, .inl (kJ, 3001, .inr (.inl f11))), (h12, .inl (kJ, 27, .inr (.inl f12)))]) [0, 1, 2, 3, 4] (by decide) rfl, hS, lv_sub hl [0, 1, 2] rfl⟩
          · skip
            have tc_37 : y_36.toInt = 0 := congrArg Int32.toInt c_37
            refine lv_aload_n hx hb d_8_29_89 rfl (lv_at hl 2 rfl) ?_
            refine va_get (D := D) (ci := 0) (v := .ref h9) (C := "AlgolJudge$Tokens") (T := T_Tokens) (N := 8) hx hb hts i_Tokens hown hK hP 0 rfl rfl 0 (by decide +kernel) (hts _ m_210) (fun _ h9 => h9) rfl d_8_29_90 ?_
            refine lv_iload_n hx hb d_8_29_93 rfl (lv_at hl 1 rfl) ?_
            refine lv_iconst (v := 1) hx hb d_8_29_94 (by decide +kernel) ?_
            refine lv_iadd hx hb d_8_29_95 ?_
            refine lv_topi (fun y_39 ey_39 => ?_)
            have ty_39 : y_39.toInt = v44_2.toInt + 1 := by rw [ey_39]; exact zaddc (by decide +kernel) (by omega) (by omega)
            refine va_iald hx hb hK hP 1 0 rfl rfl (vp_in_iff.mpr ⟨by omega, by omega⟩) d_8_29_96 ?_
            refine lv_topi (fun z_40 ez_40 => ?_)
            refine lv_bipush (v := 47) hx hb d_8_29_97 (by decide +kernel) ?_
            refine lv_icmp_ne (tgt := 106) hx hb d_8_29_99 (by decide +kernel) (fun c_41 => ?_) (fun c_41 => ?_)
            · skip
              have tc_41 : ¬ z_40.toInt = 47 := fun h9 => c_41 (Int32.toInt_inj.mp h9)
              refine lv_iconst (v := 0) hx hb d_8_29_106 (by decide +kernel) ?_
              have hP9 := hP.sub (ws' := [(h2, .inr (0, [.ref h9, .ref h10, .ref h11, .ref h12, .int tc, .int ta, .int td, .int tf])), (h9, .inl (kI, 3001, .inl f9)), (h10, .inl (kI, 3001, .inl f10)), (h11, .inl (kJ, 3001, .inr (.inl f11))), (h12, .inl (kJ, 27, .inr (.inl f12)))]) [0, 1, 2, 3, 4] rfl
              have hD9 := hD.sub (ws' := [(h2, .inr (0, [.ref h9, .ref h10, .ref h11, .ref h12, .int tc, .int ta, .int td, .int tf])), (h9, .inl (kI, 3001, .inl f9)), (h10, .inl (kI, 3001, .inl f10)), (h11, .inl (kJ, 3001, .inr (.inl f11))), (h12, .inl (kJ, 27, .inr (.inl f12)))]) [0, 1, 2, 3, 4] (by decide) rfl
              have hz_0 : ((0 : Int) = 1 ∧ tf.toInt = -2 ∧ gLfT (kC f9 tc) ta.toInt = true) ∨ ((0 : Int) = 0 ∧ (tf.toInt = -2 → ¬ gLfT (kC f9 tc) ta.toInt = true)) := (Or.inr ⟨rfl, fun _ => by rw [lf_s (show kA f9 tc ta tf = 27 from by omega) (by omega), hl_16, sc_e (by omega) (by omega) (o2 := 0) (by have qz_21 := kC_q (f9 := f9) (tc := tc) (x := v44_2) (by omega) (by omega) ez_21; omega) rfl]; exact fun h8 => absurd (of_decide_eq_true h8) (by have q3 := kC_q (f9 := f9) (tc := tc) (x := y_39) (by omega) (by omega) ez_40; rw [show y_39.toInt = v44_2.toInt + 1 from by omega] at q3; omega)⟩)
              exact W.zret (v := 0) (ty := .boolean) hx hb hr (by decide +kernel) (fun t ht hW => ⟨⟨0, 0, rfl, ⟨rfl, trivial⟩, hz_0, xEnd hK hP9 hD9 ht hW⟩, hS.F ht⟩) hS.2.2 d_8_29_107
            · skip
              have tc_41 : z_40.toInt = 47 := congrArg Int32.toInt c_41
              refine lv_iconst (v := 1) hx hb d_8_29_102 (by decide +kernel) ?_
              refine lv_goto (tgt := 107) hx hb d_8_29_103 (by decide +kernel) ?_
              have hP9 := hP.sub (ws' := [(h2, .inr (0, [.ref h9, .ref h10, .ref h11, .ref h12, .int tc, .int ta, .int td, .int tf])), (h9, .inl (kI, 3001, .inl f9)), (h10, .inl (kI, 3001, .inl f10)), (h11, .inl (kJ, 3001, .inr (.inl f11))), (h12, .inl (kJ, 27, .inr (.inl f12)))]) [0, 1, 2, 3, 4] rfl
              have hD9 := hD.sub (ws' := [(h2, .inr (0, [.ref h9, .ref h10, .ref h11, .ref h12, .int tc, .int ta, .int td, .int tf])), (h9, .inl (kI, 3001, .inl f9)), (h10, .inl (kI, 3001, .inl f10)), (h11, .inl (kJ, 3001, .inr (.inl f11))), (h12, .inl (kJ, 27, .inr (.inl f12)))]) [0, 1, 2, 3, 4] (by decide) rfl
              have hz_0 : ((1 : Int) = 1 ∧ tf.toInt = -2 ∧ gLfT (kC f9 tc) ta.toInt = true) ∨ ((1 : Int) = 0 ∧ (tf.toInt = -2 → ¬ gLfT (kC f9 tc) ta.toInt = true)) := (Or.inl ⟨rfl, (lf_a (show kA f9 tc ta tf = 27 from by omega)).1, by rw [lf_s (show kA f9 tc ta tf = 27 from by omega) (by omega), hl_16, sc_e (by omega) (by omega) (o2 := 0) (by have qz_21 := kC_q (f9 := f9) (tc := tc) (x := v44_2) (by omega) (by omega) ez_21; omega) rfl]; exact decide_eq_true (by have q3 := kC_q (f9 := f9) (tc := tc) (x := y_39) (by omega) (by omega) ez_40; rw [show y_39.toInt = v44_2.toInt + 1 from by omega] at q3; omega)⟩)
              exact W.zret (v := 1) (ty := .boolean) hx hb hr (by decide +kernel) (fun t ht hW => ⟨⟨1, 1, rfl, ⟨rfl, trivial⟩, hz_0, xEnd hK hP9 hD9 ht hW⟩, hS.F ht⟩) hS.2.2 d_8_29_107
    · skip
      have tc_8 : ¬ r_5.toInt = 36 := fun h9 => c_8 (Int32.toInt_inj.mp h9)
      refine lv_aload_n hx hb d_8_29_20 rfl (lv_at hl 0 rfl) ?_
      have hPc := hP.sub (ws' := [(h2, .inr (0, [.ref h9, .ref h10, .ref h11, .ref h12, .int tc, .int ta, .int td, .int tf])), (h9, .inl (kI, 3001, .inl f9)), (h10, .inl (kI, 3001, .inl f10)), (h11, .inl (kJ, 3001, .inr (.inl f11))), (h12, .inl (kJ, 27, .inr (.inl f12)))]) [0, 1, 2, 3, 4] rfl
      have hDc := hD.sub (ws' := [(h2, .inr (0, [.ref h9, .ref h10, .ref h11, .ref h12, .int tc, .int ta, .int td, .int tf])), (h9, .inl (kI, 3001, .inl f9)), (h10, .inl (kI, 3001, .inl f10)), (h11, .inl (kJ, 3001, .inr (.inl f11))), (h12, .inl (kJ, 27, .inr (.inl f12)))]) [0, 1, 2, 3, 4] (by decide) rfl
      have hFc := va_free (wc := [(h2, .inr (0, [.ref h9, .ref h10, .ref h11, .ref h12, .int tc, .int ta, .int td, .int tf])), (h9, .inl (kI, 3001, .inl f9)), (h10, .inl (kI, 3001, .inl f10)), (h11, .inl (kJ, 3001, .inr (.inl f11))), (h12, .inl (kJ, 27, .inr (.inl f12)))]) hD hS hA [0, 1, 2, 3, 4] rfl
      refine va_calli (va_runV (As := []) (rest := []) ⟨hx, hb, hml, hown, hts⟩ (g_Tokens_next l D kI kJ kB kZ _ (h2) (h9) (h10) (h11) (h12) (tc) (ta) (td) (tf) (f9) (f10) (f11) (f12) hf_T1 hf_T2 hf_T3 hf_T4 hf_T5 hf_T6 hf_T8) (cwV 0 hts (gT_V m_812 m_800 m_801 m_121 (gT_ws m_802)) rfl rfl rfl (by decide +kernel) ⟨(Nat.le_of_ble_eq_true rfl), (Nat.le_of_ble_eq_true rfl)⟩) ⟨xBlind xOk_N, va_recv hK hP (ci := 0) (q0 := 0) rfl rfl, xAtN hK hPc hDc⟩ rfl rfl hl.1 rfl (lv_room (Nat.le_of_ble_eq_true rfl)) d_8_29_21 ⟨(Nat.le_of_ble_eq_true rfl), (Nat.le_of_ble_eq_true rfl)⟩) hS (fun q _ h => hFc q h) hFc (fun r_42 u t H locs ht hvm hw_43 hB hz1 hk1 hS => ?_)
      clear hz1
      obtain ⟨hu9, hw_43⟩ := hw_43
      subst hu9
      revert hB
      refine anI fun hb_44 => fun hB => ?_
      have hb_44 : r_42.toInt = kBn f9 tc ta tf := hb_44
      have hPD := xJoin (wr := []) (w1 := [(h2, .inr (0, [.ref h9, .ref h10, .ref h11, .ref h12, .int tc, .int ta, .int td, .int tf])), (h9, .inl (kI, 3001, .inl f9)), (h10, .inl (kI, 3001, .inl f10)), (h11, .inl (kJ, 3001, .inr (.inl f11))), (h12, .inl (kJ, 27, .inr (.inl f12)))]) hP hD [0, 1, 2, 3, 4] [] rfl rfl (by decide) (by decide) hk1 hFc ht hB
      replace hP : va_P D cls9 [(h2, .inr (0, [.ref h9, .ref h10, .ref h11, .ref h12, .int tc, .int ta, .int td, .int tf])), (h9, .inl (kI, 3001, .inl f9)), (h10, .inl (kI, 3001, .inl f10)), (h11, .inl (kJ, 3001, .inr (.inl f11))), (h12, .inl (kJ, 27, .inr (.inl f12)))] H := hPD.1
      replace hD : va_D A [(h2, .inr (0, [.ref h9, .ref h10, .ref h11, .ref h12, .int tc, .int ta, .int td, .int tf])), (h9, .inl (kI, 3001, .inl f9)), (h10, .inl (kI, 3001, .inl f10)), (h11, .inl (kJ, 3001, .inr (.inl f11))), (h12, .inl (kJ, 27, .inr (.inl f12)))] := hPD.2
      clear hPD hB hk1 hPc hDc hFc
      refine lv_bipush (v := 47) hx hb d_8_29_24 (by decide +kernel) ?_
      refine lv_icmp_ne (tgt := 33) hx hb d_8_29_26 (by decide +kernel) (fun c_45 => ?_) (fun c_45 => ?_)
      · skip
        have tc_45 : ¬ r_42.toInt = 47 := fun h9 => c_45 (Int32.toInt_inj.mp h9)
        refine lv_iconst (v := 0) hx hb d_8_29_33 (by decide +kernel) ?_
        have hP9 := hP.sub (ws' := [(h2, .inr (0, [.ref h9, .ref h10, .ref h11, .ref h12, .int tc, .int ta, .int td, .int tf])), (h9, .inl (kI, 3001, .inl f9)), (h10, .inl (kI, 3001, .inl f10)), (h11, .inl (kJ, 3001, .inr (.inl f11))), (h12, .inl (kJ, 27, .inr (.inl f12)))]) [0, 1, 2, 3, 4] rfl
        have hD9 := hD.sub (ws' := [(h2, .inr (0, [.ref h9, .ref h10, .ref h11, .ref h12, .int tc, .int ta, .int td, .int tf])), (h9, .inl (kI, 3001, .inl f9)), (h10, .inl (kI, 3001, .inl f10)), (h11, .inl (kJ, 3001, .inr (.inl f11))), (h12, .inl (kJ, 27, .inr (.inl f12)))]) [0, 1, 2, 3, 4] (by decide) rfl
        have hz_0 : ((0 : Int) = 1 ∧ tf.toInt = -2 ∧ gLfT (kC f9 tc) ta.toInt = true) ∨ ((0 : Int) = 0 ∧ (tf.toInt = -2 → ¬ gLfT (kC f9 tc) ta.toInt = true)) := (Or.inr ⟨rfl, fun _ => by rw [lf_1 (show kA f9 tc ta tf = 27 from by omega) (by omega)]; exact fun h8 => absurd (of_decide_eq_true h8) (by omega)⟩)
        exact W.zret (v := 0) (ty := .boolean) hx hb hr (by decide +kernel) (fun t ht hW => ⟨⟨0, 0, rfl, ⟨rfl, trivial⟩, hz_0, xEnd hK hP9 hD9 ht hW⟩, hS.F ht⟩) hS.2.2 d_8_29_34
      · skip
        have tc_45 : r_42.toInt = 47 := congrArg Int32.toInt c_45
        refine lv_iconst (v := 1) hx hb d_8_29_29 (by decide +kernel) ?_
        refine lv_goto (tgt := 34) hx hb d_8_29_30 (by decide +kernel) ?_
        have hP9 := hP.sub (ws' := [(h2, .inr (0, [.ref h9, .ref h10, .ref h11, .ref h12, .int tc, .int ta, .int td, .int tf])), (h9, .inl (kI, 3001, .inl f9)), (h10, .inl (kI, 3001, .inl f10)), (h11, .inl (kJ, 3001, .inr (.inl f11))), (h12, .inl (kJ, 27, .inr (.inl f12)))]) [0, 1, 2, 3, 4] rfl
        have hD9 := hD.sub (ws' := [(h2, .inr (0, [.ref h9, .ref h10, .ref h11, .ref h12, .int tc, .int ta, .int td, .int tf])), (h9, .inl (kI, 3001, .inl f9)), (h10, .inl (kI, 3001, .inl f10)), (h11, .inl (kJ, 3001, .inr (.inl f11))), (h12, .inl (kJ, 27, .inr (.inl f12)))]) [0, 1, 2, 3, 4] (by decide) rfl
        have hz_0 : ((1 : Int) = 1 ∧ tf.toInt = -2 ∧ gLfT (kC f9 tc) ta.toInt = true) ∨ ((1 : Int) = 0 ∧ (tf.toInt = -2 → ¬ gLfT (kC f9 tc) ta.toInt = true)) := (Or.inl ⟨rfl, (lf_a (show kA f9 tc ta tf = 27 from by omega)).1, by rw [lf_1 (show kA f9 tc ta tf = 27 from by omega) (by omega)]; exact decide_eq_true (by omega)⟩)
        exact W.zret (v := 1) (ty := .boolean) hx hb hr (by decide +kernel) (fun t ht hW => ⟨⟨1, 1, rfl, ⟨rfl, trivial⟩, hz_0, xEnd hK hP9 hD9 ht hW⟩, hS.F ht⟩) hS.2.2 d_8_29_34
  · skip
    have tc_4 : r_1.toInt = 0 := congrArg Int32.toInt c_4
    refine lv_iconst (v := 0) hx hb d_8_29_9 (by decide +kernel) ?_
    have hP9 := hP.sub (ws' := [(h2, .inr (0, [.ref h9, .ref h10, .ref h11, .ref h12, .int tc, .int ta, .int td, .int tf])), (h9, .inl (kI, 3001, .inl f9)), (h10, .inl (kI, 3001, .inl f10)), (h11, .inl (kJ, 3001, .inr (.inl f11))), (h12, .inl (kJ, 27, .inr (.inl f12)))]) [0, 1, 2, 3, 4] rfl
    have hD9 := hD.sub (ws' := [(h2, .inr (0, [.ref h9, .ref h10, .ref h11, .ref h12, .int tc, .int ta, .int td, .int tf])), (h9, .inl (kI, 3001, .inl f9)), (h10, .inl (kI, 3001, .inl f10)), (h11, .inl (kJ, 3001, .inr (.inl f11))), (h12, .inl (kJ, 27, .inr (.inl f12)))]) [0, 1, 2, 3, 4] (by decide) rfl
    have hz_0 : ((0 : Int) = 1 ∧ tf.toInt = -2 ∧ gLfT (kC f9 tc) ta.toInt = true) ∨ ((0 : Int) = 0 ∧ (tf.toInt = -2 → ¬ gLfT (kC f9 tc) ta.toInt = true)) := (Or.inr ⟨rfl, fun h9 => lf_0 (by omega) h9⟩)
    exact W.zret (v := 0) (ty := .boolean) hx hb hr (by decide +kernel) (fun t ht hW => ⟨⟨0, 0, rfl, ⟨rfl, trivial⟩, hz_0, xEnd hK hP9 hD9 ht hW⟩, hS.F ht⟩) hS.2.2 d_8_29_10
set_option maxHeartbeats 8000000 in
set_option maxRecDepth 100000 in
theorem g_Table_size (l : Launch) (D : va_G) (kI kJ kB kZ : ClassId) (sz : Nat) (h3 : Nat) (h13 : Nat) (h14 : Nat) (h15 : Nat) (h16 : Nat) (h17 : Nat) (h18 : Nat) (h19 : Nat) (h20 : Nat) (h21 : Nat) (h22 : Nat) (bn : Int32) (f13 : Nat → Int64) (f14 : Nat → Int32) (f15 : Nat → Int32) (f16 : Nat → Int32) (f17 : Nat → Int32) (f18 : Nat → Int32) (f19 : Nat → Int32) (f20 : Nat → Int32) (f21 : Nat → Int32) (f22 : Nat → Int32) (hf_B1 : 0 ≤ bn.toInt) (hf_B2 : bn.toInt ≤ 1501) (hf_PB : ∀ j : Nat, 0 ≤ (f17 j).toInt ∧ (f17 j).toInt ≤ 3000) : Met l (⟨"AlgolJudge$Table", "size", "()I"⟩ : MethodName) (Cond.code (⟨"AlgolJudge$Table", "size", "()I"⟩ : MethodName) prog_7_method_3_code 1 (some .int) :: gT) ({ frames := 0, cells := 0, slots := 0, locals := 0 }) (va_Pc [.ref h3] (xP D (xT kI kJ kB kZ) xN [(h3, .inr (1, [.ref h13, .ref h14, .ref h15, .ref h16, .ref h17, .ref h18, .ref h19, .ref h20, .ref h21, .ref h22, .int bn])), (h13, .inl (kJ, 1501, .inr (.inl f13))), (h14, .inl (kI, 1501, .inl f14)), (h15, .inl (kI, 1501, .inl f15)), (h16, .inl (kI, 1501, .inl f16)), (h17, .inl (kI, 1501, .inl f17)), (h18, .inl (kI, 1501, .inl f18)), (h19, .inl (kI, 1501, .inl f19)), (h20, .inl (kI, 1501, .inl f20)), (h21, .inl (kI, 1501, .inl f21)), (h22, .inl (kZ, 1501, .inl f22))] sz)) (va_Qi (fun (r : Int32) (_ : Unit) => r = bn) (fun _ t => xQ D (xT kI kJ kB kZ) (va_A [(h3, .inr (1, [.ref h13, .ref h14, .ref h15, .ref h16, .ref h17, .ref h18, .ref h19, .ref h20, .ref h21, .ref h22, .int bn])), (h13, .inl (kJ, 1501, .inr (.inl f13))), (h14, .inl (kI, 1501, .inl f14)), (h15, .inl (kI, 1501, .inl f15)), (h16, .inl (kI, 1501, .inl f16)), (h17, .inl (kI, 1501, .inl f17)), (h18, .inl (kI, 1501, .inl f18)), (h19, .inl (kI, 1501, .inl f19)), (h20, .inl (kI, 1501, .inl f20)), (h21, .inl (kI, 1501, .inl f21)), (h22, .inl (kZ, 1501, .inl f22))] sz) [(h3, .inr (1, [.ref h13, .ref h14, .ref h15, .ref h16, .ref h17, .ref h18, .ref h19, .ref h20, .ref h21, .ref h22, .int bn])), (h13, .inl (kJ, 1501, .inr (.inl f13))), (h14, .inl (kI, 1501, .inl f14)), (h15, .inl (kI, 1501, .inl f15)), (h16, .inl (kI, 1501, .inl f16)), (h17, .inl (kI, 1501, .inl f17)), (h18, .inl (kI, 1501, .inl f18)), (h19, .inl (kI, 1501, .inl f19)), (h20, .inl (kI, 1501, .inl f20)), (h21, .inl (kI, 1501, .inl f21)), (h22, .inl (kZ, 1501, .inl f22))] t) (va_A [(h3, .inr (1, [.ref h13, .ref h14, .ref h15, .ref h16, .ref h17, .ref h18, .ref h19, .ref h20, .ref h21, .ref h22, .int bn])), (h13, .inl (kJ, 1501, .inr (.inl f13))), (h14, .inl (kI, 1501, .inl f14)), (h15, .inl (kI, 1501, .inl f15)), (h16, .inl (kI, 1501, .inl f16)), (h17, .inl (kI, 1501, .inl f17)), (h18, .inl (kI, 1501, .inl f18)), (h19, .inl (kI, 1501, .inl f19)), (h20, .inl (kI, 1501, .inl f20)), (h21, .inl (kI, 1501, .inl f21)), (h22, .inl (kZ, 1501, .inl f22))] sz)) 0 0 (va_A [(h3, .inr (1, [.ref h13, .ref h14, .ref h15, .ref h16, .ref h17, .ref h18, .ref h19, .ref h20, .ref h21, .ref h22, .int bn])), (h13, .inl (kJ, 1501, .inr (.inl f13))), (h14, .inl (kI, 1501, .inl f14)), (h15, .inl (kI, 1501, .inl f15)), (h16, .inl (kI, 1501, .inl f16)), (h17, .inl (kI, 1501, .inl f17)), (h18, .inl (kI, 1501, .inl f18)), (h19, .inl (kI, 1501, .inl f19)), (h20, .inl (kI, 1501, .inl f20)), (h21, .inl (kI, 1501, .inl f21)), (h22, .inl (kZ, 1501, .inl f22))] sz) := by
  refine Met.ofW (cc := prog_7_method_3_code) (maxL := 1) (ret := some .int) (by decide +kernel) rfl ?_
  intro p e s m args below meth c s₁ B hml hv
  obtain ⟨rfl, hsz, hP, hK, hD0, hE⟩ := hv
  have hx := B.exec
  have hb := B.bytes
  have hr := B.returns
  have hts : ∀ w ∈ gT, w.before _ s = true := fun w h => atoms_spec (ws := Cond.code (⟨"AlgolJudge$Table", "size", "()I"⟩ : MethodName) prog_7_method_3_code 1 (some .int) :: gT) B.pre w (List.mem_cons_of_mem _ h)
  have hown : s.vm.findClass "AlgolJudge$Table" = some m.cls := findClass_of_methodNamed B.named
  have hlocks := B.notSynchronized
  subst hsz
  have hD := hD0.self (sz := s.heap.size)
  generalize hAe : va_A [(h3, .inr (1, [.ref h13, .ref h14, .ref h15, .ref h16, .ref h17, .ref h18, .ref h19, .ref h20, .ref h21, .ref h22, .int bn])), (h13, .inl (kJ, 1501, .inr (.inl f13))), (h14, .inl (kI, 1501, .inl f14)), (h15, .inl (kI, 1501, .inl f15)), (h16, .inl (kI, 1501, .inl f16)), (h17, .inl (kI, 1501, .inl f17)), (h18, .inl (kI, 1501, .inl f18)), (h19, .inl (kI, 1501, .inl f19)), (h20, .inl (kI, 1501, .inl f20)), (h21, .inl (kI, 1501, .inl f21)), (h22, .inl (kZ, 1501, .inl f22))] s.heap.size = A at hD hE ⊢
  have hA : ∀ q : Nat, s.heap.size ≤ q → A q := fun q h => by rw [← hAe]; exact Or.inr h
  have hS : va_S A s.heap s.heap [] := va_S.rf
  have hP : va_P D cls9 [(h3, .inr (1, [.ref h13, .ref h14, .ref h15, .ref h16, .ref h17, .ref h18, .ref h19, .ref h20, .ref h21, .ref h22, .int bn])), (h13, .inl (kJ, 1501, .inr (.inl f13))), (h14, .inl (kI, 1501, .inl f14)), (h15, .inl (kI, 1501, .inl f15)), (h16, .inl (kI, 1501, .inl f16)), (h17, .inl (kI, 1501, .inl f17)), (h18, .inl (kI, 1501, .inl f18)), (h19, .inl (kI, 1501, .inl f19)), (h20, .inl (kI, 1501, .inl f20)), (h21, .inl (kI, 1501, .inl f21)), (h22, .inl (kZ, 1501, .inl f22))] s.heap := hP
  have hl := lv_entry ([.ref h3]) (n := 1) (Nat.le_of_ble_eq_true rfl)
  rw [lg_entry_eq]
  generalize (lg_sl ([.ref h3]) ++ List.replicate (1 - (lg_sl ([.ref h3])).length) Slot.unset).toArray = ls at hl ⊢
  have hl : lv_has ls 1 [(0, .ref h3)] := hl
  refine lv_aload_n hx hb d_7_3_0 rfl (lv_at hl 0 rfl) ?_
  refine va_get (D := D) (ci := 1) (v := .int bn) (C := "AlgolJudge$Table") (T := T_Table) (N := 11) hx hb hts i_Table hown hK hP 0 rfl rfl 10 (by decide +kernel) (hts _ m_254) (fun _ h9 => h9) rfl d_7_3_1 ?_
  have hP9 := hP.sub (ws' := [(h3, .inr (1, [.ref h13, .ref h14, .ref h15, .ref h16, .ref h17, .ref h18, .ref h19, .ref h20, .ref h21, .ref h22, .int bn])), (h13, .inl (kJ, 1501, .inr (.inl f13))), (h14, .inl (kI, 1501, .inl f14)), (h15, .inl (kI, 1501, .inl f15)), (h16, .inl (kI, 1501, .inl f16)), (h17, .inl (kI, 1501, .inl f17)), (h18, .inl (kI, 1501, .inl f18)), (h19, .inl (kI, 1501, .inl f19)), (h20, .inl (kI, 1501, .inl f20)), (h21, .inl (kI, 1501, .inl f21)), (h22, .inl (kZ, 1501, .inl f22))]) [0, 1, 2, 3, 4, 5, 6, 7, 8, 9, 10] rfl
  have hD9 := hD.sub (ws' := [(h3, .inr (1, [.ref h13, .ref h14, .ref h15, .ref h16, .ref h17, .ref h18, .ref h19, .ref h20, .ref h21, .ref h22, .int bn])), (h13, .inl (kJ, 1501, .inr (.inl f13))), (h14, .inl (kI, 1501, .inl f14)), (h15, .inl (kI, 1501, .inl f15)), (h16, .inl (kI, 1501, .inl f16)), (h17, .inl (kI, 1501, .inl f17)), (h18, .inl (kI, 1501, .inl f18)), (h19, .inl (kI, 1501, .inl f19)), (h20, .inl (kI, 1501, .inl f20)), (h21, .inl (kI, 1501, .inl f21)), (h22, .inl (kZ, 1501, .inl f22))]) [0, 1, 2, 3, 4, 5, 6, 7, 8, 9, 10] (by decide) rfl
  exact W.iret (v := bn) hx hb hr (fun t ht hW => ⟨⟨bn, (), rfl, rfl, xEnd hK hP9 hD9 ht hW⟩, hS.F ht⟩) hS.2.2 d_7_3_4
set_option maxHeartbeats 8000000 in
set_option maxRecDepth 100000 in
theorem g_Table_find (l : Launch) (D : va_G) (kI kJ kB kZ : ClassId) (sz : Nat) (h3 : Nat) (h13 : Nat) (h14 : Nat) (h15 : Nat) (h16 : Nat) (h17 : Nat) (h18 : Nat) (h19 : Nat) (h20 : Nat) (h21 : Nat) (h22 : Nat) (bn : Int32) (f13 : Nat → Int64) (f14 : Nat → Int32) (f15 : Nat → Int32) (f16 : Nat → Int32) (f17 : Nat → Int32) (f18 : Nat → Int32) (f19 : Nat → Int32) (f20 : Nat → Int32) (f21 : Nat → Int32) (f22 : Nat → Int32) (p1 : Int32) (p2 : Int64) (hf_B1 : 0 ≤ bn.toInt) (hf_B2 : bn.toInt ≤ 1501) (hf_PB : ∀ j : Nat, 0 ≤ (f17 j).toInt ∧ (f17 j).toInt ≤ 3000) : Met l (⟨"AlgolJudge$Table", "find", "(IJ)I"⟩ : MethodName) (Cond.code (⟨"AlgolJudge$Table", "find", "(IJ)I"⟩ : MethodName) prog_7_method_11_code 6 (some .int) :: gT) ({ frames := 0, cells := 0, slots := 0, locals := 0 }) (va_Pc [.ref h3, .int p1, .long p2] (xP D (xT kI kJ kB kZ) xN [(h3, .inr (1, [.ref h13, .ref h14, .ref h15, .ref h16, .ref h17, .ref h18, .ref h19, .ref h20, .ref h21, .ref h22, .int bn])), (h13, .inl (kJ, 1501, .inr (.inl f13))), (h14, .inl (kI, 1501, .inl f14)), (h15, .inl (kI, 1501, .inl f15)), (h16, .inl (kI, 1501, .inl f16)), (h17, .inl (kI, 1501, .inl f17)), (h18, .inl (kI, 1501, .inl f18)), (h19, .inl (kI, 1501, .inl f19)), (h20, .inl (kI, 1501, .inl f20)), (h21, .inl (kI, 1501, .inl f21)), (h22, .inl (kZ, 1501, .inl f22))] sz)) (va_Qi (fun (r : Int32) (u : Int32) => r = u ∧ (True)) (fun u t => (u.toInt = tFind (rJ f13) (rI f19) bn.toInt p2.toInt 1501 p1.toInt) ∧ xQ D (xT kI kJ kB kZ) (va_A [(h3, .inr (1, [.ref h13, .ref h14, .ref h15, .ref h16, .ref h17, .ref h18, .ref h19, .ref h20, .ref h21, .ref h22, .int bn])), (h13, .inl (kJ, 1501, .inr (.inl f13))), (h14, .inl (kI, 1501, .inl f14)), (h15, .inl (kI, 1501, .inl f15)), (h16, .inl (kI, 1501, .inl f16)), (h17, .inl (kI, 1501, .inl f17)), (h18, .inl (kI, 1501, .inl f18)), (h19, .inl (kI, 1501, .inl f19)), (h20, .inl (kI, 1501, .inl f20)), (h21, .inl (kI, 1501, .inl f21)), (h22, .inl (kZ, 1501, .inl f22))] sz) [(h3, .inr (1, [.ref h13, .ref h14, .ref h15, .ref h16, .ref h17, .ref h18, .ref h19, .ref h20, .ref h21, .ref h22, .int bn])), (h13, .inl (kJ, 1501, .inr (.inl f13))), (h14, .inl (kI, 1501, .inl f14)), (h15, .inl (kI, 1501, .inl f15)), (h16, .inl (kI, 1501, .inl f16)), (h17, .inl (kI, 1501, .inl f17)), (h18, .inl (kI, 1501, .inl f18)), (h19, .inl (kI, 1501, .inl f19)), (h20, .inl (kI, 1501, .inl f20)), (h21, .inl (kI, 1501, .inl f21)), (h22, .inl (kZ, 1501, .inl f22))] t) (va_A [(h3, .inr (1, [.ref h13, .ref h14, .ref h15, .ref h16, .ref h17, .ref h18, .ref h19, .ref h20, .ref h21, .ref h22, .int bn])), (h13, .inl (kJ, 1501, .inr (.inl f13))), (h14, .inl (kI, 1501, .inl f14)), (h15, .inl (kI, 1501, .inl f15)), (h16, .inl (kI, 1501, .inl f16)), (h17, .inl (kI, 1501, .inl f17)), (h18, .inl (kI, 1501, .inl f18)), (h19, .inl (kI, 1501, .inl f19)), (h20, .inl (kI, 1501, .inl f20)), (h21, .inl (kI, 1501, .inl f21)), (h22, .inl (kZ, 1501, .inl f22))] sz)) 0 0 (va_A [(h3, .inr (1, [.ref h13, .ref h14, .ref h15, .ref h16, .ref h17, .ref h18, .ref h19, .ref h20, .ref h21, .ref h22, .int bn])), (h13, .inl (kJ, 1501, .inr (.inl f13))), (h14, .inl (kI, 1501, .inl f14)), (h15, .inl (kI, 1501, .inl f15)), (h16, .inl (kI, 1501, .inl f16)), (h17, .inl (kI, 1501, .inl f17)), (h18, .inl (kI, 1501, .inl f18)), (h19, .inl (kI, 1501, .inl f19)), (h20, .inl (kI, 1501, .inl f20)), (h21, .inl (kI, 1501, .inl f21)), (h22, .inl (kZ, 1501, .inl f22))] sz) := by
  refine Met.ofW (cc := prog_7_method_11_code) (maxL := 6) (ret := some .int) (by decide +kernel) rfl ?_
  intro p e s m args below meth c s₁ B hml hv
  obtain ⟨rfl, hsz, hP, hK, hD0, hE⟩ := hv
  have hx := B.exec
  have hb := B.bytes
  have hr := B.returns
  have hts : ∀ w ∈ gT, w.before _ s = true := fun w h => atoms_spec (ws := Cond.code (⟨"AlgolJudge$Table", "find", "(IJ)I"⟩ : MethodName) prog_7_method_11_code 6 (some .int) :: gT) B.pre w (List.mem_cons_of_mem _ h)
  have hown : s.vm.findClass "AlgolJudge$Table" = some m.cls := findClass_of_methodNamed B.named
  have hlocks := B.notSynchronized
  subst hsz
  have hD := hD0.self (sz := s.heap.size)
  generalize hAe : va_A [(h3, .inr (1, [.ref h13, .ref h14, .ref h15, .ref h16, .ref h17, .ref h18, .ref h19, .ref h20, .ref h21, .ref h22, .int bn])), (h13, .inl (kJ, 1501, .inr (.inl f13))), (h14, .inl (kI, 1501, .inl f14)), (h15, .inl (kI, 1501, .inl f15)), (h16, .inl (kI, 1501, .inl f16)), (h17, .inl (kI, 1501, .inl f17)), (h18, .inl (kI, 1501, .inl f18)), (h19, .inl (kI, 1501, .inl f19)), (h20, .inl (kI, 1501, .inl f20)), (h21, .inl (kI, 1501, .inl f21)), (h22, .inl (kZ, 1501, .inl f22))] s.heap.size = A at hD hE ⊢
  have hA : ∀ q : Nat, s.heap.size ≤ q → A q := fun q h => by rw [← hAe]; exact Or.inr h
  have hS : va_S A s.heap s.heap [] := va_S.rf
  have hP : va_P D cls9 [(h3, .inr (1, [.ref h13, .ref h14, .ref h15, .ref h16, .ref h17, .ref h18, .ref h19, .ref h20, .ref h21, .ref h22, .int bn])), (h13, .inl (kJ, 1501, .inr (.inl f13))), (h14, .inl (kI, 1501, .inl f14)), (h15, .inl (kI, 1501, .inl f15)), (h16, .inl (kI, 1501, .inl f16)), (h17, .inl (kI, 1501, .inl f17)), (h18, .inl (kI, 1501, .inl f18)), (h19, .inl (kI, 1501, .inl f19)), (h20, .inl (kI, 1501, .inl f20)), (h21, .inl (kI, 1501, .inl f21)), (h22, .inl (kZ, 1501, .inl f22))] s.heap := hP
  have hl := lv_entry ([.ref h3, .int p1, .long p2]) (n := 6) (Nat.le_of_ble_eq_true rfl)
  rw [lg_entry_eq]
  generalize (lg_sl ([.ref h3, .int p1, .long p2]) ++ List.replicate (6 - (lg_sl ([.ref h3, .int p1, .long p2])).length) Slot.unset).toArray = ls at hl ⊢
  have hl : lv_has ls 6 [(0, .ref h3), (1, .int p1), (2, .long p2)] := hl
  refine lv_iload_n hx hb d_7_11_0 rfl (lv_at hl 1 rfl) ?_
  refine lv_istore (lv' := [(4, .int p1), (0, .ref h3), (1, .int p1), (2, .long p2)]) hx hb d_7_11_1 hl (by decide +kernel) rfl (fun ls hl => ?_)
  refine lv_iconst (v := 0) hx hb d_7_11_3 (by decide +kernel) ?_
  refine lv_istore (lv' := [(5, .int 0), (4, .int p1), (0, .ref h3), (1, .int p1), (2, .long p2)]) hx hb d_7_11_4 hl (by decide +kernel) rfl (fun ls hl => ?_)
  refine xLoop (I := fun n H locs ls => ∃ v6_5 : Int32, ∃ v6_4 : Int32, (0 ≤ v6_5.toInt) ∧ (v6_5.toInt ≤ 1501) ∧ (tFind (rJ f13) (rI f19) bn.toInt p2.toInt 1501 p1.toInt = tFind (rJ f13) (rI f19) bn.toInt p2.toInt (1501 - v6_5.toInt).toNat v6_4.toInt) ∧ n = (1501 - v6_5.toInt).toNat ∧ va_P D cls9 [(h3, .inr (1, [.ref h13, .ref h14, .ref h15, .ref h16, .ref h17, .ref h18, .ref h19, .ref h20, .ref h21, .ref h22, .int bn])), (h13, .inl (kJ, 1501, .inr (.inl f13))), (h14, .inl (kI, 1501, .inl f14)), (h15, .inl (kI, 1501, .inl f15)), (h16, .inl (kI, 1501, .inl f16)), (h17, .inl (kI, 1501, .inl f17)), (h18, .inl (kI, 1501, .inl f18)), (h19, .inl (kI, 1501, .inl f19)), (h20, .inl (kI, 1501, .inl f20)), (h21, .inl (kI, 1501, .inl f21)), (h22, .inl (kZ, 1501, .inl f22))] H ∧ va_D A [(h3, .inr (1, [.ref h13, .ref h14, .ref h15, .ref h16, .ref h17, .ref h18, .ref h19, .ref h20, .ref h21, .ref h22, .int bn])), (h13, .inl (kJ, 1501, .inr (.inl f13))), (h14, .inl (kI, 1501, .inl f14)), (h15, .inl (kI, 1501, .inl f15)), (h16, .inl (kI, 1501, .inl f16)), (h17, .inl (kI, 1501, .inl f17)), (h18, .inl (kI, 1501, .inl f18)), (h19, .inl (kI, 1501, .inl f19)), (h20, .inl (kI, 1501, .inl f20)), (h21, .inl (kI, 1501, .inl f21)), (h22, .inl (kZ, 1501, .inl f22))] ∧ va_S A s.heap H locs ∧ lv_has ls 6 [(5, .int v6_5), (4, .int v6_4), (0, .ref h3), (1, .int p1), (2, .long p2)]) ?_ _ _ _ _ ⟨0, p1, (show 0 ≤ (0 : Int) from (by first | assumption | omega)), (show (0 : Int) ≤ 1501 from (by first | assumption | omega)), (show tFind (rJ f13) (rI f19) bn.toInt p2.toInt 1501 p1.toInt = tFind (rJ f13) (rI f19) bn.toInt p2.toInt (1501 - (0 : Int)).toNat p1.toInt from rfl), rfl, hP.sub (ws' := [(h3, .inr (1, [.ref h13, .ref h14, .ref h15, .ref h16, .ref h17, .ref h18, .ref h19, .ref h20, .ref h21, .ref h22, .int bn])), (h13, .inl (kJ, 1501, .inr (.inl f13))), (h14, .inl (kI, 1501, .inl f14)), (h15, .inl (kI, 1501, .inl f15)), (h16, .inl (kI, 1501, .inl f16)), (h17, .inl (kI, 1501, .inl f17)), (h18, .inl (kI, 1501, .inl f18)), (h19, .inl (kI, 1501, .inl f19)), (h20, .inl (kI, 1501, .inl f20)), (h21, .inl (kI, 1501, .inl f21)), (h22, .inl (kZ, 1501, .inl f22))]) [0, 1, 2, 3, 4, 5, 6, 7, 8, 9, 10] rfl, hD.sub (ws' := [(h3, .inr (1, [.ref h13, .ref h14, .ref h15, .ref h16, .ref h17, .ref h18, .ref h19, .ref h20, .ref h21, .ref h22, .int bn])), (h13, .inl (kJ, 1501, .inr (.inl f13))), (h14, .inl (kI, 1501, .inl f14)), (h15, .inl (kI, 1501, .inl f15)), (h16, .inl (kI, 1501, .inl f16)), (h17, .inl (kI, 1501, .inl f17)), (h18, .inl (kI, 1501, .inl f18)), (h19, .inl (kI, 1501, .inl f19)), (h20, .inl (kI, 1501, .inl f20)), (h21, .inl (kI, 1501, .inl f21)), (h22, .inl (kZ, 1501, .inl f22))]) [0, 1, 2, 3, 4, 5, 6, 7, 8, 9, 10] (by decide) rfl, hS, lv_sub hl [0, 1, 2, 3, 4] rfl⟩
  intro n_4 H locs ls hI9 ih_5
  revert hI9
  refine exI fun v6_5 => exI fun v6_4 => anI fun hl_1 => anI fun hl_2 => anI fun hl_3 => anI fun hn_4 => anI fun hP => anI fun hD => anI fun hS => fun hl => ?_
  refine lv_iload hx hb d_7_11_6 (lv_at hl 0 rfl) ?_
  refine lv_sipush (v := 1501) hx hb d_7_11_8 (by decide +kernel) ?_
  refine lv_icmp_ge (tgt := 58) hx hb d_7_11_11 (by decide +kernel) (fun c_6 => ?_) (fun c_6 => ?_)
  · skip
    have tc_6 : 1501 ≤ v6_5.toInt := Int32.le_iff_toInt_le.mp c_6
    refine lv_iconst (v := (-1)) hx hb d_7_11_58 (by decide +kernel) ?_
    have hP9 := hP.sub (ws' := [(h3, .inr (1, [.ref h13, .ref h14, .ref h15, .ref h16, .ref h17, .ref h18, .ref h19, .ref h20, .ref h21, .ref h22, .int bn])), (h13, .inl (kJ, 1501, .inr (.inl f13))), (h14, .inl (kI, 1501, .inl f14)), (h15, .inl (kI, 1501, .inl f15)), (h16, .inl (kI, 1501, .inl f16)), (h17, .inl (kI, 1501, .inl f17)), (h18, .inl (kI, 1501, .inl f18)), (h19, .inl (kI, 1501, .inl f19)), (h20, .inl (kI, 1501, .inl f20)), (h21, .inl (kI, 1501, .inl f21)), (h22, .inl (kZ, 1501, .inl f22))]) [0, 1, 2, 3, 4, 5, 6, 7, 8, 9, 10] rfl
    have hD9 := hD.sub (ws' := [(h3, .inr (1, [.ref h13, .ref h14, .ref h15, .ref h16, .ref h17, .ref h18, .ref h19, .ref h20, .ref h21, .ref h22, .int bn])), (h13, .inl (kJ, 1501, .inr (.inl f13))), (h14, .inl (kI, 1501, .inl f14)), (h15, .inl (kI, 1501, .inl f15)), (h16, .inl (kI, 1501, .inl f16)), (h17, .inl (kI, 1501, .inl f17)), (h18, .inl (kI, 1501, .inl f18)), (h19, .inl (kI, 1501, .inl f19)), (h20, .inl (kI, 1501, .inl f20)), (h21, .inl (kI, 1501, .inl f21)), (h22, .inl (kZ, 1501, .inl f22))]) [0, 1, 2, 3, 4, 5, 6, 7, 8, 9, 10] (by decide) rfl
    have hz_0 : ((-1) : Int) = tFind (rJ f13) (rI f19) bn.toInt p2.toInt 1501 p1.toInt := (by rw [hl_3, tF_n (by omega)])
    exact W.iret (v := (-1)) hx hb hr (fun t ht hW => ⟨⟨(-1), (-1), rfl, ⟨rfl, trivial⟩, hz_0, xEnd hK hP9 hD9 ht hW⟩, hS.F ht⟩) hS.2.2 d_7_11_59
  · skip
    have tc_6 : ¬ 1501 ≤ v6_5.toInt := fun h9 => c_6 (Int32.le_iff_toInt_le.mpr h9)
    refine lv_iload hx hb d_7_11_14 (lv_at hl 1 rfl) ?_
    refine lv_if_lt (tgt := 58) hx hb d_7_11_16 (by decide +kernel) (fun c_7 => ?_) (fun c_7 => ?_)
    · skip
      have tc_7 : v6_4.toInt < 0 := Int32.lt_iff_toInt_lt.mp c_7
      refine lv_iconst (v := (-1)) hx hb d_7_11_58 (by decide +kernel) ?_
      have hP9 := hP.sub (ws' := [(h3, .inr (1, [.ref h13, .ref h14, .ref h15, .ref h16, .ref h17, .ref h18, .ref h19, .ref h20, .ref h21, .ref h22, .int bn])), (h13, .inl (kJ, 1501, .inr (.inl f13))), (h14, .inl (kI, 1501, .inl f14)), (h15, .inl (kI, 1501, .inl f15)), (h16, .inl (kI, 1501, .inl f16)), (h17, .inl (kI, 1501, .inl f17)), (h18, .inl (kI, 1501, .inl f18)), (h19, .inl (kI, 1501, .inl f19)), (h20, .inl (kI, 1501, .inl f20)), (h21, .inl (kI, 1501, .inl f21)), (h22, .inl (kZ, 1501, .inl f22))]) [0, 1, 2, 3, 4, 5, 6, 7, 8, 9, 10] rfl
      have hD9 := hD.sub (ws' := [(h3, .inr (1, [.ref h13, .ref h14, .ref h15, .ref h16, .ref h17, .ref h18, .ref h19, .ref h20, .ref h21, .ref h22, .int bn])), (h13, .inl (kJ, 1501, .inr (.inl f13))), (h14, .inl (kI, 1501, .inl f14)), (h15, .inl (kI, 1501, .inl f15)), (h16, .inl (kI, 1501, .inl f16)), (h17, .inl (kI, 1501, .inl f17)), (h18, .inl (kI, 1501, .inl f18)), (h19, .inl (kI, 1501, .inl f19)), (h20, .inl (kI, 1501, .inl f20)), (h21, .inl (kI, 1501, .inl f21)), (h22, .inl (kZ, 1501, .inl f22))]) [0, 1, 2, 3, 4, 5, 6, 7, 8, 9, 10] (by decide) rfl
      have hz_0 : ((-1) : Int) = tFind (rJ f13) (rI f19) bn.toInt p2.toInt 1501 p1.toInt := (by rw [hl_3, tF_n (by omega)])
      exact W.iret (v := (-1)) hx hb hr (fun t ht hW => ⟨⟨(-1), (-1), rfl, ⟨rfl, trivial⟩, hz_0, xEnd hK hP9 hD9 ht hW⟩, hS.F ht⟩) hS.2.2 d_7_11_59
    · skip
      have tc_7 : ¬ v6_4.toInt < 0 := fun h9 => c_7 (Int32.lt_iff_toInt_lt.mpr h9)
      refine lv_iload hx hb d_7_11_19 (lv_at hl 1 rfl) ?_
      refine lv_aload_n hx hb d_7_11_21 rfl (lv_at hl 2 rfl) ?_
      refine va_get (D := D) (ci := 1) (v := .int bn) (C := "AlgolJudge$Table") (T := T_Table) (N := 11) hx hb hts i_Table hown hK hP 0 rfl rfl 10 (by decide +kernel) (hts _ m_254) (fun _ h9 => h9) rfl d_7_11_22 ?_
      refine lv_icmp_ge (tgt := 58) hx hb d_7_11_25 (by decide +kernel) (fun c_8 => ?_) (fun c_8 => ?_)
      · skip
        have tc_8 : bn.toInt ≤ v6_4.toInt := Int32.le_iff_toInt_le.mp c_8
        refine lv_iconst (v := (-1)) hx hb d_7_11_58 (by decide +kernel) ?_
        have hP9 := hP.sub (ws' := [(h3, .inr (1, [.ref h13, .ref h14, .ref h15, .ref h16, .ref h17, .ref h18, .ref h19, .ref h20, .ref h21, .ref h22, .int bn])), (h13, .inl (kJ, 1501, .inr (.inl f13))), (h14, .inl (kI, 1501, .inl f14)), (h15, .inl (kI, 1501, .inl f15)), (h16, .inl (kI, 1501, .inl f16)), (h17, .inl (kI, 1501, .inl f17)), (h18, .inl (kI, 1501, .inl f18)), (h19, .inl (kI, 1501, .inl f19)), (h20, .inl (kI, 1501, .inl f20)), (h21, .inl (kI, 1501, .inl f21)), (h22, .inl (kZ, 1501, .inl f22))]) [0, 1, 2, 3, 4, 5, 6, 7, 8, 9, 10] rfl
        have hD9 := hD.sub (ws' := [(h3, .inr (1, [.ref h13, .ref h14, .ref h15, .ref h16, .ref h17, .ref h18, .ref h19, .ref h20, .ref h21, .ref h22, .int bn])), (h13, .inl (kJ, 1501, .inr (.inl f13))), (h14, .inl (kI, 1501, .inl f14)), (h15, .inl (kI, 1501, .inl f15)), (h16, .inl (kI, 1501, .inl f16)), (h17, .inl (kI, 1501, .inl f17)), (h18, .inl (kI, 1501, .inl f18)), (h19, .inl (kI, 1501, .inl f19)), (h20, .inl (kI, 1501, .inl f20)), (h21, .inl (kI, 1501, .inl f21)), (h22, .inl (kZ, 1501, .inl f22))]) [0, 1, 2, 3, 4, 5, 6, 7, 8, 9, 10] (by decide) rfl
        have hz_0 : ((-1) : Int) = tFind (rJ f13) (rI f19) bn.toInt p2.toInt 1501 p1.toInt := (by rw [hl_3, tF_n (by omega)])
        exact W.iret (v := (-1)) hx hb hr (fun t ht hW => ⟨⟨(-1), (-1), rfl, ⟨rfl, trivial⟩, hz_0, xEnd hK hP9 hD9 ht hW⟩, hS.F ht⟩) hS.2.2 d_7_11_59
      · skip
        have tc_8 : ¬ bn.toInt ≤ v6_4.toInt := fun h9 => c_8 (Int32.le_iff_toInt_le.mpr h9)
        refine lv_aload_n hx hb d_7_11_28 rfl (lv_at hl 2 rfl) ?_
        refine va_get (D := D) (ci := 1) (v := .ref h13) (C := "AlgolJudge$Table") (T := T_Table) (N := 11) hx hb hts i_Table hown hK hP 0 rfl rfl 0 (by decide +kernel) (hts _ m_244) (fun _ h9 => h9) rfl d_7_11_29 ?_
        refine lv_iload hx hb d_7_11_32 (lv_at hl 1 rfl) ?_
        refine va_lald hx hb hK hP 1 1 rfl rfl (vp_in_iff.mpr ⟨by omega, by omega⟩) d_7_11_34 ?_
        refine lv_topl (fun z_9 ez_9 => ?_)
        refine lv_lload_n hx hb d_7_11_35 rfl (lv_at hl 4 rfl) ?_
        refine W.lcmp hx hb d_7_11_36 ?_
        refine lv_if_ne (tgt := 43) hx hb d_7_11_37 (by decide +kernel) (fun c_10 => ?_) (fun c_10 => ?_)
        · skip
          have tc_10 : ¬ (lg_cmp z_9 p2).toInt = 0 := fun h9 => c_10 (Int32.toInt_inj.mp h9)
          refine lv_aload_n hx hb d_7_11_43 rfl (lv_at hl 2 rfl) ?_
          refine va_get (D := D) (ci := 1) (v := .ref h19) (C := "AlgolJudge$Table") (T := T_Table) (N := 11) hx hb hts i_Table hown hK hP 0 rfl rfl 6 (by decide +kernel) (hts _ m_250) (fun _ h9 => h9) rfl d_7_11_44 ?_
          refine lv_iload hx hb d_7_11_47 (lv_at hl 1 rfl) ?_
          refine va_iald hx hb hK hP 7 0 rfl rfl (vp_in_iff.mpr ⟨by omega, by omega⟩) d_7_11_49 ?_
          refine lv_topi (fun z_11 ez_11 => ?_)
          refine lv_istore (lv' := [(4, .int z_11), (5, .int v6_5), (0, .ref h3), (1, .int p1), (2, .long p2)]) hx hb d_7_11_50 hl (by decide +kernel) rfl (fun ls hl => ?_)
          obtain ⟨y_12, ey_12⟩ : ∃ y : Int32, y = v6_5 + 1 := ⟨_, rfl⟩
          have ty_12 : y_12.toInt = v6_5.toInt + 1 := by rw [ey_12]; exact zaddc (by decide +kernel) (by omega) (by omega)
          refine lv_iinc (v := y_12) (lv' := [(5, .int y_12), (4, .int z_11), (0, .ref h3), (1, .int p1), (2, .long p2)]) hx hb d_7_11_52 hl (k := 1) rfl (by rw [ey_12]; rfl) (by decide +kernel) rfl (fun ls hl => ?_)
          refine lv_goto (tgt := 6) hx hb d_7_11_55 (by decide +kernel) ?_
          exact ih_5 _ _ _ _ (by omega) ⟨y_12, z_11, (show 0 ≤ y_12.toInt from (by first | assumption | omega)), (show y_12.toInt ≤ 1501 from (by first | assumption | omega)), (show tFind (rJ f13) (rI f19) bn.toInt p2.toInt 1501 p1.toInt = tFind (rJ f13) (rI f19) bn.toInt p2.toInt (1501 - y_12.toInt).toNat z_11.toInt from (by rw [hl_3]; refine (tF_s (by omega) (by omega) (by have q9 := lc_n c_10; rw [ez_9] at q9; exact q9) (by omega) (by omega) (by omega)).trans ?_; rw [ez_11]; rfl)), rfl, hP.sub (ws' := [(h3, .inr (1, [.ref h13, .ref h14, .ref h15, .ref h16, .ref h17, .ref h18, .ref h19, .ref h20, .ref h21, .ref h22, .int bn])), (h13, .inl (kJ, 1501, .inr (.inl f13))), (h14, .inl (kI, 1501, .inl f14)), (h15, .inl (kI, 1501, .inl f15)), (h16, .inl (kI, 1501, .inl f16)), (h17, .inl (kI, 1501, .inl f17)), (h18, .inl (kI, 1501, .inl f18)), (h19, .inl (kI, 1501, .inl f19)), (h20, .inl (kI, 1501, .inl f20)), (h21, .inl (kI, 1501, .inl f21)), (h22, .inl (kZ, 1501, .inl f22))]) [0, 1, 2, 3, 4, 5, 6, 7, 8, 9, 10] rfl, hD.sub (ws' := [(h3, .inr (1, [.ref h13, .ref h14, .ref h15, .ref h16, .ref h17, .ref h18, .ref h19, .ref h20, .ref h21, .ref h22, .int bn])), (h13, .inl (kJ, 1501, .inr (.inl f13))), (h14, .inl (kI, 1501, .inl f14)), (h15, .inl (kI, 1501, .inl f15)), (h16, .inl (kI, 1501, .inl f16)), (h17, .inl (kI, 1501, .inl f17)), (h18, .inl (kI, 1501, .inl f18)), (h19, .inl (kI, 1501, .inl f19)), (h20, .inl (kI, 1501, .inl f20)), (h21, .inl (kI, 1501, .inl f21)), (h22, .inl (kZ, 1501, .inl f22))]) [0, 1, 2, 3, 4, 5, 6, 7, 8, 9, 10] (by decide) rfl, hS, lv_sub hl [0, 1, 2, 3, 4] rfl⟩
        · skip
          have tc_10 : (lg_cmp z_9 p2).toInt = 0 := congrArg Int32.toInt c_10
          refine lv_iload hx hb d_7_11_40 (lv_at hl 1 rfl) ?_
          have hP9 := hP.sub (ws' := [(h3, .inr (1, [.ref h13, .ref h14, .ref h15, .ref h16, .ref h17, .ref h18, .ref h19, .ref h20, .ref h21, .ref h22, .int bn])), (h13, .inl (kJ, 1501, .inr (.inl f13))), (h14, .inl (kI, 1501, .inl f14)), (h15, .inl (kI, 1501, .inl f15)), (h16, .inl (kI, 1501, .inl f16)), (h17, .inl (kI, 1501, .inl f17)), (h18, .inl (kI, 1501, .inl f18)), (h19, .inl (kI, 1501, .inl f19)), (h20, .inl (kI, 1501, .inl f20)), (h21, .inl (kI, 1501, .inl f21)), (h22, .inl (kZ, 1501, .inl f22))]) [0, 1, 2, 3, 4, 5, 6, 7, 8, 9, 10] rfl
          have hD9 := hD.sub (ws' := [(h3, .inr (1, [.ref h13, .ref h14, .ref h15, .ref h16, .ref h17, .ref h18, .ref h19, .ref h20, .ref h21, .ref h22, .int bn])), (h13, .inl (kJ, 1501, .inr (.inl f13))), (h14, .inl (kI, 1501, .inl f14)), (h15, .inl (kI, 1501, .inl f15)), (h16, .inl (kI, 1501, .inl f16)), (h17, .inl (kI, 1501, .inl f17)), (h18, .inl (kI, 1501, .inl f18)), (h19, .inl (kI, 1501, .inl f19)), (h20, .inl (kI, 1501, .inl f20)), (h21, .inl (kI, 1501, .inl f21)), (h22, .inl (kZ, 1501, .inl f22))]) [0, 1, 2, 3, 4, 5, 6, 7, 8, 9, 10] (by decide) rfl
          have hz_0 : v6_4.toInt = tFind (rJ f13) (rI f19) bn.toInt p2.toInt 1501 p1.toInt := (by rw [hl_3, tF_f (by omega) (by omega) (by have q9 := lc_e c_10; rw [ez_9] at q9; exact q9) (by omega) (by omega)])
          exact W.iret (v := v6_4) hx hb hr (fun t ht hW => ⟨⟨v6_4, v6_4, rfl, ⟨rfl, trivial⟩, hz_0, xEnd hK hP9 hD9 ht hW⟩, hS.F ht⟩) hS.2.2 d_7_11_42
set_option maxHeartbeats 8000000 in
set_option maxRecDepth 100000 in
theorem g_Table_kind (l : Launch) (D : va_G) (kI kJ kB kZ : ClassId) (sz : Nat) (h3 : Nat) (h13 : Nat) (h14 : Nat) (h15 : Nat) (h16 : Nat) (h17 : Nat) (h18 : Nat) (h19 : Nat) (h20 : Nat) (h21 : Nat) (h22 : Nat) (bn : Int32) (f13 : Nat → Int64) (f14 : Nat → Int32) (f15 : Nat → Int32) (f16 : Nat → Int32) (f17 : Nat → Int32) (f18 : Nat → Int32) (f19 : Nat → Int32) (f20 : Nat → Int32) (f21 : Nat → Int32) (f22 : Nat → Int32) (p1 : Int32) (hf_B1 : 0 ≤ bn.toInt) (hf_B2 : bn.toInt ≤ 1501) (hf_PB : ∀ j : Nat, 0 ≤ (f17 j).toInt ∧ (f17 j).toInt ≤ 3000) : Met l (⟨"AlgolJudge$Table", "kind", "(I)I"⟩ : MethodName) (Cond.code (⟨"AlgolJudge$Table", "kind", "(I)I"⟩ : MethodName) prog_7_method_12_code 2 (some .int) :: gT) ({ frames := 0, cells := 0, slots := 0, locals := 0 }) (va_Pc [.ref h3, .int p1] (xP D (xT kI kJ kB kZ) xN [(h3, .inr (1, [.ref h13, .ref h14, .ref h15, .ref h16, .ref h17, .ref h18, .ref h19, .ref h20, .ref h21, .ref h22, .int bn])), (h13, .inl (kJ, 1501, .inr (.inl f13))), (h14, .inl (kI, 1501, .inl f14)), (h15, .inl (kI, 1501, .inl f15)), (h16, .inl (kI, 1501, .inl f16)), (h17, .inl (kI, 1501, .inl f17)), (h18, .inl (kI, 1501, .inl f18)), (h19, .inl (kI, 1501, .inl f19)), (h20, .inl (kI, 1501, .inl f20)), (h21, .inl (kI, 1501, .inl f21)), (h22, .inl (kZ, 1501, .inl f22))] sz)) (va_Qi (fun (r : Int32) (u : Int32) => r = u ∧ (True)) (fun u t => (u.toInt = gG (rI f14) bn.toInt 0 p1.toInt) ∧ xQ D (xT kI kJ kB kZ) (va_A [(h3, .inr (1, [.ref h13, .ref h14, .ref h15, .ref h16, .ref h17, .ref h18, .ref h19, .ref h20, .ref h21, .ref h22, .int bn])), (h13, .inl (kJ, 1501, .inr (.inl f13))), (h14, .inl (kI, 1501, .inl f14)), (h15, .inl (kI, 1501, .inl f15)), (h16, .inl (kI, 1501, .inl f16)), (h17, .inl (kI, 1501, .inl f17)), (h18, .inl (kI, 1501, .inl f18)), (h19, .inl (kI, 1501, .inl f19)), (h20, .inl (kI, 1501, .inl f20)), (h21, .inl (kI, 1501, .inl f21)), (h22, .inl (kZ, 1501, .inl f22))] sz) [(h3, .inr (1, [.ref h13, .ref h14, .ref h15, .ref h16, .ref h17, .ref h18, .ref h19, .ref h20, .ref h21, .ref h22, .int bn])), (h13, .inl (kJ, 1501, .inr (.inl f13))), (h14, .inl (kI, 1501, .inl f14)), (h15, .inl (kI, 1501, .inl f15)), (h16, .inl (kI, 1501, .inl f16)), (h17, .inl (kI, 1501, .inl f17)), (h18, .inl (kI, 1501, .inl f18)), (h19, .inl (kI, 1501, .inl f19)), (h20, .inl (kI, 1501, .inl f20)), (h21, .inl (kI, 1501, .inl f21)), (h22, .inl (kZ, 1501, .inl f22))] t) (va_A [(h3, .inr (1, [.ref h13, .ref h14, .ref h15, .ref h16, .ref h17, .ref h18, .ref h19, .ref h20, .ref h21, .ref h22, .int bn])), (h13, .inl (kJ, 1501, .inr (.inl f13))), (h14, .inl (kI, 1501, .inl f14)), (h15, .inl (kI, 1501, .inl f15)), (h16, .inl (kI, 1501, .inl f16)), (h17, .inl (kI, 1501, .inl f17)), (h18, .inl (kI, 1501, .inl f18)), (h19, .inl (kI, 1501, .inl f19)), (h20, .inl (kI, 1501, .inl f20)), (h21, .inl (kI, 1501, .inl f21)), (h22, .inl (kZ, 1501, .inl f22))] sz)) 0 0 (va_A [(h3, .inr (1, [.ref h13, .ref h14, .ref h15, .ref h16, .ref h17, .ref h18, .ref h19, .ref h20, .ref h21, .ref h22, .int bn])), (h13, .inl (kJ, 1501, .inr (.inl f13))), (h14, .inl (kI, 1501, .inl f14)), (h15, .inl (kI, 1501, .inl f15)), (h16, .inl (kI, 1501, .inl f16)), (h17, .inl (kI, 1501, .inl f17)), (h18, .inl (kI, 1501, .inl f18)), (h19, .inl (kI, 1501, .inl f19)), (h20, .inl (kI, 1501, .inl f20)), (h21, .inl (kI, 1501, .inl f21)), (h22, .inl (kZ, 1501, .inl f22))] sz) := by
  refine Met.ofW (cc := prog_7_method_12_code) (maxL := 2) (ret := some .int) (by decide +kernel) rfl ?_
  intro p e s m args below meth c s₁ B hml hv
  obtain ⟨rfl, hsz, hP, hK, hD0, hE⟩ := hv
  have hx := B.exec
  have hb := B.bytes
  have hr := B.returns
  have hts : ∀ w ∈ gT, w.before _ s = true := fun w h => atoms_spec (ws := Cond.code (⟨"AlgolJudge$Table", "kind", "(I)I"⟩ : MethodName) prog_7_method_12_code 2 (some .int) :: gT) B.pre w (List.mem_cons_of_mem _ h)
  have hown : s.vm.findClass "AlgolJudge$Table" = some m.cls := findClass_of_methodNamed B.named
  have hlocks := B.notSynchronized
  subst hsz
  have hD := hD0.self (sz := s.heap.size)
  generalize hAe : va_A [(h3, .inr (1, [.ref h13, .ref h14, .ref h15, .ref h16, .ref h17, .ref h18, .ref h19, .ref h20, .ref h21, .ref h22, .int bn])), (h13, .inl (kJ, 1501, .inr (.inl f13))), (h14, .inl (kI, 1501, .inl f14)), (h15, .inl (kI, 1501, .inl f15)), (h16, .inl (kI, 1501, .inl f16)), (h17, .inl (kI, 1501, .inl f17)), (h18, .inl (kI, 1501, .inl f18)), (h19, .inl (kI, 1501, .inl f19)), (h20, .inl (kI, 1501, .inl f20)), (h21, .inl (kI, 1501, .inl f21)), (h22, .inl (kZ, 1501, .inl f22))] s.heap.size = A at hD hE ⊢
  have hA : ∀ q : Nat, s.heap.size ≤ q → A q := fun q h => by rw [← hAe]; exact Or.inr h
  have hS : va_S A s.heap s.heap [] := va_S.rf
  have hP : va_P D cls9 [(h3, .inr (1, [.ref h13, .ref h14, .ref h15, .ref h16, .ref h17, .ref h18, .ref h19, .ref h20, .ref h21, .ref h22, .int bn])), (h13, .inl (kJ, 1501, .inr (.inl f13))), (h14, .inl (kI, 1501, .inl f14)), (h15, .inl (kI, 1501, .inl f15)), (h16, .inl (kI, 1501, .inl f16)), (h17, .inl (kI, 1501, .inl f17)), (h18, .inl (kI, 1501, .inl f18)), (h19, .inl (kI, 1501, .inl f19)), (h20, .inl (kI, 1501, .inl f20)), (h21, .inl (kI, 1501, .inl f21)), (h22, .inl (kZ, 1501, .inl f22))] s.heap := hP
  have hl := lv_entry ([.ref h3, .int p1]) (n := 2) (Nat.le_of_ble_eq_true rfl)
  rw [lg_entry_eq]
  generalize (lg_sl ([.ref h3, .int p1]) ++ List.replicate (2 - (lg_sl ([.ref h3, .int p1])).length) Slot.unset).toArray = ls at hl ⊢
  have hl : lv_has ls 2 [(0, .ref h3), (1, .int p1)] := hl
  refine lv_iload_n hx hb d_7_12_0 rfl (lv_at hl 1 rfl) ?_
  refine lv_if_lt (tgt := 21) hx hb d_7_12_1 (by decide +kernel) (fun c_1 => ?_) (fun c_1 => ?_)
  · skip
    have tc_1 : p1.toInt < 0 := Int32.lt_iff_toInt_lt.mp c_1
    refine lv_iconst (v := 0) hx hb d_7_12_21 (by decide +kernel) ?_
    have hP9 := hP.sub (ws' := [(h3, .inr (1, [.ref h13, .ref h14, .ref h15, .ref h16, .ref h17, .ref h18, .ref h19, .ref h20, .ref h21, .ref h22, .int bn])), (h13, .inl (kJ, 1501, .inr (.inl f13))), (h14, .inl (kI, 1501, .inl f14)), (h15, .inl (kI, 1501, .inl f15)), (h16, .inl (kI, 1501, .inl f16)), (h17, .inl (kI, 1501, .inl f17)), (h18, .inl (kI, 1501, .inl f18)), (h19, .inl (kI, 1501, .inl f19)), (h20, .inl (kI, 1501, .inl f20)), (h21, .inl (kI, 1501, .inl f21)), (h22, .inl (kZ, 1501, .inl f22))]) [0, 1, 2, 3, 4, 5, 6, 7, 8, 9, 10] rfl
    have hD9 := hD.sub (ws' := [(h3, .inr (1, [.ref h13, .ref h14, .ref h15, .ref h16, .ref h17, .ref h18, .ref h19, .ref h20, .ref h21, .ref h22, .int bn])), (h13, .inl (kJ, 1501, .inr (.inl f13))), (h14, .inl (kI, 1501, .inl f14)), (h15, .inl (kI, 1501, .inl f15)), (h16, .inl (kI, 1501, .inl f16)), (h17, .inl (kI, 1501, .inl f17)), (h18, .inl (kI, 1501, .inl f18)), (h19, .inl (kI, 1501, .inl f19)), (h20, .inl (kI, 1501, .inl f20)), (h21, .inl (kI, 1501, .inl f21)), (h22, .inl (kZ, 1501, .inl f22))]) [0, 1, 2, 3, 4, 5, 6, 7, 8, 9, 10] (by decide) rfl
    have hz_0 : (0 : Int) = gG (rI f14) bn.toInt 0 p1.toInt := (by first | exact gG_out (by omega) | (exfalso; omega))
    exact W.iret (v := 0) hx hb hr (fun t ht hW => ⟨⟨0, 0, rfl, ⟨rfl, trivial⟩, hz_0, xEnd hK hP9 hD9 ht hW⟩, hS.F ht⟩) hS.2.2 d_7_12_22
  · skip
    have tc_1 : ¬ p1.toInt < 0 := fun h9 => c_1 (Int32.lt_iff_toInt_lt.mpr h9)
    refine lv_iload_n hx hb d_7_12_4 rfl (lv_at hl 1 rfl) ?_
    refine lv_aload_n hx hb d_7_12_5 rfl (lv_at hl 0 rfl) ?_
    refine va_get (D := D) (ci := 1) (v := .int bn) (C := "AlgolJudge$Table") (T := T_Table) (N := 11) hx hb hts i_Table hown hK hP 0 rfl rfl 10 (by decide +kernel) (hts _ m_254) (fun _ h9 => h9) rfl d_7_12_6 ?_
    refine lv_icmp_ge (tgt := 21) hx hb d_7_12_9 (by decide +kernel) (fun c_2 => ?_) (fun c_2 => ?_)
    · skip
      have tc_2 : bn.toInt ≤ p1.toInt := Int32.le_iff_toInt_le.mp c_2
      refine lv_iconst (v := 0) hx hb d_7_12_21 (by decide +kernel) ?_
      have hP9 := hP.sub (ws' := [(h3, .inr (1, [.ref h13, .ref h14, .ref h15, .ref h16, .ref h17, .ref h18, .ref h19, .ref h20, .ref h21, .ref h22, .int bn])), (h13, .inl (kJ, 1501, .inr (.inl f13))), (h14, .inl (kI, 1501, .inl f14)), (h15, .inl (kI, 1501, .inl f15)), (h16, .inl (kI, 1501, .inl f16)), (h17, .inl (kI, 1501, .inl f17)), (h18, .inl (kI, 1501, .inl f18)), (h19, .inl (kI, 1501, .inl f19)), (h20, .inl (kI, 1501, .inl f20)), (h21, .inl (kI, 1501, .inl f21)), (h22, .inl (kZ, 1501, .inl f22))]) [0, 1, 2, 3, 4, 5, 6, 7, 8, 9, 10] rfl
      have hD9 := hD.sub (ws' := [(h3, .inr (1, [.ref h13, .ref h14, .ref h15, .ref h16, .ref h17, .ref h18, .ref h19, .ref h20, .ref h21, .ref h22, .int bn])), (h13, .inl (kJ, 1501, .inr (.inl f13))), (h14, .inl (kI, 1501, .inl f14)), (h15, .inl (kI, 1501, .inl f15)), (h16, .inl (kI, 1501, .inl f16)), (h17, .inl (kI, 1501, .inl f17)), (h18, .inl (kI, 1501, .inl f18)), (h19, .inl (kI, 1501, .inl f19)), (h20, .inl (kI, 1501, .inl f20)), (h21, .inl (kI, 1501, .inl f21)), (h22, .inl (kZ, 1501, .inl f22))]) [0, 1, 2, 3, 4, 5, 6, 7, 8, 9, 10] (by decide) rfl
      have hz_0 : (0 : Int) = gG (rI f14) bn.toInt 0 p1.toInt := (by first | exact gG_out (by omega) | (exfalso; omega))
      exact W.iret (v := 0) hx hb hr (fun t ht hW => ⟨⟨0, 0, rfl, ⟨rfl, trivial⟩, hz_0, xEnd hK hP9 hD9 ht hW⟩, hS.F ht⟩) hS.2.2 d_7_12_22
    · skip
      have tc_2 : ¬ bn.toInt ≤ p1.toInt := fun h9 => c_2 (Int32.le_iff_toInt_le.mpr h9)
      refine lv_aload_n hx hb d_7_12_12 rfl (lv_at hl 0 rfl) ?_
      refine va_get (D := D) (ci := 1) (v := .ref h14) (C := "AlgolJudge$Table") (T := T_Table) (N := 11) hx hb hts i_Table hown hK hP 0 rfl rfl 1 (by decide +kernel) (hts _ m_245) (fun _ h9 => h9) rfl d_7_12_13 ?_
      refine lv_iload_n hx hb d_7_12_16 rfl (lv_at hl 1 rfl) ?_
      refine va_iald hx hb hK hP 2 0 rfl rfl (vp_in_iff.mpr ⟨by omega, by omega⟩) d_7_12_17 ?_
      refine lv_topi (fun z_3 ez_3 => ?_)
      refine lv_goto (tgt := 22) hx hb d_7_12_18 (by decide +kernel) ?_
      have hP9 := hP.sub (ws' := [(h3, .inr (1, [.ref h13, .ref h14, .ref h15, .ref h16, .ref h17, .ref h18, .ref h19, .ref h20, .ref h21, .ref h22, .int bn])), (h13, .inl (kJ, 1501, .inr (.inl f13))), (h14, .inl (kI, 1501, .inl f14)), (h15, .inl (kI, 1501, .inl f15)), (h16, .inl (kI, 1501, .inl f16)), (h17, .inl (kI, 1501, .inl f17)), (h18, .inl (kI, 1501, .inl f18)), (h19, .inl (kI, 1501, .inl f19)), (h20, .inl (kI, 1501, .inl f20)), (h21, .inl (kI, 1501, .inl f21)), (h22, .inl (kZ, 1501, .inl f22))]) [0, 1, 2, 3, 4, 5, 6, 7, 8, 9, 10] rfl
      have hD9 := hD.sub (ws' := [(h3, .inr (1, [.ref h13, .ref h14, .ref h15, .ref h16, .ref h17, .ref h18, .ref h19, .ref h20, .ref h21, .ref h22, .int bn])), (h13, .inl (kJ, 1501, .inr (.inl f13))), (h14, .inl (kI, 1501, .inl f14)), (h15, .inl (kI, 1501, .inl f15)), (h16, .inl (kI, 1501, .inl f16)), (h17, .inl (kI, 1501, .inl f17)), (h18, .inl (kI, 1501, .inl f18)), (h19, .inl (kI, 1501, .inl f19)), (h20, .inl (kI, 1501, .inl f20)), (h21, .inl (kI, 1501, .inl f21)), (h22, .inl (kZ, 1501, .inl f22))]) [0, 1, 2, 3, 4, 5, 6, 7, 8, 9, 10] (by decide) rfl
      have hz_0 : z_3.toInt = gG (rI f14) bn.toInt 0 p1.toInt := (by first | (rw [ez_3]; exact gG_in (by omega) (by omega)) | (exfalso; omega))
      exact W.iret (v := z_3) hx hb hr (fun t ht hW => ⟨⟨z_3, z_3, rfl, ⟨rfl, trivial⟩, hz_0, xEnd hK hP9 hD9 ht hW⟩, hS.F ht⟩) hS.2.2 d_7_12_22
set_option maxHeartbeats 8000000 in
set_option maxRecDepth 100000 in
theorem g_Table_type (l : Launch) (D : va_G) (kI kJ kB kZ : ClassId) (sz : Nat) (h3 : Nat) (h13 : Nat) (h14 : Nat) (h15 : Nat) (h16 : Nat) (h17 : Nat) (h18 : Nat) (h19 : Nat) (h20 : Nat) (h21 : Nat) (h22 : Nat) (bn : Int32) (f13 : Nat → Int64) (f14 : Nat → Int32) (f15 : Nat → Int32) (f16 : Nat → Int32) (f17 : Nat → Int32) (f18 : Nat → Int32) (f19 : Nat → Int32) (f20 : Nat → Int32) (f21 : Nat → Int32) (f22 : Nat → Int32) (p1 : Int32) (hf_B1 : 0 ≤ bn.toInt) (hf_B2 : bn.toInt ≤ 1501) (hf_PB : ∀ j : Nat, 0 ≤ (f17 j).toInt ∧ (f17 j).toInt ≤ 3000) : Met l (⟨"AlgolJudge$Table", "type", "(I)I"⟩ : MethodName) (Cond.code (⟨"AlgolJudge$Table", "type", "(I)I"⟩ : MethodName) prog_7_method_13_code 2 (some .int) :: gT) ({ frames := 0, cells := 0, slots := 0, locals := 0 }) (va_Pc [.ref h3, .int p1] (xP D (xT kI kJ kB kZ) xN [(h3, .inr (1, [.ref h13, .ref h14, .ref h15, .ref h16, .ref h17, .ref h18, .ref h19, .ref h20, .ref h21, .ref h22, .int bn])), (h13, .inl (kJ, 1501, .inr (.inl f13))), (h14, .inl (kI, 1501, .inl f14)), (h15, .inl (kI, 1501, .inl f15)), (h16, .inl (kI, 1501, .inl f16)), (h17, .inl (kI, 1501, .inl f17)), (h18, .inl (kI, 1501, .inl f18)), (h19, .inl (kI, 1501, .inl f19)), (h20, .inl (kI, 1501, .inl f20)), (h21, .inl (kI, 1501, .inl f21)), (h22, .inl (kZ, 1501, .inl f22))] sz)) (va_Qi (fun (r : Int32) (u : Int32) => r = u ∧ (True)) (fun u t => (u.toInt = gG (rI f15) bn.toInt 0 p1.toInt) ∧ xQ D (xT kI kJ kB kZ) (va_A [(h3, .inr (1, [.ref h13, .ref h14, .ref h15, .ref h16, .ref h17, .ref h18, .ref h19, .ref h20, .ref h21, .ref h22, .int bn])), (h13, .inl (kJ, 1501, .inr (.inl f13))), (h14, .inl (kI, 1501, .inl f14)), (h15, .inl (kI, 1501, .inl f15)), (h16, .inl (kI, 1501, .inl f16)), (h17, .inl (kI, 1501, .inl f17)), (h18, .inl (kI, 1501, .inl f18)), (h19, .inl (kI, 1501, .inl f19)), (h20, .inl (kI, 1501, .inl f20)), (h21, .inl (kI, 1501, .inl f21)), (h22, .inl (kZ, 1501, .inl f22))] sz) [(h3, .inr (1, [.ref h13, .ref h14, .ref h15, .ref h16, .ref h17, .ref h18, .ref h19, .ref h20, .ref h21, .ref h22, .int bn])), (h13, .inl (kJ, 1501, .inr (.inl f13))), (h14, .inl (kI, 1501, .inl f14)), (h15, .inl (kI, 1501, .inl f15)), (h16, .inl (kI, 1501, .inl f16)), (h17, .inl (kI, 1501, .inl f17)), (h18, .inl (kI, 1501, .inl f18)), (h19, .inl (kI, 1501, .inl f19)), (h20, .inl (kI, 1501, .inl f20)), (h21, .inl (kI, 1501, .inl f21)), (h22, .inl (kZ, 1501, .inl f22))] t) (va_A [(h3, .inr (1, [.ref h13, .ref h14, .ref h15, .ref h16, .ref h17, .ref h18, .ref h19, .ref h20, .ref h21, .ref h22, .int bn])), (h13, .inl (kJ, 1501, .inr (.inl f13))), (h14, .inl (kI, 1501, .inl f14)), (h15, .inl (kI, 1501, .inl f15)), (h16, .inl (kI, 1501, .inl f16)), (h17, .inl (kI, 1501, .inl f17)), (h18, .inl (kI, 1501, .inl f18)), (h19, .inl (kI, 1501, .inl f19)), (h20, .inl (kI, 1501, .inl f20)), (h21, .inl (kI, 1501, .inl f21)), (h22, .inl (kZ, 1501, .inl f22))] sz)) 0 0 (va_A [(h3, .inr (1, [.ref h13, .ref h14, .ref h15, .ref h16, .ref h17, .ref h18, .ref h19, .ref h20, .ref h21, .ref h22, .int bn])), (h13, .inl (kJ, 1501, .inr (.inl f13))), (h14, .inl (kI, 1501, .inl f14)), (h15, .inl (kI, 1501, .inl f15)), (h16, .inl (kI, 1501, .inl f16)), (h17, .inl (kI, 1501, .inl f17)), (h18, .inl (kI, 1501, .inl f18)), (h19, .inl (kI, 1501, .inl f19)), (h20, .inl (kI, 1501, .inl f20)), (h21, .inl (kI, 1501, .inl f21)), (h22, .inl (kZ, 1501, .inl f22))] sz) := by
  refine Met.ofW (cc := prog_7_method_13_code) (maxL := 2) (ret := some .int) (by decide +kernel) rfl ?_
  intro p e s m args below meth c s₁ B hml hv
  obtain ⟨rfl, hsz, hP, hK, hD0, hE⟩ := hv
  have hx := B.exec
  have hb := B.bytes
  have hr := B.returns
  have hts : ∀ w ∈ gT, w.before _ s = true := fun w h => atoms_spec (ws := Cond.code (⟨"AlgolJudge$Table", "type", "(I)I"⟩ : MethodName) prog_7_method_13_code 2 (some .int) :: gT) B.pre w (List.mem_cons_of_mem _ h)
  have hown : s.vm.findClass "AlgolJudge$Table" = some m.cls := findClass_of_methodNamed B.named
  have hlocks := B.notSynchronized
  subst hsz
  have hD := hD0.self (sz := s.heap.size)
  generalize hAe : va_A [(h3, .inr (1, [.ref h13, .ref h14, .ref h15, .ref h16, .ref h17, .ref h18, .ref h19, .ref h20, .ref h21, .ref h22, .int bn])), (h13, .inl (kJ, 1501, .inr (.inl f13))), (h14, .inl (kI, 1501, .inl f14)), (h15, .inl (kI, 1501, .inl f15)), (h16, .inl (kI, 1501, .inl f16)), (h17, .inl (kI, 1501, .inl f17)), (h18, .inl (kI, 1501, .inl f18)), (h19, .inl (kI, 1501, .inl f19)), (h20, .inl (kI, 1501, .inl f20)), (h21, .inl (kI, 1501, .inl f21)), (h22, .inl (kZ, 1501, .inl f22))] s.heap.size = A at hD hE ⊢
  have hA : ∀ q : Nat, s.heap.size ≤ q → A q := fun q h => by rw [← hAe]; exact Or.inr h
  have hS : va_S A s.heap s.heap [] := va_S.rf
  have hP : va_P D cls9 [(h3, .inr (1, [.ref h13, .ref h14, .ref h15, .ref h16, .ref h17, .ref h18, .ref h19, .ref h20, .ref h21, .ref h22, .int bn])), (h13, .inl (kJ, 1501, .inr (.inl f13))), (h14, .inl (kI, 1501, .inl f14)), (h15, .inl (kI, 1501, .inl f15)), (h16, .inl (kI, 1501, .inl f16)), (h17, .inl (kI, 1501, .inl f17)), (h18, .inl (kI, 1501, .inl f18)), (h19, .inl (kI, 1501, .inl f19)), (h20, .inl (kI, 1501, .inl f20)), (h21, .inl (kI, 1501, .inl f21)), (h22, .inl (kZ, 1501, .inl f22))] s.heap := hP
  have hl := lv_entry ([.ref h3, .int p1]) (n := 2) (Nat.le_of_ble_eq_true rfl)
  rw [lg_entry_eq]
  generalize (lg_sl ([.ref h3, .int p1]) ++ List.replicate (2 - (lg_sl ([.ref h3, .int p1])).length) Slot.unset).toArray = ls at hl ⊢
  have hl : lv_has ls 2 [(0, .ref h3), (1, .int p1)] := hl
  refine lv_iload_n hx hb d_7_13_0 rfl (lv_at hl 1 rfl) ?_
  refine lv_if_lt (tgt := 21) hx hb d_7_13_1 (by decide +kernel) (fun c_1 => ?_) (fun c_1 => ?_)
  · skip
    have tc_1 : p1.toInt < 0 := Int32.lt_iff_toInt_lt.mp c_1
    refine lv_iconst (v := 0) hx hb d_7_13_21 (by decide +kernel) ?_
    have hP9 := hP.sub (ws' := [(h3, .inr (1, [.ref h13, .ref h14, .ref h15, .ref h16, .ref h17, .ref h18, .ref h19, .ref h20, .ref h21, .ref h22, .int bn])), (h13, .inl (kJ, 1501, .inr (.inl f13))), (h14, .inl (kI, 1501, .inl f14)), (h15, .inl (kI, 1501, .inl f15)), (h16, .inl (kI, 1501, .inl f16)), (h17, .inl (kI, 1501, .inl f17)), (h18, .inl (kI, 1501, .inl f18)), (h19, .inl (kI, 1501, .inl f19)), (h20, .inl (kI, 1501, .inl f20)), (h21, .inl (kI, 1501, .inl f21)), (h22, .inl (kZ, 1501, .inl f22))]) [0, 1, 2, 3, 4, 5, 6, 7, 8, 9, 10] rfl
    have hD9 := hD.sub (ws' := [(h3, .inr (1, [.ref h13, .ref h14, .ref h15, .ref h16, .ref h17, .ref h18, .ref h19, .ref h20, .ref h21, .ref h22, .int bn])), (h13, .inl (kJ, 1501, .inr (.inl f13))), (h14, .inl (kI, 1501, .inl f14)), (h15, .inl (kI, 1501, .inl f15)), (h16, .inl (kI, 1501, .inl f16)), (h17, .inl (kI, 1501, .inl f17)), (h18, .inl (kI, 1501, .inl f18)), (h19, .inl (kI, 1501, .inl f19)), (h20, .inl (kI, 1501, .inl f20)), (h21, .inl (kI, 1501, .inl f21)), (h22, .inl (kZ, 1501, .inl f22))]) [0, 1, 2, 3, 4, 5, 6, 7, 8, 9, 10] (by decide) rfl
    have hz_0 : (0 : Int) = gG (rI f15) bn.toInt 0 p1.toInt := (by first | exact gG_out (by omega) | (exfalso; omega))
    exact W.iret (v := 0) hx hb hr (fun t ht hW => ⟨⟨0, 0, rfl, ⟨rfl, trivial⟩, hz_0, xEnd hK hP9 hD9 ht hW⟩, hS.F ht⟩) hS.2.2 d_7_13_22
  · skip
    have tc_1 : ¬ p1.toInt < 0 := fun h9 => c_1 (Int32.lt_iff_toInt_lt.mpr h9)
    refine lv_iload_n hx hb d_7_13_4 rfl (lv_at hl 1 rfl) ?_
    refine lv_aload_n hx hb d_7_13_5 rfl (lv_at hl 0 rfl) ?_
    refine va_get (D := D) (ci := 1) (v := .int bn) (C := "AlgolJudge$Table") (T := T_Table) (N := 11) hx hb hts i_Table hown hK hP 0 rfl rfl 10 (by decide +kernel) (hts _ m_254) (fun _ h9 => h9) rfl d_7_13_6 ?_
    refine lv_icmp_ge (tgt := 21) hx hb d_7_13_9 (by decide +kernel) (fun c_2 => ?_) (fun c_2 => ?_)
    · skip
      have tc_2 : bn.toInt ≤ p1.toInt := Int32.le_iff_toInt_le.mp c_2
      refine lv_iconst (v := 0) hx hb d_7_13_21 (by decide +kernel) ?_
      have hP9 := hP.sub (ws' := [(h3, .inr (1, [.ref h13, .ref h14, .ref h15, .ref h16, .ref h17, .ref h18, .ref h19, .ref h20, .ref h21, .ref h22, .int bn])), (h13, .inl (kJ, 1501, .inr (.inl f13))), (h14, .inl (kI, 1501, .inl f14)), (h15, .inl (kI, 1501, .inl f15)), (h16, .inl (kI, 1501, .inl f16)), (h17, .inl (kI, 1501, .inl f17)), (h18, .inl (kI, 1501, .inl f18)), (h19, .inl (kI, 1501, .inl f19)), (h20, .inl (kI, 1501, .inl f20)), (h21, .inl (kI, 1501, .inl f21)), (h22, .inl (kZ, 1501, .inl f22))]) [0, 1, 2, 3, 4, 5, 6, 7, 8, 9, 10] rfl
      have hD9 := hD.sub (ws' := [(h3, .inr (1, [.ref h13, .ref h14, .ref h15, .ref h16, .ref h17, .ref h18, .ref h19, .ref h20, .ref h21, .ref h22, .int bn])), (h13, .inl (kJ, 1501, .inr (.inl f13))), (h14, .inl (kI, 1501, .inl f14)), (h15, .inl (kI, 1501, .inl f15)), (h16, .inl (kI, 1501, .inl f16)), (h17, .inl (kI, 1501, .inl f17)), (h18, .inl (kI, 1501, .inl f18)), (h19, .inl (kI, 1501, .inl f19)), (h20, .inl (kI, 1501, .inl f20)), (h21, .inl (kI, 1501, .inl f21)), (h22, .inl (kZ, 1501, .inl f22))]) [0, 1, 2, 3, 4, 5, 6, 7, 8, 9, 10] (by decide) rfl
      have hz_0 : (0 : Int) = gG (rI f15) bn.toInt 0 p1.toInt := (by first | exact gG_out (by omega) | (exfalso; omega))
      exact W.iret (v := 0) hx hb hr (fun t ht hW => ⟨⟨0, 0, rfl, ⟨rfl, trivial⟩, hz_0, xEnd hK hP9 hD9 ht hW⟩, hS.F ht⟩) hS.2.2 d_7_13_22
    · skip
      have tc_2 : ¬ bn.toInt ≤ p1.toInt := fun h9 => c_2 (Int32.le_iff_toInt_le.mpr h9)
      refine lv_aload_n hx hb d_7_13_12 rfl (lv_at hl 0 rfl) ?_
      refine va_get (D := D) (ci := 1) (v := .ref h15) (C := "AlgolJudge$Table") (T := T_Table) (N := 11) hx hb hts i_Table hown hK hP 0 rfl rfl 2 (by decide +kernel) (hts _ m_246) (fun _ h9 => h9) rfl d_7_13_13 ?_
      refine lv_iload_n hx hb d_7_13_16 rfl (lv_at hl 1 rfl) ?_
      refine va_iald hx hb hK hP 3 0 rfl rfl (vp_in_iff.mpr ⟨by omega, by omega⟩) d_7_13_17 ?_
      refine lv_topi (fun z_3 ez_3 => ?_)
      refine lv_goto (tgt := 22) hx hb d_7_13_18 (by decide +kernel) ?_
      have hP9 := hP.sub (ws' := [(h3, .inr (1, [.ref h13, .ref h14, .ref h15, .ref h16, .ref h17, .ref h18, .ref h19, .ref h20, .ref h21, .ref h22, .int bn])), (h13, .inl (kJ, 1501, .inr (.inl f13))), (h14, .inl (kI, 1501, .inl f14)), (h15, .inl (kI, 1501, .inl f15)), (h16, .inl (kI, 1501, .inl f16)), (h17, .inl (kI, 1501, .inl f17)), (h18, .inl (kI, 1501, .inl f18)), (h19, .inl (kI, 1501, .inl f19)), (h20, .inl (kI, 1501, .inl f20)), (h21, .inl (kI, 1501, .inl f21)), (h22, .inl (kZ, 1501, .inl f22))]) [0, 1, 2, 3, 4, 5, 6, 7, 8, 9, 10] rfl
      have hD9 := hD.sub (ws' := [(h3, .inr (1, [.ref h13, .ref h14, .ref h15, .ref h16, .ref h17, .ref h18, .ref h19, .ref h20, .ref h21, .ref h22, .int bn])), (h13, .inl (kJ, 1501, .inr (.inl f13))), (h14, .inl (kI, 1501, .inl f14)), (h15, .inl (kI, 1501, .inl f15)), (h16, .inl (kI, 1501, .inl f16)), (h17, .inl (kI, 1501, .inl f17)), (h18, .inl (kI, 1501, .inl f18)), (h19, .inl (kI, 1501, .inl f19)), (h20, .inl (kI, 1501, .inl f20)), (h21, .inl (kI, 1501, .inl f21)), (h22, .inl (kZ, 1501, .inl f22))]) [0, 1, 2, 3, 4, 5, 6, 7, 8, 9, 10] (by decide) rfl
      have hz_0 : z_3.toInt = gG (rI f15) bn.toInt 0 p1.toInt := (by first | (rw [ez_3]; exact gG_in (by omega) (by omega)) | (exfalso; omega))
      exact W.iret (v := z_3) hx hb hr (fun t ht hW => ⟨⟨z_3, z_3, rfl, ⟨rfl, trivial⟩, hz_0, xEnd hK hP9 hD9 ht hW⟩, hS.F ht⟩) hS.2.2 d_7_13_22
set_option maxHeartbeats 8000000 in
set_option maxRecDepth 100000 in
theorem g_Table_count (l : Launch) (D : va_G) (kI kJ kB kZ : ClassId) (sz : Nat) (h3 : Nat) (h13 : Nat) (h14 : Nat) (h15 : Nat) (h16 : Nat) (h17 : Nat) (h18 : Nat) (h19 : Nat) (h20 : Nat) (h21 : Nat) (h22 : Nat) (bn : Int32) (f13 : Nat → Int64) (f14 : Nat → Int32) (f15 : Nat → Int32) (f16 : Nat → Int32) (f17 : Nat → Int32) (f18 : Nat → Int32) (f19 : Nat → Int32) (f20 : Nat → Int32) (f21 : Nat → Int32) (f22 : Nat → Int32) (p1 : Int32) (hf_B1 : 0 ≤ bn.toInt) (hf_B2 : bn.toInt ≤ 1501) (hf_PB : ∀ j : Nat, 0 ≤ (f17 j).toInt ∧ (f17 j).toInt ≤ 3000) : Met l (⟨"AlgolJudge$Table", "count", "(I)I"⟩ : MethodName) (Cond.code (⟨"AlgolJudge$Table", "count", "(I)I"⟩ : MethodName) prog_7_method_14_code 2 (some .int) :: gT) ({ frames := 0, cells := 0, slots := 0, locals := 0 }) (va_Pc [.ref h3, .int p1] (xP D (xT kI kJ kB kZ) xN [(h3, .inr (1, [.ref h13, .ref h14, .ref h15, .ref h16, .ref h17, .ref h18, .ref h19, .ref h20, .ref h21, .ref h22, .int bn])), (h13, .inl (kJ, 1501, .inr (.inl f13))), (h14, .inl (kI, 1501, .inl f14)), (h15, .inl (kI, 1501, .inl f15)), (h16, .inl (kI, 1501, .inl f16)), (h17, .inl (kI, 1501, .inl f17)), (h18, .inl (kI, 1501, .inl f18)), (h19, .inl (kI, 1501, .inl f19)), (h20, .inl (kI, 1501, .inl f20)), (h21, .inl (kI, 1501, .inl f21)), (h22, .inl (kZ, 1501, .inl f22))] sz)) (va_Qi (fun (r : Int32) (u : Int32) => r = u ∧ (True)) (fun u t => (u.toInt = gG (rI f16) bn.toInt 0 p1.toInt) ∧ xQ D (xT kI kJ kB kZ) (va_A [(h3, .inr (1, [.ref h13, .ref h14, .ref h15, .ref h16, .ref h17, .ref h18, .ref h19, .ref h20, .ref h21, .ref h22, .int bn])), (h13, .inl (kJ, 1501, .inr (.inl f13))), (h14, .inl (kI, 1501, .inl f14)), (h15, .inl (kI, 1501, .inl f15)), (h16, .inl (kI, 1501, .inl f16)), (h17, .inl (kI, 1501, .inl f17)), (h18, .inl (kI, 1501, .inl f18)), (h19, .inl (kI, 1501, .inl f19)), (h20, .inl (kI, 1501, .inl f20)), (h21, .inl (kI, 1501, .inl f21)), (h22, .inl (kZ, 1501, .inl f22))] sz) [(h3, .inr (1, [.ref h13, .ref h14, .ref h15, .ref h16, .ref h17, .ref h18, .ref h19, .ref h20, .ref h21, .ref h22, .int bn])), (h13, .inl (kJ, 1501, .inr (.inl f13))), (h14, .inl (kI, 1501, .inl f14)), (h15, .inl (kI, 1501, .inl f15)), (h16, .inl (kI, 1501, .inl f16)), (h17, .inl (kI, 1501, .inl f17)), (h18, .inl (kI, 1501, .inl f18)), (h19, .inl (kI, 1501, .inl f19)), (h20, .inl (kI, 1501, .inl f20)), (h21, .inl (kI, 1501, .inl f21)), (h22, .inl (kZ, 1501, .inl f22))] t) (va_A [(h3, .inr (1, [.ref h13, .ref h14, .ref h15, .ref h16, .ref h17, .ref h18, .ref h19, .ref h20, .ref h21, .ref h22, .int bn])), (h13, .inl (kJ, 1501, .inr (.inl f13))), (h14, .inl (kI, 1501, .inl f14)), (h15, .inl (kI, 1501, .inl f15)), (h16, .inl (kI, 1501, .inl f16)), (h17, .inl (kI, 1501, .inl f17)), (h18, .inl (kI, 1501, .inl f18)), (h19, .inl (kI, 1501, .inl f19)), (h20, .inl (kI, 1501, .inl f20)), (h21, .inl (kI, 1501, .inl f21)), (h22, .inl (kZ, 1501, .inl f22))] sz)) 0 0 (va_A [(h3, .inr (1, [.ref h13, .ref h14, .ref h15, .ref h16, .ref h17, .ref h18, .ref h19, .ref h20, .ref h21, .ref h22, .int bn])), (h13, .inl (kJ, 1501, .inr (.inl f13))), (h14, .inl (kI, 1501, .inl f14)), (h15, .inl (kI, 1501, .inl f15)), (h16, .inl (kI, 1501, .inl f16)), (h17, .inl (kI, 1501, .inl f17)), (h18, .inl (kI, 1501, .inl f18)), (h19, .inl (kI, 1501, .inl f19)), (h20, .inl (kI, 1501, .inl f20)), (h21, .inl (kI, 1501, .inl f21)), (h22, .inl (kZ, 1501, .inl f22))] sz) := by
  refine Met.ofW (cc := prog_7_method_14_code) (maxL := 2) (ret := some .int) (by decide +kernel) rfl ?_
  intro p e s m args below meth c s₁ B hml hv
  obtain ⟨rfl, hsz, hP, hK, hD0, hE⟩ := hv
  have hx := B.exec
  have hb := B.bytes
  have hr := B.returns
  have hts : ∀ w ∈ gT, w.before _ s = true := fun w h => atoms_spec (ws := Cond.code (⟨"AlgolJudge$Table", "count", "(I)I"⟩ : MethodName) prog_7_method_14_code 2 (some .int) :: gT) B.pre w (List.mem_cons_of_mem _ h)
  have hown : s.vm.findClass "AlgolJudge$Table" = some m.cls := findClass_of_methodNamed B.named
  have hlocks := B.notSynchronized
  subst hsz
  have hD := hD0.self (sz := s.heap.size)
  generalize hAe : va_A [(h3, .inr (1, [.ref h13, .ref h14, .ref h15, .ref h16, .ref h17, .ref h18, .ref h19, .ref h20, .ref h21, .ref h22, .int bn])), (h13, .inl (kJ, 1501, .inr (.inl f13))), (h14, .inl (kI, 1501, .inl f14)), (h15, .inl (kI, 1501, .inl f15)), (h16, .inl (kI, 1501, .inl f16)), (h17, .inl (kI, 1501, .inl f17)), (h18, .inl (kI, 1501, .inl f18)), (h19, .inl (kI, 1501, .inl f19)), (h20, .inl (kI, 1501, .inl f20)), (h21, .inl (kI, 1501, .inl f21)), (h22, .inl (kZ, 1501, .inl f22))] s.heap.size = A at hD hE ⊢
  have hA : ∀ q : Nat, s.heap.size ≤ q → A q := fun q h => by rw [← hAe]; exact Or.inr h
  have hS : va_S A s.heap s.heap [] := va_S.rf
  have hP : va_P D cls9 [(h3, .inr (1, [.ref h13, .ref h14, .ref h15, .ref h16, .ref h17, .ref h18, .ref h19, .ref h20, .ref h21, .ref h22, .int bn])), (h13, .inl (kJ, 1501, .inr (.inl f13))), (h14, .inl (kI, 1501, .inl f14)), (h15, .inl (kI, 1501, .inl f15)), (h16, .inl (kI, 1501, .inl f16)), (h17, .inl (kI, 1501, .inl f17)), (h18, .inl (kI, 1501, .inl f18)), (h19, .inl (kI, 1501, .inl f19)), (h20, .inl (kI, 1501, .inl f20)), (h21, .inl (kI, 1501, .inl f21)), (h22, .inl (kZ, 1501, .inl f22))] s.heap := hP
  have hl := lv_entry ([.ref h3, .int p1]) (n := 2) (Nat.le_of_ble_eq_true rfl)
  rw [lg_entry_eq]
  generalize (lg_sl ([.ref h3, .int p1]) ++ List.replicate (2 - (lg_sl ([.ref h3, .int p1])).length) Slot.unset).toArray = ls at hl ⊢
  have hl : lv_has ls 2 [(0, .ref h3), (1, .int p1)] := hl
  refine lv_iload_n hx hb d_7_14_0 rfl (lv_at hl 1 rfl) ?_
  refine lv_if_lt (tgt := 21) hx hb d_7_14_1 (by decide +kernel) (fun c_1 => ?_) (fun c_1 => ?_)
  · skip
    have tc_1 : p1.toInt < 0 := Int32.lt_iff_toInt_lt.mp c_1
    refine lv_iconst (v := 0) hx hb d_7_14_21 (by decide +kernel) ?_
    have hP9 := hP.sub (ws' := [(h3, .inr (1, [.ref h13, .ref h14, .ref h15, .ref h16, .ref h17, .ref h18, .ref h19, .ref h20, .ref h21, .ref h22, .int bn])), (h13, .inl (kJ, 1501, .inr (.inl f13))), (h14, .inl (kI, 1501, .inl f14)), (h15, .inl (kI, 1501, .inl f15)), (h16, .inl (kI, 1501, .inl f16)), (h17, .inl (kI, 1501, .inl f17)), (h18, .inl (kI, 1501, .inl f18)), (h19, .inl (kI, 1501, .inl f19)), (h20, .inl (kI, 1501, .inl f20)), (h21, .inl (kI, 1501, .inl f21)), (h22, .inl (kZ, 1501, .inl f22))]) [0, 1, 2, 3, 4, 5, 6, 7, 8, 9, 10] rfl
    have hD9 := hD.sub (ws' := [(h3, .inr (1, [.ref h13, .ref h14, .ref h15, .ref h16, .ref h17, .ref h18, .ref h19, .ref h20, .ref h21, .ref h22, .int bn])), (h13, .inl (kJ, 1501, .inr (.inl f13))), (h14, .inl (kI, 1501, .inl f14)), (h15, .inl (kI, 1501, .inl f15)), (h16, .inl (kI, 1501, .inl f16)), (h17, .inl (kI, 1501, .inl f17)), (h18, .inl (kI, 1501, .inl f18)), (h19, .inl (kI, 1501, .inl f19)), (h20, .inl (kI, 1501, .inl f20)), (h21, .inl (kI, 1501, .inl f21)), (h22, .inl (kZ, 1501, .inl f22))]) [0, 1, 2, 3, 4, 5, 6, 7, 8, 9, 10] (by decide) rfl
    have hz_0 : (0 : Int) = gG (rI f16) bn.toInt 0 p1.toInt := (by first | exact gG_out (by omega) | (exfalso; omega))
    exact W.iret (v := 0) hx hb hr (fun t ht hW => ⟨⟨0, 0, rfl, ⟨rfl, trivial⟩, hz_0, xEnd hK hP9 hD9 ht hW⟩, hS.F ht⟩) hS.2.2 d_7_14_22
  · skip
    have tc_1 : ¬ p1.toInt < 0 := fun h9 => c_1 (Int32.lt_iff_toInt_lt.mpr h9)
    refine lv_iload_n hx hb d_7_14_4 rfl (lv_at hl 1 rfl) ?_
    refine lv_aload_n hx hb d_7_14_5 rfl (lv_at hl 0 rfl) ?_
    refine va_get (D := D) (ci := 1) (v := .int bn) (C := "AlgolJudge$Table") (T := T_Table) (N := 11) hx hb hts i_Table hown hK hP 0 rfl rfl 10 (by decide +kernel) (hts _ m_254) (fun _ h9 => h9) rfl d_7_14_6 ?_
    refine lv_icmp_ge (tgt := 21) hx hb d_7_14_9 (by decide +kernel) (fun c_2 => ?_) (fun c_2 => ?_)
    · skip
      have tc_2 : bn.toInt ≤ p1.toInt := Int32.le_iff_toInt_le.mp c_2
      refine lv_iconst (v := 0) hx hb d_7_14_21 (by decide +kernel) ?_
      have hP9 := hP.sub (ws' := [(h3, .inr (1, [.ref h13, .ref h14, .ref h15, .ref h16, .ref h17, .ref h18, .ref h19, .ref h20, .ref h21, .ref h22, .int bn])), (h13, .inl (kJ, 1501, .inr (.inl f13))), (h14, .inl (kI, 1501, .inl f14)), (h15, .inl (kI, 1501, .inl f15)), (h16, .inl (kI, 1501, .inl f16)), (h17, .inl (kI, 1501, .inl f17)), (h18, .inl (kI, 1501, .inl f18)), (h19, .inl (kI, 1501, .inl f19)), (h20, .inl (kI, 1501, .inl f20)), (h21, .inl (kI, 1501, .inl f21)), (h22, .inl (kZ, 1501, .inl f22))]) [0, 1, 2, 3, 4, 5, 6, 7, 8, 9, 10] rfl
      have hD9 := hD.sub (ws' := [(h3, .inr (1, [.ref h13, .ref h14, .ref h15, .ref h16, .ref h17, .ref h18, .ref h19, .ref h20, .ref h21, .ref h22, .int bn])), (h13, .inl (kJ, 1501, .inr (.inl f13))), (h14, .inl (kI, 1501, .inl f14)), (h15, .inl (kI, 1501, .inl f15)), (h16, .inl (kI, 1501, .inl f16)), (h17, .inl (kI, 1501, .inl f17)), (h18, .inl (kI, 1501, .inl f18)), (h19, .inl (kI, 1501, .inl f19)), (h20, .inl (kI, 1501, .inl f20)), (h21, .inl (kI, 1501, .inl f21)), (h22, .inl (kZ, 1501, .inl f22))]) [0, 1, 2, 3, 4, 5, 6, 7, 8, 9, 10] (by decide) rfl
      have hz_0 : (0 : Int) = gG (rI f16) bn.toInt 0 p1.toInt := (by first | exact gG_out (by omega) | (exfalso; omega))
      exact W.iret (v := 0) hx hb hr (fun t ht hW => ⟨⟨0, 0, rfl, ⟨rfl, trivial⟩, hz_0, xEnd hK hP9 hD9 ht hW⟩, hS.F ht⟩) hS.2.2 d_7_14_22
    · skip
      have tc_2 : ¬ bn.toInt ≤ p1.toInt := fun h9 => c_2 (Int32.le_iff_toInt_le.mpr h9)
      refine lv_aload_n hx hb d_7_14_12 rfl (lv_at hl 0 rfl) ?_
      refine va_get (D := D) (ci := 1) (v := .ref h16) (C := "AlgolJudge$Table") (T := T_Table) (N := 11) hx hb hts i_Table hown hK hP 0 rfl rfl 3 (by decide +kernel) (hts _ m_247) (fun _ h9 => h9) rfl d_7_14_13 ?_
      refine lv_iload_n hx hb d_7_14_16 rfl (lv_at hl 1 rfl) ?_
      refine va_iald hx hb hK hP 4 0 rfl rfl (vp_in_iff.mpr ⟨by omega, by omega⟩) d_7_14_17 ?_
      refine lv_topi (fun z_3 ez_3 => ?_)
      refine lv_goto (tgt := 22) hx hb d_7_14_18 (by decide +kernel) ?_
      have hP9 := hP.sub (ws' := [(h3, .inr (1, [.ref h13, .ref h14, .ref h15, .ref h16, .ref h17, .ref h18, .ref h19, .ref h20, .ref h21, .ref h22, .int bn])), (h13, .inl (kJ, 1501, .inr (.inl f13))), (h14, .inl (kI, 1501, .inl f14)), (h15, .inl (kI, 1501, .inl f15)), (h16, .inl (kI, 1501, .inl f16)), (h17, .inl (kI, 1501, .inl f17)), (h18, .inl (kI, 1501, .inl f18)), (h19, .inl (kI, 1501, .inl f19)), (h20, .inl (kI, 1501, .inl f20)), (h21, .inl (kI, 1501, .inl f21)), (h22, .inl (kZ, 1501, .inl f22))]) [0, 1, 2, 3, 4, 5, 6, 7, 8, 9, 10] rfl
      have hD9 := hD.sub (ws' := [(h3, .inr (1, [.ref h13, .ref h14, .ref h15, .ref h16, .ref h17, .ref h18, .ref h19, .ref h20, .ref h21, .ref h22, .int bn])), (h13, .inl (kJ, 1501, .inr (.inl f13))), (h14, .inl (kI, 1501, .inl f14)), (h15, .inl (kI, 1501, .inl f15)), (h16, .inl (kI, 1501, .inl f16)), (h17, .inl (kI, 1501, .inl f17)), (h18, .inl (kI, 1501, .inl f18)), (h19, .inl (kI, 1501, .inl f19)), (h20, .inl (kI, 1501, .inl f20)), (h21, .inl (kI, 1501, .inl f21)), (h22, .inl (kZ, 1501, .inl f22))]) [0, 1, 2, 3, 4, 5, 6, 7, 8, 9, 10] (by decide) rfl
      have hz_0 : z_3.toInt = gG (rI f16) bn.toInt 0 p1.toInt := (by first | (rw [ez_3]; exact gG_in (by omega) (by omega)) | (exfalso; omega))
      exact W.iret (v := z_3) hx hb hr (fun t ht hW => ⟨⟨z_3, z_3, rfl, ⟨rfl, trivial⟩, hz_0, xEnd hK hP9 hD9 ht hW⟩, hS.F ht⟩) hS.2.2 d_7_14_22
set_option maxHeartbeats 8000000 in
set_option maxRecDepth 100000 in
theorem g_Table_place (l : Launch) (D : va_G) (kI kJ kB kZ : ClassId) (sz : Nat) (h3 : Nat) (h13 : Nat) (h14 : Nat) (h15 : Nat) (h16 : Nat) (h17 : Nat) (h18 : Nat) (h19 : Nat) (h20 : Nat) (h21 : Nat) (h22 : Nat) (bn : Int32) (f13 : Nat → Int64) (f14 : Nat → Int32) (f15 : Nat → Int32) (f16 : Nat → Int32) (f17 : Nat → Int32) (f18 : Nat → Int32) (f19 : Nat → Int32) (f20 : Nat → Int32) (f21 : Nat → Int32) (f22 : Nat → Int32) (p1 : Int32) (hf_B1 : 0 ≤ bn.toInt) (hf_B2 : bn.toInt ≤ 1501) (hf_PB : ∀ j : Nat, 0 ≤ (f17 j).toInt ∧ (f17 j).toInt ≤ 3000) : Met l (⟨"AlgolJudge$Table", "place", "(I)I"⟩ : MethodName) (Cond.code (⟨"AlgolJudge$Table", "place", "(I)I"⟩ : MethodName) prog_7_method_15_code 2 (some .int) :: gT) ({ frames := 0, cells := 0, slots := 0, locals := 0 }) (va_Pc [.ref h3, .int p1] (xP D (xT kI kJ kB kZ) xN [(h3, .inr (1, [.ref h13, .ref h14, .ref h15, .ref h16, .ref h17, .ref h18, .ref h19, .ref h20, .ref h21, .ref h22, .int bn])), (h13, .inl (kJ, 1501, .inr (.inl f13))), (h14, .inl (kI, 1501, .inl f14)), (h15, .inl (kI, 1501, .inl f15)), (h16, .inl (kI, 1501, .inl f16)), (h17, .inl (kI, 1501, .inl f17)), (h18, .inl (kI, 1501, .inl f18)), (h19, .inl (kI, 1501, .inl f19)), (h20, .inl (kI, 1501, .inl f20)), (h21, .inl (kI, 1501, .inl f21)), (h22, .inl (kZ, 1501, .inl f22))] sz)) (va_Qi (fun (r : Int32) (u : Int32) => r = u ∧ (0 ≤ r.toInt ∧ r.toInt ≤ 3000)) (fun u t => (u.toInt = gG (rI f17) bn.toInt 0 p1.toInt) ∧ xQ D (xT kI kJ kB kZ) (va_A [(h3, .inr (1, [.ref h13, .ref h14, .ref h15, .ref h16, .ref h17, .ref h18, .ref h19, .ref h20, .ref h21, .ref h22, .int bn])), (h13, .inl (kJ, 1501, .inr (.inl f13))), (h14, .inl (kI, 1501, .inl f14)), (h15, .inl (kI, 1501, .inl f15)), (h16, .inl (kI, 1501, .inl f16)), (h17, .inl (kI, 1501, .inl f17)), (h18, .inl (kI, 1501, .inl f18)), (h19, .inl (kI, 1501, .inl f19)), (h20, .inl (kI, 1501, .inl f20)), (h21, .inl (kI, 1501, .inl f21)), (h22, .inl (kZ, 1501, .inl f22))] sz) [(h3, .inr (1, [.ref h13, .ref h14, .ref h15, .ref h16, .ref h17, .ref h18, .ref h19, .ref h20, .ref h21, .ref h22, .int bn])), (h13, .inl (kJ, 1501, .inr (.inl f13))), (h14, .inl (kI, 1501, .inl f14)), (h15, .inl (kI, 1501, .inl f15)), (h16, .inl (kI, 1501, .inl f16)), (h17, .inl (kI, 1501, .inl f17)), (h18, .inl (kI, 1501, .inl f18)), (h19, .inl (kI, 1501, .inl f19)), (h20, .inl (kI, 1501, .inl f20)), (h21, .inl (kI, 1501, .inl f21)), (h22, .inl (kZ, 1501, .inl f22))] t) (va_A [(h3, .inr (1, [.ref h13, .ref h14, .ref h15, .ref h16, .ref h17, .ref h18, .ref h19, .ref h20, .ref h21, .ref h22, .int bn])), (h13, .inl (kJ, 1501, .inr (.inl f13))), (h14, .inl (kI, 1501, .inl f14)), (h15, .inl (kI, 1501, .inl f15)), (h16, .inl (kI, 1501, .inl f16)), (h17, .inl (kI, 1501, .inl f17)), (h18, .inl (kI, 1501, .inl f18)), (h19, .inl (kI, 1501, .inl f19)), (h20, .inl (kI, 1501, .inl f20)), (h21, .inl (kI, 1501, .inl f21)), (h22, .inl (kZ, 1501, .inl f22))] sz)) 0 0 (va_A [(h3, .inr (1, [.ref h13, .ref h14, .ref h15, .ref h16, .ref h17, .ref h18, .ref h19, .ref h20, .ref h21, .ref h22, .int bn])), (h13, .inl (kJ, 1501, .inr (.inl f13))), (h14, .inl (kI, 1501, .inl f14)), (h15, .inl (kI, 1501, .inl f15)), (h16, .inl (kI, 1501, .inl f16)), (h17, .inl (kI, 1501, .inl f17)), (h18, .inl (kI, 1501, .inl f18)), (h19, .inl (kI, 1501, .inl f19)), (h20, .inl (kI, 1501, .inl f20)), (h21, .inl (kI, 1501, .inl f21)), (h22, .inl (kZ, 1501, .inl f22))] sz) := by
  refine Met.ofW (cc := prog_7_method_15_code) (maxL := 2) (ret := some .int) (by decide +kernel) rfl ?_
  intro p e s m args below meth c s₁ B hml hv
  obtain ⟨rfl, hsz, hP, hK, hD0, hE⟩ := hv
  have hx := B.exec
  have hb := B.bytes
  have hr := B.returns
  have hts : ∀ w ∈ gT, w.before _ s = true := fun w h => atoms_spec (ws := Cond.code (⟨"AlgolJudge$Table", "place", "(I)I"⟩ : MethodName) prog_7_method_15_code 2 (some .int) :: gT) B.pre w (List.mem_cons_of_mem _ h)
  have hown : s.vm.findClass "AlgolJudge$Table" = some m.cls := findClass_of_methodNamed B.named
  have hlocks := B.notSynchronized
  subst hsz
  have hD := hD0.self (sz := s.heap.size)
  generalize hAe : va_A [(h3, .inr (1, [.ref h13, .ref h14, .ref h15, .ref h16, .ref h17, .ref h18, .ref h19, .ref h20, .ref h21, .ref h22, .int bn])), (h13, .inl (kJ, 1501, .inr (.inl f13))), (h14, .inl (kI, 1501, .inl f14)), (h15, .inl (kI, 1501, .inl f15)), (h16, .inl (kI, 1501, .inl f16)), (h17, .inl (kI, 1501, .inl f17)), (h18, .inl (kI, 1501, .inl f18)), (h19, .inl (kI, 1501, .inl f19)), (h20, .inl (kI, 1501, .inl f20)), (h21, .inl (kI, 1501, .inl f21)), (h22, .inl (kZ, 1501, .inl f22))] s.heap.size = A at hD hE ⊢
  have hA : ∀ q : Nat, s.heap.size ≤ q → A q := fun q h => by rw [← hAe]; exact Or.inr h
  have hS : va_S A s.heap s.heap [] := va_S.rf
  have hP : va_P D cls9 [(h3, .inr (1, [.ref h13, .ref h14, .ref h15, .ref h16, .ref h17, .ref h18, .ref h19, .ref h20, .ref h21, .ref h22, .int bn])), (h13, .inl (kJ, 1501, .inr (.inl f13))), (h14, .inl (kI, 1501, .inl f14)), (h15, .inl (kI, 1501, .inl f15)), (h16, .inl (kI, 1501, .inl f16)), (h17, .inl (kI, 1501, .inl f17)), (h18, .inl (kI, 1501, .inl f18)), (h19, .inl (kI, 1501, .inl f19)), (h20, .inl (kI, 1501, .inl f20)), (h21, .inl (kI, 1501, .inl f21)), (h22, .inl (kZ, 1501, .inl f22))] s.heap := hP
  have hl := lv_entry ([.ref h3, .int p1]) (n := 2) (Nat.le_of_ble_eq_true rfl)
  rw [lg_entry_eq]
  generalize (lg_sl ([.ref h3, .int p1]) ++ List.replicate (2 - (lg_sl ([.ref h3, .int p1])).length) Slot.unset).toArray = ls at hl ⊢
  have hl : lv_has ls 2 [(0, .ref h3), (1, .int p1)] := hl
  refine lv_iload_n hx hb d_7_15_0 rfl (lv_at hl 1 rfl) ?_
  refine lv_if_lt (tgt := 21) hx hb d_7_15_1 (by decide +kernel) (fun c_1 => ?_) (fun c_1 => ?_)
  · skip
    have tc_1 : p1.toInt < 0 := Int32.lt_iff_toInt_lt.mp c_1
    refine lv_iconst (v := 0) hx hb d_7_15_21 (by decide +kernel) ?_
    have hP9 := hP.sub (ws' := [(h3, .inr (1, [.ref h13, .ref h14, .ref h15, .ref h16, .ref h17, .ref h18, .ref h19, .ref h20, .ref h21, .ref h22, .int bn])), (h13, .inl (kJ, 1501, .inr (.inl f13))), (h14, .inl (kI, 1501, .inl f14)), (h15, .inl (kI, 1501, .inl f15)), (h16, .inl (kI, 1501, .inl f16)), (h17, .inl (kI, 1501, .inl f17)), (h18, .inl (kI, 1501, .inl f18)), (h19, .inl (kI, 1501, .inl f19)), (h20, .inl (kI, 1501, .inl f20)), (h21, .inl (kI, 1501, .inl f21)), (h22, .inl (kZ, 1501, .inl f22))]) [0, 1, 2, 3, 4, 5, 6, 7, 8, 9, 10] rfl
    have hD9 := hD.sub (ws' := [(h3, .inr (1, [.ref h13, .ref h14, .ref h15, .ref h16, .ref h17, .ref h18, .ref h19, .ref h20, .ref h21, .ref h22, .int bn])), (h13, .inl (kJ, 1501, .inr (.inl f13))), (h14, .inl (kI, 1501, .inl f14)), (h15, .inl (kI, 1501, .inl f15)), (h16, .inl (kI, 1501, .inl f16)), (h17, .inl (kI, 1501, .inl f17)), (h18, .inl (kI, 1501, .inl f18)), (h19, .inl (kI, 1501, .inl f19)), (h20, .inl (kI, 1501, .inl f20)), (h21, .inl (kI, 1501, .inl f21)), (h22, .inl (kZ, 1501, .inl f22))]) [0, 1, 2, 3, 4, 5, 6, 7, 8, 9, 10] (by decide) rfl
    have hz_0 : (0 : Int) = gG (rI f17) bn.toInt 0 p1.toInt := (by first | exact gG_out (by omega) | (exfalso; omega))
    have hrp : 0 ≤ (0 : Int) ∧ (0 : Int) ≤ 3000 := by first |  omega | assumption | exact pk_nc _ | exact Or.inl ⟨by omega, by omega, by assumption⟩ | exact Or.inr ⟨by omega, by decide +kernel⟩ | exact fun h9 => absurd h9 (by omega) | exact fun _ => isH_no1 (by omega) | exact fun _ => isH_no2 (by assumption) (by assumption) (by omega) | (intro h9; omega) | (intro h8 h9; omega)
    exact W.iret (v := 0) hx hb hr (fun t ht hW => ⟨⟨0, 0, rfl, ⟨rfl, hrp⟩, hz_0, xEnd hK hP9 hD9 ht hW⟩, hS.F ht⟩) hS.2.2 d_7_15_22
  · skip
    have tc_1 : ¬ p1.toInt < 0 := fun h9 => c_1 (Int32.lt_iff_toInt_lt.mpr h9)
    refine lv_iload_n hx hb d_7_15_4 rfl (lv_at hl 1 rfl) ?_
    refine lv_aload_n hx hb d_7_15_5 rfl (lv_at hl 0 rfl) ?_
    refine va_get (D := D) (ci := 1) (v := .int bn) (C := "AlgolJudge$Table") (T := T_Table) (N := 11) hx hb hts i_Table hown hK hP 0 rfl rfl 10 (by decide +kernel) (hts _ m_254) (fun _ h9 => h9) rfl d_7_15_6 ?_
    refine lv_icmp_ge (tgt := 21) hx hb d_7_15_9 (by decide +kernel) (fun c_2 => ?_) (fun c_2 => ?_)
    · skip
      have tc_2 : bn.toInt ≤ p1.toInt := Int32.le_iff_toInt_le.mp c_2
      refine lv_iconst (v := 0) hx hb d_7_15_21 (by decide +kernel) ?_
      have hP9 := hP.sub (ws' := [(h3, .inr (1, [.ref h13, .ref h14, .ref h15, .ref h16, .ref h17, .ref h18, .ref h19, .ref h20, .ref h21, .ref h22, .int bn])), (h13, .inl (kJ, 1501, .inr (.inl f13))), (h14, .inl (kI, 1501, .inl f14)), (h15, .inl (kI, 1501, .inl f15)), (h16, .inl (kI, 1501, .inl f16)), (h17, .inl (kI, 1501, .inl f17)), (h18, .inl (kI, 1501, .inl f18)), (h19, .inl (kI, 1501, .inl f19)), (h20, .inl (kI, 1501, .inl f20)), (h21, .inl (kI, 1501, .inl f21)), (h22, .inl (kZ, 1501, .inl f22))]) [0, 1, 2, 3, 4, 5, 6, 7, 8, 9, 10] rfl
      have hD9 := hD.sub (ws' := [(h3, .inr (1, [.ref h13, .ref h14, .ref h15, .ref h16, .ref h17, .ref h18, .ref h19, .ref h20, .ref h21, .ref h22, .int bn])), (h13, .inl (kJ, 1501, .inr (.inl f13))), (h14, .inl (kI, 1501, .inl f14)), (h15, .inl (kI, 1501, .inl f15)), (h16, .inl (kI, 1501, .inl f16)), (h17, .inl (kI, 1501, .inl f17)), (h18, .inl (kI, 1501, .inl f18)), (h19, .inl (kI, 1501, .inl f19)), (h20, .inl (kI, 1501, .inl f20)), (h21, .inl (kI, 1501, .inl f21)), (h22, .inl (kZ, 1501, .inl f22))]) [0, 1, 2, 3, 4, 5, 6, 7, 8, 9, 10] (by decide) rfl
      have hz_0 : (0 : Int) = gG (rI f17) bn.toInt 0 p1.toInt := (by first | exact gG_out (by omega) | (exfalso; omega))
      have hrp : 0 ≤ (0 : Int) ∧ (0 : Int) ≤ 3000 := by first |  omega | assumption | exact pk_nc _ | exact Or.inl ⟨by omega, by omega, by assumption⟩ | exact Or.inr ⟨by omega, by decide +kernel⟩ | exact fun h9 => absurd h9 (by omega) | exact fun _ => isH_no1 (by omega) | exact fun _ => isH_no2 (by assumption) (by assumption) (by omega) | (intro h9; omega) | (intro h8 h9; omega)
      exact W.iret (v := 0) hx hb hr (fun t ht hW => ⟨⟨0, 0, rfl, ⟨rfl, hrp⟩, hz_0, xEnd hK hP9 hD9 ht hW⟩, hS.F ht⟩) hS.2.2 d_7_15_22
    · skip
      have tc_2 : ¬ bn.toInt ≤ p1.toInt := fun h9 => c_2 (Int32.le_iff_toInt_le.mpr h9)
      refine lv_aload_n hx hb d_7_15_12 rfl (lv_at hl 0 rfl) ?_
      refine va_get (D := D) (ci := 1) (v := .ref h17) (C := "AlgolJudge$Table") (T := T_Table) (N := 11) hx hb hts i_Table hown hK hP 0 rfl rfl 4 (by decide +kernel) (hts _ m_248) (fun _ h9 => h9) rfl d_7_15_13 ?_
      refine lv_iload_n hx hb d_7_15_16 rfl (lv_at hl 1 rfl) ?_
      refine va_iald hx hb hK hP 5 0 rfl rfl (vp_in_iff.mpr ⟨by omega, by omega⟩) d_7_15_17 ?_
      refine lv_topi (fun z_3 ez_3 => ?_)
      have tz_3 : 0 ≤ z_3.toInt ∧ z_3.toInt ≤ 3000 := by rw [ez_3]; exact (show ∀ j : Nat, 0 ≤ (f17 j).toInt ∧ (f17 j).toInt ≤ 3000 from (by first | assumption | exact zplb (by assumption) (by omega))) _
      refine lv_goto (tgt := 22) hx hb d_7_15_18 (by decide +kernel) ?_
      have hP9 := hP.sub (ws' := [(h3, .inr (1, [.ref h13, .ref h14, .ref h15, .ref h16, .ref h17, .ref h18, .ref h19, .ref h20, .ref h21, .ref h22, .int bn])), (h13, .inl (kJ, 1501, .inr (.inl f13))), (h14, .inl (kI, 1501, .inl f14)), (h15, .inl (kI, 1501, .inl f15)), (h16, .inl (kI, 1501, .inl f16)), (h17, .inl (kI, 1501, .inl f17)), (h18, .inl (kI, 1501, .inl f18)), (h19, .inl (kI, 1501, .inl f19)), (h20, .inl (kI, 1501, .inl f20)), (h21, .inl (kI, 1501, .inl f21)), (h22, .inl (kZ, 1501, .inl f22))]) [0, 1, 2, 3, 4, 5, 6, 7, 8, 9, 10] rfl
      have hD9 := hD.sub (ws' := [(h3, .inr (1, [.ref h13, .ref h14, .ref h15, .ref h16, .ref h17, .ref h18, .ref h19, .ref h20, .ref h21, .ref h22, .int bn])), (h13, .inl (kJ, 1501, .inr (.inl f13))), (h14, .inl (kI, 1501, .inl f14)), (h15, .inl (kI, 1501, .inl f15)), (h16, .inl (kI, 1501, .inl f16)), (h17, .inl (kI, 1501, .inl f17)), (h18, .inl (kI, 1501, .inl f18)), (h19, .inl (kI, 1501, .inl f19)), (h20, .inl (kI, 1501, .inl f20)), (h21, .inl (kI, 1501, .inl f21)), (h22, .inl (kZ, 1501, .inl f22))]) [0, 1, 2, 3, 4, 5, 6, 7, 8, 9, 10] (by decide) rfl
      have hz_0 : z_3.toInt = gG (rI f17) bn.toInt 0 p1.toInt := (by first | (rw [ez_3]; exact gG_in (by omega) (by omega)) | (exfalso; omega))
      have hrp : 0 ≤ z_3.toInt ∧ z_3.toInt ≤ 3000 := by first |  omega | assumption | exact pk_nc _ | exact Or.inl ⟨by omega, by omega, by assumption⟩ | exact Or.inr ⟨by omega, by decide +kernel⟩ | exact fun h9 => absurd h9 (by omega) | exact fun _ => isH_no1 (by omega) | exact fun _ => isH_no2 (by assumption) (by assumption) (by omega) | (intro h9; omega) | (intro h8 h9; omega)
      exact W.iret (v := z_3) hx hb hr (fun t ht hW => ⟨⟨z_3, z_3, rfl, ⟨rfl, hrp⟩, hz_0, xEnd hK hP9 hD9 ht hW⟩, hS.F ht⟩) hS.2.2 d_7_15_22
set_option maxHeartbeats 8000000 in
set_option maxRecDepth 100000 in
theorem g_Table_home (l : Launch) (D : va_G) (kI kJ kB kZ : ClassId) (sz : Nat) (h3 : Nat) (h13 : Nat) (h14 : Nat) (h15 : Nat) (h16 : Nat) (h17 : Nat) (h18 : Nat) (h19 : Nat) (h20 : Nat) (h21 : Nat) (h22 : Nat) (bn : Int32) (f13 : Nat → Int64) (f14 : Nat → Int32) (f15 : Nat → Int32) (f16 : Nat → Int32) (f17 : Nat → Int32) (f18 : Nat → Int32) (f19 : Nat → Int32) (f20 : Nat → Int32) (f21 : Nat → Int32) (f22 : Nat → Int32) (p1 : Int32) (hf_B1 : 0 ≤ bn.toInt) (hf_B2 : bn.toInt ≤ 1501) (hf_PB : ∀ j : Nat, 0 ≤ (f17 j).toInt ∧ (f17 j).toInt ≤ 3000) : Met l (⟨"AlgolJudge$Table", "home", "(I)I"⟩ : MethodName) (Cond.code (⟨"AlgolJudge$Table", "home", "(I)I"⟩ : MethodName) prog_7_method_16_code 2 (some .int) :: gT) ({ frames := 0, cells := 0, slots := 0, locals := 0 }) (va_Pc [.ref h3, .int p1] (xP D (xT kI kJ kB kZ) xN [(h3, .inr (1, [.ref h13, .ref h14, .ref h15, .ref h16, .ref h17, .ref h18, .ref h19, .ref h20, .ref h21, .ref h22, .int bn])), (h13, .inl (kJ, 1501, .inr (.inl f13))), (h14, .inl (kI, 1501, .inl f14)), (h15, .inl (kI, 1501, .inl f15)), (h16, .inl (kI, 1501, .inl f16)), (h17, .inl (kI, 1501, .inl f17)), (h18, .inl (kI, 1501, .inl f18)), (h19, .inl (kI, 1501, .inl f19)), (h20, .inl (kI, 1501, .inl f20)), (h21, .inl (kI, 1501, .inl f21)), (h22, .inl (kZ, 1501, .inl f22))] sz)) (va_Qi (fun (r : Int32) (u : Int32) => r = u ∧ (True)) (fun u t => (u.toInt = gG (rI f18) bn.toInt (-1) p1.toInt) ∧ xQ D (xT kI kJ kB kZ) (va_A [(h3, .inr (1, [.ref h13, .ref h14, .ref h15, .ref h16, .ref h17, .ref h18, .ref h19, .ref h20, .ref h21, .ref h22, .int bn])), (h13, .inl (kJ, 1501, .inr (.inl f13))), (h14, .inl (kI, 1501, .inl f14)), (h15, .inl (kI, 1501, .inl f15)), (h16, .inl (kI, 1501, .inl f16)), (h17, .inl (kI, 1501, .inl f17)), (h18, .inl (kI, 1501, .inl f18)), (h19, .inl (kI, 1501, .inl f19)), (h20, .inl (kI, 1501, .inl f20)), (h21, .inl (kI, 1501, .inl f21)), (h22, .inl (kZ, 1501, .inl f22))] sz) [(h3, .inr (1, [.ref h13, .ref h14, .ref h15, .ref h16, .ref h17, .ref h18, .ref h19, .ref h20, .ref h21, .ref h22, .int bn])), (h13, .inl (kJ, 1501, .inr (.inl f13))), (h14, .inl (kI, 1501, .inl f14)), (h15, .inl (kI, 1501, .inl f15)), (h16, .inl (kI, 1501, .inl f16)), (h17, .inl (kI, 1501, .inl f17)), (h18, .inl (kI, 1501, .inl f18)), (h19, .inl (kI, 1501, .inl f19)), (h20, .inl (kI, 1501, .inl f20)), (h21, .inl (kI, 1501, .inl f21)), (h22, .inl (kZ, 1501, .inl f22))] t) (va_A [(h3, .inr (1, [.ref h13, .ref h14, .ref h15, .ref h16, .ref h17, .ref h18, .ref h19, .ref h20, .ref h21, .ref h22, .int bn])), (h13, .inl (kJ, 1501, .inr (.inl f13))), (h14, .inl (kI, 1501, .inl f14)), (h15, .inl (kI, 1501, .inl f15)), (h16, .inl (kI, 1501, .inl f16)), (h17, .inl (kI, 1501, .inl f17)), (h18, .inl (kI, 1501, .inl f18)), (h19, .inl (kI, 1501, .inl f19)), (h20, .inl (kI, 1501, .inl f20)), (h21, .inl (kI, 1501, .inl f21)), (h22, .inl (kZ, 1501, .inl f22))] sz)) 0 0 (va_A [(h3, .inr (1, [.ref h13, .ref h14, .ref h15, .ref h16, .ref h17, .ref h18, .ref h19, .ref h20, .ref h21, .ref h22, .int bn])), (h13, .inl (kJ, 1501, .inr (.inl f13))), (h14, .inl (kI, 1501, .inl f14)), (h15, .inl (kI, 1501, .inl f15)), (h16, .inl (kI, 1501, .inl f16)), (h17, .inl (kI, 1501, .inl f17)), (h18, .inl (kI, 1501, .inl f18)), (h19, .inl (kI, 1501, .inl f19)), (h20, .inl (kI, 1501, .inl f20)), (h21, .inl (kI, 1501, .inl f21)), (h22, .inl (kZ, 1501, .inl f22))] sz) := by
  refine Met.ofW (cc := prog_7_method_16_code) (maxL := 2) (ret := some .int) (by decide +kernel) rfl ?_
  intro p e s m args below meth c s₁ B hml hv
  obtain ⟨rfl, hsz, hP, hK, hD0, hE⟩ := hv
  have hx := B.exec
  have hb := B.bytes
  have hr := B.returns
  have hts : ∀ w ∈ gT, w.before _ s = true := fun w h => atoms_spec (ws := Cond.code (⟨"AlgolJudge$Table", "home", "(I)I"⟩ : MethodName) prog_7_method_16_code 2 (some .int) :: gT) B.pre w (List.mem_cons_of_mem _ h)
  have hown : s.vm.findClass "AlgolJudge$Table" = some m.cls := findClass_of_methodNamed B.named
  have hlocks := B.notSynchronized
  subst hsz
  have hD := hD0.self (sz := s.heap.size)
  generalize hAe : va_A [(h3, .inr (1, [.ref h13, .ref h14, .ref h15, .ref h16, .ref h17, .ref h18, .ref h19, .ref h20, .ref h21, .ref h22, .int bn])), (h13, .inl (kJ, 1501, .inr (.inl f13))), (h14, .inl (kI, 1501, .inl f14)), (h15, .inl (kI, 1501, .inl f15)), (h16, .inl (kI, 1501, .inl f16)), (h17, .inl (kI, 1501, .inl f17)), (h18, .inl (kI, 1501, .inl f18)), (h19, .inl (kI, 1501, .inl f19)), (h20, .inl (kI, 1501, .inl f20)), (h21, .inl (kI, 1501, .inl f21)), (h22, .inl (kZ, 1501, .inl f22))] s.heap.size = A at hD hE ⊢
  have hA : ∀ q : Nat, s.heap.size ≤ q → A q := fun q h => by rw [← hAe]; exact Or.inr h
  have hS : va_S A s.heap s.heap [] := va_S.rf
  have hP : va_P D cls9 [(h3, .inr (1, [.ref h13, .ref h14, .ref h15, .ref h16, .ref h17, .ref h18, .ref h19, .ref h20, .ref h21, .ref h22, .int bn])), (h13, .inl (kJ, 1501, .inr (.inl f13))), (h14, .inl (kI, 1501, .inl f14)), (h15, .inl (kI, 1501, .inl f15)), (h16, .inl (kI, 1501, .inl f16)), (h17, .inl (kI, 1501, .inl f17)), (h18, .inl (kI, 1501, .inl f18)), (h19, .inl (kI, 1501, .inl f19)), (h20, .inl (kI, 1501, .inl f20)), (h21, .inl (kI, 1501, .inl f21)), (h22, .inl (kZ, 1501, .inl f22))] s.heap := hP
  have hl := lv_entry ([.ref h3, .int p1]) (n := 2) (Nat.le_of_ble_eq_true rfl)
  rw [lg_entry_eq]
  generalize (lg_sl ([.ref h3, .int p1]) ++ List.replicate (2 - (lg_sl ([.ref h3, .int p1])).length) Slot.unset).toArray = ls at hl ⊢
  have hl : lv_has ls 2 [(0, .ref h3), (1, .int p1)] := hl
  refine lv_iload_n hx hb d_7_16_0 rfl (lv_at hl 1 rfl) ?_
  refine lv_if_lt (tgt := 21) hx hb d_7_16_1 (by decide +kernel) (fun c_1 => ?_) (fun c_1 => ?_)
  · skip
    have tc_1 : p1.toInt < 0 := Int32.lt_iff_toInt_lt.mp c_1
    refine lv_iconst (v := (-1)) hx hb d_7_16_21 (by decide +kernel) ?_
    have hP9 := hP.sub (ws' := [(h3, .inr (1, [.ref h13, .ref h14, .ref h15, .ref h16, .ref h17, .ref h18, .ref h19, .ref h20, .ref h21, .ref h22, .int bn])), (h13, .inl (kJ, 1501, .inr (.inl f13))), (h14, .inl (kI, 1501, .inl f14)), (h15, .inl (kI, 1501, .inl f15)), (h16, .inl (kI, 1501, .inl f16)), (h17, .inl (kI, 1501, .inl f17)), (h18, .inl (kI, 1501, .inl f18)), (h19, .inl (kI, 1501, .inl f19)), (h20, .inl (kI, 1501, .inl f20)), (h21, .inl (kI, 1501, .inl f21)), (h22, .inl (kZ, 1501, .inl f22))]) [0, 1, 2, 3, 4, 5, 6, 7, 8, 9, 10] rfl
    have hD9 := hD.sub (ws' := [(h3, .inr (1, [.ref h13, .ref h14, .ref h15, .ref h16, .ref h17, .ref h18, .ref h19, .ref h20, .ref h21, .ref h22, .int bn])), (h13, .inl (kJ, 1501, .inr (.inl f13))), (h14, .inl (kI, 1501, .inl f14)), (h15, .inl (kI, 1501, .inl f15)), (h16, .inl (kI, 1501, .inl f16)), (h17, .inl (kI, 1501, .inl f17)), (h18, .inl (kI, 1501, .inl f18)), (h19, .inl (kI, 1501, .inl f19)), (h20, .inl (kI, 1501, .inl f20)), (h21, .inl (kI, 1501, .inl f21)), (h22, .inl (kZ, 1501, .inl f22))]) [0, 1, 2, 3, 4, 5, 6, 7, 8, 9, 10] (by decide) rfl
    have hz_0 : ((-1) : Int) = gG (rI f18) bn.toInt (-1) p1.toInt := (by first | exact gG_out (by omega) | (exfalso; omega))
    exact W.iret (v := (-1)) hx hb hr (fun t ht hW => ⟨⟨(-1), (-1), rfl, ⟨rfl, trivial⟩, hz_0, xEnd hK hP9 hD9 ht hW⟩, hS.F ht⟩) hS.2.2 d_7_16_22
  · skip
    have tc_1 : ¬ p1.toInt < 0 := fun h9 => c_1 (Int32.lt_iff_toInt_lt.mpr h9)
    refine lv_iload_n hx hb d_7_16_4 rfl (lv_at hl 1 rfl) ?_
    refine lv_aload_n hx hb d_7_16_5 rfl (lv_at hl 0 rfl) ?_
    refine va_get (D := D) (ci := 1) (v := .int bn) (C := "AlgolJudge$Table") (T := T_Table) (N := 11) hx hb hts i_Table hown hK hP 0 rfl rfl 10 (by decide +kernel) (hts _ m_254) (fun _ h9 => h9) rfl d_7_16_6 ?_
    refine lv_icmp_ge (tgt := 21) hx hb d_7_16_9 (by decide +kernel) (fun c_2 => ?_) (fun c_2 => ?_)
    · skip
      have tc_2 : bn.toInt ≤ p1.toInt := Int32.le_iff_toInt_le.mp c_2
      refine lv_iconst (v := (-1)) hx hb d_7_16_21 (by decide +kernel) ?_
      have hP9 := hP.sub (ws' := [(h3, .inr (1, [.ref h13, .ref h14, .ref h15, .ref h16, .ref h17, .ref h18, .ref h19, .ref h20, .ref h21, .ref h22, .int bn])), (h13, .inl (kJ, 1501, .inr (.inl f13))), (h14, .inl (kI, 1501, .inl f14)), (h15, .inl (kI, 1501, .inl f15)), (h16, .inl (kI, 1501, .inl f16)), (h17, .inl (kI, 1501, .inl f17)), (h18, .inl (kI, 1501, .inl f18)), (h19, .inl (kI, 1501, .inl f19)), (h20, .inl (kI, 1501, .inl f20)), (h21, .inl (kI, 1501, .inl f21)), (h22, .inl (kZ, 1501, .inl f22))]) [0, 1, 2, 3, 4, 5, 6, 7, 8, 9, 10] rfl
      have hD9 := hD.sub (ws' := [(h3, .inr (1, [.ref h13, .ref h14, .ref h15, .ref h16, .ref h17, .ref h18, .ref h19, .ref h20, .ref h21, .ref h22, .int bn])), (h13, .inl (kJ, 1501, .inr (.inl f13))), (h14, .inl (kI, 1501, .inl f14)), (h15, .inl (kI, 1501, .inl f15)), (h16, .inl (kI, 1501, .inl f16)), (h17, .inl (kI, 1501, .inl f17)), (h18, .inl (kI, 1501, .inl f18)), (h19, .inl (kI, 1501, .inl f19)), (h20, .inl (kI, 1501, .inl f20)), (h21, .inl (kI, 1501, .inl f21)), (h22, .inl (kZ, 1501, .inl f22))]) [0, 1, 2, 3, 4, 5, 6, 7, 8, 9, 10] (by decide) rfl
      have hz_0 : ((-1) : Int) = gG (rI f18) bn.toInt (-1) p1.toInt := (by first | exact gG_out (by omega) | (exfalso; omega))
      exact W.iret (v := (-1)) hx hb hr (fun t ht hW => ⟨⟨(-1), (-1), rfl, ⟨rfl, trivial⟩, hz_0, xEnd hK hP9 hD9 ht hW⟩, hS.F ht⟩) hS.2.2 d_7_16_22
    · skip
      have tc_2 : ¬ bn.toInt ≤ p1.toInt := fun h9 => c_2 (Int32.le_iff_toInt_le.mpr h9)
      refine lv_aload_n hx hb d_7_16_12 rfl (lv_at hl 0 rfl) ?_
      refine va_get (D := D) (ci := 1) (v := .ref h18) (C := "AlgolJudge$Table") (T := T_Table) (N := 11) hx hb hts i_Table hown hK hP 0 rfl rfl 5 (by decide +kernel) (hts _ m_249) (fun _ h9 => h9) rfl d_7_16_13 ?_
      refine lv_iload_n hx hb d_7_16_16 rfl (lv_at hl 1 rfl) ?_
      refine va_iald hx hb hK hP 6 0 rfl rfl (vp_in_iff.mpr ⟨by omega, by omega⟩) d_7_16_17 ?_
      refine lv_topi (fun z_3 ez_3 => ?_)
      refine lv_goto (tgt := 22) hx hb d_7_16_18 (by decide +kernel) ?_
      have hP9 := hP.sub (ws' := [(h3, .inr (1, [.ref h13, .ref h14, .ref h15, .ref h16, .ref h17, .ref h18, .ref h19, .ref h20, .ref h21, .ref h22, .int bn])), (h13, .inl (kJ, 1501, .inr (.inl f13))), (h14, .inl (kI, 1501, .inl f14)), (h15, .inl (kI, 1501, .inl f15)), (h16, .inl (kI, 1501, .inl f16)), (h17, .inl (kI, 1501, .inl f17)), (h18, .inl (kI, 1501, .inl f18)), (h19, .inl (kI, 1501, .inl f19)), (h20, .inl (kI, 1501, .inl f20)), (h21, .inl (kI, 1501, .inl f21)), (h22, .inl (kZ, 1501, .inl f22))]) [0, 1, 2, 3, 4, 5, 6, 7, 8, 9, 10] rfl
      have hD9 := hD.sub (ws' := [(h3, .inr (1, [.ref h13, .ref h14, .ref h15, .ref h16, .ref h17, .ref h18, .ref h19, .ref h20, .ref h21, .ref h22, .int bn])), (h13, .inl (kJ, 1501, .inr (.inl f13))), (h14, .inl (kI, 1501, .inl f14)), (h15, .inl (kI, 1501, .inl f15)), (h16, .inl (kI, 1501, .inl f16)), (h17, .inl (kI, 1501, .inl f17)), (h18, .inl (kI, 1501, .inl f18)), (h19, .inl (kI, 1501, .inl f19)), (h20, .inl (kI, 1501, .inl f20)), (h21, .inl (kI, 1501, .inl f21)), (h22, .inl (kZ, 1501, .inl f22))]) [0, 1, 2, 3, 4, 5, 6, 7, 8, 9, 10] (by decide) rfl
      have hz_0 : z_3.toInt = gG (rI f18) bn.toInt (-1) p1.toInt := (by first | (rw [ez_3]; exact gG_in (by omega) (by omega)) | (exfalso; omega))
      exact W.iret (v := z_3) hx hb hr (fun t ht hW => ⟨⟨z_3, z_3, rfl, ⟨rfl, trivial⟩, hz_0, xEnd hK hP9 hD9 ht hW⟩, hS.F ht⟩) hS.2.2 d_7_16_22
set_option maxHeartbeats 8000000 in
set_option maxRecDepth 100000 in
theorem g_Table_valuePlace (l : Launch) (D : va_G) (kI kJ kB kZ : ClassId) (sz : Nat) (h3 : Nat) (h13 : Nat) (h14 : Nat) (h15 : Nat) (h16 : Nat) (h17 : Nat) (h18 : Nat) (h19 : Nat) (h20 : Nat) (h21 : Nat) (h22 : Nat) (bn : Int32) (f13 : Nat → Int64) (f14 : Nat → Int32) (f15 : Nat → Int32) (f16 : Nat → Int32) (f17 : Nat → Int32) (f18 : Nat → Int32) (f19 : Nat → Int32) (f20 : Nat → Int32) (f21 : Nat → Int32) (f22 : Nat → Int32) (p1 : Int32) (hf_B1 : 0 ≤ bn.toInt) (hf_B2 : bn.toInt ≤ 1501) (hf_PB : ∀ j : Nat, 0 ≤ (f17 j).toInt ∧ (f17 j).toInt ≤ 3000) : Met l (⟨"AlgolJudge$Table", "valuePlace", "(I)I"⟩ : MethodName) (Cond.code (⟨"AlgolJudge$Table", "valuePlace", "(I)I"⟩ : MethodName) prog_7_method_19_code 2 (some .int) :: gT) ({ frames := 0, cells := 0, slots := 0, locals := 0 }) (va_Pc [.ref h3, .int p1] (xP D (xT kI kJ kB kZ) xN [(h3, .inr (1, [.ref h13, .ref h14, .ref h15, .ref h16, .ref h17, .ref h18, .ref h19, .ref h20, .ref h21, .ref h22, .int bn])), (h13, .inl (kJ, 1501, .inr (.inl f13))), (h14, .inl (kI, 1501, .inl f14)), (h15, .inl (kI, 1501, .inl f15)), (h16, .inl (kI, 1501, .inl f16)), (h17, .inl (kI, 1501, .inl f17)), (h18, .inl (kI, 1501, .inl f18)), (h19, .inl (kI, 1501, .inl f19)), (h20, .inl (kI, 1501, .inl f20)), (h21, .inl (kI, 1501, .inl f21)), (h22, .inl (kZ, 1501, .inl f22))] sz)) (va_Qi (fun (r : Int32) (u : Int32) => r = u ∧ (True)) (fun u t => (u.toInt = gG (rI f21) bn.toInt (-1) p1.toInt) ∧ xQ D (xT kI kJ kB kZ) (va_A [(h3, .inr (1, [.ref h13, .ref h14, .ref h15, .ref h16, .ref h17, .ref h18, .ref h19, .ref h20, .ref h21, .ref h22, .int bn])), (h13, .inl (kJ, 1501, .inr (.inl f13))), (h14, .inl (kI, 1501, .inl f14)), (h15, .inl (kI, 1501, .inl f15)), (h16, .inl (kI, 1501, .inl f16)), (h17, .inl (kI, 1501, .inl f17)), (h18, .inl (kI, 1501, .inl f18)), (h19, .inl (kI, 1501, .inl f19)), (h20, .inl (kI, 1501, .inl f20)), (h21, .inl (kI, 1501, .inl f21)), (h22, .inl (kZ, 1501, .inl f22))] sz) [(h3, .inr (1, [.ref h13, .ref h14, .ref h15, .ref h16, .ref h17, .ref h18, .ref h19, .ref h20, .ref h21, .ref h22, .int bn])), (h13, .inl (kJ, 1501, .inr (.inl f13))), (h14, .inl (kI, 1501, .inl f14)), (h15, .inl (kI, 1501, .inl f15)), (h16, .inl (kI, 1501, .inl f16)), (h17, .inl (kI, 1501, .inl f17)), (h18, .inl (kI, 1501, .inl f18)), (h19, .inl (kI, 1501, .inl f19)), (h20, .inl (kI, 1501, .inl f20)), (h21, .inl (kI, 1501, .inl f21)), (h22, .inl (kZ, 1501, .inl f22))] t) (va_A [(h3, .inr (1, [.ref h13, .ref h14, .ref h15, .ref h16, .ref h17, .ref h18, .ref h19, .ref h20, .ref h21, .ref h22, .int bn])), (h13, .inl (kJ, 1501, .inr (.inl f13))), (h14, .inl (kI, 1501, .inl f14)), (h15, .inl (kI, 1501, .inl f15)), (h16, .inl (kI, 1501, .inl f16)), (h17, .inl (kI, 1501, .inl f17)), (h18, .inl (kI, 1501, .inl f18)), (h19, .inl (kI, 1501, .inl f19)), (h20, .inl (kI, 1501, .inl f20)), (h21, .inl (kI, 1501, .inl f21)), (h22, .inl (kZ, 1501, .inl f22))] sz)) 0 0 (va_A [(h3, .inr (1, [.ref h13, .ref h14, .ref h15, .ref h16, .ref h17, .ref h18, .ref h19, .ref h20, .ref h21, .ref h22, .int bn])), (h13, .inl (kJ, 1501, .inr (.inl f13))), (h14, .inl (kI, 1501, .inl f14)), (h15, .inl (kI, 1501, .inl f15)), (h16, .inl (kI, 1501, .inl f16)), (h17, .inl (kI, 1501, .inl f17)), (h18, .inl (kI, 1501, .inl f18)), (h19, .inl (kI, 1501, .inl f19)), (h20, .inl (kI, 1501, .inl f20)), (h21, .inl (kI, 1501, .inl f21)), (h22, .inl (kZ, 1501, .inl f22))] sz) := by
  refine Met.ofW (cc := prog_7_method_19_code) (maxL := 2) (ret := some .int) (by decide +kernel) rfl ?_
  intro p e s m args below meth c s₁ B hml hv
  obtain ⟨rfl, hsz, hP, hK, hD0, hE⟩ := hv
  have hx := B.exec
  have hb := B.bytes
  have hr := B.returns
  have hts : ∀ w ∈ gT, w.before _ s = true := fun w h => atoms_spec (ws := Cond.code (⟨"AlgolJudge$Table", "valuePlace", "(I)I"⟩ : MethodName) prog_7_method_19_code 2 (some .int) :: gT) B.pre w (List.mem_cons_of_mem _ h)
  have hown : s.vm.findClass "AlgolJudge$Table" = some m.cls := findClass_of_methodNamed B.named
  have hlocks := B.notSynchronized
  subst hsz
  have hD := hD0.self (sz := s.heap.size)
  generalize hAe : va_A [(h3, .inr (1, [.ref h13, .ref h14, .ref h15, .ref h16, .ref h17, .ref h18, .ref h19, .ref h20, .ref h21, .ref h22, .int bn])), (h13, .inl (kJ, 1501, .inr (.inl f13))), (h14, .inl (kI, 1501, .inl f14)), (h15, .inl (kI, 1501, .inl f15)), (h16, .inl (kI, 1501, .inl f16)), (h17, .inl (kI, 1501, .inl f17)), (h18, .inl (kI, 1501, .inl f18)), (h19, .inl (kI, 1501, .inl f19)), (h20, .inl (kI, 1501, .inl f20)), (h21, .inl (kI, 1501, .inl f21)), (h22, .inl (kZ, 1501, .inl f22))] s.heap.size = A at hD hE ⊢
  have hA : ∀ q : Nat, s.heap.size ≤ q → A q := fun q h => by rw [← hAe]; exact Or.inr h
  have hS : va_S A s.heap s.heap [] := va_S.rf
  have hP : va_P D cls9 [(h3, .inr (1, [.ref h13, .ref h14, .ref h15, .ref h16, .ref h17, .ref h18, .ref h19, .ref h20, .ref h21, .ref h22, .int bn])), (h13, .inl (kJ, 1501, .inr (.inl f13))), (h14, .inl (kI, 1501, .inl f14)), (h15, .inl (kI, 1501, .inl f15)), (h16, .inl (kI, 1501, .inl f16)), (h17, .inl (kI, 1501, .inl f17)), (h18, .inl (kI, 1501, .inl f18)), (h19, .inl (kI, 1501, .inl f19)), (h20, .inl (kI, 1501, .inl f20)), (h21, .inl (kI, 1501, .inl f21)), (h22, .inl (kZ, 1501, .inl f22))] s.heap := hP
  have hl := lv_entry ([.ref h3, .int p1]) (n := 2) (Nat.le_of_ble_eq_true rfl)
  rw [lg_entry_eq]
  generalize (lg_sl ([.ref h3, .int p1]) ++ List.replicate (2 - (lg_sl ([.ref h3, .int p1])).length) Slot.unset).toArray = ls at hl ⊢
  have hl : lv_has ls 2 [(0, .ref h3), (1, .int p1)] := hl
  refine lv_iload_n hx hb d_7_19_0 rfl (lv_at hl 1 rfl) ?_
  refine lv_if_lt (tgt := 21) hx hb d_7_19_1 (by decide +kernel) (fun c_1 => ?_) (fun c_1 => ?_)
  · skip
    have tc_1 : p1.toInt < 0 := Int32.lt_iff_toInt_lt.mp c_1
    refine lv_iconst (v := (-1)) hx hb d_7_19_21 (by decide +kernel) ?_
    have hP9 := hP.sub (ws' := [(h3, .inr (1, [.ref h13, .ref h14, .ref h15, .ref h16, .ref h17, .ref h18, .ref h19, .ref h20, .ref h21, .ref h22, .int bn])), (h13, .inl (kJ, 1501, .inr (.inl f13))), (h14, .inl (kI, 1501, .inl f14)), (h15, .inl (kI, 1501, .inl f15)), (h16, .inl (kI, 1501, .inl f16)), (h17, .inl (kI, 1501, .inl f17)), (h18, .inl (kI, 1501, .inl f18)), (h19, .inl (kI, 1501, .inl f19)), (h20, .inl (kI, 1501, .inl f20)), (h21, .inl (kI, 1501, .inl f21)), (h22, .inl (kZ, 1501, .inl f22))]) [0, 1, 2, 3, 4, 5, 6, 7, 8, 9, 10] rfl
    have hD9 := hD.sub (ws' := [(h3, .inr (1, [.ref h13, .ref h14, .ref h15, .ref h16, .ref h17, .ref h18, .ref h19, .ref h20, .ref h21, .ref h22, .int bn])), (h13, .inl (kJ, 1501, .inr (.inl f13))), (h14, .inl (kI, 1501, .inl f14)), (h15, .inl (kI, 1501, .inl f15)), (h16, .inl (kI, 1501, .inl f16)), (h17, .inl (kI, 1501, .inl f17)), (h18, .inl (kI, 1501, .inl f18)), (h19, .inl (kI, 1501, .inl f19)), (h20, .inl (kI, 1501, .inl f20)), (h21, .inl (kI, 1501, .inl f21)), (h22, .inl (kZ, 1501, .inl f22))]) [0, 1, 2, 3, 4, 5, 6, 7, 8, 9, 10] (by decide) rfl
    have hz_0 : ((-1) : Int) = gG (rI f21) bn.toInt (-1) p1.toInt := (by first | exact gG_out (by omega) | (exfalso; omega))
    exact W.iret (v := (-1)) hx hb hr (fun t ht hW => ⟨⟨(-1), (-1), rfl, ⟨rfl, trivial⟩, hz_0, xEnd hK hP9 hD9 ht hW⟩, hS.F ht⟩) hS.2.2 d_7_19_22
  · skip
    have tc_1 : ¬ p1.toInt < 0 := fun h9 => c_1 (Int32.lt_iff_toInt_lt.mpr h9)
    refine lv_iload_n hx hb d_7_19_4 rfl (lv_at hl 1 rfl) ?_
    refine lv_aload_n hx hb d_7_19_5 rfl (lv_at hl 0 rfl) ?_
    refine va_get (D := D) (ci := 1) (v := .int bn) (C := "AlgolJudge$Table") (T := T_Table) (N := 11) hx hb hts i_Table hown hK hP 0 rfl rfl 10 (by decide +kernel) (hts _ m_254) (fun _ h9 => h9) rfl d_7_19_6 ?_
    refine lv_icmp_ge (tgt := 21) hx hb d_7_19_9 (by decide +kernel) (fun c_2 => ?_) (fun c_2 => ?_)
    · skip
      have tc_2 : bn.toInt ≤ p1.toInt := Int32.le_iff_toInt_le.mp c_2
      refine lv_iconst (v := (-1)) hx hb d_7_19_21 (by decide +kernel) ?_
      have hP9 := hP.sub (ws' := [(h3, .inr (1, [.ref h13, .ref h14, .ref h15, .ref h16, .ref h17, .ref h18, .ref h19, .ref h20, .ref h21, .ref h22, .int bn])), (h13, .inl (kJ, 1501, .inr (.inl f13))), (h14, .inl (kI, 1501, .inl f14)), (h15, .inl (kI, 1501, .inl f15)), (h16, .inl (kI, 1501, .inl f16)), (h17, .inl (kI, 1501, .inl f17)), (h18, .inl (kI, 1501, .inl f18)), (h19, .inl (kI, 1501, .inl f19)), (h20, .inl (kI, 1501, .inl f20)), (h21, .inl (kI, 1501, .inl f21)), (h22, .inl (kZ, 1501, .inl f22))]) [0, 1, 2, 3, 4, 5, 6, 7, 8, 9, 10] rfl
      have hD9 := hD.sub (ws' := [(h3, .inr (1, [.ref h13, .ref h14, .ref h15, .ref h16, .ref h17, .ref h18, .ref h19, .ref h20, .ref h21, .ref h22, .int bn])), (h13, .inl (kJ, 1501, .inr (.inl f13))), (h14, .inl (kI, 1501, .inl f14)), (h15, .inl (kI, 1501, .inl f15)), (h16, .inl (kI, 1501, .inl f16)), (h17, .inl (kI, 1501, .inl f17)), (h18, .inl (kI, 1501, .inl f18)), (h19, .inl (kI, 1501, .inl f19)), (h20, .inl (kI, 1501, .inl f20)), (h21, .inl (kI, 1501, .inl f21)), (h22, .inl (kZ, 1501, .inl f22))]) [0, 1, 2, 3, 4, 5, 6, 7, 8, 9, 10] (by decide) rfl
      have hz_0 : ((-1) : Int) = gG (rI f21) bn.toInt (-1) p1.toInt := (by first | exact gG_out (by omega) | (exfalso; omega))
      exact W.iret (v := (-1)) hx hb hr (fun t ht hW => ⟨⟨(-1), (-1), rfl, ⟨rfl, trivial⟩, hz_0, xEnd hK hP9 hD9 ht hW⟩, hS.F ht⟩) hS.2.2 d_7_19_22
    · skip
      have tc_2 : ¬ bn.toInt ≤ p1.toInt := fun h9 => c_2 (Int32.le_iff_toInt_le.mpr h9)
      refine lv_aload_n hx hb d_7_19_12 rfl (lv_at hl 0 rfl) ?_
      refine va_get (D := D) (ci := 1) (v := .ref h21) (C := "AlgolJudge$Table") (T := T_Table) (N := 11) hx hb hts i_Table hown hK hP 0 rfl rfl 8 (by decide +kernel) (hts _ m_252) (fun _ h9 => h9) rfl d_7_19_13 ?_
      refine lv_iload_n hx hb d_7_19_16 rfl (lv_at hl 1 rfl) ?_
      refine va_iald hx hb hK hP 9 0 rfl rfl (vp_in_iff.mpr ⟨by omega, by omega⟩) d_7_19_17 ?_
      refine lv_topi (fun z_3 ez_3 => ?_)
      refine lv_goto (tgt := 22) hx hb d_7_19_18 (by decide +kernel) ?_
      have hP9 := hP.sub (ws' := [(h3, .inr (1, [.ref h13, .ref h14, .ref h15, .ref h16, .ref h17, .ref h18, .ref h19, .ref h20, .ref h21, .ref h22, .int bn])), (h13, .inl (kJ, 1501, .inr (.inl f13))), (h14, .inl (kI, 1501, .inl f14)), (h15, .inl (kI, 1501, .inl f15)), (h16, .inl (kI, 1501, .inl f16)), (h17, .inl (kI, 1501, .inl f17)), (h18, .inl (kI, 1501, .inl f18)), (h19, .inl (kI, 1501, .inl f19)), (h20, .inl (kI, 1501, .inl f20)), (h21, .inl (kI, 1501, .inl f21)), (h22, .inl (kZ, 1501, .inl f22))]) [0, 1, 2, 3, 4, 5, 6, 7, 8, 9, 10] rfl
      have hD9 := hD.sub (ws' := [(h3, .inr (1, [.ref h13, .ref h14, .ref h15, .ref h16, .ref h17, .ref h18, .ref h19, .ref h20, .ref h21, .ref h22, .int bn])), (h13, .inl (kJ, 1501, .inr (.inl f13))), (h14, .inl (kI, 1501, .inl f14)), (h15, .inl (kI, 1501, .inl f15)), (h16, .inl (kI, 1501, .inl f16)), (h17, .inl (kI, 1501, .inl f17)), (h18, .inl (kI, 1501, .inl f18)), (h19, .inl (kI, 1501, .inl f19)), (h20, .inl (kI, 1501, .inl f20)), (h21, .inl (kI, 1501, .inl f21)), (h22, .inl (kZ, 1501, .inl f22))]) [0, 1, 2, 3, 4, 5, 6, 7, 8, 9, 10] (by decide) rfl
      have hz_0 : z_3.toInt = gG (rI f21) bn.toInt (-1) p1.toInt := (by first | (rw [ez_3]; exact gG_in (by omega) (by omega)) | (exfalso; omega))
      exact W.iret (v := z_3) hx hb hr (fun t ht hW => ⟨⟨z_3, z_3, rfl, ⟨rfl, trivial⟩, hz_0, xEnd hK hP9 hD9 ht hW⟩, hS.F ht⟩) hS.2.2 d_7_19_22
