set_option maxHeartbeats 8000000 in
set_option maxRecDepth 100000 in
theorem g_Tokens_seesLeft (l : Launch) (D : va_G) (kI kJ kB kZ : ClassId) (sz : Nat) (h2 : Nat) (h9 : Nat) (h10 : Nat) (h11 : Nat) (h12 : Nat) (tc : Int32) (ta : Int32) (td : Int32) (tf : Int32) (f9 : Nat → Int32) (f10 : Nat → Int32) (f11 : Nat → Int64) (f12 : Nat → Int64) (hf_T1 : 1 ≤ tc.toInt) (hf_T2 : tc.toInt ≤ 3001) (hf_T3 : 0 ≤ ta.toInt) (hf_T4 : ta.toInt < tc.toInt) (hf_T5 : tf.toInt = -2 → 0 ≤ td.toInt ∧ td.toInt ≤ 20) (hf_T6 : ∀ j : Nat, 0 ≤ (f10 j).toInt) : Met l (⟨"AlgolJudge$Tokens", "seesLeft", "()Z"⟩ : MethodName) (Cond.code (⟨"AlgolJudge$Tokens", "seesLeft", "()Z"⟩ : MethodName) prog_8_method_29_code 3 (some .boolean) :: gT) ({ frames := 2, cells := 0, slots := 0, locals := 41 }) (va_Pc [.ref h2] (xP D (xT kI kJ kB kZ) xN [(h2, .inr (0, [.ref h9, .ref h10, .ref h11, .ref h12, .int tc, .int ta, .int td, .int tf])), (h9, .inl (kI, 3001, .inl f9)), (h10, .inl (kI, 3001, .inl f10)), (h11, .inl (kJ, 3001, .inr (.inl f11))), (h12, .inl (kJ, 27, .inr (.inl f12)))] sz)) (va_Qi (fun (r : Int32) (_ : Unit) => True) (fun _ t => xQ D (xT kI kJ kB kZ) (va_A [(h2, .inr (0, [.ref h9, .ref h10, .ref h11, .ref h12, .int tc, .int ta, .int td, .int tf])), (h9, .inl (kI, 3001, .inl f9)), (h10, .inl (kI, 3001, .inl f10)), (h11, .inl (kJ, 3001, .inr (.inl f11))), (h12, .inl (kJ, 27, .inr (.inl f12)))] sz) [(h2, .inr (0, [.ref h9, .ref h10, .ref h11, .ref h12, .int tc, .int ta, .int td, .int tf])), (h9, .inl (kI, 3001, .inl f9)), (h10, .inl (kI, 3001, .inl f10)), (h11, .inl (kJ, 3001, .inr (.inl f11))), (h12, .inl (kJ, 27, .inr (.inl f12)))] t) (va_A [(h2, .inr (0, [.ref h9, .ref h10, .ref h11, .ref h12, .int tc, .int ta, .int td, .int tf])), (h9, .inl (kI, 3001, .inl f9)), (h10, .inl (kI, 3001, .inl f10)), (h11, .inl (kJ, 3001, .inr (.inl f11))), (h12, .inl (kJ, 27, .inr (.inl f12)))] sz)) 0 0 (va_A [(h2, .inr (0, [.ref h9, .ref h10, .ref h11, .ref h12, .int tc, .int ta, .int td, .int tf])), (h9, .inl (kI, 3001, .inl f9)), (h10, .inl (kI, 3001, .inl f10)), (h11, .inl (kJ, 3001, .inr (.inl f11))), (h12, .inl (kJ, 27, .inr (.inl f12)))] sz) := by
  refine Met.ofW (cc := prog_8_method_29_code) (maxL := 3) (ret := some .boolean) (by decide +kernel) rfl ?_
  intro p e s m args below meth c s₁ B hml hv
  obtain ⟨rfl, hsz, hP, hK, hD0, hE⟩ := hv
  have hx := B.exec
  have hb := B.bytes
  have hr := B.returns
  have hts : ∀ w ∈ gT, w.before _ s = true := fun w h => atoms_spec (ws := Cond.code (⟨"AlgolJudge$Tokens", "seesLeft", "()Z"⟩ : MethodName) prog_8_method_29_code 3 (some .boolean) :: gT) B.pre w (List.mem_cons_of_mem _ h)
  have hown : s.vm.findClass "AlgolJudge$Tokens" = some m.cls := findClass_of_methodNamed B.named
  have hlocks := B.notSynchronized
  subst hsz
  have hD := hD0.self (sz := s.heap.size)
  generalize hAe : va_A [(h2, .inr (0, [.ref h9, .ref h10, .ref h11, .ref h12, .int tc, .int ta, .int td, .int tf])), (h9, .inl (kI, 3001, .inl f9)), (h10, .inl (kI, 3001, .inl f10)), (h11, .inl (kJ, 3001, .inr (.inl f11))), (h12, .inl (kJ, 27, .inr (.inl f12)))] s.heap.size = A at hD hE ⊢
  have hA : ∀ q : Nat, s.heap.size ≤ q → A q := fun q h => by rw [← hAe]; exact Or.inr h
  have hS : va_S A s.heap s.heap [] := va_S.rf
  have hP : va_P D cls9 [(h2, .inr (0, [.ref h9, .ref h10, .ref h11, .ref h12, .int tc, .int ta, .int td, .int tf])), (h9, .inl (kI, 3001, .inl f9)), (h10, .inl (kI, 3001, .inl f10)), (h11, .inl (kJ, 3001, .inr (.inl f11))), (h12, .inl (kJ, 27, .inr (.inl f12)))] s.heap := hP
  have hl := lv_entry ([.ref h2]) (n := 3) (Nat.le_of_ble_eq_true rfl)
  rw [lg_entry_eq]
  generalize (lg_sl ([.ref h2]) ++ List.replicate (3 - (lg_sl ([.ref h2])).length) Slot.unset).toArray = ls at hl ⊢
  have hl : lv_has ls 3 [(0, .ref h2)] := hl
  refine lv_aload_n hx hb d_8_29_0 rfl (lv_at hl 0 rfl) ?_
  refine lv_bipush (v := 27) hx hb d_8_29_1 (by decide +kernel) ?_
  have hPc := hP.sub (ws' := [(h2, .inr (0, [.ref h9, .ref h10, .ref h11, .ref h12, .int tc, .int ta, .int td, .int tf])), (h9, .inl (kI, 3001, .inl f9)), (h10, .inl (kI, 3001, .inl f10)), (h11, .inl (kJ, 3001, .inr (.inl f11))), (h12, .inl (kJ, 27, .inr (.inl f12)))]) [0, 1, 2, 3, 4] rfl
  have hDc := hD.sub (ws' := [(h2, .inr (0, [.ref h9, .ref h10, .ref h11, .ref h12, .int tc, .int ta, .int td, .int tf])), (h9, .inl (kI, 3001, .inl f9)), (h10, .inl (kI, 3001, .inl f10)), (h11, .inl (kJ, 3001, .inr (.inl f11))), (h12, .inl (kJ, 27, .inr (.inl f12)))]) [0, 1, 2, 3, 4] (by decide) rfl
  have hFc := va_free (wc := [(h2, .inr (0, [.ref h9, .ref h10, .ref h11, .ref h12, .int tc, .int ta, .int td, .int tf])), (h9, .inl (kI, 3001, .inl f9)), (h10, .inl (kI, 3001, .inl f10)), (h11, .inl (kJ, 3001, .inr (.inl f11))), (h12, .inl (kJ, 27, .inr (.inl f12)))]) hD hS hA [0, 1, 2, 3, 4] rfl
  refine va_calli (va_runV (As := [.int 27]) (rest := []) ⟨hx, hb, hml, hown, hts⟩ (g_Tokens_sees l D kI kJ kB kZ _ (h2) (h9) (h10) (h11) (h12) (tc) (ta) (td) (tf) (f9) (f10) (f11) (f12) ((27 : Int32)) hf_T1 hf_T2 hf_T3 hf_T4 hf_T5 hf_T6) (cwV 1 hts (gT_V m_811 m_617 m_618 m_121 (gT_ws m_619)) rfl rfl rfl (by decide +kernel) ⟨(Nat.le_of_ble_eq_true rfl), (Nat.le_of_ble_eq_true rfl)⟩) ⟨xBlind xOk_N, va_recv hK hP (ci := 0) (q0 := 0) rfl rfl, xAtN hK hPc hDc⟩ rfl rfl hl.1 rfl (lv_room (Nat.le_of_ble_eq_true rfl)) d_8_29_3 ⟨(Nat.le_of_ble_eq_true rfl), (Nat.le_of_ble_eq_true rfl)⟩) hS (fun q _ h => hFc q h) hFc (fun r_1 u t H locs ht hvm hw_2 hB hz1 hk1 hS => ?_)
  clear hz1
  have hPD := xJoin (wr := []) (w1 := [(h2, .inr (0, [.ref h9, .ref h10, .ref h11, .ref h12, .int tc, .int ta, .int td, .int tf])), (h9, .inl (kI, 3001, .inl f9)), (h10, .inl (kI, 3001, .inl f10)), (h11, .inl (kJ, 3001, .inr (.inl f11))), (h12, .inl (kJ, 27, .inr (.inl f12)))]) hP hD [0, 1, 2, 3, 4] [] rfl rfl (by decide) (by decide) hk1 hFc ht hB
  replace hP : va_P D cls9 [(h2, .inr (0, [.ref h9, .ref h10, .ref h11, .ref h12, .int tc, .int ta, .int td, .int tf])), (h9, .inl (kI, 3001, .inl f9)), (h10, .inl (kI, 3001, .inl f10)), (h11, .inl (kJ, 3001, .inr (.inl f11))), (h12, .inl (kJ, 27, .inr (.inl f12)))] H := hPD.1
  replace hD : va_D A [(h2, .inr (0, [.ref h9, .ref h10, .ref h11, .ref h12, .int tc, .int ta, .int td, .int tf])), (h9, .inl (kI, 3001, .inl f9)), (h10, .inl (kI, 3001, .inl f10)), (h11, .inl (kJ, 3001, .inr (.inl f11))), (h12, .inl (kJ, 27, .inr (.inl f12)))] := hPD.2
  clear hPD hB hk1 hPc hDc hFc
  have hw_2 : r_1.toInt = 0 ∨ (27 : Int) = -2 ∨ tf.toInt = -2 := hw_2
  refine lv_if_ne (tgt := 11) hx hb d_8_29_6 (by decide +kernel) (fun c_3 => ?_) (fun c_3 => ?_)
  · skip
    have tc_3 : ¬ r_1.toInt = 0 := fun h9 => c_3 (Int32.toInt_inj.mp h9)
    refine lv_aload_n hx hb d_8_29_11 rfl (lv_at hl 0 rfl) ?_
    have hPc := hP.sub (ws' := [(h2, .inr (0, [.ref h9, .ref h10, .ref h11, .ref h12, .int tc, .int ta, .int td, .int tf])), (h9, .inl (kI, 3001, .inl f9)), (h10, .inl (kI, 3001, .inl f10)), (h11, .inl (kJ, 3001, .inr (.inl f11))), (h12, .inl (kJ, 27, .inr (.inl f12)))]) [0, 1, 2, 3, 4] rfl
    have hDc := hD.sub (ws' := [(h2, .inr (0, [.ref h9, .ref h10, .ref h11, .ref h12, .int tc, .int ta, .int td, .int tf])), (h9, .inl (kI, 3001, .inl f9)), (h10, .inl (kI, 3001, .inl f10)), (h11, .inl (kJ, 3001, .inr (.inl f11))), (h12, .inl (kJ, 27, .inr (.inl f12)))]) [0, 1, 2, 3, 4] (by decide) rfl
    have hFc := va_free (wc := [(h2, .inr (0, [.ref h9, .ref h10, .ref h11, .ref h12, .int tc, .int ta, .int td, .int tf])), (h9, .inl (kI, 3001, .inl f9)), (h10, .inl (kI, 3001, .inl f10)), (h11, .inl (kJ, 3001, .inr (.inl f11))), (h12, .inl (kJ, 27, .inr (.inl f12)))]) hD hS hA [0, 1, 2, 3, 4] rfl
    refine va_calli (va_runV (As := []) (rest := []) ⟨hx, hb, hml, hown, hts⟩ (g_Tokens_next l D kI kJ kB kZ _ (h2) (h9) (h10) (h11) (h12) (tc) (ta) (td) (tf) (f9) (f10) (f11) (f12) hf_T1 hf_T2 hf_T3 hf_T4 hf_T5 hf_T6) (cwV 0 hts (gT_V m_812 m_800 m_801 m_121 (gT_ws m_802)) rfl rfl rfl (by decide +kernel) ⟨(Nat.le_of_ble_eq_true rfl), (Nat.le_of_ble_eq_true rfl)⟩) ⟨xBlind xOk_N, va_recv hK hP (ci := 0) (q0 := 0) rfl rfl, xAtN hK hPc hDc⟩ rfl rfl hl.1 rfl (lv_room (Nat.le_of_ble_eq_true rfl)) d_8_29_12 ⟨(Nat.le_of_ble_eq_true rfl), (Nat.le_of_ble_eq_true rfl)⟩) hS (fun q _ h => hFc q h) hFc (fun r_4 u t H locs ht hvm hw_5 hB hz1 hk1 hS => ?_)
    clear hz1
    have hPD := xJoin (wr := []) (w1 := [(h2, .inr (0, [.ref h9, .ref h10, .ref h11, .ref h12, .int tc, .int ta, .int td, .int tf])), (h9, .inl (kI, 3001, .inl f9)), (h10, .inl (kI, 3001, .inl f10)), (h11, .inl (kJ, 3001, .inr (.inl f11))), (h12, .inl (kJ, 27, .inr (.inl f12)))]) hP hD [0, 1, 2, 3, 4] [] rfl rfl (by decide) (by decide) hk1 hFc ht hB
    replace hP : va_P D cls9 [(h2, .inr (0, [.ref h9, .ref h10, .ref h11, .ref h12, .int tc, .int ta, .int td, .int tf])), (h9, .inl (kI, 3001, .inl f9)), (h10, .inl (kI, 3001, .inl f10)), (h11, .inl (kJ, 3001, .inr (.inl f11))), (h12, .inl (kJ, 27, .inr (.inl f12)))] H := hPD.1
    replace hD : va_D A [(h2, .inr (0, [.ref h9, .ref h10, .ref h11, .ref h12, .int tc, .int ta, .int td, .int tf])), (h9, .inl (kI, 3001, .inl f9)), (h10, .inl (kI, 3001, .inl f10)), (h11, .inl (kJ, 3001, .inr (.inl f11))), (h12, .inl (kJ, 27, .inr (.inl f12)))] := hPD.2
    clear hPD hB hk1 hPc hDc hFc
    refine lv_bipush (v := 36) hx hb d_8_29_15 (by decide +kernel) ?_
    refine lv_icmp_eq (tgt := 35) hx hb d_8_29_17 (by decide +kernel) (fun c_6 => ?_) (fun c_6 => ?_)
    · skip
      have tc_6 : r_4.toInt = 36 := congrArg Int32.toInt c_6
      refine lv_iconst (v := 0) hx hb d_8_29_35 (by decide +kernel) ?_
      refine lv_istore_n (lv' := [(1, .int 0), (0, .ref h2)]) hx hb d_8_29_36 rfl hl (by decide +kernel) rfl (fun ls hl => ?_)
      refine lv_aload_n hx hb d_8_29_37 rfl (lv_at hl 1 rfl) ?_
      refine va_get (D := D) (ci := 0) (v := .int ta) (C := "AlgolJudge$Tokens") (T := T_Tokens) (N := 8) hx hb hts i_Tokens hown hK hP 0 rfl rfl 5 (by decide +kernel) (hts _ m_215) (fun _ h9 => h9) rfl d_8_29_38 ?_
      refine lv_iconst (v := 1) hx hb d_8_29_41 (by decide +kernel) ?_
      refine lv_iadd hx hb d_8_29_42 ?_
      refine lv_topi (fun y_7 ey_7 => ?_)
      have ty_7 : y_7.toInt = ta.toInt + 1 := by rw [ey_7]; exact zaddc (by decide +kernel) (by omega) (by omega)
      refine lv_istore_n (lv' := [(2, .int y_7), (1, .int 0), (0, .ref h2)]) hx hb d_8_29_43 rfl hl (by decide +kernel) rfl (fun ls hl => ?_)
      refine xLoop (I := fun n H locs ls => ∃ v44_2 : Int32, ∃ v44_1 : Int32, (0 ≤ v44_2.toInt) ∧ (v44_2.toInt ≤ 3001) ∧ n = (3001 - v44_2.toInt).toNat ∧ va_P D cls9 [(h2, .inr (0, [.ref h9, .ref h10, .ref h11, .ref h12, .int tc, .int ta, .int td, .int tf])), (h9, .inl (kI, 3001, .inl f9)), (h10, .inl (kI, 3001, .inl f10)), (h11, .inl (kJ, 3001, .inr (.inl f11))), (h12, .inl (kJ, 27, .inr (.inl f12)))] H ∧ va_D A [(h2, .inr (0, [.ref h9, .ref h10, .ref h11, .ref h12, .int tc, .int ta, .int td, .int tf])), (h9, .inl (kI, 3001, .inl f9)), (h10, .inl (kI, 3001, .inl f10)), (h11, .inl (kJ, 3001, .inr (.inl f11))), (h12, .inl (kJ, 27, .inr (.inl f12)))] ∧ va_S A s.heap H locs ∧ lv_has ls 3 [(2, .int v44_2), (1, .int v44_1), (0, .ref h2)]) ?_ _ _ _ _ ⟨y_7, 0, (show 0 ≤ y_7.toInt from (by first | assumption | omega)), (show y_7.toInt ≤ 3001 from (by first | assumption | omega)), rfl, hP.sub (ws' := [(h2, .inr (0, [.ref h9, .ref h10, .ref h11, .ref h12, .int tc, .int ta, .int td, .int tf])), (h9, .inl (kI, 3001, .inl f9)), (h10, .inl (kI, 3001, .inl f10)), (h11, .inl (kJ, 3001, .inr (.inl f11))), (h12, .inl (kJ, 27, .inr (.inl f12)))]) [0, 1, 2, 3, 4] rfl, hD.sub (ws' := [(h2, .inr (0, [.ref h9, .ref h10, .ref h11, .ref h12, .int tc, .int ta, .int td, .int tf])), (h9, .inl (kI, 3001, .inl f9)), (h10, .inl (kI, 3001, .inl f10)), (h11, .inl (kJ, 3001, .inr (.inl f11))), (h12, .inl (kJ, 27, .inr (.inl f12)))]) [0, 1, 2, 3, 4] (by decide) rfl, hS, lv_sub hl [0, 1, 2] rfl⟩
      intro n_10 H locs ls hI9 ih_11
      revert hI9
      refine exI fun v44_2 => exI fun v44_1 => anI fun hl_8 => anI fun hl_9 => anI fun hn_10 => anI fun hP => anI fun hD => anI fun hS => fun hl => ?_
      refine lv_iload_n hx hb d_8_29_44 rfl (lv_at hl 0 rfl) ?_
      refine lv_aload_n hx hb d_8_29_45 rfl (lv_at hl 2 rfl) ?_
      refine va_get (D := D) (ci := 0) (v := .int tc) (C := "AlgolJudge$Tokens") (T := T_Tokens) (N := 8) hx hb hts i_Tokens hown hK hP 0 rfl rfl 4 (by decide +kernel) (hts _ m_214) (fun _ h9 => h9) rfl d_8_29_46 ?_
      refine lv_iconst (v := 1) hx hb d_8_29_49 (by decide +kernel) ?_
      refine lv_isub hx hb d_8_29_50 ?_
      refine lv_topi (fun y_12 ey_12 => ?_)
      have ty_12 : y_12.toInt = tc.toInt - 1 := by rw [ey_12]; exact zsubc (by decide +kernel) (by omega) (by omega)
      refine lv_icmp_ge (tgt := 114) hx hb d_8_29_51 (by decide +kernel) (fun c_13 => ?_) (fun c_13 => ?_)
      · skip
        have tc_13 : y_12.toInt ≤ v44_2.toInt := Int32.le_iff_toInt_le.mp c_13
        refine lv_iconst (v := 0) hx hb d_8_29_114 (by decide +kernel) ?_
        have hP9 := hP.sub (ws' := [(h2, .inr (0, [.ref h9, .ref h10, .ref h11, .ref h12, .int tc, .int ta, .int td, .int tf])), (h9, .inl (kI, 3001, .inl f9)), (h10, .inl (kI, 3001, .inl f10)), (h11, .inl (kJ, 3001, .inr (.inl f11))), (h12, .inl (kJ, 27, .inr (.inl f12)))]) [0, 1, 2, 3, 4] rfl
        have hD9 := hD.sub (ws' := [(h2, .inr (0, [.ref h9, .ref h10, .ref h11, .ref h12, .int tc, .int ta, .int td, .int tf])), (h9, .inl (kI, 3001, .inl f9)), (h10, .inl (kI, 3001, .inl f10)), (h11, .inl (kJ, 3001, .inr (.inl f11))), (h12, .inl (kJ, 27, .inr (.inl f12)))]) [0, 1, 2, 3, 4] (by decide) rfl
        exact W.zret (v := 0) (ty := .boolean) hx hb hr (by decide +kernel) (fun t ht hW => ⟨⟨0, (), rfl, trivial, xEnd hK hP9 hD9 ht hW⟩, hS.F ht⟩) hS.2.2 d_8_29_115
      · skip
        have tc_13 : ¬ y_12.toInt ≤ v44_2.toInt := fun h9 => c_13 (Int32.le_iff_toInt_le.mpr h9)
        refine lv_aload_n hx hb d_8_29_54 rfl (lv_at hl 2 rfl) ?_
        refine va_get (D := D) (ci := 0) (v := .ref h9) (C := "AlgolJudge$Tokens") (T := T_Tokens) (N := 8) hx hb hts i_Tokens hown hK hP 0 rfl rfl 0 (by decide +kernel) (hts _ m_210) (fun _ h9 => h9) rfl d_8_29_55 ?_
        refine lv_iload_n hx hb d_8_29_58 rfl (lv_at hl 0 rfl) ?_
        refine va_iald hx hb hK hP 1 0 rfl rfl (vp_in_iff.mpr ⟨by omega, by omega⟩) d_8_29_59 ?_
        refine lv_topi (fun z_14 ez_14 => ?_)
        refine lv_bipush (v := 36) hx hb d_8_29_60 (by decide +kernel) ?_
        refine lv_icmp_ne (tgt := 71) hx hb d_8_29_62 (by decide +kernel) (fun c_15 => ?_) (fun c_15 => ?_)
        · skip
          have tc_15 : ¬ z_14.toInt = 36 := fun h9 => c_15 (Int32.toInt_inj.mp h9)
          refine lv_aload_n hx hb d_8_29_71 rfl (lv_at hl 2 rfl) ?_
          refine va_get (D := D) (ci := 0) (v := .ref h9) (C := "AlgolJudge$Tokens") (T := T_Tokens) (N := 8) hx hb hts i_Tokens hown hK hP 0 rfl rfl 0 (by decide +kernel) (hts _ m_210) (fun _ h9 => h9) rfl d_8_29_72 ?_
          refine lv_iload_n hx hb d_8_29_75 rfl (lv_at hl 0 rfl) ?_
          refine va_iald hx hb hK hP 1 0 rfl rfl (vp_in_iff.mpr ⟨by omega, by omega⟩) d_8_29_76 ?_
          refine lv_topi (fun z_16 ez_16 => ?_)
          refine lv_bipush (v := 37) hx hb d_8_29_77 (by decide +kernel) ?_
          refine lv_icmp_ne (tgt := 85) hx hb d_8_29_79 (by decide +kernel) (fun c_17 => ?_) (fun c_17 => ?_)
          · skip
            have tc_17 : ¬ z_16.toInt = 37 := fun h9 => c_17 (Int32.toInt_inj.mp h9)
            refine lv_iload_n hx hb d_8_29_85 rfl (lv_at hl 1 rfl) ?_
            refine lv_if_ne (tgt := 108) hx hb d_8_29_86 (by decide +kernel) (fun c_18 => ?_) (fun c_18 => ?_)
            · skip
              have tc_18 : ¬ v44_1.toInt = 0 := fun h9 => c_18 (Int32.toInt_inj.mp h9)
              obtain ⟨y_19, ey_19⟩ : ∃ y : Int32, y = v44_2 + 1 := ⟨_, rfl⟩
              have ty_19 : y_19.toInt = v44_2.toInt + 1 := by rw [ey_19]; exact zaddc (by decide +kernel) (by omega) (by omega)
              refine lv_iinc (v := y_19) (lv' := [(2, .int y_19), (1, .int v44_1), (0, .ref h2)]) hx hb d_8_29_108 hl (k := 0) rfl (by rw [ey_19]; rfl) (by decide +kernel) rfl (fun ls hl => ?_)
              refine lv_goto (tgt := 44) hx hb d_8_29_111 (by decide +kernel) ?_
              exact ih_11 _ _ _ _ (by omega) ⟨y_19, v44_1, (show 0 ≤ y_19.toInt from (by first | assumption | omega)), (show y_19.toInt ≤ 3001 from (by first | assumption | omega)), rfl, hP.sub (ws' := [(h2, .inr (0, [.ref h9, .ref h10, .ref h11, .ref h12, .int tc, .int ta, .int td, .int tf])), (h9, .inl (kI, 3001, .inl f9)), (h10, .inl (kI, 3001, .inl f10)), (h11, .inl (kJ, 3001, .inr (.inl f11))), (h12, .inl (kJ, 27, .inr (.inl f12)))]) [0, 1, 2, 3, 4] rfl, hD.sub (ws' := [(h2, .inr (0, [.ref h9, .ref h10, .ref h11, .ref h12, .int tc, .int ta, .int td, .int tf])), (h9, .inl (kI, 3001, .inl f9)), (h10, .inl (kI, 3001, .inl f10)), (h11, .inl (kJ, 3001, .inr (.inl f11))), (h12, .inl (kJ, 27, .inr (.inl f12)))]) [0, 1, 2, 3, 4] (by decide) rfl, hS, lv_sub hl [0, 1, 2] rfl⟩
            · skip
              have tc_18 : v44_1.toInt = 0 := congrArg Int32.toInt c_18
              refine lv_aload_n hx hb d_8_29_89 rfl (lv_at hl 2 rfl) ?_
              refine va_get (D := D) (ci := 0) (v := .ref h9) (C := "AlgolJudge$Tokens") (T := T_Tokens) (N := 8) hx hb hts i_Tokens hown hK hP 0 rfl rfl 0 (by decide +kernel) (hts _ m_210) (fun _ h9 => h9) rfl d_8_29_90 ?_
              refine lv_iload_n hx hb d_8_29_93 rfl (lv_at hl 0 rfl) ?_
              refine lv_iconst (v := 1) hx hb d_8_29_94 (by decide +kernel) ?_
              refine lv_iadd hx hb d_8_29_95 ?_
              refine lv_topi (fun y_20 ey_20 => ?_)
              have ty_20 : y_20.toInt = v44_2.toInt + 1 := by rw [ey_20]; exact zaddc (by decide +kernel) (by omega) (by omega)
              refine va_iald hx hb hK hP 1 0 rfl rfl (vp_in_iff.mpr ⟨by omega, by omega⟩) d_8_29_96 ?_
              refine lv_topi (fun z_21 ez_21 => ?_)
              refine lv_bipush (v := 47) hx hb d_8_29_97 (by decide +kernel) ?_
              refine lv_icmp_ne (tgt := 106) hx hb d_8_29_99 (by decide +kernel) (fun c_22 => ?_) (fun c_22 => ?_)
              · skip
                have tc_22 : ¬ z_21.toInt = 47 := fun h9 => c_22 (Int32.toInt_inj.mp h9)
                refine lv_iconst (v := 0) hx hb d_8_29_106 (by decide +kernel) ?_
                have hP9 := hP.sub (ws' := [(h2, .inr (0, [.ref h9, .ref h10, .ref h11, .ref h12, .int tc, .int ta, .int td, .int tf])), (h9, .inl (kI, 3001, .inl f9)), (h10, .inl (kI, 3001, .inl f10)), (h11, .inl (kJ, 3001, .inr (.inl f11))), (h12, .inl (kJ, 27, .inr (.inl f12)))]) [0, 1, 2, 3, 4] rfl
                have hD9 := hD.sub (ws' := [(h2, .inr (0, [.ref h9, .ref h10, .ref h11, .ref h12, .int tc, .int ta, .int td, .int tf])), (h9, .inl (kI, 3001, .inl f9)), (h10, .inl (kI, 3001, .inl f10)), (h11, .inl (kJ, 3001, .inr (.inl f11))), (h12, .inl (kJ, 27, .inr (.inl f12)))]) [0, 1, 2, 3, 4] (by decide) rfl
                exact W.zret (v := 0) (ty := .boolean) hx hb hr (by decide +kernel) (fun t ht hW => ⟨⟨0, (), rfl, trivial, xEnd hK hP9 hD9 ht hW⟩, hS.F ht⟩) hS.2.2 d_8_29_107
              · skip
                have tc_22 : z_21.toInt = 47 := congrArg Int32.toInt c_22
                refine lv_iconst (v := 1) hx hb d_8_29_102 (by decide +kernel) ?_
                refine lv_goto (tgt := 107) hx hb d_8_29_103 (by decide +kernel) ?_
                have hP9 := hP.sub (ws' := [(h2, .inr (0, [.ref h9, .ref h10, .ref h11, .ref h12, .int tc, .int ta, .int td, .int tf])), (h9, .inl (kI, 3001, .inl f9)), (h10, .inl (kI, 3001, .inl f10)), (h11, .inl (kJ, 3001, .inr (.inl f11))), (h12, .inl (kJ, 27, .inr (.inl f12)))]) [0, 1, 2, 3, 4] rfl
                have hD9 := hD.sub (ws' := [(h2, .inr (0, [.ref h9, .ref h10, .ref h11, .ref h12, .int tc, .int ta, .int td, .int tf])), (h9, .inl (kI, 3001, .inl f9)), (h10, .inl (kI, 3001, .inl f10)), (h11, .inl (kJ, 3001, .inr (.inl f11))), (h12, .inl (kJ, 27, .inr (.inl f12)))]) [0, 1, 2, 3, 4] (by decide) rfl
                exact W.zret (v := 1) (ty := .boolean) hx hb hr (by decide +kernel) (fun t ht hW => ⟨⟨1, (), rfl, trivial, xEnd hK hP9 hD9 ht hW⟩, hS.F ht⟩) hS.2.2 d_8_29_107
          · skip
            have tc_17 : z_16.toInt = 37 := congrArg Int32.toInt c_17
            obtain ⟨y_23, ey_23⟩ : ∃ y : Int32, y = v44_1 + (-1) := ⟨_, rfl⟩
            refine lv_iinc (v := y_23) (lv' := [(1, .int y_23), (2, .int v44_2), (0, .ref h2)]) hx hb d_8_29_82 hl (k := 1) rfl (by rw [ey_23]; rfl) (by decide +kernel) rfl (fun ls hl => ?_)
            refine lv_iload_n hx hb d_8_29_85 rfl (lv_at hl 0 rfl) ?_
            refine lv_if_ne (tgt := 108) hx hb d_8_29_86 (by decide +kernel) (fun c_24 => ?_) (fun c_24 => ?_)
            · skip
              have tc_24 : ¬ y_23.toInt = 0 := fun h9 => c_24 (Int32.toInt_inj.mp h9)
              obtain ⟨y_25, ey_25⟩ : ∃ y : Int32, y = v44_2 + 1 := ⟨_, rfl⟩
              have ty_25 : y_25.toInt = v44_2.toInt + 1 := by rw [ey_25]; exact zaddc (by decide +kernel) (by omega) (by omega)
              refine lv_iinc (v := y_25) (lv' := [(2, .int y_25), (1, .int y_23), (0, .ref h2)]) hx hb d_8_29_108 hl (k := 1) rfl (by rw [ey_25]; rfl) (by decide +kernel) rfl (fun ls hl => ?_)
              refine lv_goto (tgt := 44) hx hb d_8_29_111 (by decide +kernel) ?_
              exact ih_11 _ _ _ _ (by omega) ⟨y_25, y_23, (show 0 ≤ y_25.toInt from (by first | assumption | omega)), (show y_25.toInt ≤ 3001 from (by first | assumption | omega)), rfl, hP.sub (ws' := [(h2, .inr (0, [.ref h9, .ref h10, .ref h11, .ref h12, .int tc, .int ta, .int td, .int tf])), (h9, .inl (kI, 3001, .inl f9)), (h10, .inl (kI, 3001, .inl f10)), (h11, .inl (kJ, 3001, .inr (.inl f11))), (h12, .inl (kJ, 27, .inr (.inl f12)))]) [0, 1, 2, 3, 4] rfl, hD.sub (ws' := [(h2, .inr (0, [.ref h9, .ref h10, .ref h11, .ref h12, .int tc, .int ta, .int td, .int tf])), (h9, .inl (kI, 3001, .inl f9)), (h10, .inl (kI, 3001, .inl f10)), (h11, .inl (kJ, 3001, .inr (.inl f11))), (h12, .inl (kJ, 27, .inr (.inl f12)))]) [0, 1, 2, 3, 4] (by decide) rfl, hS, lv_sub hl [0, 1, 2] rfl⟩
            · skip
              have tc_24 : y_23.toInt = 0 := congrArg Int32.toInt c_24
              refine lv_aload_n hx hb d_8_29_89 rfl (lv_at hl 2 rfl) ?_
              refine va_get (D := D) (ci := 0) (v := .ref h9) (C := "AlgolJudge$Tokens") (T := T_Tokens) (N := 8) hx hb hts i_Tokens hown hK hP 0 rfl rfl 0 (by decide +kernel) (hts _ m_210) (fun _ h9 => h9) rfl d_8_29_90 ?_
              refine lv_iload_n hx hb d_8_29_93 rfl (lv_at hl 1 rfl) ?_
              refine lv_iconst (v := 1) hx hb d_8_29_94 (by decide +kernel) ?_
              refine lv_iadd hx hb d_8_29_95 ?_
              refine lv_topi (fun y_26 ey_26 => ?_)
              have ty_26 : y_26.toInt = v44_2.toInt + 1 := by rw [ey_26]; exact zaddc (by decide +kernel) (by omega) (by omega)
              refine va_iald hx hb hK hP 1 0 rfl rfl (vp_in_iff.mpr ⟨by omega, by omega⟩) d_8_29_96 ?_
              refine lv_topi (fun z_27 ez_27 => ?_)
              refine lv_bipush (v := 47) hx hb d_8_29_97 (by decide +kernel) ?_
              refine lv_icmp_ne (tgt := 106) hx hb d_8_29_99 (by decide +kernel) (fun c_28 => ?_) (fun c_28 => ?_)
              · skip
                have tc_28 : ¬ z_27.toInt = 47 := fun h9 => c_28 (Int32.toInt_inj.mp h9)
                refine lv_iconst (v := 0) hx hb d_8_29_106 (by decide +kernel) ?_
                have hP9 := hP.sub (ws' := [(h2, .inr (0, [.ref h9, .ref h10, .ref h11, .ref h12, .int tc, .int ta, .int td, .int tf])), (h9, .inl (kI, 3001, .inl f9)), (h10, .inl (kI, 3001, .inl f10)), (h11, .inl (kJ, 3001, .inr (.inl f11))), (h12, .inl (kJ, 27, .inr (.inl f12)))]) [0, 1, 2, 3, 4] rfl
                have hD9 := hD.sub (ws' := [(h2, .inr (0, [.ref h9, .ref h10, .ref h11, .ref h12, .int tc, .int ta, .int td, .int tf])), (h9, .inl (kI, 3001, .inl f9)), (h10, .inl (kI, 3001, .inl f10)), (h11, .inl (kJ, 3001, .inr (.inl f11))), (h12, .inl (kJ, 27, .inr (.inl f12)))]) [0, 1, 2, 3, 4] (by decide) rfl
                exact W.zret (v := 0) (ty := .boolean) hx hb hr (by decide +kernel) (fun t ht hW => ⟨⟨0, (), rfl, trivial, xEnd hK hP9 hD9 ht hW⟩, hS.F ht⟩) hS.2.2 d_8_29_107
              · skip
                have tc_28 : z_27.toInt = 47 := congrArg Int32.toInt c_28
                refine lv_iconst (v := 1) hx hb d_8_29_102 (by decide +kernel) ?_
                refine lv_goto (tgt := 107) hx hb d_8_29_103 (by decide +kernel) ?_
                have hP9 := hP.sub (ws' := [(h2, .inr (0, [.ref h9, .ref h10, .ref h11, .ref h12, .int tc, .int ta, .int td, .int tf])), (h9, .inl (kI, 3001, .inl f9)), (h10, .inl (kI, 3001, .inl f10)), (h11, .inl (kJ, 3001, .inr (.inl f11))), (h12, .inl (kJ, 27, .inr (.inl f12)))]) [0, 1, 2, 3, 4] rfl
                have hD9 := hD.sub (ws' := [(h2, .inr (0, [.ref h9, .ref h10, .ref h11, .ref h12, .int tc, .int ta, .int td, .int tf])), (h9, .inl (kI, 3001, .inl f9)), (h10, .inl (kI, 3001, .inl f10)), (h11, .inl (kJ, 3001, .inr (.inl f11))), (h12, .inl (kJ, 27, .inr (.inl f12)))]) [0, 1, 2, 3, 4] (by decide) rfl
                exact W.zret (v := 1) (ty := .boolean) hx hb hr (by decide +kernel) (fun t ht hW => ⟨⟨1, (), rfl, trivial, xEnd hK hP9 hD9 ht hW⟩, hS.F ht⟩) hS.2.2 d_8_29_107
        · skip
          have tc_15 : z_14.toInt = 36 := congrArg Int32.toInt c_15
          obtain ⟨y_29, ey_29⟩ : ∃ y : Int32, y = v44_1 + 1 := ⟨_, rfl⟩
          refine lv_iinc (v := y_29) (lv' := [(1, .int y_29), (2, .int v44_2), (0, .ref h2)]) hx hb d_8_29_65 hl (k := 1) rfl (by rw [ey_29]; rfl) (by decide +kernel) rfl (fun ls hl => ?_)
          refine lv_goto (tgt := 85) hx hb d_8_29_68 (by decide +kernel) ?_
          refine lv_iload_n hx hb d_8_29_85 rfl (lv_at hl 0 rfl) ?_
          refine lv_if_ne (tgt := 108) hx hb d_8_29_86 (by decide +kernel) (fun c_30 => ?_) (fun c_30 => ?_)
          · skip
            have tc_30 : ¬ y_29.toInt = 0 := fun h9 => c_30 (Int32.toInt_inj.mp h9)
            obtain ⟨y_31, ey_31⟩ : ∃ y : Int32, y = v44_2 + 1 := ⟨_, rfl⟩
            have ty_31 : y_31.toInt = v44_2.toInt + 1 := by rw [ey_31]; exact zaddc (by decide +kernel) (by omega) (by omega)
            refine lv_iinc (v := y_31) (lv' := [(2, .int y_31), (1, .int y_29), (0, .ref h2)]) hx hb d_8_29_108 hl (k := 1) rfl (by rw [ey_31]; rfl) (by decide +kernel) rfl (fun ls hl => ?_)
            refine lv_goto (tgt := 44) hx hb d_8_29_111 (by decide +kernel) ?_
            exact ih_11 _ _ _ _ (by omega) ⟨y_31, y_29, (show 0 ≤ y_31.toInt from (by first | assumption | omega)), (show y_31.toInt ≤ 3001 from (by first | assumption | omega)), rfl, hP.sub (ws' := [(h2, .inr (0, [.ref h9, .ref h10, .ref h11, .ref h12, .int tc, .int ta, .int td, .int tf])), (h9, .inl (kI, 3001, .inl f9)), (h10, .inl (kI, 3001, .inl f10)), (h11, .inl (kJ, 3001, .inr (.inl f11))), (h12, .inl (kJ, 27, .inr (.inl f12)))]) [0, 1, 2, 3, 4] rfl, hD.sub (ws' := [(h2, .inr (0, [.ref h9, .ref h10, .ref h11, .ref h12, .int tc, .int ta, .int td, .int tf])), (h9, .inl (kI, 3001, .inl f9)), (h10, .inl (kI, 3001, .inl f10)), (h11, .inl (kJ, 3001, .inr (.inl f11))), (h12, .inl (kJ, 27, .inr (.inl f12)))]) [0, 1, 2, 3, 4] (by decide) rfl, hS, lv_sub hl [0, 1, 2] rfl⟩
          · skip
            have tc_30 : y_29.toInt = 0 := congrArg Int32.toInt c_30
            refine lv_aload_n hx hb d_8_29_89 rfl (lv_at hl 2 rfl) ?_
            refine va_get (D := D) (ci := 0) (v := .ref h9) (C := "AlgolJudge$Tokens") (T := T_Tokens) (N := 8) hx hb hts i_Tokens hown hK hP 0 rfl rfl 0 (by decide +kernel) (hts _ m_210) (fun _ h9 => h9) rfl d_8_29_90 ?_
            refine lv_iload_n hx hb d_8_29_93 rfl (lv_at hl 1 rfl) ?_
            refine lv_iconst (v := 1) hx hb d_8_29_94 (by decide +kernel) ?_
            refine lv_iadd hx hb d_8_29_95 ?_
            refine lv_topi (fun y_32 ey_32 => ?_)
            have ty_32 : y_32.toInt = v44_2.toInt + 1 := by rw [ey_32]; exact zaddc (by decide +kernel) (by omega) (by omega)
            refine va_iald hx hb hK hP 1 0 rfl rfl (vp_in_iff.mpr ⟨by omega, by omega⟩) d_8_29_96 ?_
            refine lv_topi (fun z_33 ez_33 => ?_)
            refine lv_bipush (v := 47) hx hb d_8_29_97 (by decide +kernel) ?_
            refine lv_icmp_ne (tgt := 106) hx hb d_8_29_99 (by decide +kernel) (fun c_34 => ?_) (fun c_34 => ?_)
            · skip
              have tc_34 : ¬ z_33.toInt = 47 := fun h9 => c_34 (Int32.toInt_inj.mp h9)
              refine lv_iconst (v := 0) hx hb d_8_29_106 (by decide +kernel) ?_
              have hP9 := hP.sub (ws' := [(h2, .inr (0, [.ref h9, .ref h10, .ref h11, .ref h12, .int tc, .int ta, .int td, .int tf])), (h9, .inl (kI, 3001, .inl f9)), (h10, .inl (kI, 3001, .inl f10)), (h11, .inl (kJ, 3001, .inr (.inl f11))), (h12, .inl (kJ, 27, .inr (.inl f12)))]) [0, 1, 2, 3, 4] rfl
              have hD9 := hD.sub (ws' := [(h2, .inr (0, [.ref h9, .ref h10, .ref h11, .ref h12, .int tc, .int ta, .int td, .int tf])), (h9, .inl (kI, 3001, .inl f9)), (h10, .inl (kI, 3001, .inl f10)), (h11, .inl (kJ, 3001, .inr (.inl f11))), (h12, .inl (kJ, 27, .inr (.inl f12)))]) [0, 1, 2, 3, 4] (by decide) rfl
              exact W.zret (v := 0) (ty := .boolean) hx hb hr (by decide +kernel) (fun t ht hW => ⟨⟨0, (), rfl, trivial, xEnd hK hP9 hD9 ht hW⟩, hS.F ht⟩) hS.2.2 d_8_29_107
            · skip
              have tc_34 : z_33.toInt = 47 := congrArg Int32.toInt c_34
              refine lv_iconst (v := 1) hx hb d_8_29_102 (by decide +kernel) ?_
              refine lv_goto (tgt := 107) hx hb d_8_29_103 (by decide +kernel) ?_
              have hP9 := hP.sub (ws' := [(h2, .inr (0, [.ref h9, .ref h10, .ref h11, .ref h12, .int tc, .int ta, .int td, .int tf])), (h9, .inl (kI, 3001, .inl f9)), (h10, .inl (kI, 3001, .inl f10)), (h11, .inl (kJ, 3001, .inr (.inl f11))), (h12, .inl (kJ, 27, .inr (.inl f12)))]) [0, 1, 2, 3, 4] rfl
              have hD9 := hD.sub (ws' := [(h2, .inr (0, [.ref h9, .ref h10, .ref h11, .ref h12, .int tc, .int ta, .int td, .int tf])), (h9, .inl (kI, 3001, .inl f9)), (h10, .inl (kI, 3001, .inl f10)), (h11, .inl (kJ, 3001, .inr (.inl f11))), (h12, .inl (kJ, 27, .inr (.inl f12)))]) [0, 1, 2, 3, 4] (by decide) rfl
              exact W.zret (v := 1) (ty := .boolean) hx hb hr (by decide +kernel) (fun t ht hW => ⟨⟨1, (), rfl, trivial, xEnd hK hP9 hD9 ht hW⟩, hS.F ht⟩) hS.2.2 d_8_29_107
    · skip
      have tc_6 : ¬ r_4.toInt = 36 := fun h9 => c_6 (Int32.toInt_inj.mp h9)
      refine lv_aload_n hx hb d_8_29_20 rfl (lv_at hl 0 rfl) ?_
      have hPc := hP.sub (ws' := [(h2, .inr (0, [.ref h9, .ref h10, .ref h11, .ref h12, .int tc, .int ta, .int td, .int tf])), (h9, .inl (kI, 3001, .inl f9)), (h10, .inl (kI, 3001, .inl f10)), (h11, .inl (kJ, 3001, .inr (.inl f11))), (h12, .inl (kJ, 27, .inr (.inl f12)))]) [0, 1, 2, 3, 4] rfl
      have hDc := hD.sub (ws' := [(h2, .inr (0, [.ref h9, .ref h10, .ref h11, .ref h12, .int tc, .int ta, .int td, .int tf])), (h9, .inl (kI, 3001, .inl f9)), (h10, .inl (kI, 3001, .inl f10)), (h11, .inl (kJ, 3001, .inr (.inl f11))), (h12, .inl (kJ, 27, .inr (.inl f12)))]) [0, 1, 2, 3, 4] (by decide) rfl
      have hFc := va_free (wc := [(h2, .inr (0, [.ref h9, .ref h10, .ref h11, .ref h12, .int tc, .int ta, .int td, .int tf])), (h9, .inl (kI, 3001, .inl f9)), (h10, .inl (kI, 3001, .inl f10)), (h11, .inl (kJ, 3001, .inr (.inl f11))), (h12, .inl (kJ, 27, .inr (.inl f12)))]) hD hS hA [0, 1, 2, 3, 4] rfl
      refine va_calli (va_runV (As := []) (rest := []) ⟨hx, hb, hml, hown, hts⟩ (g_Tokens_next l D kI kJ kB kZ _ (h2) (h9) (h10) (h11) (h12) (tc) (ta) (td) (tf) (f9) (f10) (f11) (f12) hf_T1 hf_T2 hf_T3 hf_T4 hf_T5 hf_T6) (cwV 0 hts (gT_V m_812 m_800 m_801 m_121 (gT_ws m_802)) rfl rfl rfl (by decide +kernel) ⟨(Nat.le_of_ble_eq_true rfl), (Nat.le_of_ble_eq_true rfl)⟩) ⟨xBlind xOk_N, va_recv hK hP (ci := 0) (q0 := 0) rfl rfl, xAtN hK hPc hDc⟩ rfl rfl hl.1 rfl (lv_room (Nat.le_of_ble_eq_true rfl)) d_8_29_21 ⟨(Nat.le_of_ble_eq_true rfl), (Nat.le_of_ble_eq_true rfl)⟩) hS (fun q _ h => hFc q h) hFc (fun r_35 u t H locs ht hvm hw_36 hB hz1 hk1 hS => ?_)
      clear hz1
      have hPD := xJoin (wr := []) (w1 := [(h2, .inr (0, [.ref h9, .ref h10, .ref h11, .ref h12, .int tc, .int ta, .int td, .int tf])), (h9, .inl (kI, 3001, .inl f9)), (h10, .inl (kI, 3001, .inl f10)), (h11, .inl (kJ, 3001, .inr (.inl f11))), (h12, .inl (kJ, 27, .inr (.inl f12)))]) hP hD [0, 1, 2, 3, 4] [] rfl rfl (by decide) (by decide) hk1 hFc ht hB
      replace hP : va_P D cls9 [(h2, .inr (0, [.ref h9, .ref h10, .ref h11, .ref h12, .int tc, .int ta, .int td, .int tf])), (h9, .inl (kI, 3001, .inl f9)), (h10, .inl (kI, 3001, .inl f10)), (h11, .inl (kJ, 3001, .inr (.inl f11))), (h12, .inl (kJ, 27, .inr (.inl f12)))] H := hPD.1
      replace hD : va_D A [(h2, .inr (0, [.ref h9, .ref h10, .ref h11, .ref h12, .int tc, .int ta, .int td, .int tf])), (h9, .inl (kI, 3001, .inl f9)), (h10, .inl (kI, 3001, .inl f10)), (h11, .inl (kJ, 3001, .inr (.inl f11))), (h12, .inl (kJ, 27, .inr (.inl f12)))] := hPD.2
      clear hPD hB hk1 hPc hDc hFc
      refine lv_bipush (v := 47) hx hb d_8_29_24 (by decide +kernel) ?_
      refine lv_icmp_ne (tgt := 33) hx hb d_8_29_26 (by decide +kernel) (fun c_37 => ?_) (fun c_37 => ?_)
      · skip
        have tc_37 : ¬ r_35.toInt = 47 := fun h9 => c_37 (Int32.toInt_inj.mp h9)
        refine lv_iconst (v := 0) hx hb d_8_29_33 (by decide +kernel) ?_
        have hP9 := hP.sub (ws' := [(h2, .inr (0, [.ref h9, .ref h10, .ref h11, .ref h12, .int tc, .int ta, .int td, .int tf])), (h9, .inl (kI, 3001, .inl f9)), (h10, .inl (kI, 3001, .inl f10)), (h11, .inl (kJ, 3001, .inr (.inl f11))), (h12, .inl (kJ, 27, .inr (.inl f12)))]) [0, 1, 2, 3, 4] rfl
        have hD9 := hD.sub (ws' := [(h2, .inr (0, [.ref h9, .ref h10, .ref h11, .ref h12, .int tc, .int ta, .int td, .int tf])), (h9, .inl (kI, 3001, .inl f9)), (h10, .inl (kI, 3001, .inl f10)), (h11, .inl (kJ, 3001, .inr (.inl f11))), (h12, .inl (kJ, 27, .inr (.inl f12)))]) [0, 1, 2, 3, 4] (by decide) rfl
        exact W.zret (v := 0) (ty := .boolean) hx hb hr (by decide +kernel) (fun t ht hW => ⟨⟨0, (), rfl, trivial, xEnd hK hP9 hD9 ht hW⟩, hS.F ht⟩) hS.2.2 d_8_29_34
      · skip
        have tc_37 : r_35.toInt = 47 := congrArg Int32.toInt c_37
        refine lv_iconst (v := 1) hx hb d_8_29_29 (by decide +kernel) ?_
        refine lv_goto (tgt := 34) hx hb d_8_29_30 (by decide +kernel) ?_
        have hP9 := hP.sub (ws' := [(h2, .inr (0, [.ref h9, .ref h10, .ref h11, .ref h12, .int tc, .int ta, .int td, .int tf])), (h9, .inl (kI, 3001, .inl f9)), (h10, .inl (kI, 3001, .inl f10)), (h11, .inl (kJ, 3001, .inr (.inl f11))), (h12, .inl (kJ, 27, .inr (.inl f12)))]) [0, 1, 2, 3, 4] rfl
        have hD9 := hD.sub (ws' := [(h2, .inr (0, [.ref h9, .ref h10, .ref h11, .ref h12, .int tc, .int ta, .int td, .int tf])), (h9, .inl (kI, 3001, .inl f9)), (h10, .inl (kI, 3001, .inl f10)), (h11, .inl (kJ, 3001, .inr (.inl f11))), (h12, .inl (kJ, 27, .inr (.inl f12)))]) [0, 1, 2, 3, 4] (by decide) rfl
        exact W.zret (v := 1) (ty := .boolean) hx hb hr (by decide +kernel) (fun t ht hW => ⟨⟨1, (), rfl, trivial, xEnd hK hP9 hD9 ht hW⟩, hS.F ht⟩) hS.2.2 d_8_29_34
  · skip
    have tc_3 : r_1.toInt = 0 := congrArg Int32.toInt c_3
    refine lv_iconst (v := 0) hx hb d_8_29_9 (by decide +kernel) ?_
    have hP9 := hP.sub (ws' := [(h2, .inr (0, [.ref h9, .ref h10, .ref h11, .ref h12, .int tc, .int ta, .int td, .int tf])), (h9, .inl (kI, 3001, .inl f9)), (h10, .inl (kI, 3001, .inl f10)), (h11, .inl (kJ, 3001, .inr (.inl f11))), (h12, .inl (kJ, 27, .inr (.inl f12)))]) [0, 1, 2, 3, 4] rfl
    have hD9 := hD.sub (ws' := [(h2, .inr (0, [.ref h9, .ref h10, .ref h11, .ref h12, .int tc, .int ta, .int td, .int tf])), (h9, .inl (kI, 3001, .inl f9)), (h10, .inl (kI, 3001, .inl f10)), (h11, .inl (kJ, 3001, .inr (.inl f11))), (h12, .inl (kJ, 27, .inr (.inl f12)))]) [0, 1, 2, 3, 4] (by decide) rfl
    exact W.zret (v := 0) (ty := .boolean) hx hb hr (by decide +kernel) (fun t ht hW => ⟨⟨0, (), rfl, trivial, xEnd hK hP9 hD9 ht hW⟩, hS.F ht⟩) hS.2.2 d_8_29_10
set_option maxHeartbeats 8000000 in
set_option maxRecDepth 100000 in
theorem g_Table_clear (l : Launch) (D : va_G) (kI kJ kB kZ : ClassId) (sz : Nat) (h3 : Nat) (h13 : Nat) (h14 : Nat) (h15 : Nat) (h16 : Nat) (h17 : Nat) (h18 : Nat) (h19 : Nat) (h20 : Nat) (h21 : Nat) (h22 : Nat) (bn : Int32) (f13 : Nat → Int64) (f14 : Nat → Int32) (f15 : Nat → Int32) (f16 : Nat → Int32) (f17 : Nat → Int32) (f18 : Nat → Int32) (f19 : Nat → Int32) (f20 : Nat → Int32) (f21 : Nat → Int32) (f22 : Nat → Int32) (hf_B1 : 0 ≤ bn.toInt) (hf_B2 : bn.toInt ≤ 1501) : Met l (⟨"AlgolJudge$Table", "clear", "()V"⟩ : MethodName) (Cond.code (⟨"AlgolJudge$Table", "clear", "()V"⟩ : MethodName) prog_7_method_2_code 1 (none) :: gT) ({ frames := 0, cells := 0, slots := 0, locals := 0 }) (va_Pc [.ref h3] (xP D (xT kI kJ kB kZ) xN [(h3, .inr (1, [.ref h13, .ref h14, .ref h15, .ref h16, .ref h17, .ref h18, .ref h19, .ref h20, .ref h21, .ref h22, .int bn])), (h13, .inl (kJ, 1501, .inr (.inl f13))), (h14, .inl (kI, 1501, .inl f14)), (h15, .inl (kI, 1501, .inl f15)), (h16, .inl (kI, 1501, .inl f16)), (h17, .inl (kI, 1501, .inl f17)), (h18, .inl (kI, 1501, .inl f18)), (h19, .inl (kI, 1501, .inl f19)), (h20, .inl (kI, 1501, .inl f20)), (h21, .inl (kI, 1501, .inl f21)), (h22, .inl (kZ, 1501, .inl f22))] sz)) (va_Qv (fun _ : Unit => True) (fun _ t => (0 ≤ (0 : Int)) ∧ ((0 : Int) ≤ 1501) ∧ xQ D (xT kI kJ kB kZ) (va_A [(h3, .inr (1, [.ref h13, .ref h14, .ref h15, .ref h16, .ref h17, .ref h18, .ref h19, .ref h20, .ref h21, .ref h22, .int bn])), (h13, .inl (kJ, 1501, .inr (.inl f13))), (h14, .inl (kI, 1501, .inl f14)), (h15, .inl (kI, 1501, .inl f15)), (h16, .inl (kI, 1501, .inl f16)), (h17, .inl (kI, 1501, .inl f17)), (h18, .inl (kI, 1501, .inl f18)), (h19, .inl (kI, 1501, .inl f19)), (h20, .inl (kI, 1501, .inl f20)), (h21, .inl (kI, 1501, .inl f21)), (h22, .inl (kZ, 1501, .inl f22))] sz) [(h3, .inr (1, [.ref h13, .ref h14, .ref h15, .ref h16, .ref h17, .ref h18, .ref h19, .ref h20, .ref h21, .ref h22, .int 0])), (h13, .inl (kJ, 1501, .inr (.inl f13))), (h14, .inl (kI, 1501, .inl f14)), (h15, .inl (kI, 1501, .inl f15)), (h16, .inl (kI, 1501, .inl f16)), (h17, .inl (kI, 1501, .inl f17)), (h18, .inl (kI, 1501, .inl f18)), (h19, .inl (kI, 1501, .inl f19)), (h20, .inl (kI, 1501, .inl f20)), (h21, .inl (kI, 1501, .inl f21)), (h22, .inl (kZ, 1501, .inl f22))] t) (va_A [(h3, .inr (1, [.ref h13, .ref h14, .ref h15, .ref h16, .ref h17, .ref h18, .ref h19, .ref h20, .ref h21, .ref h22, .int bn])), (h13, .inl (kJ, 1501, .inr (.inl f13))), (h14, .inl (kI, 1501, .inl f14)), (h15, .inl (kI, 1501, .inl f15)), (h16, .inl (kI, 1501, .inl f16)), (h17, .inl (kI, 1501, .inl f17)), (h18, .inl (kI, 1501, .inl f18)), (h19, .inl (kI, 1501, .inl f19)), (h20, .inl (kI, 1501, .inl f20)), (h21, .inl (kI, 1501, .inl f21)), (h22, .inl (kZ, 1501, .inl f22))] sz)) 0 0 (va_A [(h3, .inr (1, [.ref h13, .ref h14, .ref h15, .ref h16, .ref h17, .ref h18, .ref h19, .ref h20, .ref h21, .ref h22, .int bn])), (h13, .inl (kJ, 1501, .inr (.inl f13))), (h14, .inl (kI, 1501, .inl f14)), (h15, .inl (kI, 1501, .inl f15)), (h16, .inl (kI, 1501, .inl f16)), (h17, .inl (kI, 1501, .inl f17)), (h18, .inl (kI, 1501, .inl f18)), (h19, .inl (kI, 1501, .inl f19)), (h20, .inl (kI, 1501, .inl f20)), (h21, .inl (kI, 1501, .inl f21)), (h22, .inl (kZ, 1501, .inl f22))] sz) := by
  refine Met.ofW (cc := prog_7_method_2_code) (maxL := 1) (ret := none) (by decide +kernel) rfl ?_
  intro p e s m args below meth c s₁ B hml hv
  obtain ⟨rfl, hsz, hP, hK, hD0, hE⟩ := hv
  have hx := B.exec
  have hb := B.bytes
  have hr := B.returns
  have hts : ∀ w ∈ gT, w.before _ s = true := fun w h => atoms_spec (ws := Cond.code (⟨"AlgolJudge$Table", "clear", "()V"⟩ : MethodName) prog_7_method_2_code 1 (none) :: gT) B.pre w (List.mem_cons_of_mem _ h)
  have hown : s.vm.findClass "AlgolJudge$Table" = some m.cls := findClass_of_methodNamed B.named
  have hlocks := B.notSynchronized
  subst hsz
  have hD := hD0.self (sz := s.heap.size)
  generalize hAe : va_A [(h3, .inr (1, [.ref h13, .ref h14, .ref h15, .ref h16, .ref h17, .ref h18, .ref h19, .ref h20, .ref h21, .ref h22, .int bn])), (h13, .inl (kJ, 1501, .inr (.inl f13))), (h14, .inl (kI, 1501, .inl f14)), (h15, .inl (kI, 1501, .inl f15)), (h16, .inl (kI, 1501, .inl f16)), (h17, .inl (kI, 1501, .inl f17)), (h18, .inl (kI, 1501, .inl f18)), (h19, .inl (kI, 1501, .inl f19)), (h20, .inl (kI, 1501, .inl f20)), (h21, .inl (kI, 1501, .inl f21)), (h22, .inl (kZ, 1501, .inl f22))] s.heap.size = A at hD hE ⊢
  have hA : ∀ q : Nat, s.heap.size ≤ q → A q := fun q h => by rw [← hAe]; exact Or.inr h
  have hS : va_S A s.heap s.heap [] := va_S.rf
  have hP : va_P D cls9 [(h3, .inr (1, [.ref h13, .ref h14, .ref h15, .ref h16, .ref h17, .ref h18, .ref h19, .ref h20, .ref h21, .ref h22, .int bn])), (h13, .inl (kJ, 1501, .inr (.inl f13))), (h14, .inl (kI, 1501, .inl f14)), (h15, .inl (kI, 1501, .inl f15)), (h16, .inl (kI, 1501, .inl f16)), (h17, .inl (kI, 1501, .inl f17)), (h18, .inl (kI, 1501, .inl f18)), (h19, .inl (kI, 1501, .inl f19)), (h20, .inl (kI, 1501, .inl f20)), (h21, .inl (kI, 1501, .inl f21)), (h22, .inl (kZ, 1501, .inl f22))] s.heap := hP
  have hl := lv_entry ([.ref h3]) (n := 1) (Nat.le_of_ble_eq_true rfl)
  rw [lg_entry_eq]
  generalize (lg_sl ([.ref h3]) ++ List.replicate (1 - (lg_sl ([.ref h3])).length) Slot.unset).toArray = ls at hl ⊢
  have hl : lv_has ls 1 [(0, .ref h3)] := hl
  refine lv_aload_n hx hb d_7_2_0 rfl (lv_at hl 0 rfl) ?_
  refine lv_iconst (v := 0) hx hb d_7_2_1 (by decide +kernel) ?_
  refine va_put (D := D) (ci := 1) (v := .int 0) (ty := .int) (C := "AlgolJudge$Table") (T := T_Table) (N := 11) hx hb hts i_Table t_Table t_Table_ok n_Table hown hK hP hD hS 0 rfl rfl 10 (by decide +kernel) (hts _ m_254) (fun _ h9 => h9) rfl (by decide +kernel) rfl rfl (Nat.le_of_ble_eq_true rfl) d_7_2_2 (fun H locs hP1 hD1 hS1 => ?_)
  replace hP : va_P D cls9 [(h3, .inr (1, [.ref h13, .ref h14, .ref h15, .ref h16, .ref h17, .ref h18, .ref h19, .ref h20, .ref h21, .ref h22, .int 0])), (h13, .inl (kJ, 1501, .inr (.inl f13))), (h14, .inl (kI, 1501, .inl f14)), (h15, .inl (kI, 1501, .inl f15)), (h16, .inl (kI, 1501, .inl f16)), (h17, .inl (kI, 1501, .inl f17)), (h18, .inl (kI, 1501, .inl f18)), (h19, .inl (kI, 1501, .inl f19)), (h20, .inl (kI, 1501, .inl f20)), (h21, .inl (kI, 1501, .inl f21)), (h22, .inl (kZ, 1501, .inl f22))] H := hP1
  replace hD : va_D A [(h3, .inr (1, [.ref h13, .ref h14, .ref h15, .ref h16, .ref h17, .ref h18, .ref h19, .ref h20, .ref h21, .ref h22, .int 0])), (h13, .inl (kJ, 1501, .inr (.inl f13))), (h14, .inl (kI, 1501, .inl f14)), (h15, .inl (kI, 1501, .inl f15)), (h16, .inl (kI, 1501, .inl f16)), (h17, .inl (kI, 1501, .inl f17)), (h18, .inl (kI, 1501, .inl f18)), (h19, .inl (kI, 1501, .inl f19)), (h20, .inl (kI, 1501, .inl f20)), (h21, .inl (kI, 1501, .inl f21)), (h22, .inl (kZ, 1501, .inl f22))] := hD1
  replace hS := hS1
  clear hP1 hD1 hS1
  have hP9 := hP.sub (ws' := [(h3, .inr (1, [.ref h13, .ref h14, .ref h15, .ref h16, .ref h17, .ref h18, .ref h19, .ref h20, .ref h21, .ref h22, .int 0])), (h13, .inl (kJ, 1501, .inr (.inl f13))), (h14, .inl (kI, 1501, .inl f14)), (h15, .inl (kI, 1501, .inl f15)), (h16, .inl (kI, 1501, .inl f16)), (h17, .inl (kI, 1501, .inl f17)), (h18, .inl (kI, 1501, .inl f18)), (h19, .inl (kI, 1501, .inl f19)), (h20, .inl (kI, 1501, .inl f20)), (h21, .inl (kI, 1501, .inl f21)), (h22, .inl (kZ, 1501, .inl f22))]) [0, 1, 2, 3, 4, 5, 6, 7, 8, 9, 10] rfl
  have hD9 := hD.sub (ws' := [(h3, .inr (1, [.ref h13, .ref h14, .ref h15, .ref h16, .ref h17, .ref h18, .ref h19, .ref h20, .ref h21, .ref h22, .int 0])), (h13, .inl (kJ, 1501, .inr (.inl f13))), (h14, .inl (kI, 1501, .inl f14)), (h15, .inl (kI, 1501, .inl f15)), (h16, .inl (kI, 1501, .inl f16)), (h17, .inl (kI, 1501, .inl f17)), (h18, .inl (kI, 1501, .inl f18)), (h19, .inl (kI, 1501, .inl f19)), (h20, .inl (kI, 1501, .inl f20)), (h21, .inl (kI, 1501, .inl f21)), (h22, .inl (kZ, 1501, .inl f22))]) [0, 1, 2, 3, 4, 5, 6, 7, 8, 9, 10] (by decide) rfl
  have hz_0 : 0 ≤ (0 : Int) := (by first | assumption | omega)
  have hz_1 : (0 : Int) ≤ 1501 := (by first | assumption | omega)
  exact W.vret hx hb hr (fun t ht hW => ⟨⟨(), rfl, trivial, hz_0, hz_1, xEnd hK hP9 hD9 ht hW⟩, hS.F ht⟩) hS.2.2 d_7_2_5
set_option maxHeartbeats 8000000 in
set_option maxRecDepth 100000 in
theorem g_Table_size (l : Launch) (D : va_G) (kI kJ kB kZ : ClassId) (sz : Nat) (h3 : Nat) (h13 : Nat) (h14 : Nat) (h15 : Nat) (h16 : Nat) (h17 : Nat) (h18 : Nat) (h19 : Nat) (h20 : Nat) (h21 : Nat) (h22 : Nat) (bn : Int32) (f13 : Nat → Int64) (f14 : Nat → Int32) (f15 : Nat → Int32) (f16 : Nat → Int32) (f17 : Nat → Int32) (f18 : Nat → Int32) (f19 : Nat → Int32) (f20 : Nat → Int32) (f21 : Nat → Int32) (f22 : Nat → Int32) (hf_B1 : 0 ≤ bn.toInt) (hf_B2 : bn.toInt ≤ 1501) : Met l (⟨"AlgolJudge$Table", "size", "()I"⟩ : MethodName) (Cond.code (⟨"AlgolJudge$Table", "size", "()I"⟩ : MethodName) prog_7_method_3_code 1 (some .int) :: gT) ({ frames := 0, cells := 0, slots := 0, locals := 0 }) (va_Pc [.ref h3] (xP D (xT kI kJ kB kZ) xN [(h3, .inr (1, [.ref h13, .ref h14, .ref h15, .ref h16, .ref h17, .ref h18, .ref h19, .ref h20, .ref h21, .ref h22, .int bn])), (h13, .inl (kJ, 1501, .inr (.inl f13))), (h14, .inl (kI, 1501, .inl f14)), (h15, .inl (kI, 1501, .inl f15)), (h16, .inl (kI, 1501, .inl f16)), (h17, .inl (kI, 1501, .inl f17)), (h18, .inl (kI, 1501, .inl f18)), (h19, .inl (kI, 1501, .inl f19)), (h20, .inl (kI, 1501, .inl f20)), (h21, .inl (kI, 1501, .inl f21)), (h22, .inl (kZ, 1501, .inl f22))] sz)) (va_Qi (fun (r : Int32) (_ : Unit) => r = bn) (fun _ t => xQ D (xT kI kJ kB kZ) (va_A [(h3, .inr (1, [.ref h13, .ref h14, .ref h15, .ref h16, .ref h17, .ref h18, .ref h19, .ref h20, .ref h21, .ref h22, .int bn])), (h13, .inl (kJ, 1501, .inr (.inl f13))), (h14, .inl (kI, 1501, .inl f14)), (h15, .inl (kI, 1501, .inl f15)), (h16, .inl (kI, 1501, .inl f16)), (h17, .inl (kI, 1501, .inl f17)), (h18, .inl (kI, 1501, .inl f18)), (h19, .inl (kI, 1501, .inl f19)), (h20, .inl (kI, 1501, .inl f20)), (h21, .inl (kI, 1501, .inl f21)), (h22, .inl (kZ, 1501, .inl f22))] sz) [(h3, .inr (1, [.ref h13, .ref h14, .ref h15, .ref h16, .ref h17, .ref h18, .ref h19, .ref h20, .ref h21, .ref h22, .int bn])), (h13, .inl (kJ, 1501, .inr (.inl f13))), (h14, .inl (kI, 1501, .inl f14)), (h15, .inl (kI, 1501, .inl f15)), (h16, .inl (kI, 1501, .inl f16)), (h17, .inl (kI, 1501, .inl f17)), (h18, .inl (kI, 1501, .inl f18)), (h19, .inl (kI, 1501, .inl f19)), (h20, .inl (kI, 1501, .inl f20)), (h21, .inl (kI, 1501, .inl f21)), (h22, .inl (kZ, 1501, .inl f22))] t) (va_A [(h3, .inr (1, [.ref h13, .ref h14, .ref h15, .ref h16, .ref h17, .ref h18, .ref h19, .ref h20, .ref h21, .ref h22, .int bn])), (h13, .inl (kJ, 1501, .inr (.inl f13))), (h14, .inl (kI, 1501, .inl f14)), (h15, .inl (kI, 1501, .inl f15)), (h16, .inl (kI, 1501, .inl f16)), (h17, .inl (kI, 1501, .inl f17)), (h18, .inl (kI, 1501, .inl f18)), (h19, .inl (kI, 1501, .inl f19)), (h20, .inl (kI, 1501, .inl f20)), (h21, .inl (kI, 1501, .inl f21)), (h22, .inl (kZ, 1501, .inl f22))] sz)) 0 0 (va_A [(h3, .inr (1, [.ref h13, .ref h14, .ref h15, .ref h16, .ref h17, .ref h18, .ref h19, .ref h20, .ref h21, .ref h22, .int bn])), (h13, .inl (kJ, 1501, .inr (.inl f13))), (h14, .inl (kI, 1501, .inl f14)), (h15, .inl (kI, 1501, .inl f15)), (h16, .inl (kI, 1501, .inl f16)), (h17, .inl (kI, 1501, .inl f17)), (h18, .inl (kI, 1501, .inl f18)), (h19, .inl (kI, 1501, .inl f19)), (h20, .inl (kI, 1501, .inl f20)), (h21, .inl (kI, 1501, .inl f21)), (h22, .inl (kZ, 1501, .inl f22))] sz) := by
  refine Met.ofW (cc := prog_7_method_3_code) (maxL := 1) (ret := some .int) (by decide +kernel) rfl ?_
  intro p e s m args below meth c s₁ B hml hv
  obtain ⟨rfl, hsz, hP, hK, hD0, hE⟩ := hv
  have hx := B.exec
  have hb := B.bytes
  have hr := B.returns
  have hts : ∀ w ∈ gT, w.before _ s = true := fun w h => atoms_spec (ws := Cond.code (⟨"AlgolJudge$Table", "size", "()I"⟩ : MethodName) prog_7_method_3_code 1 (some .int) :: gT) B.pre w (List.mem_cons_of_mem _ h)
  have hown : s.vm.findClass "AlgolJudge$Table" = some m.cls := findClass_of_methodNamed B.named
  have hlocks := B.notSynchronized
  subst hsz
  have hD := hD0.self (sz := s.heap.size)
  generalize hAe : va_A [(h3, .inr (1, [.ref h13, .ref h14, .ref h15, .ref h16, .ref h17, .ref h18, .ref h19, .ref h20, .ref h21, .ref h22, .int bn])), (h13, .inl (kJ, 1501, .inr (.inl f13))), (h14, .inl (kI, 1501, .inl f14)), (h15, .inl (kI, 1501, .inl f15)), (h16, .inl (kI, 1501, .inl f16)), (h17, .inl (kI, 1501, .inl f17)), (h18, .inl (kI, 1501, .inl f18)), (h19, .inl (kI, 1501, .inl f19)), (h20, .inl (kI, 1501, .inl f20)), (h21, .inl (kI, 1501, .inl f21)), (h22, .inl (kZ, 1501, .inl f22))] s.heap.size = A at hD hE ⊢
  have hA : ∀ q : Nat, s.heap.size ≤ q → A q := fun q h => by rw [← hAe]; exact Or.inr h
  have hS : va_S A s.heap s.heap [] := va_S.rf
  have hP : va_P D cls9 [(h3, .inr (1, [.ref h13, .ref h14, .ref h15, .ref h16, .ref h17, .ref h18, .ref h19, .ref h20, .ref h21, .ref h22, .int bn])), (h13, .inl (kJ, 1501, .inr (.inl f13))), (h14, .inl (kI, 1501, .inl f14)), (h15, .inl (kI, 1501, .inl f15)), (h16, .inl (kI, 1501, .inl f16)), (h17, .inl (kI, 1501, .inl f17)), (h18, .inl (kI, 1501, .inl f18)), (h19, .inl (kI, 1501, .inl f19)), (h20, .inl (kI, 1501, .inl f20)), (h21, .inl (kI, 1501, .inl f21)), (h22, .inl (kZ, 1501, .inl f22))] s.heap := hP
  have hl := lv_entry ([.ref h3]) (n := 1) (Nat.le_of_ble_eq_true rfl)
  rw [lg_entry_eq]
  generalize (lg_sl ([.ref h3]) ++ List.replicate (1 - (lg_sl ([.ref h3])).length) Slot.unset).toArray = ls at hl ⊢
  have hl : lv_has ls 1 [(0, .ref h3)] := hl
  refine lv_aload_n hx hb d_7_3_0 rfl (lv_at hl 0 rfl) ?_
  refine va_get (D := D) (ci := 1) (v := .int bn) (C := "AlgolJudge$Table") (T := T_Table) (N := 11) hx hb hts i_Table hown hK hP 0 rfl rfl 10 (by decide +kernel) (hts _ m_254) (fun _ h9 => h9) rfl d_7_3_1 ?_
  have hP9 := hP.sub (ws' := [(h3, .inr (1, [.ref h13, .ref h14, .ref h15, .ref h16, .ref h17, .ref h18, .ref h19, .ref h20, .ref h21, .ref h22, .int bn])), (h13, .inl (kJ, 1501, .inr (.inl f13))), (h14, .inl (kI, 1501, .inl f14)), (h15, .inl (kI, 1501, .inl f15)), (h16, .inl (kI, 1501, .inl f16)), (h17, .inl (kI, 1501, .inl f17)), (h18, .inl (kI, 1501, .inl f18)), (h19, .inl (kI, 1501, .inl f19)), (h20, .inl (kI, 1501, .inl f20)), (h21, .inl (kI, 1501, .inl f21)), (h22, .inl (kZ, 1501, .inl f22))]) [0, 1, 2, 3, 4, 5, 6, 7, 8, 9, 10] rfl
  have hD9 := hD.sub (ws' := [(h3, .inr (1, [.ref h13, .ref h14, .ref h15, .ref h16, .ref h17, .ref h18, .ref h19, .ref h20, .ref h21, .ref h22, .int bn])), (h13, .inl (kJ, 1501, .inr (.inl f13))), (h14, .inl (kI, 1501, .inl f14)), (h15, .inl (kI, 1501, .inl f15)), (h16, .inl (kI, 1501, .inl f16)), (h17, .inl (kI, 1501, .inl f17)), (h18, .inl (kI, 1501, .inl f18)), (h19, .inl (kI, 1501, .inl f19)), (h20, .inl (kI, 1501, .inl f20)), (h21, .inl (kI, 1501, .inl f21)), (h22, .inl (kZ, 1501, .inl f22))]) [0, 1, 2, 3, 4, 5, 6, 7, 8, 9, 10] (by decide) rfl
  exact W.iret (v := bn) hx hb hr (fun t ht hW => ⟨⟨bn, (), rfl, rfl, xEnd hK hP9 hD9 ht hW⟩, hS.F ht⟩) hS.2.2 d_7_3_4
set_option maxHeartbeats 8000000 in
set_option maxRecDepth 100000 in
theorem g_Table_setCount (l : Launch) (D : va_G) (kI kJ kB kZ : ClassId) (sz : Nat) (h3 : Nat) (h13 : Nat) (h14 : Nat) (h15 : Nat) (h16 : Nat) (h17 : Nat) (h18 : Nat) (h19 : Nat) (h20 : Nat) (h21 : Nat) (h22 : Nat) (bn : Int32) (f13 : Nat → Int64) (f14 : Nat → Int32) (f15 : Nat → Int32) (f16 : Nat → Int32) (f17 : Nat → Int32) (f18 : Nat → Int32) (f19 : Nat → Int32) (f20 : Nat → Int32) (f21 : Nat → Int32) (f22 : Nat → Int32) (p1 : Int32) (p2 : Int32) (hf_B1 : 0 ≤ bn.toInt) (hf_B2 : bn.toInt ≤ 1501) : Met l (⟨"AlgolJudge$Table", "setCount", "(II)V"⟩ : MethodName) (Cond.code (⟨"AlgolJudge$Table", "setCount", "(II)V"⟩ : MethodName) prog_7_method_6_code 3 (none) :: gT) ({ frames := 0, cells := 0, slots := 0, locals := 0 }) (va_Pc [.ref h3, .int p1, .int p2] (xP D (xT kI kJ kB kZ) xN [(h3, .inr (1, [.ref h13, .ref h14, .ref h15, .ref h16, .ref h17, .ref h18, .ref h19, .ref h20, .ref h21, .ref h22, .int bn])), (h13, .inl (kJ, 1501, .inr (.inl f13))), (h14, .inl (kI, 1501, .inl f14)), (h15, .inl (kI, 1501, .inl f15)), (h16, .inl (kI, 1501, .inl f16)), (h17, .inl (kI, 1501, .inl f17)), (h18, .inl (kI, 1501, .inl f18)), (h19, .inl (kI, 1501, .inl f19)), (h20, .inl (kI, 1501, .inl f20)), (h21, .inl (kI, 1501, .inl f21)), (h22, .inl (kZ, 1501, .inl f22))] sz)) (va_Qv (fun _ : Unit => True) (fun _ t => ∃ f16' : Nat → Int32, xQ D (xT kI kJ kB kZ) (va_A [(h3, .inr (1, [.ref h13, .ref h14, .ref h15, .ref h16, .ref h17, .ref h18, .ref h19, .ref h20, .ref h21, .ref h22, .int bn])), (h13, .inl (kJ, 1501, .inr (.inl f13))), (h14, .inl (kI, 1501, .inl f14)), (h15, .inl (kI, 1501, .inl f15)), (h16, .inl (kI, 1501, .inl f16)), (h17, .inl (kI, 1501, .inl f17)), (h18, .inl (kI, 1501, .inl f18)), (h19, .inl (kI, 1501, .inl f19)), (h20, .inl (kI, 1501, .inl f20)), (h21, .inl (kI, 1501, .inl f21)), (h22, .inl (kZ, 1501, .inl f22))] sz) [(h3, .inr (1, [.ref h13, .ref h14, .ref h15, .ref h16, .ref h17, .ref h18, .ref h19, .ref h20, .ref h21, .ref h22, .int bn])), (h13, .inl (kJ, 1501, .inr (.inl f13))), (h14, .inl (kI, 1501, .inl f14)), (h15, .inl (kI, 1501, .inl f15)), (h16, .inl (kI, 1501, .inl f16')), (h17, .inl (kI, 1501, .inl f17)), (h18, .inl (kI, 1501, .inl f18)), (h19, .inl (kI, 1501, .inl f19)), (h20, .inl (kI, 1501, .inl f20)), (h21, .inl (kI, 1501, .inl f21)), (h22, .inl (kZ, 1501, .inl f22))] t) (va_A [(h3, .inr (1, [.ref h13, .ref h14, .ref h15, .ref h16, .ref h17, .ref h18, .ref h19, .ref h20, .ref h21, .ref h22, .int bn])), (h13, .inl (kJ, 1501, .inr (.inl f13))), (h14, .inl (kI, 1501, .inl f14)), (h15, .inl (kI, 1501, .inl f15)), (h16, .inl (kI, 1501, .inl f16)), (h17, .inl (kI, 1501, .inl f17)), (h18, .inl (kI, 1501, .inl f18)), (h19, .inl (kI, 1501, .inl f19)), (h20, .inl (kI, 1501, .inl f20)), (h21, .inl (kI, 1501, .inl f21)), (h22, .inl (kZ, 1501, .inl f22))] sz)) 0 0 (va_A [(h3, .inr (1, [.ref h13, .ref h14, .ref h15, .ref h16, .ref h17, .ref h18, .ref h19, .ref h20, .ref h21, .ref h22, .int bn])), (h13, .inl (kJ, 1501, .inr (.inl f13))), (h14, .inl (kI, 1501, .inl f14)), (h15, .inl (kI, 1501, .inl f15)), (h16, .inl (kI, 1501, .inl f16)), (h17, .inl (kI, 1501, .inl f17)), (h18, .inl (kI, 1501, .inl f18)), (h19, .inl (kI, 1501, .inl f19)), (h20, .inl (kI, 1501, .inl f20)), (h21, .inl (kI, 1501, .inl f21)), (h22, .inl (kZ, 1501, .inl f22))] sz) := by
  refine Met.ofW (cc := prog_7_method_6_code) (maxL := 3) (ret := none) (by decide +kernel) rfl ?_
  intro p e s m args below meth c s₁ B hml hv
  obtain ⟨rfl, hsz, hP, hK, hD0, hE⟩ := hv
  have hx := B.exec
  have hb := B.bytes
  have hr := B.returns
  have hts : ∀ w ∈ gT, w.before _ s = true := fun w h => atoms_spec (ws := Cond.code (⟨"AlgolJudge$Table", "setCount", "(II)V"⟩ : MethodName) prog_7_method_6_code 3 (none) :: gT) B.pre w (List.mem_cons_of_mem _ h)
  have hown : s.vm.findClass "AlgolJudge$Table" = some m.cls := findClass_of_methodNamed B.named
  have hlocks := B.notSynchronized
  subst hsz
  have hD := hD0.self (sz := s.heap.size)
  generalize hAe : va_A [(h3, .inr (1, [.ref h13, .ref h14, .ref h15, .ref h16, .ref h17, .ref h18, .ref h19, .ref h20, .ref h21, .ref h22, .int bn])), (h13, .inl (kJ, 1501, .inr (.inl f13))), (h14, .inl (kI, 1501, .inl f14)), (h15, .inl (kI, 1501, .inl f15)), (h16, .inl (kI, 1501, .inl f16)), (h17, .inl (kI, 1501, .inl f17)), (h18, .inl (kI, 1501, .inl f18)), (h19, .inl (kI, 1501, .inl f19)), (h20, .inl (kI, 1501, .inl f20)), (h21, .inl (kI, 1501, .inl f21)), (h22, .inl (kZ, 1501, .inl f22))] s.heap.size = A at hD hE ⊢
  have hA : ∀ q : Nat, s.heap.size ≤ q → A q := fun q h => by rw [← hAe]; exact Or.inr h
  have hS : va_S A s.heap s.heap [] := va_S.rf
  have hP : va_P D cls9 [(h3, .inr (1, [.ref h13, .ref h14, .ref h15, .ref h16, .ref h17, .ref h18, .ref h19, .ref h20, .ref h21, .ref h22, .int bn])), (h13, .inl (kJ, 1501, .inr (.inl f13))), (h14, .inl (kI, 1501, .inl f14)), (h15, .inl (kI, 1501, .inl f15)), (h16, .inl (kI, 1501, .inl f16)), (h17, .inl (kI, 1501, .inl f17)), (h18, .inl (kI, 1501, .inl f18)), (h19, .inl (kI, 1501, .inl f19)), (h20, .inl (kI, 1501, .inl f20)), (h21, .inl (kI, 1501, .inl f21)), (h22, .inl (kZ, 1501, .inl f22))] s.heap := hP
  have hl := lv_entry ([.ref h3, .int p1, .int p2]) (n := 3) (Nat.le_of_ble_eq_true rfl)
  rw [lg_entry_eq]
  generalize (lg_sl ([.ref h3, .int p1, .int p2]) ++ List.replicate (3 - (lg_sl ([.ref h3, .int p1, .int p2])).length) Slot.unset).toArray = ls at hl ⊢
  have hl : lv_has ls 3 [(0, .ref h3), (1, .int p1), (2, .int p2)] := hl
  refine lv_iload_n hx hb d_7_6_0 rfl (lv_at hl 1 rfl) ?_
  refine lv_if_lt (tgt := 19) hx hb d_7_6_1 (by decide +kernel) (fun c_1 => ?_) (fun c_1 => ?_)
  · skip
    have tc_1 : p1.toInt < 0 := Int32.lt_iff_toInt_lt.mp c_1
    have hP9 := hP.sub (ws' := [(h3, .inr (1, [.ref h13, .ref h14, .ref h15, .ref h16, .ref h17, .ref h18, .ref h19, .ref h20, .ref h21, .ref h22, .int bn])), (h13, .inl (kJ, 1501, .inr (.inl f13))), (h14, .inl (kI, 1501, .inl f14)), (h15, .inl (kI, 1501, .inl f15)), (h16, .inl (kI, 1501, .inl f16)), (h17, .inl (kI, 1501, .inl f17)), (h18, .inl (kI, 1501, .inl f18)), (h19, .inl (kI, 1501, .inl f19)), (h20, .inl (kI, 1501, .inl f20)), (h21, .inl (kI, 1501, .inl f21)), (h22, .inl (kZ, 1501, .inl f22))]) [0, 1, 2, 3, 4, 5, 6, 7, 8, 9, 10] rfl
    have hD9 := hD.sub (ws' := [(h3, .inr (1, [.ref h13, .ref h14, .ref h15, .ref h16, .ref h17, .ref h18, .ref h19, .ref h20, .ref h21, .ref h22, .int bn])), (h13, .inl (kJ, 1501, .inr (.inl f13))), (h14, .inl (kI, 1501, .inl f14)), (h15, .inl (kI, 1501, .inl f15)), (h16, .inl (kI, 1501, .inl f16)), (h17, .inl (kI, 1501, .inl f17)), (h18, .inl (kI, 1501, .inl f18)), (h19, .inl (kI, 1501, .inl f19)), (h20, .inl (kI, 1501, .inl f20)), (h21, .inl (kI, 1501, .inl f21)), (h22, .inl (kZ, 1501, .inl f22))]) [0, 1, 2, 3, 4, 5, 6, 7, 8, 9, 10] (by decide) rfl
    exact W.vret hx hb hr (fun t ht hW => ⟨⟨(), rfl, trivial, f16, xEnd hK hP9 hD9 ht hW⟩, hS.F ht⟩) hS.2.2 d_7_6_19
  · skip
    have tc_1 : ¬ p1.toInt < 0 := fun h9 => c_1 (Int32.lt_iff_toInt_lt.mpr h9)
    refine lv_iload_n hx hb d_7_6_4 rfl (lv_at hl 1 rfl) ?_
    refine lv_aload_n hx hb d_7_6_5 rfl (lv_at hl 0 rfl) ?_
    refine va_get (D := D) (ci := 1) (v := .int bn) (C := "AlgolJudge$Table") (T := T_Table) (N := 11) hx hb hts i_Table hown hK hP 0 rfl rfl 10 (by decide +kernel) (hts _ m_254) (fun _ h9 => h9) rfl d_7_6_6 ?_
    refine lv_icmp_ge (tgt := 19) hx hb d_7_6_9 (by decide +kernel) (fun c_2 => ?_) (fun c_2 => ?_)
    · skip
      have tc_2 : bn.toInt ≤ p1.toInt := Int32.le_iff_toInt_le.mp c_2
      have hP9 := hP.sub (ws' := [(h3, .inr (1, [.ref h13, .ref h14, .ref h15, .ref h16, .ref h17, .ref h18, .ref h19, .ref h20, .ref h21, .ref h22, .int bn])), (h13, .inl (kJ, 1501, .inr (.inl f13))), (h14, .inl (kI, 1501, .inl f14)), (h15, .inl (kI, 1501, .inl f15)), (h16, .inl (kI, 1501, .inl f16)), (h17, .inl (kI, 1501, .inl f17)), (h18, .inl (kI, 1501, .inl f18)), (h19, .inl (kI, 1501, .inl f19)), (h20, .inl (kI, 1501, .inl f20)), (h21, .inl (kI, 1501, .inl f21)), (h22, .inl (kZ, 1501, .inl f22))]) [0, 1, 2, 3, 4, 5, 6, 7, 8, 9, 10] rfl
      have hD9 := hD.sub (ws' := [(h3, .inr (1, [.ref h13, .ref h14, .ref h15, .ref h16, .ref h17, .ref h18, .ref h19, .ref h20, .ref h21, .ref h22, .int bn])), (h13, .inl (kJ, 1501, .inr (.inl f13))), (h14, .inl (kI, 1501, .inl f14)), (h15, .inl (kI, 1501, .inl f15)), (h16, .inl (kI, 1501, .inl f16)), (h17, .inl (kI, 1501, .inl f17)), (h18, .inl (kI, 1501, .inl f18)), (h19, .inl (kI, 1501, .inl f19)), (h20, .inl (kI, 1501, .inl f20)), (h21, .inl (kI, 1501, .inl f21)), (h22, .inl (kZ, 1501, .inl f22))]) [0, 1, 2, 3, 4, 5, 6, 7, 8, 9, 10] (by decide) rfl
      exact W.vret hx hb hr (fun t ht hW => ⟨⟨(), rfl, trivial, f16, xEnd hK hP9 hD9 ht hW⟩, hS.F ht⟩) hS.2.2 d_7_6_19
    · skip
      have tc_2 : ¬ bn.toInt ≤ p1.toInt := fun h9 => c_2 (Int32.le_iff_toInt_le.mpr h9)
      refine lv_aload_n hx hb d_7_6_12 rfl (lv_at hl 0 rfl) ?_
      refine va_get (D := D) (ci := 1) (v := .ref h16) (C := "AlgolJudge$Table") (T := T_Table) (N := 11) hx hb hts i_Table hown hK hP 0 rfl rfl 3 (by decide +kernel) (hts _ m_247) (fun _ h9 => h9) rfl d_7_6_13 ?_
      refine lv_iload_n hx hb d_7_6_16 rfl (lv_at hl 1 rfl) ?_
      refine lv_iload_n hx hb d_7_6_17 rfl (lv_at hl 2 rfl) ?_
      refine va_iast hx hb hK hP hD hS 4 0 rfl rfl (vp_in_iff.mpr ⟨by omega, by omega⟩) d_7_6_18 (fun H locs hP1 hD1 hS1 => ?_)
      replace hP : va_P D cls9 [(h3, .inr (1, [.ref h13, .ref h14, .ref h15, .ref h16, .ref h17, .ref h18, .ref h19, .ref h20, .ref h21, .ref h22, .int bn])), (h13, .inl (kJ, 1501, .inr (.inl f13))), (h14, .inl (kI, 1501, .inl f14)), (h15, .inl (kI, 1501, .inl f15)), (h16, .inl (kI, 1501, .inl (upd f16 (Int32.toNatClampNeg p1) p2))), (h17, .inl (kI, 1501, .inl f17)), (h18, .inl (kI, 1501, .inl f18)), (h19, .inl (kI, 1501, .inl f19)), (h20, .inl (kI, 1501, .inl f20)), (h21, .inl (kI, 1501, .inl f21)), (h22, .inl (kZ, 1501, .inl f22))] H := hP1
      replace hD : va_D A [(h3, .inr (1, [.ref h13, .ref h14, .ref h15, .ref h16, .ref h17, .ref h18, .ref h19, .ref h20, .ref h21, .ref h22, .int bn])), (h13, .inl (kJ, 1501, .inr (.inl f13))), (h14, .inl (kI, 1501, .inl f14)), (h15, .inl (kI, 1501, .inl f15)), (h16, .inl (kI, 1501, .inl (upd f16 (Int32.toNatClampNeg p1) p2))), (h17, .inl (kI, 1501, .inl f17)), (h18, .inl (kI, 1501, .inl f18)), (h19, .inl (kI, 1501, .inl f19)), (h20, .inl (kI, 1501, .inl f20)), (h21, .inl (kI, 1501, .inl f21)), (h22, .inl (kZ, 1501, .inl f22))] := hD1
      replace hS := hS1
      clear hP1 hD1 hS1
      have hP9 := hP.sub (ws' := [(h3, .inr (1, [.ref h13, .ref h14, .ref h15, .ref h16, .ref h17, .ref h18, .ref h19, .ref h20, .ref h21, .ref h22, .int bn])), (h13, .inl (kJ, 1501, .inr (.inl f13))), (h14, .inl (kI, 1501, .inl f14)), (h15, .inl (kI, 1501, .inl f15)), (h16, .inl (kI, 1501, .inl (upd f16 (Int32.toNatClampNeg p1) p2))), (h17, .inl (kI, 1501, .inl f17)), (h18, .inl (kI, 1501, .inl f18)), (h19, .inl (kI, 1501, .inl f19)), (h20, .inl (kI, 1501, .inl f20)), (h21, .inl (kI, 1501, .inl f21)), (h22, .inl (kZ, 1501, .inl f22))]) [0, 1, 2, 3, 4, 5, 6, 7, 8, 9, 10] rfl
      have hD9 := hD.sub (ws' := [(h3, .inr (1, [.ref h13, .ref h14, .ref h15, .ref h16, .ref h17, .ref h18, .ref h19, .ref h20, .ref h21, .ref h22, .int bn])), (h13, .inl (kJ, 1501, .inr (.inl f13))), (h14, .inl (kI, 1501, .inl f14)), (h15, .inl (kI, 1501, .inl f15)), (h16, .inl (kI, 1501, .inl (upd f16 (Int32.toNatClampNeg p1) p2))), (h17, .inl (kI, 1501, .inl f17)), (h18, .inl (kI, 1501, .inl f18)), (h19, .inl (kI, 1501, .inl f19)), (h20, .inl (kI, 1501, .inl f20)), (h21, .inl (kI, 1501, .inl f21)), (h22, .inl (kZ, 1501, .inl f22))]) [0, 1, 2, 3, 4, 5, 6, 7, 8, 9, 10] (by decide) rfl
      exact W.vret hx hb hr (fun t ht hW => ⟨⟨(), rfl, trivial, (upd f16 (Int32.toNatClampNeg p1) p2), xEnd hK hP9 hD9 ht hW⟩, hS.F ht⟩) hS.2.2 d_7_6_19
set_option maxHeartbeats 8000000 in
set_option maxRecDepth 100000 in
theorem g_Table_setOwn (l : Launch) (D : va_G) (kI kJ kB kZ : ClassId) (sz : Nat) (h3 : Nat) (h13 : Nat) (h14 : Nat) (h15 : Nat) (h16 : Nat) (h17 : Nat) (h18 : Nat) (h19 : Nat) (h20 : Nat) (h21 : Nat) (h22 : Nat) (bn : Int32) (f13 : Nat → Int64) (f14 : Nat → Int32) (f15 : Nat → Int32) (f16 : Nat → Int32) (f17 : Nat → Int32) (f18 : Nat → Int32) (f19 : Nat → Int32) (f20 : Nat → Int32) (f21 : Nat → Int32) (f22 : Nat → Int32) (p1 : Int32) (hf_B1 : 0 ≤ bn.toInt) (hf_B2 : bn.toInt ≤ 1501) : Met l (⟨"AlgolJudge$Table", "setOwn", "(I)V"⟩ : MethodName) (Cond.code (⟨"AlgolJudge$Table", "setOwn", "(I)V"⟩ : MethodName) prog_7_method_7_code 2 (none) :: gT) ({ frames := 0, cells := 0, slots := 0, locals := 0 }) (va_Pc [.ref h3, .int p1] (xP D (xT kI kJ kB kZ) xN [(h3, .inr (1, [.ref h13, .ref h14, .ref h15, .ref h16, .ref h17, .ref h18, .ref h19, .ref h20, .ref h21, .ref h22, .int bn])), (h13, .inl (kJ, 1501, .inr (.inl f13))), (h14, .inl (kI, 1501, .inl f14)), (h15, .inl (kI, 1501, .inl f15)), (h16, .inl (kI, 1501, .inl f16)), (h17, .inl (kI, 1501, .inl f17)), (h18, .inl (kI, 1501, .inl f18)), (h19, .inl (kI, 1501, .inl f19)), (h20, .inl (kI, 1501, .inl f20)), (h21, .inl (kI, 1501, .inl f21)), (h22, .inl (kZ, 1501, .inl f22))] sz)) (va_Qv (fun _ : Unit => True) (fun _ t => ∃ f22' : Nat → Int32, xQ D (xT kI kJ kB kZ) (va_A [(h3, .inr (1, [.ref h13, .ref h14, .ref h15, .ref h16, .ref h17, .ref h18, .ref h19, .ref h20, .ref h21, .ref h22, .int bn])), (h13, .inl (kJ, 1501, .inr (.inl f13))), (h14, .inl (kI, 1501, .inl f14)), (h15, .inl (kI, 1501, .inl f15)), (h16, .inl (kI, 1501, .inl f16)), (h17, .inl (kI, 1501, .inl f17)), (h18, .inl (kI, 1501, .inl f18)), (h19, .inl (kI, 1501, .inl f19)), (h20, .inl (kI, 1501, .inl f20)), (h21, .inl (kI, 1501, .inl f21)), (h22, .inl (kZ, 1501, .inl f22))] sz) [(h3, .inr (1, [.ref h13, .ref h14, .ref h15, .ref h16, .ref h17, .ref h18, .ref h19, .ref h20, .ref h21, .ref h22, .int bn])), (h13, .inl (kJ, 1501, .inr (.inl f13))), (h14, .inl (kI, 1501, .inl f14)), (h15, .inl (kI, 1501, .inl f15)), (h16, .inl (kI, 1501, .inl f16)), (h17, .inl (kI, 1501, .inl f17)), (h18, .inl (kI, 1501, .inl f18)), (h19, .inl (kI, 1501, .inl f19)), (h20, .inl (kI, 1501, .inl f20)), (h21, .inl (kI, 1501, .inl f21)), (h22, .inl (kZ, 1501, .inl f22'))] t) (va_A [(h3, .inr (1, [.ref h13, .ref h14, .ref h15, .ref h16, .ref h17, .ref h18, .ref h19, .ref h20, .ref h21, .ref h22, .int bn])), (h13, .inl (kJ, 1501, .inr (.inl f13))), (h14, .inl (kI, 1501, .inl f14)), (h15, .inl (kI, 1501, .inl f15)), (h16, .inl (kI, 1501, .inl f16)), (h17, .inl (kI, 1501, .inl f17)), (h18, .inl (kI, 1501, .inl f18)), (h19, .inl (kI, 1501, .inl f19)), (h20, .inl (kI, 1501, .inl f20)), (h21, .inl (kI, 1501, .inl f21)), (h22, .inl (kZ, 1501, .inl f22))] sz)) 0 0 (va_A [(h3, .inr (1, [.ref h13, .ref h14, .ref h15, .ref h16, .ref h17, .ref h18, .ref h19, .ref h20, .ref h21, .ref h22, .int bn])), (h13, .inl (kJ, 1501, .inr (.inl f13))), (h14, .inl (kI, 1501, .inl f14)), (h15, .inl (kI, 1501, .inl f15)), (h16, .inl (kI, 1501, .inl f16)), (h17, .inl (kI, 1501, .inl f17)), (h18, .inl (kI, 1501, .inl f18)), (h19, .inl (kI, 1501, .inl f19)), (h20, .inl (kI, 1501, .inl f20)), (h21, .inl (kI, 1501, .inl f21)), (h22, .inl (kZ, 1501, .inl f22))] sz) := by
  refine Met.ofW (cc := prog_7_method_7_code) (maxL := 2) (ret := none) (by decide +kernel) rfl ?_
  intro p e s m args below meth c s₁ B hml hv
  obtain ⟨rfl, hsz, hP, hK, hD0, hE⟩ := hv
  have hx := B.exec
  have hb := B.bytes
  have hr := B.returns
  have hts : ∀ w ∈ gT, w.before _ s = true := fun w h => atoms_spec (ws := Cond.code (⟨"AlgolJudge$Table", "setOwn", "(I)V"⟩ : MethodName) prog_7_method_7_code 2 (none) :: gT) B.pre w (List.mem_cons_of_mem _ h)
  have hown : s.vm.findClass "AlgolJudge$Table" = some m.cls := findClass_of_methodNamed B.named
  have hlocks := B.notSynchronized
  subst hsz
  have hD := hD0.self (sz := s.heap.size)
  generalize hAe : va_A [(h3, .inr (1, [.ref h13, .ref h14, .ref h15, .ref h16, .ref h17, .ref h18, .ref h19, .ref h20, .ref h21, .ref h22, .int bn])), (h13, .inl (kJ, 1501, .inr (.inl f13))), (h14, .inl (kI, 1501, .inl f14)), (h15, .inl (kI, 1501, .inl f15)), (h16, .inl (kI, 1501, .inl f16)), (h17, .inl (kI, 1501, .inl f17)), (h18, .inl (kI, 1501, .inl f18)), (h19, .inl (kI, 1501, .inl f19)), (h20, .inl (kI, 1501, .inl f20)), (h21, .inl (kI, 1501, .inl f21)), (h22, .inl (kZ, 1501, .inl f22))] s.heap.size = A at hD hE ⊢
  have hA : ∀ q : Nat, s.heap.size ≤ q → A q := fun q h => by rw [← hAe]; exact Or.inr h
  have hS : va_S A s.heap s.heap [] := va_S.rf
  have hP : va_P D cls9 [(h3, .inr (1, [.ref h13, .ref h14, .ref h15, .ref h16, .ref h17, .ref h18, .ref h19, .ref h20, .ref h21, .ref h22, .int bn])), (h13, .inl (kJ, 1501, .inr (.inl f13))), (h14, .inl (kI, 1501, .inl f14)), (h15, .inl (kI, 1501, .inl f15)), (h16, .inl (kI, 1501, .inl f16)), (h17, .inl (kI, 1501, .inl f17)), (h18, .inl (kI, 1501, .inl f18)), (h19, .inl (kI, 1501, .inl f19)), (h20, .inl (kI, 1501, .inl f20)), (h21, .inl (kI, 1501, .inl f21)), (h22, .inl (kZ, 1501, .inl f22))] s.heap := hP
  have hl := lv_entry ([.ref h3, .int p1]) (n := 2) (Nat.le_of_ble_eq_true rfl)
  rw [lg_entry_eq]
  generalize (lg_sl ([.ref h3, .int p1]) ++ List.replicate (2 - (lg_sl ([.ref h3, .int p1])).length) Slot.unset).toArray = ls at hl ⊢
  have hl : lv_has ls 2 [(0, .ref h3), (1, .int p1)] := hl
  refine lv_iload_n hx hb d_7_7_0 rfl (lv_at hl 1 rfl) ?_
  refine lv_if_lt (tgt := 19) hx hb d_7_7_1 (by decide +kernel) (fun c_1 => ?_) (fun c_1 => ?_)
  · skip
    have tc_1 : p1.toInt < 0 := Int32.lt_iff_toInt_lt.mp c_1
    have hP9 := hP.sub (ws' := [(h3, .inr (1, [.ref h13, .ref h14, .ref h15, .ref h16, .ref h17, .ref h18, .ref h19, .ref h20, .ref h21, .ref h22, .int bn])), (h13, .inl (kJ, 1501, .inr (.inl f13))), (h14, .inl (kI, 1501, .inl f14)), (h15, .inl (kI, 1501, .inl f15)), (h16, .inl (kI, 1501, .inl f16)), (h17, .inl (kI, 1501, .inl f17)), (h18, .inl (kI, 1501, .inl f18)), (h19, .inl (kI, 1501, .inl f19)), (h20, .inl (kI, 1501, .inl f20)), (h21, .inl (kI, 1501, .inl f21)), (h22, .inl (kZ, 1501, .inl f22))]) [0, 1, 2, 3, 4, 5, 6, 7, 8, 9, 10] rfl
    have hD9 := hD.sub (ws' := [(h3, .inr (1, [.ref h13, .ref h14, .ref h15, .ref h16, .ref h17, .ref h18, .ref h19, .ref h20, .ref h21, .ref h22, .int bn])), (h13, .inl (kJ, 1501, .inr (.inl f13))), (h14, .inl (kI, 1501, .inl f14)), (h15, .inl (kI, 1501, .inl f15)), (h16, .inl (kI, 1501, .inl f16)), (h17, .inl (kI, 1501, .inl f17)), (h18, .inl (kI, 1501, .inl f18)), (h19, .inl (kI, 1501, .inl f19)), (h20, .inl (kI, 1501, .inl f20)), (h21, .inl (kI, 1501, .inl f21)), (h22, .inl (kZ, 1501, .inl f22))]) [0, 1, 2, 3, 4, 5, 6, 7, 8, 9, 10] (by decide) rfl
    exact W.vret hx hb hr (fun t ht hW => ⟨⟨(), rfl, trivial, f22, xEnd hK hP9 hD9 ht hW⟩, hS.F ht⟩) hS.2.2 d_7_7_19
  · skip
    have tc_1 : ¬ p1.toInt < 0 := fun h9 => c_1 (Int32.lt_iff_toInt_lt.mpr h9)
    refine lv_iload_n hx hb d_7_7_4 rfl (lv_at hl 1 rfl) ?_
    refine lv_aload_n hx hb d_7_7_5 rfl (lv_at hl 0 rfl) ?_
    refine va_get (D := D) (ci := 1) (v := .int bn) (C := "AlgolJudge$Table") (T := T_Table) (N := 11) hx hb hts i_Table hown hK hP 0 rfl rfl 10 (by decide +kernel) (hts _ m_254) (fun _ h9 => h9) rfl d_7_7_6 ?_
    refine lv_icmp_ge (tgt := 19) hx hb d_7_7_9 (by decide +kernel) (fun c_2 => ?_) (fun c_2 => ?_)
    · skip
      have tc_2 : bn.toInt ≤ p1.toInt := Int32.le_iff_toInt_le.mp c_2
      have hP9 := hP.sub (ws' := [(h3, .inr (1, [.ref h13, .ref h14, .ref h15, .ref h16, .ref h17, .ref h18, .ref h19, .ref h20, .ref h21, .ref h22, .int bn])), (h13, .inl (kJ, 1501, .inr (.inl f13))), (h14, .inl (kI, 1501, .inl f14)), (h15, .inl (kI, 1501, .inl f15)), (h16, .inl (kI, 1501, .inl f16)), (h17, .inl (kI, 1501, .inl f17)), (h18, .inl (kI, 1501, .inl f18)), (h19, .inl (kI, 1501, .inl f19)), (h20, .inl (kI, 1501, .inl f20)), (h21, .inl (kI, 1501, .inl f21)), (h22, .inl (kZ, 1501, .inl f22))]) [0, 1, 2, 3, 4, 5, 6, 7, 8, 9, 10] rfl
      have hD9 := hD.sub (ws' := [(h3, .inr (1, [.ref h13, .ref h14, .ref h15, .ref h16, .ref h17, .ref h18, .ref h19, .ref h20, .ref h21, .ref h22, .int bn])), (h13, .inl (kJ, 1501, .inr (.inl f13))), (h14, .inl (kI, 1501, .inl f14)), (h15, .inl (kI, 1501, .inl f15)), (h16, .inl (kI, 1501, .inl f16)), (h17, .inl (kI, 1501, .inl f17)), (h18, .inl (kI, 1501, .inl f18)), (h19, .inl (kI, 1501, .inl f19)), (h20, .inl (kI, 1501, .inl f20)), (h21, .inl (kI, 1501, .inl f21)), (h22, .inl (kZ, 1501, .inl f22))]) [0, 1, 2, 3, 4, 5, 6, 7, 8, 9, 10] (by decide) rfl
      exact W.vret hx hb hr (fun t ht hW => ⟨⟨(), rfl, trivial, f22, xEnd hK hP9 hD9 ht hW⟩, hS.F ht⟩) hS.2.2 d_7_7_19
    · skip
      have tc_2 : ¬ bn.toInt ≤ p1.toInt := fun h9 => c_2 (Int32.le_iff_toInt_le.mpr h9)
      refine lv_aload_n hx hb d_7_7_12 rfl (lv_at hl 0 rfl) ?_
      refine va_get (D := D) (ci := 1) (v := .ref h22) (C := "AlgolJudge$Table") (T := T_Table) (N := 11) hx hb hts i_Table hown hK hP 0 rfl rfl 9 (by decide +kernel) (hts _ m_253) (fun _ h9 => h9) rfl d_7_7_13 ?_
      refine lv_iload_n hx hb d_7_7_16 rfl (lv_at hl 1 rfl) ?_
      refine lv_iconst (v := 1) hx hb d_7_7_17 (by decide +kernel) ?_
      refine va_zast hx hb hK hP hD hS 10 3 rfl rfl (vp_in_iff.mpr ⟨by omega, by omega⟩) d_7_7_18 (fun H locs hP1 hD1 hS1 => ?_)
      replace hP : va_P D cls9 [(h3, .inr (1, [.ref h13, .ref h14, .ref h15, .ref h16, .ref h17, .ref h18, .ref h19, .ref h20, .ref h21, .ref h22, .int bn])), (h13, .inl (kJ, 1501, .inr (.inl f13))), (h14, .inl (kI, 1501, .inl f14)), (h15, .inl (kI, 1501, .inl f15)), (h16, .inl (kI, 1501, .inl f16)), (h17, .inl (kI, 1501, .inl f17)), (h18, .inl (kI, 1501, .inl f18)), (h19, .inl (kI, 1501, .inl f19)), (h20, .inl (kI, 1501, .inl f20)), (h21, .inl (kI, 1501, .inl f21)), (h22, .inl (kZ, 1501, .inl (upd f22 (Int32.toNatClampNeg p1) (vp_nar .boolean 1))))] H := hP1
      replace hD : va_D A [(h3, .inr (1, [.ref h13, .ref h14, .ref h15, .ref h16, .ref h17, .ref h18, .ref h19, .ref h20, .ref h21, .ref h22, .int bn])), (h13, .inl (kJ, 1501, .inr (.inl f13))), (h14, .inl (kI, 1501, .inl f14)), (h15, .inl (kI, 1501, .inl f15)), (h16, .inl (kI, 1501, .inl f16)), (h17, .inl (kI, 1501, .inl f17)), (h18, .inl (kI, 1501, .inl f18)), (h19, .inl (kI, 1501, .inl f19)), (h20, .inl (kI, 1501, .inl f20)), (h21, .inl (kI, 1501, .inl f21)), (h22, .inl (kZ, 1501, .inl (upd f22 (Int32.toNatClampNeg p1) (vp_nar .boolean 1))))] := hD1
      replace hS := hS1
      clear hP1 hD1 hS1
      have hP9 := hP.sub (ws' := [(h3, .inr (1, [.ref h13, .ref h14, .ref h15, .ref h16, .ref h17, .ref h18, .ref h19, .ref h20, .ref h21, .ref h22, .int bn])), (h13, .inl (kJ, 1501, .inr (.inl f13))), (h14, .inl (kI, 1501, .inl f14)), (h15, .inl (kI, 1501, .inl f15)), (h16, .inl (kI, 1501, .inl f16)), (h17, .inl (kI, 1501, .inl f17)), (h18, .inl (kI, 1501, .inl f18)), (h19, .inl (kI, 1501, .inl f19)), (h20, .inl (kI, 1501, .inl f20)), (h21, .inl (kI, 1501, .inl f21)), (h22, .inl (kZ, 1501, .inl (upd f22 (Int32.toNatClampNeg p1) (vp_nar .boolean 1))))]) [0, 1, 2, 3, 4, 5, 6, 7, 8, 9, 10] rfl
      have hD9 := hD.sub (ws' := [(h3, .inr (1, [.ref h13, .ref h14, .ref h15, .ref h16, .ref h17, .ref h18, .ref h19, .ref h20, .ref h21, .ref h22, .int bn])), (h13, .inl (kJ, 1501, .inr (.inl f13))), (h14, .inl (kI, 1501, .inl f14)), (h15, .inl (kI, 1501, .inl f15)), (h16, .inl (kI, 1501, .inl f16)), (h17, .inl (kI, 1501, .inl f17)), (h18, .inl (kI, 1501, .inl f18)), (h19, .inl (kI, 1501, .inl f19)), (h20, .inl (kI, 1501, .inl f20)), (h21, .inl (kI, 1501, .inl f21)), (h22, .inl (kZ, 1501, .inl (upd f22 (Int32.toNatClampNeg p1) (vp_nar .boolean 1))))]) [0, 1, 2, 3, 4, 5, 6, 7, 8, 9, 10] (by decide) rfl
      exact W.vret hx hb hr (fun t ht hW => ⟨⟨(), rfl, trivial, (upd f22 (Int32.toNatClampNeg p1) (vp_nar .boolean 1)), xEnd hK hP9 hD9 ht hW⟩, hS.F ht⟩) hS.2.2 d_7_7_19
set_option maxHeartbeats 8000000 in
set_option maxRecDepth 100000 in
theorem g_Table_setValuePlace (l : Launch) (D : va_G) (kI kJ kB kZ : ClassId) (sz : Nat) (h3 : Nat) (h13 : Nat) (h14 : Nat) (h15 : Nat) (h16 : Nat) (h17 : Nat) (h18 : Nat) (h19 : Nat) (h20 : Nat) (h21 : Nat) (h22 : Nat) (bn : Int32) (f13 : Nat → Int64) (f14 : Nat → Int32) (f15 : Nat → Int32) (f16 : Nat → Int32) (f17 : Nat → Int32) (f18 : Nat → Int32) (f19 : Nat → Int32) (f20 : Nat → Int32) (f21 : Nat → Int32) (f22 : Nat → Int32) (p1 : Int32) (p2 : Int32) (hf_B1 : 0 ≤ bn.toInt) (hf_B2 : bn.toInt ≤ 1501) : Met l (⟨"AlgolJudge$Table", "setValuePlace", "(II)V"⟩ : MethodName) (Cond.code (⟨"AlgolJudge$Table", "setValuePlace", "(II)V"⟩ : MethodName) prog_7_method_9_code 3 (none) :: gT) ({ frames := 0, cells := 0, slots := 0, locals := 0 }) (va_Pc [.ref h3, .int p1, .int p2] (xP D (xT kI kJ kB kZ) xN [(h3, .inr (1, [.ref h13, .ref h14, .ref h15, .ref h16, .ref h17, .ref h18, .ref h19, .ref h20, .ref h21, .ref h22, .int bn])), (h13, .inl (kJ, 1501, .inr (.inl f13))), (h14, .inl (kI, 1501, .inl f14)), (h15, .inl (kI, 1501, .inl f15)), (h16, .inl (kI, 1501, .inl f16)), (h17, .inl (kI, 1501, .inl f17)), (h18, .inl (kI, 1501, .inl f18)), (h19, .inl (kI, 1501, .inl f19)), (h20, .inl (kI, 1501, .inl f20)), (h21, .inl (kI, 1501, .inl f21)), (h22, .inl (kZ, 1501, .inl f22))] sz)) (va_Qv (fun _ : Unit => True) (fun _ t => ∃ f21' : Nat → Int32, xQ D (xT kI kJ kB kZ) (va_A [(h3, .inr (1, [.ref h13, .ref h14, .ref h15, .ref h16, .ref h17, .ref h18, .ref h19, .ref h20, .ref h21, .ref h22, .int bn])), (h13, .inl (kJ, 1501, .inr (.inl f13))), (h14, .inl (kI, 1501, .inl f14)), (h15, .inl (kI, 1501, .inl f15)), (h16, .inl (kI, 1501, .inl f16)), (h17, .inl (kI, 1501, .inl f17)), (h18, .inl (kI, 1501, .inl f18)), (h19, .inl (kI, 1501, .inl f19)), (h20, .inl (kI, 1501, .inl f20)), (h21, .inl (kI, 1501, .inl f21)), (h22, .inl (kZ, 1501, .inl f22))] sz) [(h3, .inr (1, [.ref h13, .ref h14, .ref h15, .ref h16, .ref h17, .ref h18, .ref h19, .ref h20, .ref h21, .ref h22, .int bn])), (h13, .inl (kJ, 1501, .inr (.inl f13))), (h14, .inl (kI, 1501, .inl f14)), (h15, .inl (kI, 1501, .inl f15)), (h16, .inl (kI, 1501, .inl f16)), (h17, .inl (kI, 1501, .inl f17)), (h18, .inl (kI, 1501, .inl f18)), (h19, .inl (kI, 1501, .inl f19)), (h20, .inl (kI, 1501, .inl f20)), (h21, .inl (kI, 1501, .inl f21')), (h22, .inl (kZ, 1501, .inl f22))] t) (va_A [(h3, .inr (1, [.ref h13, .ref h14, .ref h15, .ref h16, .ref h17, .ref h18, .ref h19, .ref h20, .ref h21, .ref h22, .int bn])), (h13, .inl (kJ, 1501, .inr (.inl f13))), (h14, .inl (kI, 1501, .inl f14)), (h15, .inl (kI, 1501, .inl f15)), (h16, .inl (kI, 1501, .inl f16)), (h17, .inl (kI, 1501, .inl f17)), (h18, .inl (kI, 1501, .inl f18)), (h19, .inl (kI, 1501, .inl f19)), (h20, .inl (kI, 1501, .inl f20)), (h21, .inl (kI, 1501, .inl f21)), (h22, .inl (kZ, 1501, .inl f22))] sz)) 0 0 (va_A [(h3, .inr (1, [.ref h13, .ref h14, .ref h15, .ref h16, .ref h17, .ref h18, .ref h19, .ref h20, .ref h21, .ref h22, .int bn])), (h13, .inl (kJ, 1501, .inr (.inl f13))), (h14, .inl (kI, 1501, .inl f14)), (h15, .inl (kI, 1501, .inl f15)), (h16, .inl (kI, 1501, .inl f16)), (h17, .inl (kI, 1501, .inl f17)), (h18, .inl (kI, 1501, .inl f18)), (h19, .inl (kI, 1501, .inl f19)), (h20, .inl (kI, 1501, .inl f20)), (h21, .inl (kI, 1501, .inl f21)), (h22, .inl (kZ, 1501, .inl f22))] sz) := by
  refine Met.ofW (cc := prog_7_method_9_code) (maxL := 3) (ret := none) (by decide +kernel) rfl ?_
  intro p e s m args below meth c s₁ B hml hv
  obtain ⟨rfl, hsz, hP, hK, hD0, hE⟩ := hv
  have hx := B.exec
  have hb := B.bytes
  have hr := B.returns
  have hts : ∀ w ∈ gT, w.before _ s = true := fun w h => atoms_spec (ws := Cond.code (⟨"AlgolJudge$Table", "setValuePlace", "(II)V"⟩ : MethodName) prog_7_method_9_code 3 (none) :: gT) B.pre w (List.mem_cons_of_mem _ h)
  have hown : s.vm.findClass "AlgolJudge$Table" = some m.cls := findClass_of_methodNamed B.named
  have hlocks := B.notSynchronized
  subst hsz
  have hD := hD0.self (sz := s.heap.size)
  generalize hAe : va_A [(h3, .inr (1, [.ref h13, .ref h14, .ref h15, .ref h16, .ref h17, .ref h18, .ref h19, .ref h20, .ref h21, .ref h22, .int bn])), (h13, .inl (kJ, 1501, .inr (.inl f13))), (h14, .inl (kI, 1501, .inl f14)), (h15, .inl (kI, 1501, .inl f15)), (h16, .inl (kI, 1501, .inl f16)), (h17, .inl (kI, 1501, .inl f17)), (h18, .inl (kI, 1501, .inl f18)), (h19, .inl (kI, 1501, .inl f19)), (h20, .inl (kI, 1501, .inl f20)), (h21, .inl (kI, 1501, .inl f21)), (h22, .inl (kZ, 1501, .inl f22))] s.heap.size = A at hD hE ⊢
  have hA : ∀ q : Nat, s.heap.size ≤ q → A q := fun q h => by rw [← hAe]; exact Or.inr h
  have hS : va_S A s.heap s.heap [] := va_S.rf
  have hP : va_P D cls9 [(h3, .inr (1, [.ref h13, .ref h14, .ref h15, .ref h16, .ref h17, .ref h18, .ref h19, .ref h20, .ref h21, .ref h22, .int bn])), (h13, .inl (kJ, 1501, .inr (.inl f13))), (h14, .inl (kI, 1501, .inl f14)), (h15, .inl (kI, 1501, .inl f15)), (h16, .inl (kI, 1501, .inl f16)), (h17, .inl (kI, 1501, .inl f17)), (h18, .inl (kI, 1501, .inl f18)), (h19, .inl (kI, 1501, .inl f19)), (h20, .inl (kI, 1501, .inl f20)), (h21, .inl (kI, 1501, .inl f21)), (h22, .inl (kZ, 1501, .inl f22))] s.heap := hP
  have hl := lv_entry ([.ref h3, .int p1, .int p2]) (n := 3) (Nat.le_of_ble_eq_true rfl)
  rw [lg_entry_eq]
  generalize (lg_sl ([.ref h3, .int p1, .int p2]) ++ List.replicate (3 - (lg_sl ([.ref h3, .int p1, .int p2])).length) Slot.unset).toArray = ls at hl ⊢
  have hl : lv_has ls 3 [(0, .ref h3), (1, .int p1), (2, .int p2)] := hl
  refine lv_iload_n hx hb d_7_9_0 rfl (lv_at hl 1 rfl) ?_
  refine lv_if_lt (tgt := 19) hx hb d_7_9_1 (by decide +kernel) (fun c_1 => ?_) (fun c_1 => ?_)
  · skip
    have tc_1 : p1.toInt < 0 := Int32.lt_iff_toInt_lt.mp c_1
    have hP9 := hP.sub (ws' := [(h3, .inr (1, [.ref h13, .ref h14, .ref h15, .ref h16, .ref h17, .ref h18, .ref h19, .ref h20, .ref h21, .ref h22, .int bn])), (h13, .inl (kJ, 1501, .inr (.inl f13))), (h14, .inl (kI, 1501, .inl f14)), (h15, .inl (kI, 1501, .inl f15)), (h16, .inl (kI, 1501, .inl f16)), (h17, .inl (kI, 1501, .inl f17)), (h18, .inl (kI, 1501, .inl f18)), (h19, .inl (kI, 1501, .inl f19)), (h20, .inl (kI, 1501, .inl f20)), (h21, .inl (kI, 1501, .inl f21)), (h22, .inl (kZ, 1501, .inl f22))]) [0, 1, 2, 3, 4, 5, 6, 7, 8, 9, 10] rfl
    have hD9 := hD.sub (ws' := [(h3, .inr (1, [.ref h13, .ref h14, .ref h15, .ref h16, .ref h17, .ref h18, .ref h19, .ref h20, .ref h21, .ref h22, .int bn])), (h13, .inl (kJ, 1501, .inr (.inl f13))), (h14, .inl (kI, 1501, .inl f14)), (h15, .inl (kI, 1501, .inl f15)), (h16, .inl (kI, 1501, .inl f16)), (h17, .inl (kI, 1501, .inl f17)), (h18, .inl (kI, 1501, .inl f18)), (h19, .inl (kI, 1501, .inl f19)), (h20, .inl (kI, 1501, .inl f20)), (h21, .inl (kI, 1501, .inl f21)), (h22, .inl (kZ, 1501, .inl f22))]) [0, 1, 2, 3, 4, 5, 6, 7, 8, 9, 10] (by decide) rfl
    exact W.vret hx hb hr (fun t ht hW => ⟨⟨(), rfl, trivial, f21, xEnd hK hP9 hD9 ht hW⟩, hS.F ht⟩) hS.2.2 d_7_9_19
  · skip
    have tc_1 : ¬ p1.toInt < 0 := fun h9 => c_1 (Int32.lt_iff_toInt_lt.mpr h9)
    refine lv_iload_n hx hb d_7_9_4 rfl (lv_at hl 1 rfl) ?_
    refine lv_aload_n hx hb d_7_9_5 rfl (lv_at hl 0 rfl) ?_
    refine va_get (D := D) (ci := 1) (v := .int bn) (C := "AlgolJudge$Table") (T := T_Table) (N := 11) hx hb hts i_Table hown hK hP 0 rfl rfl 10 (by decide +kernel) (hts _ m_254) (fun _ h9 => h9) rfl d_7_9_6 ?_
    refine lv_icmp_ge (tgt := 19) hx hb d_7_9_9 (by decide +kernel) (fun c_2 => ?_) (fun c_2 => ?_)
    · skip
      have tc_2 : bn.toInt ≤ p1.toInt := Int32.le_iff_toInt_le.mp c_2
      have hP9 := hP.sub (ws' := [(h3, .inr (1, [.ref h13, .ref h14, .ref h15, .ref h16, .ref h17, .ref h18, .ref h19, .ref h20, .ref h21, .ref h22, .int bn])), (h13, .inl (kJ, 1501, .inr (.inl f13))), (h14, .inl (kI, 1501, .inl f14)), (h15, .inl (kI, 1501, .inl f15)), (h16, .inl (kI, 1501, .inl f16)), (h17, .inl (kI, 1501, .inl f17)), (h18, .inl (kI, 1501, .inl f18)), (h19, .inl (kI, 1501, .inl f19)), (h20, .inl (kI, 1501, .inl f20)), (h21, .inl (kI, 1501, .inl f21)), (h22, .inl (kZ, 1501, .inl f22))]) [0, 1, 2, 3, 4, 5, 6, 7, 8, 9, 10] rfl
      have hD9 := hD.sub (ws' := [(h3, .inr (1, [.ref h13, .ref h14, .ref h15, .ref h16, .ref h17, .ref h18, .ref h19, .ref h20, .ref h21, .ref h22, .int bn])), (h13, .inl (kJ, 1501, .inr (.inl f13))), (h14, .inl (kI, 1501, .inl f14)), (h15, .inl (kI, 1501, .inl f15)), (h16, .inl (kI, 1501, .inl f16)), (h17, .inl (kI, 1501, .inl f17)), (h18, .inl (kI, 1501, .inl f18)), (h19, .inl (kI, 1501, .inl f19)), (h20, .inl (kI, 1501, .inl f20)), (h21, .inl (kI, 1501, .inl f21)), (h22, .inl (kZ, 1501, .inl f22))]) [0, 1, 2, 3, 4, 5, 6, 7, 8, 9, 10] (by decide) rfl
      exact W.vret hx hb hr (fun t ht hW => ⟨⟨(), rfl, trivial, f21, xEnd hK hP9 hD9 ht hW⟩, hS.F ht⟩) hS.2.2 d_7_9_19
    · skip
      have tc_2 : ¬ bn.toInt ≤ p1.toInt := fun h9 => c_2 (Int32.le_iff_toInt_le.mpr h9)
      refine lv_aload_n hx hb d_7_9_12 rfl (lv_at hl 0 rfl) ?_
      refine va_get (D := D) (ci := 1) (v := .ref h21) (C := "AlgolJudge$Table") (T := T_Table) (N := 11) hx hb hts i_Table hown hK hP 0 rfl rfl 8 (by decide +kernel) (hts _ m_252) (fun _ h9 => h9) rfl d_7_9_13 ?_
      refine lv_iload_n hx hb d_7_9_16 rfl (lv_at hl 1 rfl) ?_
      refine lv_iload_n hx hb d_7_9_17 rfl (lv_at hl 2 rfl) ?_
      refine va_iast hx hb hK hP hD hS 9 0 rfl rfl (vp_in_iff.mpr ⟨by omega, by omega⟩) d_7_9_18 (fun H locs hP1 hD1 hS1 => ?_)
      replace hP : va_P D cls9 [(h3, .inr (1, [.ref h13, .ref h14, .ref h15, .ref h16, .ref h17, .ref h18, .ref h19, .ref h20, .ref h21, .ref h22, .int bn])), (h13, .inl (kJ, 1501, .inr (.inl f13))), (h14, .inl (kI, 1501, .inl f14)), (h15, .inl (kI, 1501, .inl f15)), (h16, .inl (kI, 1501, .inl f16)), (h17, .inl (kI, 1501, .inl f17)), (h18, .inl (kI, 1501, .inl f18)), (h19, .inl (kI, 1501, .inl f19)), (h20, .inl (kI, 1501, .inl f20)), (h21, .inl (kI, 1501, .inl (upd f21 (Int32.toNatClampNeg p1) p2))), (h22, .inl (kZ, 1501, .inl f22))] H := hP1
      replace hD : va_D A [(h3, .inr (1, [.ref h13, .ref h14, .ref h15, .ref h16, .ref h17, .ref h18, .ref h19, .ref h20, .ref h21, .ref h22, .int bn])), (h13, .inl (kJ, 1501, .inr (.inl f13))), (h14, .inl (kI, 1501, .inl f14)), (h15, .inl (kI, 1501, .inl f15)), (h16, .inl (kI, 1501, .inl f16)), (h17, .inl (kI, 1501, .inl f17)), (h18, .inl (kI, 1501, .inl f18)), (h19, .inl (kI, 1501, .inl f19)), (h20, .inl (kI, 1501, .inl f20)), (h21, .inl (kI, 1501, .inl (upd f21 (Int32.toNatClampNeg p1) p2))), (h22, .inl (kZ, 1501, .inl f22))] := hD1
      replace hS := hS1
      clear hP1 hD1 hS1
      have hP9 := hP.sub (ws' := [(h3, .inr (1, [.ref h13, .ref h14, .ref h15, .ref h16, .ref h17, .ref h18, .ref h19, .ref h20, .ref h21, .ref h22, .int bn])), (h13, .inl (kJ, 1501, .inr (.inl f13))), (h14, .inl (kI, 1501, .inl f14)), (h15, .inl (kI, 1501, .inl f15)), (h16, .inl (kI, 1501, .inl f16)), (h17, .inl (kI, 1501, .inl f17)), (h18, .inl (kI, 1501, .inl f18)), (h19, .inl (kI, 1501, .inl f19)), (h20, .inl (kI, 1501, .inl f20)), (h21, .inl (kI, 1501, .inl (upd f21 (Int32.toNatClampNeg p1) p2))), (h22, .inl (kZ, 1501, .inl f22))]) [0, 1, 2, 3, 4, 5, 6, 7, 8, 9, 10] rfl
      have hD9 := hD.sub (ws' := [(h3, .inr (1, [.ref h13, .ref h14, .ref h15, .ref h16, .ref h17, .ref h18, .ref h19, .ref h20, .ref h21, .ref h22, .int bn])), (h13, .inl (kJ, 1501, .inr (.inl f13))), (h14, .inl (kI, 1501, .inl f14)), (h15, .inl (kI, 1501, .inl f15)), (h16, .inl (kI, 1501, .inl f16)), (h17, .inl (kI, 1501, .inl f17)), (h18, .inl (kI, 1501, .inl f18)), (h19, .inl (kI, 1501, .inl f19)), (h20, .inl (kI, 1501, .inl f20)), (h21, .inl (kI, 1501, .inl (upd f21 (Int32.toNatClampNeg p1) p2))), (h22, .inl (kZ, 1501, .inl f22))]) [0, 1, 2, 3, 4, 5, 6, 7, 8, 9, 10] (by decide) rfl
      exact W.vret hx hb hr (fun t ht hW => ⟨⟨(), rfl, trivial, (upd f21 (Int32.toNatClampNeg p1) p2), xEnd hK hP9 hD9 ht hW⟩, hS.F ht⟩) hS.2.2 d_7_9_19
set_option maxHeartbeats 8000000 in
set_option maxRecDepth 100000 in
theorem g_Table_specify (l : Launch) (D : va_G) (kI kJ kB kZ : ClassId) (sz : Nat) (h3 : Nat) (h13 : Nat) (h14 : Nat) (h15 : Nat) (h16 : Nat) (h17 : Nat) (h18 : Nat) (h19 : Nat) (h20 : Nat) (h21 : Nat) (h22 : Nat) (bn : Int32) (f13 : Nat → Int64) (f14 : Nat → Int32) (f15 : Nat → Int32) (f16 : Nat → Int32) (f17 : Nat → Int32) (f18 : Nat → Int32) (f19 : Nat → Int32) (f20 : Nat → Int32) (f21 : Nat → Int32) (f22 : Nat → Int32) (p1 : Int32) (p2 : Int32) (p3 : Int32) (hf_B1 : 0 ≤ bn.toInt) (hf_B2 : bn.toInt ≤ 1501) : Met l (⟨"AlgolJudge$Table", "specify", "(III)V"⟩ : MethodName) (Cond.code (⟨"AlgolJudge$Table", "specify", "(III)V"⟩ : MethodName) prog_7_method_10_code 4 (none) :: gT) ({ frames := 0, cells := 0, slots := 0, locals := 0 }) (va_Pc [.ref h3, .int p1, .int p2, .int p3] (xP D (xT kI kJ kB kZ) xN [(h3, .inr (1, [.ref h13, .ref h14, .ref h15, .ref h16, .ref h17, .ref h18, .ref h19, .ref h20, .ref h21, .ref h22, .int bn])), (h13, .inl (kJ, 1501, .inr (.inl f13))), (h14, .inl (kI, 1501, .inl f14)), (h15, .inl (kI, 1501, .inl f15)), (h16, .inl (kI, 1501, .inl f16)), (h17, .inl (kI, 1501, .inl f17)), (h18, .inl (kI, 1501, .inl f18)), (h19, .inl (kI, 1501, .inl f19)), (h20, .inl (kI, 1501, .inl f20)), (h21, .inl (kI, 1501, .inl f21)), (h22, .inl (kZ, 1501, .inl f22))] sz)) (va_Qv (fun _ : Unit => True) (fun _ t => ∃ f14' : Nat → Int32, ∃ f15' : Nat → Int32, xQ D (xT kI kJ kB kZ) (va_A [(h3, .inr (1, [.ref h13, .ref h14, .ref h15, .ref h16, .ref h17, .ref h18, .ref h19, .ref h20, .ref h21, .ref h22, .int bn])), (h13, .inl (kJ, 1501, .inr (.inl f13))), (h14, .inl (kI, 1501, .inl f14)), (h15, .inl (kI, 1501, .inl f15)), (h16, .inl (kI, 1501, .inl f16)), (h17, .inl (kI, 1501, .inl f17)), (h18, .inl (kI, 1501, .inl f18)), (h19, .inl (kI, 1501, .inl f19)), (h20, .inl (kI, 1501, .inl f20)), (h21, .inl (kI, 1501, .inl f21)), (h22, .inl (kZ, 1501, .inl f22))] sz) [(h3, .inr (1, [.ref h13, .ref h14, .ref h15, .ref h16, .ref h17, .ref h18, .ref h19, .ref h20, .ref h21, .ref h22, .int bn])), (h13, .inl (kJ, 1501, .inr (.inl f13))), (h14, .inl (kI, 1501, .inl f14')), (h15, .inl (kI, 1501, .inl f15')), (h16, .inl (kI, 1501, .inl f16)), (h17, .inl (kI, 1501, .inl f17)), (h18, .inl (kI, 1501, .inl f18)), (h19, .inl (kI, 1501, .inl f19)), (h20, .inl (kI, 1501, .inl f20)), (h21, .inl (kI, 1501, .inl f21)), (h22, .inl (kZ, 1501, .inl f22))] t) (va_A [(h3, .inr (1, [.ref h13, .ref h14, .ref h15, .ref h16, .ref h17, .ref h18, .ref h19, .ref h20, .ref h21, .ref h22, .int bn])), (h13, .inl (kJ, 1501, .inr (.inl f13))), (h14, .inl (kI, 1501, .inl f14)), (h15, .inl (kI, 1501, .inl f15)), (h16, .inl (kI, 1501, .inl f16)), (h17, .inl (kI, 1501, .inl f17)), (h18, .inl (kI, 1501, .inl f18)), (h19, .inl (kI, 1501, .inl f19)), (h20, .inl (kI, 1501, .inl f20)), (h21, .inl (kI, 1501, .inl f21)), (h22, .inl (kZ, 1501, .inl f22))] sz)) 0 0 (va_A [(h3, .inr (1, [.ref h13, .ref h14, .ref h15, .ref h16, .ref h17, .ref h18, .ref h19, .ref h20, .ref h21, .ref h22, .int bn])), (h13, .inl (kJ, 1501, .inr (.inl f13))), (h14, .inl (kI, 1501, .inl f14)), (h15, .inl (kI, 1501, .inl f15)), (h16, .inl (kI, 1501, .inl f16)), (h17, .inl (kI, 1501, .inl f17)), (h18, .inl (kI, 1501, .inl f18)), (h19, .inl (kI, 1501, .inl f19)), (h20, .inl (kI, 1501, .inl f20)), (h21, .inl (kI, 1501, .inl f21)), (h22, .inl (kZ, 1501, .inl f22))] sz) := by
  refine Met.ofW (cc := prog_7_method_10_code) (maxL := 4) (ret := none) (by decide +kernel) rfl ?_
  intro p e s m args below meth c s₁ B hml hv
  obtain ⟨rfl, hsz, hP, hK, hD0, hE⟩ := hv
  have hx := B.exec
  have hb := B.bytes
  have hr := B.returns
  have hts : ∀ w ∈ gT, w.before _ s = true := fun w h => atoms_spec (ws := Cond.code (⟨"AlgolJudge$Table", "specify", "(III)V"⟩ : MethodName) prog_7_method_10_code 4 (none) :: gT) B.pre w (List.mem_cons_of_mem _ h)
  have hown : s.vm.findClass "AlgolJudge$Table" = some m.cls := findClass_of_methodNamed B.named
  have hlocks := B.notSynchronized
  subst hsz
  have hD := hD0.self (sz := s.heap.size)
  generalize hAe : va_A [(h3, .inr (1, [.ref h13, .ref h14, .ref h15, .ref h16, .ref h17, .ref h18, .ref h19, .ref h20, .ref h21, .ref h22, .int bn])), (h13, .inl (kJ, 1501, .inr (.inl f13))), (h14, .inl (kI, 1501, .inl f14)), (h15, .inl (kI, 1501, .inl f15)), (h16, .inl (kI, 1501, .inl f16)), (h17, .inl (kI, 1501, .inl f17)), (h18, .inl (kI, 1501, .inl f18)), (h19, .inl (kI, 1501, .inl f19)), (h20, .inl (kI, 1501, .inl f20)), (h21, .inl (kI, 1501, .inl f21)), (h22, .inl (kZ, 1501, .inl f22))] s.heap.size = A at hD hE ⊢
  have hA : ∀ q : Nat, s.heap.size ≤ q → A q := fun q h => by rw [← hAe]; exact Or.inr h
  have hS : va_S A s.heap s.heap [] := va_S.rf
  have hP : va_P D cls9 [(h3, .inr (1, [.ref h13, .ref h14, .ref h15, .ref h16, .ref h17, .ref h18, .ref h19, .ref h20, .ref h21, .ref h22, .int bn])), (h13, .inl (kJ, 1501, .inr (.inl f13))), (h14, .inl (kI, 1501, .inl f14)), (h15, .inl (kI, 1501, .inl f15)), (h16, .inl (kI, 1501, .inl f16)), (h17, .inl (kI, 1501, .inl f17)), (h18, .inl (kI, 1501, .inl f18)), (h19, .inl (kI, 1501, .inl f19)), (h20, .inl (kI, 1501, .inl f20)), (h21, .inl (kI, 1501, .inl f21)), (h22, .inl (kZ, 1501, .inl f22))] s.heap := hP
  have hl := lv_entry ([.ref h3, .int p1, .int p2, .int p3]) (n := 4) (Nat.le_of_ble_eq_true rfl)
  rw [lg_entry_eq]
  generalize (lg_sl ([.ref h3, .int p1, .int p2, .int p3]) ++ List.replicate (4 - (lg_sl ([.ref h3, .int p1, .int p2, .int p3])).length) Slot.unset).toArray = ls at hl ⊢
  have hl : lv_has ls 4 [(0, .ref h3), (1, .int p1), (2, .int p2), (3, .int p3)] := hl
  refine lv_iload_n hx hb d_7_10_0 rfl (lv_at hl 1 rfl) ?_
  refine lv_if_lt (tgt := 26) hx hb d_7_10_1 (by decide +kernel) (fun c_1 => ?_) (fun c_1 => ?_)
  · skip
    have tc_1 : p1.toInt < 0 := Int32.lt_iff_toInt_lt.mp c_1
    have hP9 := hP.sub (ws' := [(h3, .inr (1, [.ref h13, .ref h14, .ref h15, .ref h16, .ref h17, .ref h18, .ref h19, .ref h20, .ref h21, .ref h22, .int bn])), (h13, .inl (kJ, 1501, .inr (.inl f13))), (h14, .inl (kI, 1501, .inl f14)), (h15, .inl (kI, 1501, .inl f15)), (h16, .inl (kI, 1501, .inl f16)), (h17, .inl (kI, 1501, .inl f17)), (h18, .inl (kI, 1501, .inl f18)), (h19, .inl (kI, 1501, .inl f19)), (h20, .inl (kI, 1501, .inl f20)), (h21, .inl (kI, 1501, .inl f21)), (h22, .inl (kZ, 1501, .inl f22))]) [0, 1, 2, 3, 4, 5, 6, 7, 8, 9, 10] rfl
    have hD9 := hD.sub (ws' := [(h3, .inr (1, [.ref h13, .ref h14, .ref h15, .ref h16, .ref h17, .ref h18, .ref h19, .ref h20, .ref h21, .ref h22, .int bn])), (h13, .inl (kJ, 1501, .inr (.inl f13))), (h14, .inl (kI, 1501, .inl f14)), (h15, .inl (kI, 1501, .inl f15)), (h16, .inl (kI, 1501, .inl f16)), (h17, .inl (kI, 1501, .inl f17)), (h18, .inl (kI, 1501, .inl f18)), (h19, .inl (kI, 1501, .inl f19)), (h20, .inl (kI, 1501, .inl f20)), (h21, .inl (kI, 1501, .inl f21)), (h22, .inl (kZ, 1501, .inl f22))]) [0, 1, 2, 3, 4, 5, 6, 7, 8, 9, 10] (by decide) rfl
    exact W.vret hx hb hr (fun t ht hW => ⟨⟨(), rfl, trivial, f14, f15, xEnd hK hP9 hD9 ht hW⟩, hS.F ht⟩) hS.2.2 d_7_10_26
  · skip
    have tc_1 : ¬ p1.toInt < 0 := fun h9 => c_1 (Int32.lt_iff_toInt_lt.mpr h9)
    refine lv_iload_n hx hb d_7_10_4 rfl (lv_at hl 1 rfl) ?_
    refine lv_aload_n hx hb d_7_10_5 rfl (lv_at hl 0 rfl) ?_
    refine va_get (D := D) (ci := 1) (v := .int bn) (C := "AlgolJudge$Table") (T := T_Table) (N := 11) hx hb hts i_Table hown hK hP 0 rfl rfl 10 (by decide +kernel) (hts _ m_254) (fun _ h9 => h9) rfl d_7_10_6 ?_
    refine lv_icmp_ge (tgt := 26) hx hb d_7_10_9 (by decide +kernel) (fun c_2 => ?_) (fun c_2 => ?_)
    · skip
      have tc_2 : bn.toInt ≤ p1.toInt := Int32.le_iff_toInt_le.mp c_2
      have hP9 := hP.sub (ws' := [(h3, .inr (1, [.ref h13, .ref h14, .ref h15, .ref h16, .ref h17, .ref h18, .ref h19, .ref h20, .ref h21, .ref h22, .int bn])), (h13, .inl (kJ, 1501, .inr (.inl f13))), (h14, .inl (kI, 1501, .inl f14)), (h15, .inl (kI, 1501, .inl f15)), (h16, .inl (kI, 1501, .inl f16)), (h17, .inl (kI, 1501, .inl f17)), (h18, .inl (kI, 1501, .inl f18)), (h19, .inl (kI, 1501, .inl f19)), (h20, .inl (kI, 1501, .inl f20)), (h21, .inl (kI, 1501, .inl f21)), (h22, .inl (kZ, 1501, .inl f22))]) [0, 1, 2, 3, 4, 5, 6, 7, 8, 9, 10] rfl
      have hD9 := hD.sub (ws' := [(h3, .inr (1, [.ref h13, .ref h14, .ref h15, .ref h16, .ref h17, .ref h18, .ref h19, .ref h20, .ref h21, .ref h22, .int bn])), (h13, .inl (kJ, 1501, .inr (.inl f13))), (h14, .inl (kI, 1501, .inl f14)), (h15, .inl (kI, 1501, .inl f15)), (h16, .inl (kI, 1501, .inl f16)), (h17, .inl (kI, 1501, .inl f17)), (h18, .inl (kI, 1501, .inl f18)), (h19, .inl (kI, 1501, .inl f19)), (h20, .inl (kI, 1501, .inl f20)), (h21, .inl (kI, 1501, .inl f21)), (h22, .inl (kZ, 1501, .inl f22))]) [0, 1, 2, 3, 4, 5, 6, 7, 8, 9, 10] (by decide) rfl
      exact W.vret hx hb hr (fun t ht hW => ⟨⟨(), rfl, trivial, f14, f15, xEnd hK hP9 hD9 ht hW⟩, hS.F ht⟩) hS.2.2 d_7_10_26
    · skip
      have tc_2 : ¬ bn.toInt ≤ p1.toInt := fun h9 => c_2 (Int32.le_iff_toInt_le.mpr h9)
      refine lv_aload_n hx hb d_7_10_12 rfl (lv_at hl 0 rfl) ?_
      refine va_get (D := D) (ci := 1) (v := .ref h14) (C := "AlgolJudge$Table") (T := T_Table) (N := 11) hx hb hts i_Table hown hK hP 0 rfl rfl 1 (by decide +kernel) (hts _ m_245) (fun _ h9 => h9) rfl d_7_10_13 ?_
      refine lv_iload_n hx hb d_7_10_16 rfl (lv_at hl 1 rfl) ?_
      refine lv_iload_n hx hb d_7_10_17 rfl (lv_at hl 2 rfl) ?_
      refine va_iast hx hb hK hP hD hS 2 0 rfl rfl (vp_in_iff.mpr ⟨by omega, by omega⟩) d_7_10_18 (fun H locs hP1 hD1 hS1 => ?_)
      replace hP : va_P D cls9 [(h3, .inr (1, [.ref h13, .ref h14, .ref h15, .ref h16, .ref h17, .ref h18, .ref h19, .ref h20, .ref h21, .ref h22, .int bn])), (h13, .inl (kJ, 1501, .inr (.inl f13))), (h14, .inl (kI, 1501, .inl (upd f14 (Int32.toNatClampNeg p1) p2))), (h15, .inl (kI, 1501, .inl f15)), (h16, .inl (kI, 1501, .inl f16)), (h17, .inl (kI, 1501, .inl f17)), (h18, .inl (kI, 1501, .inl f18)), (h19, .inl (kI, 1501, .inl f19)), (h20, .inl (kI, 1501, .inl f20)), (h21, .inl (kI, 1501, .inl f21)), (h22, .inl (kZ, 1501, .inl f22))] H := hP1
      replace hD : va_D A [(h3, .inr (1, [.ref h13, .ref h14, .ref h15, .ref h16, .ref h17, .ref h18, .ref h19, .ref h20, .ref h21, .ref h22, .int bn])), (h13, .inl (kJ, 1501, .inr (.inl f13))), (h14, .inl (kI, 1501, .inl (upd f14 (Int32.toNatClampNeg p1) p2))), (h15, .inl (kI, 1501, .inl f15)), (h16, .inl (kI, 1501, .inl f16)), (h17, .inl (kI, 1501, .inl f17)), (h18, .inl (kI, 1501, .inl f18)), (h19, .inl (kI, 1501, .inl f19)), (h20, .inl (kI, 1501, .inl f20)), (h21, .inl (kI, 1501, .inl f21)), (h22, .inl (kZ, 1501, .inl f22))] := hD1
      replace hS := hS1
      clear hP1 hD1 hS1
      refine lv_aload_n hx hb d_7_10_19 rfl (lv_at hl 0 rfl) ?_
      refine va_get (D := D) (ci := 1) (v := .ref h15) (C := "AlgolJudge$Table") (T := T_Table) (N := 11) hx hb hts i_Table hown hK hP 0 rfl rfl 2 (by decide +kernel) (hts _ m_246) (fun _ h9 => h9) rfl d_7_10_20 ?_
      refine lv_iload_n hx hb d_7_10_23 rfl (lv_at hl 1 rfl) ?_
      refine lv_iload_n hx hb d_7_10_24 rfl (lv_at hl 3 rfl) ?_
      refine va_iast hx hb hK hP hD hS 3 0 rfl rfl (vp_in_iff.mpr ⟨by omega, by omega⟩) d_7_10_25 (fun H locs hP1 hD1 hS1 => ?_)
      replace hP : va_P D cls9 [(h3, .inr (1, [.ref h13, .ref h14, .ref h15, .ref h16, .ref h17, .ref h18, .ref h19, .ref h20, .ref h21, .ref h22, .int bn])), (h13, .inl (kJ, 1501, .inr (.inl f13))), (h14, .inl (kI, 1501, .inl (upd f14 (Int32.toNatClampNeg p1) p2))), (h15, .inl (kI, 1501, .inl (upd f15 (Int32.toNatClampNeg p1) p3))), (h16, .inl (kI, 1501, .inl f16)), (h17, .inl (kI, 1501, .inl f17)), (h18, .inl (kI, 1501, .inl f18)), (h19, .inl (kI, 1501, .inl f19)), (h20, .inl (kI, 1501, .inl f20)), (h21, .inl (kI, 1501, .inl f21)), (h22, .inl (kZ, 1501, .inl f22))] H := hP1
      replace hD : va_D A [(h3, .inr (1, [.ref h13, .ref h14, .ref h15, .ref h16, .ref h17, .ref h18, .ref h19, .ref h20, .ref h21, .ref h22, .int bn])), (h13, .inl (kJ, 1501, .inr (.inl f13))), (h14, .inl (kI, 1501, .inl (upd f14 (Int32.toNatClampNeg p1) p2))), (h15, .inl (kI, 1501, .inl (upd f15 (Int32.toNatClampNeg p1) p3))), (h16, .inl (kI, 1501, .inl f16)), (h17, .inl (kI, 1501, .inl f17)), (h18, .inl (kI, 1501, .inl f18)), (h19, .inl (kI, 1501, .inl f19)), (h20, .inl (kI, 1501, .inl f20)), (h21, .inl (kI, 1501, .inl f21)), (h22, .inl (kZ, 1501, .inl f22))] := hD1
      replace hS := hS1
      clear hP1 hD1 hS1
      have hP9 := hP.sub (ws' := [(h3, .inr (1, [.ref h13, .ref h14, .ref h15, .ref h16, .ref h17, .ref h18, .ref h19, .ref h20, .ref h21, .ref h22, .int bn])), (h13, .inl (kJ, 1501, .inr (.inl f13))), (h14, .inl (kI, 1501, .inl (upd f14 (Int32.toNatClampNeg p1) p2))), (h15, .inl (kI, 1501, .inl (upd f15 (Int32.toNatClampNeg p1) p3))), (h16, .inl (kI, 1501, .inl f16)), (h17, .inl (kI, 1501, .inl f17)), (h18, .inl (kI, 1501, .inl f18)), (h19, .inl (kI, 1501, .inl f19)), (h20, .inl (kI, 1501, .inl f20)), (h21, .inl (kI, 1501, .inl f21)), (h22, .inl (kZ, 1501, .inl f22))]) [0, 1, 2, 3, 4, 5, 6, 7, 8, 9, 10] rfl
      have hD9 := hD.sub (ws' := [(h3, .inr (1, [.ref h13, .ref h14, .ref h15, .ref h16, .ref h17, .ref h18, .ref h19, .ref h20, .ref h21, .ref h22, .int bn])), (h13, .inl (kJ, 1501, .inr (.inl f13))), (h14, .inl (kI, 1501, .inl (upd f14 (Int32.toNatClampNeg p1) p2))), (h15, .inl (kI, 1501, .inl (upd f15 (Int32.toNatClampNeg p1) p3))), (h16, .inl (kI, 1501, .inl f16)), (h17, .inl (kI, 1501, .inl f17)), (h18, .inl (kI, 1501, .inl f18)), (h19, .inl (kI, 1501, .inl f19)), (h20, .inl (kI, 1501, .inl f20)), (h21, .inl (kI, 1501, .inl f21)), (h22, .inl (kZ, 1501, .inl f22))]) [0, 1, 2, 3, 4, 5, 6, 7, 8, 9, 10] (by decide) rfl
      exact W.vret hx hb hr (fun t ht hW => ⟨⟨(), rfl, trivial, (upd f14 (Int32.toNatClampNeg p1) p2), (upd f15 (Int32.toNatClampNeg p1) p3), xEnd hK hP9 hD9 ht hW⟩, hS.F ht⟩) hS.2.2 d_7_10_26
set_option maxHeartbeats 8000000 in
set_option maxRecDepth 100000 in
theorem g_Table_find (l : Launch) (D : va_G) (kI kJ kB kZ : ClassId) (sz : Nat) (h3 : Nat) (h13 : Nat) (h14 : Nat) (h15 : Nat) (h16 : Nat) (h17 : Nat) (h18 : Nat) (h19 : Nat) (h20 : Nat) (h21 : Nat) (h22 : Nat) (bn : Int32) (f13 : Nat → Int64) (f14 : Nat → Int32) (f15 : Nat → Int32) (f16 : Nat → Int32) (f17 : Nat → Int32) (f18 : Nat → Int32) (f19 : Nat → Int32) (f20 : Nat → Int32) (f21 : Nat → Int32) (f22 : Nat → Int32) (p1 : Int32) (p2 : Int64) (hf_B1 : 0 ≤ bn.toInt) (hf_B2 : bn.toInt ≤ 1501) : Met l (⟨"AlgolJudge$Table", "find", "(IJ)I"⟩ : MethodName) (Cond.code (⟨"AlgolJudge$Table", "find", "(IJ)I"⟩ : MethodName) prog_7_method_11_code 6 (some .int) :: gT) ({ frames := 0, cells := 0, slots := 0, locals := 0 }) (va_Pc [.ref h3, .int p1, .long p2] (xP D (xT kI kJ kB kZ) xN [(h3, .inr (1, [.ref h13, .ref h14, .ref h15, .ref h16, .ref h17, .ref h18, .ref h19, .ref h20, .ref h21, .ref h22, .int bn])), (h13, .inl (kJ, 1501, .inr (.inl f13))), (h14, .inl (kI, 1501, .inl f14)), (h15, .inl (kI, 1501, .inl f15)), (h16, .inl (kI, 1501, .inl f16)), (h17, .inl (kI, 1501, .inl f17)), (h18, .inl (kI, 1501, .inl f18)), (h19, .inl (kI, 1501, .inl f19)), (h20, .inl (kI, 1501, .inl f20)), (h21, .inl (kI, 1501, .inl f21)), (h22, .inl (kZ, 1501, .inl f22))] sz)) (va_Qi (fun (r : Int32) (_ : Unit) => True) (fun _ t => xQ D (xT kI kJ kB kZ) (va_A [(h3, .inr (1, [.ref h13, .ref h14, .ref h15, .ref h16, .ref h17, .ref h18, .ref h19, .ref h20, .ref h21, .ref h22, .int bn])), (h13, .inl (kJ, 1501, .inr (.inl f13))), (h14, .inl (kI, 1501, .inl f14)), (h15, .inl (kI, 1501, .inl f15)), (h16, .inl (kI, 1501, .inl f16)), (h17, .inl (kI, 1501, .inl f17)), (h18, .inl (kI, 1501, .inl f18)), (h19, .inl (kI, 1501, .inl f19)), (h20, .inl (kI, 1501, .inl f20)), (h21, .inl (kI, 1501, .inl f21)), (h22, .inl (kZ, 1501, .inl f22))] sz) [(h3, .inr (1, [.ref h13, .ref h14, .ref h15, .ref h16, .ref h17, .ref h18, .ref h19, .ref h20, .ref h21, .ref h22, .int bn])), (h13, .inl (kJ, 1501, .inr (.inl f13))), (h14, .inl (kI, 1501, .inl f14)), (h15, .inl (kI, 1501, .inl f15)), (h16, .inl (kI, 1501, .inl f16)), (h17, .inl (kI, 1501, .inl f17)), (h18, .inl (kI, 1501, .inl f18)), (h19, .inl (kI, 1501, .inl f19)), (h20, .inl (kI, 1501, .inl f20)), (h21, .inl (kI, 1501, .inl f21)), (h22, .inl (kZ, 1501, .inl f22))] t) (va_A [(h3, .inr (1, [.ref h13, .ref h14, .ref h15, .ref h16, .ref h17, .ref h18, .ref h19, .ref h20, .ref h21, .ref h22, .int bn])), (h13, .inl (kJ, 1501, .inr (.inl f13))), (h14, .inl (kI, 1501, .inl f14)), (h15, .inl (kI, 1501, .inl f15)), (h16, .inl (kI, 1501, .inl f16)), (h17, .inl (kI, 1501, .inl f17)), (h18, .inl (kI, 1501, .inl f18)), (h19, .inl (kI, 1501, .inl f19)), (h20, .inl (kI, 1501, .inl f20)), (h21, .inl (kI, 1501, .inl f21)), (h22, .inl (kZ, 1501, .inl f22))] sz)) 0 0 (va_A [(h3, .inr (1, [.ref h13, .ref h14, .ref h15, .ref h16, .ref h17, .ref h18, .ref h19, .ref h20, .ref h21, .ref h22, .int bn])), (h13, .inl (kJ, 1501, .inr (.inl f13))), (h14, .inl (kI, 1501, .inl f14)), (h15, .inl (kI, 1501, .inl f15)), (h16, .inl (kI, 1501, .inl f16)), (h17, .inl (kI, 1501, .inl f17)), (h18, .inl (kI, 1501, .inl f18)), (h19, .inl (kI, 1501, .inl f19)), (h20, .inl (kI, 1501, .inl f20)), (h21, .inl (kI, 1501, .inl f21)), (h22, .inl (kZ, 1501, .inl f22))] sz) := by
  refine Met.ofW (cc := prog_7_method_11_code) (maxL := 6) (ret := some .int) (by decide +kernel) rfl ?_
  intro p e s m args below meth c s₁ B hml hv
  obtain ⟨rfl, hsz, hP, hK, hD0, hE⟩ := hv
  have hx := B.exec
  have hb := B.bytes
  have hr := B.returns
  have hts : ∀ w ∈ gT, w.before _ s = true := fun w h => atoms_spec (ws := Cond.code (⟨"AlgolJudge$Table", "find", "(IJ)I"⟩ : MethodName) prog_7_method_11_code 6 (some .int) :: gT) B.pre w (List.mem_cons_of_mem _ h)
  have hown : s.vm.findClass "AlgolJudge$Table" = some m.cls := findClass_of_methodNamed B.named
  have hlocks := B.notSynchronized
  subst hsz
  have hD := hD0.self (sz := s.heap.size)
  generalize hAe : va_A [(h3, .inr (1, [.ref h13, .ref h14, .ref h15, .ref h16, .ref h17, .ref h18, .ref h19, .ref h20, .ref h21, .ref h22, .int bn])), (h13, .inl (kJ, 1501, .inr (.inl f13))), (h14, .inl (kI, 1501, .inl f14)), (h15, .inl (kI, 1501, .inl f15)), (h16, .inl (kI, 1501, .inl f16)), (h17, .inl (kI, 1501, .inl f17)), (h18, .inl (kI, 1501, .inl f18)), (h19, .inl (kI, 1501, .inl f19)), (h20, .inl (kI, 1501, .inl f20)), (h21, .inl (kI, 1501, .inl f21)), (h22, .inl (kZ, 1501, .inl f22))] s.heap.size = A at hD hE ⊢
  have hA : ∀ q : Nat, s.heap.size ≤ q → A q := fun q h => by rw [← hAe]; exact Or.inr h
  have hS : va_S A s.heap s.heap [] := va_S.rf
  have hP : va_P D cls9 [(h3, .inr (1, [.ref h13, .ref h14, .ref h15, .ref h16, .ref h17, .ref h18, .ref h19, .ref h20, .ref h21, .ref h22, .int bn])), (h13, .inl (kJ, 1501, .inr (.inl f13))), (h14, .inl (kI, 1501, .inl f14)), (h15, .inl (kI, 1501, .inl f15)), (h16, .inl (kI, 1501, .inl f16)), (h17, .inl (kI, 1501, .inl f17)), (h18, .inl (kI, 1501, .inl f18)), (h19, .inl (kI, 1501, .inl f19)), (h20, .inl (kI, 1501, .inl f20)), (h21, .inl (kI, 1501, .inl f21)), (h22, .inl (kZ, 1501, .inl f22))] s.heap := hP
  have hl := lv_entry ([.ref h3, .int p1, .long p2]) (n := 6) (Nat.le_of_ble_eq_true rfl)
  rw [lg_entry_eq]
  generalize (lg_sl ([.ref h3, .int p1, .long p2]) ++ List.replicate (6 - (lg_sl ([.ref h3, .int p1, .long p2])).length) Slot.unset).toArray = ls at hl ⊢
  have hl : lv_has ls 6 [(0, .ref h3), (1, .int p1), (2, .long p2)] := hl
  refine lv_iload_n hx hb d_7_11_0 rfl (lv_at hl 1 rfl) ?_
  refine lv_istore (lv' := [(4, .int p1), (0, .ref h3), (1, .int p1), (2, .long p2)]) hx hb d_7_11_1 hl (by decide +kernel) rfl (fun ls hl => ?_)
  refine lv_iconst (v := 0) hx hb d_7_11_3 (by decide +kernel) ?_
  refine lv_istore (lv' := [(5, .int 0), (4, .int p1), (0, .ref h3), (1, .int p1), (2, .long p2)]) hx hb d_7_11_4 hl (by decide +kernel) rfl (fun ls hl => ?_)
  refine xLoop (I := fun n H locs ls => ∃ v6_5 : Int32, ∃ v6_4 : Int32, (0 ≤ v6_5.toInt) ∧ (v6_5.toInt ≤ 1501) ∧ n = (1501 - v6_5.toInt).toNat ∧ va_P D cls9 [(h3, .inr (1, [.ref h13, .ref h14, .ref h15, .ref h16, .ref h17, .ref h18, .ref h19, .ref h20, .ref h21, .ref h22, .int bn])), (h13, .inl (kJ, 1501, .inr (.inl f13))), (h14, .inl (kI, 1501, .inl f14)), (h15, .inl (kI, 1501, .inl f15)), (h16, .inl (kI, 1501, .inl f16)), (h17, .inl (kI, 1501, .inl f17)), (h18, .inl (kI, 1501, .inl f18)), (h19, .inl (kI, 1501, .inl f19)), (h20, .inl (kI, 1501, .inl f20)), (h21, .inl (kI, 1501, .inl f21)), (h22, .inl (kZ, 1501, .inl f22))] H ∧ va_D A [(h3, .inr (1, [.ref h13, .ref h14, .ref h15, .ref h16, .ref h17, .ref h18, .ref h19, .ref h20, .ref h21, .ref h22, .int bn])), (h13, .inl (kJ, 1501, .inr (.inl f13))), (h14, .inl (kI, 1501, .inl f14)), (h15, .inl (kI, 1501, .inl f15)), (h16, .inl (kI, 1501, .inl f16)), (h17, .inl (kI, 1501, .inl f17)), (h18, .inl (kI, 1501, .inl f18)), (h19, .inl (kI, 1501, .inl f19)), (h20, .inl (kI, 1501, .inl f20)), (h21, .inl (kI, 1501, .inl f21)), (h22, .inl (kZ, 1501, .inl f22))] ∧ va_S A s.heap H locs ∧ lv_has ls 6 [(5, .int v6_5), (4, .int v6_4), (0, .ref h3), (1, .int p1), (2, .long p2)]) ?_ _ _ _ _ ⟨0, p1, (show 0 ≤ (0 : Int) from (by first | assumption | omega)), (show (0 : Int) ≤ 1501 from (by first | assumption | omega)), rfl, hP.sub (ws' := [(h3, .inr (1, [.ref h13, .ref h14, .ref h15, .ref h16, .ref h17, .ref h18, .ref h19, .ref h20, .ref h21, .ref h22, .int bn])), (h13, .inl (kJ, 1501, .inr (.inl f13))), (h14, .inl (kI, 1501, .inl f14)), (h15, .inl (kI, 1501, .inl f15)), (h16, .inl (kI, 1501, .inl f16)), (h17, .inl (kI, 1501, .inl f17)), (h18, .inl (kI, 1501, .inl f18)), (h19, .inl (kI, 1501, .inl f19)), (h20, .inl (kI, 1501, .inl f20)), (h21, .inl (kI, 1501, .inl f21)), (h22, .inl (kZ, 1501, .inl f22))]) [0, 1, 2, 3, 4, 5, 6, 7, 8, 9, 10] rfl, hD.sub (ws' := [(h3, .inr (1, [.ref h13, .ref h14, .ref h15, .ref h16, .ref h17, .ref h18, .ref h19, .ref h20, .ref h21, .ref h22, .int bn])), (h13, .inl (kJ, 1501, .inr (.inl f13))), (h14, .inl (kI, 1501, .inl f14)), (h15, .inl (kI, 1501, .inl f15)), (h16, .inl (kI, 1501, .inl f16)), (h17, .inl (kI, 1501, .inl f17)), (h18, .inl (kI, 1501, .inl f18)), (h19, .inl (kI, 1501, .inl f19)), (h20, .inl (kI, 1501, .inl f20)), (h21, .inl (kI, 1501, .inl f21)), (h22, .inl (kZ, 1501, .inl f22))]) [0, 1, 2, 3, 4, 5, 6, 7, 8, 9, 10] (by decide) rfl, hS, lv_sub hl [0, 1, 2, 3, 4] rfl⟩
  intro n_3 H locs ls hI9 ih_4
  revert hI9
  refine exI fun v6_5 => exI fun v6_4 => anI fun hl_1 => anI fun hl_2 => anI fun hn_3 => anI fun hP => anI fun hD => anI fun hS => fun hl => ?_
  refine lv_iload hx hb d_7_11_6 (lv_at hl 0 rfl) ?_
  refine lv_sipush (v := 1501) hx hb d_7_11_8 (by decide +kernel) ?_
  refine lv_icmp_ge (tgt := 58) hx hb d_7_11_11 (by decide +kernel) (fun c_5 => ?_) (fun c_5 => ?_)
  · skip
    have tc_5 : 1501 ≤ v6_5.toInt := Int32.le_iff_toInt_le.mp c_5
    refine lv_iconst (v := (-1)) hx hb d_7_11_58 (by decide +kernel) ?_
    have hP9 := hP.sub (ws' := [(h3, .inr (1, [.ref h13, .ref h14, .ref h15, .ref h16, .ref h17, .ref h18, .ref h19, .ref h20, .ref h21, .ref h22, .int bn])), (h13, .inl (kJ, 1501, .inr (.inl f13))), (h14, .inl (kI, 1501, .inl f14)), (h15, .inl (kI, 1501, .inl f15)), (h16, .inl (kI, 1501, .inl f16)), (h17, .inl (kI, 1501, .inl f17)), (h18, .inl (kI, 1501, .inl f18)), (h19, .inl (kI, 1501, .inl f19)), (h20, .inl (kI, 1501, .inl f20)), (h21, .inl (kI, 1501, .inl f21)), (h22, .inl (kZ, 1501, .inl f22))]) [0, 1, 2, 3, 4, 5, 6, 7, 8, 9, 10] rfl
    have hD9 := hD.sub (ws' := [(h3, .inr (1, [.ref h13, .ref h14, .ref h15, .ref h16, .ref h17, .ref h18, .ref h19, .ref h20, .ref h21, .ref h22, .int bn])), (h13, .inl (kJ, 1501, .inr (.inl f13))), (h14, .inl (kI, 1501, .inl f14)), (h15, .inl (kI, 1501, .inl f15)), (h16, .inl (kI, 1501, .inl f16)), (h17, .inl (kI, 1501, .inl f17)), (h18, .inl (kI, 1501, .inl f18)), (h19, .inl (kI, 1501, .inl f19)), (h20, .inl (kI, 1501, .inl f20)), (h21, .inl (kI, 1501, .inl f21)), (h22, .inl (kZ, 1501, .inl f22))]) [0, 1, 2, 3, 4, 5, 6, 7, 8, 9, 10] (by decide) rfl
    exact W.iret (v := (-1)) hx hb hr (fun t ht hW => ⟨⟨(-1), (), rfl, trivial, xEnd hK hP9 hD9 ht hW⟩, hS.F ht⟩) hS.2.2 d_7_11_59
  · skip
    have tc_5 : ¬ 1501 ≤ v6_5.toInt := fun h9 => c_5 (Int32.le_iff_toInt_le.mpr h9)
    refine lv_iload hx hb d_7_11_14 (lv_at hl 1 rfl) ?_
    refine lv_if_lt (tgt := 58) hx hb d_7_11_16 (by decide +kernel) (fun c_6 => ?_) (fun c_6 => ?_)
    · skip
      have tc_6 : v6_4.toInt < 0 := Int32.lt_iff_toInt_lt.mp c_6
      refine lv_iconst (v := (-1)) hx hb d_7_11_58 (by decide +kernel) ?_
      have hP9 := hP.sub (ws' := [(h3, .inr (1, [.ref h13, .ref h14, .ref h15, .ref h16, .ref h17, .ref h18, .ref h19, .ref h20, .ref h21, .ref h22, .int bn])), (h13, .inl (kJ, 1501, .inr (.inl f13))), (h14, .inl (kI, 1501, .inl f14)), (h15, .inl (kI, 1501, .inl f15)), (h16, .inl (kI, 1501, .inl f16)), (h17, .inl (kI, 1501, .inl f17)), (h18, .inl (kI, 1501, .inl f18)), (h19, .inl (kI, 1501, .inl f19)), (h20, .inl (kI, 1501, .inl f20)), (h21, .inl (kI, 1501, .inl f21)), (h22, .inl (kZ, 1501, .inl f22))]) [0, 1, 2, 3, 4, 5, 6, 7, 8, 9, 10] rfl
      have hD9 := hD.sub (ws' := [(h3, .inr (1, [.ref h13, .ref h14, .ref h15, .ref h16, .ref h17, .ref h18, .ref h19, .ref h20, .ref h21, .ref h22, .int bn])), (h13, .inl (kJ, 1501, .inr (.inl f13))), (h14, .inl (kI, 1501, .inl f14)), (h15, .inl (kI, 1501, .inl f15)), (h16, .inl (kI, 1501, .inl f16)), (h17, .inl (kI, 1501, .inl f17)), (h18, .inl (kI, 1501, .inl f18)), (h19, .inl (kI, 1501, .inl f19)), (h20, .inl (kI, 1501, .inl f20)), (h21, .inl (kI, 1501, .inl f21)), (h22, .inl (kZ, 1501, .inl f22))]) [0, 1, 2, 3, 4, 5, 6, 7, 8, 9, 10] (by decide) rfl
      exact W.iret (v := (-1)) hx hb hr (fun t ht hW => ⟨⟨(-1), (), rfl, trivial, xEnd hK hP9 hD9 ht hW⟩, hS.F ht⟩) hS.2.2 d_7_11_59
    · skip
      have tc_6 : ¬ v6_4.toInt < 0 := fun h9 => c_6 (Int32.lt_iff_toInt_lt.mpr h9)
      refine lv_iload hx hb d_7_11_19 (lv_at hl 1 rfl) ?_
      refine lv_aload_n hx hb d_7_11_21 rfl (lv_at hl 2 rfl) ?_
      refine va_get (D := D) (ci := 1) (v := .int bn) (C := "AlgolJudge$Table") (T := T_Table) (N := 11) hx hb hts i_Table hown hK hP 0 rfl rfl 10 (by decide +kernel) (hts _ m_254) (fun _ h9 => h9) rfl d_7_11_22 ?_
      refine lv_icmp_ge (tgt := 58) hx hb d_7_11_25 (by decide +kernel) (fun c_7 => ?_) (fun c_7 => ?_)
      · skip
        have tc_7 : bn.toInt ≤ v6_4.toInt := Int32.le_iff_toInt_le.mp c_7
        refine lv_iconst (v := (-1)) hx hb d_7_11_58 (by decide +kernel) ?_
        have hP9 := hP.sub (ws' := [(h3, .inr (1, [.ref h13, .ref h14, .ref h15, .ref h16, .ref h17, .ref h18, .ref h19, .ref h20, .ref h21, .ref h22, .int bn])), (h13, .inl (kJ, 1501, .inr (.inl f13))), (h14, .inl (kI, 1501, .inl f14)), (h15, .inl (kI, 1501, .inl f15)), (h16, .inl (kI, 1501, .inl f16)), (h17, .inl (kI, 1501, .inl f17)), (h18, .inl (kI, 1501, .inl f18)), (h19, .inl (kI, 1501, .inl f19)), (h20, .inl (kI, 1501, .inl f20)), (h21, .inl (kI, 1501, .inl f21)), (h22, .inl (kZ, 1501, .inl f22))]) [0, 1, 2, 3, 4, 5, 6, 7, 8, 9, 10] rfl
        have hD9 := hD.sub (ws' := [(h3, .inr (1, [.ref h13, .ref h14, .ref h15, .ref h16, .ref h17, .ref h18, .ref h19, .ref h20, .ref h21, .ref h22, .int bn])), (h13, .inl (kJ, 1501, .inr (.inl f13))), (h14, .inl (kI, 1501, .inl f14)), (h15, .inl (kI, 1501, .inl f15)), (h16, .inl (kI, 1501, .inl f16)), (h17, .inl (kI, 1501, .inl f17)), (h18, .inl (kI, 1501, .inl f18)), (h19, .inl (kI, 1501, .inl f19)), (h20, .inl (kI, 1501, .inl f20)), (h21, .inl (kI, 1501, .inl f21)), (h22, .inl (kZ, 1501, .inl f22))]) [0, 1, 2, 3, 4, 5, 6, 7, 8, 9, 10] (by decide) rfl
        exact W.iret (v := (-1)) hx hb hr (fun t ht hW => ⟨⟨(-1), (), rfl, trivial, xEnd hK hP9 hD9 ht hW⟩, hS.F ht⟩) hS.2.2 d_7_11_59
      · skip
        have tc_7 : ¬ bn.toInt ≤ v6_4.toInt := fun h9 => c_7 (Int32.le_iff_toInt_le.mpr h9)
        refine lv_aload_n hx hb d_7_11_28 rfl (lv_at hl 2 rfl) ?_
        refine va_get (D := D) (ci := 1) (v := .ref h13) (C := "AlgolJudge$Table") (T := T_Table) (N := 11) hx hb hts i_Table hown hK hP 0 rfl rfl 0 (by decide +kernel) (hts _ m_244) (fun _ h9 => h9) rfl d_7_11_29 ?_
        refine lv_iload hx hb d_7_11_32 (lv_at hl 1 rfl) ?_
        refine va_lald hx hb hK hP 1 1 rfl rfl (vp_in_iff.mpr ⟨by omega, by omega⟩) d_7_11_34 ?_
        refine lv_topl (fun z_8 ez_8 => ?_)
        refine lv_lload_n hx hb d_7_11_35 rfl (lv_at hl 4 rfl) ?_
        refine W.lcmp hx hb d_7_11_36 ?_
        refine lv_if_ne (tgt := 43) hx hb d_7_11_37 (by decide +kernel) (fun c_9 => ?_) (fun c_9 => ?_)
        · skip
          have tc_9 : ¬ (lg_cmp z_8 p2).toInt = 0 := fun h9 => c_9 (Int32.toInt_inj.mp h9)
          refine lv_aload_n hx hb d_7_11_43 rfl (lv_at hl 2 rfl) ?_
          refine va_get (D := D) (ci := 1) (v := .ref h19) (C := "AlgolJudge$Table") (T := T_Table) (N := 11) hx hb hts i_Table hown hK hP 0 rfl rfl 6 (by decide +kernel) (hts _ m_250) (fun _ h9 => h9) rfl d_7_11_44 ?_
          refine lv_iload hx hb d_7_11_47 (lv_at hl 1 rfl) ?_
          refine va_iald hx hb hK hP 7 0 rfl rfl (vp_in_iff.mpr ⟨by omega, by omega⟩) d_7_11_49 ?_
          refine lv_topi (fun z_10 ez_10 => ?_)
          refine lv_istore (lv' := [(4, .int z_10), (5, .int v6_5), (0, .ref h3), (1, .int p1), (2, .long p2)]) hx hb d_7_11_50 hl (by decide +kernel) rfl (fun ls hl => ?_)
          obtain ⟨y_11, ey_11⟩ : ∃ y : Int32, y = v6_5 + 1 := ⟨_, rfl⟩
          have ty_11 : y_11.toInt = v6_5.toInt + 1 := by rw [ey_11]; exact zaddc (by decide +kernel) (by omega) (by omega)
          refine lv_iinc (v := y_11) (lv' := [(5, .int y_11), (4, .int z_10), (0, .ref h3), (1, .int p1), (2, .long p2)]) hx hb d_7_11_52 hl (k := 1) rfl (by rw [ey_11]; rfl) (by decide +kernel) rfl (fun ls hl => ?_)
          refine lv_goto (tgt := 6) hx hb d_7_11_55 (by decide +kernel) ?_
          exact ih_4 _ _ _ _ (by omega) ⟨y_11, z_10, (show 0 ≤ y_11.toInt from (by first | assumption | omega)), (show y_11.toInt ≤ 1501 from (by first | assumption | omega)), rfl, hP.sub (ws' := [(h3, .inr (1, [.ref h13, .ref h14, .ref h15, .ref h16, .ref h17, .ref h18, .ref h19, .ref h20, .ref h21, .ref h22, .int bn])), (h13, .inl (kJ, 1501, .inr (.inl f13))), (h14, .inl (kI, 1501, .inl f14)), (h15, .inl (kI, 1501, .inl f15)), (h16, .inl (kI, 1501, .inl f16)), (h17, .inl (kI, 1501, .inl f17)), (h18, .inl (kI, 1501, .inl f18)), (h19, .inl (kI, 1501, .inl f19)), (h20, .inl (kI, 1501, .inl f20)), (h21, .inl (kI, 1501, .inl f21)), (h22, .inl (kZ, 1501, .inl f22))]) [0, 1, 2, 3, 4, 5, 6, 7, 8, 9, 10] rfl, hD.sub (ws' := [(h3, .inr (1, [.ref h13, .ref h14, .ref h15, .ref h16, .ref h17, .ref h18, .ref h19, .ref h20, .ref h21, .ref h22, .int bn])), (h13, .inl (kJ, 1501, .inr (.inl f13))), (h14, .inl (kI, 1501, .inl f14)), (h15, .inl (kI, 1501, .inl f15)), (h16, .inl (kI, 1501, .inl f16)), (h17, .inl (kI, 1501, .inl f17)), (h18, .inl (kI, 1501, .inl f18)), (h19, .inl (kI, 1501, .inl f19)), (h20, .inl (kI, 1501, .inl f20)), (h21, .inl (kI, 1501, .inl f21)), (h22, .inl (kZ, 1501, .inl f22))]) [0, 1, 2, 3, 4, 5, 6, 7, 8, 9, 10] (by decide) rfl, hS, lv_sub hl [0, 1, 2, 3, 4] rfl⟩
        · skip
          have tc_9 : (lg_cmp z_8 p2).toInt = 0 := congrArg Int32.toInt c_9
          refine lv_iload hx hb d_7_11_40 (lv_at hl 1 rfl) ?_
          have hP9 := hP.sub (ws' := [(h3, .inr (1, [.ref h13, .ref h14, .ref h15, .ref h16, .ref h17, .ref h18, .ref h19, .ref h20, .ref h21, .ref h22, .int bn])), (h13, .inl (kJ, 1501, .inr (.inl f13))), (h14, .inl (kI, 1501, .inl f14)), (h15, .inl (kI, 1501, .inl f15)), (h16, .inl (kI, 1501, .inl f16)), (h17, .inl (kI, 1501, .inl f17)), (h18, .inl (kI, 1501, .inl f18)), (h19, .inl (kI, 1501, .inl f19)), (h20, .inl (kI, 1501, .inl f20)), (h21, .inl (kI, 1501, .inl f21)), (h22, .inl (kZ, 1501, .inl f22))]) [0, 1, 2, 3, 4, 5, 6, 7, 8, 9, 10] rfl
          have hD9 := hD.sub (ws' := [(h3, .inr (1, [.ref h13, .ref h14, .ref h15, .ref h16, .ref h17, .ref h18, .ref h19, .ref h20, .ref h21, .ref h22, .int bn])), (h13, .inl (kJ, 1501, .inr (.inl f13))), (h14, .inl (kI, 1501, .inl f14)), (h15, .inl (kI, 1501, .inl f15)), (h16, .inl (kI, 1501, .inl f16)), (h17, .inl (kI, 1501, .inl f17)), (h18, .inl (kI, 1501, .inl f18)), (h19, .inl (kI, 1501, .inl f19)), (h20, .inl (kI, 1501, .inl f20)), (h21, .inl (kI, 1501, .inl f21)), (h22, .inl (kZ, 1501, .inl f22))]) [0, 1, 2, 3, 4, 5, 6, 7, 8, 9, 10] (by decide) rfl
          exact W.iret (v := v6_4) hx hb hr (fun t ht hW => ⟨⟨v6_4, (), rfl, trivial, xEnd hK hP9 hD9 ht hW⟩, hS.F ht⟩) hS.2.2 d_7_11_42
set_option maxHeartbeats 8000000 in
set_option maxRecDepth 100000 in
theorem g_Table_kind (l : Launch) (D : va_G) (kI kJ kB kZ : ClassId) (sz : Nat) (h3 : Nat) (h13 : Nat) (h14 : Nat) (h15 : Nat) (h16 : Nat) (h17 : Nat) (h18 : Nat) (h19 : Nat) (h20 : Nat) (h21 : Nat) (h22 : Nat) (bn : Int32) (f13 : Nat → Int64) (f14 : Nat → Int32) (f15 : Nat → Int32) (f16 : Nat → Int32) (f17 : Nat → Int32) (f18 : Nat → Int32) (f19 : Nat → Int32) (f20 : Nat → Int32) (f21 : Nat → Int32) (f22 : Nat → Int32) (p1 : Int32) (hf_B1 : 0 ≤ bn.toInt) (hf_B2 : bn.toInt ≤ 1501) : Met l (⟨"AlgolJudge$Table", "kind", "(I)I"⟩ : MethodName) (Cond.code (⟨"AlgolJudge$Table", "kind", "(I)I"⟩ : MethodName) prog_7_method_12_code 2 (some .int) :: gT) ({ frames := 0, cells := 0, slots := 0, locals := 0 }) (va_Pc [.ref h3, .int p1] (xP D (xT kI kJ kB kZ) xN [(h3, .inr (1, [.ref h13, .ref h14, .ref h15, .ref h16, .ref h17, .ref h18, .ref h19, .ref h20, .ref h21, .ref h22, .int bn])), (h13, .inl (kJ, 1501, .inr (.inl f13))), (h14, .inl (kI, 1501, .inl f14)), (h15, .inl (kI, 1501, .inl f15)), (h16, .inl (kI, 1501, .inl f16)), (h17, .inl (kI, 1501, .inl f17)), (h18, .inl (kI, 1501, .inl f18)), (h19, .inl (kI, 1501, .inl f19)), (h20, .inl (kI, 1501, .inl f20)), (h21, .inl (kI, 1501, .inl f21)), (h22, .inl (kZ, 1501, .inl f22))] sz)) (va_Qi (fun (r : Int32) (_ : Unit) => True) (fun _ t => xQ D (xT kI kJ kB kZ) (va_A [(h3, .inr (1, [.ref h13, .ref h14, .ref h15, .ref h16, .ref h17, .ref h18, .ref h19, .ref h20, .ref h21, .ref h22, .int bn])), (h13, .inl (kJ, 1501, .inr (.inl f13))), (h14, .inl (kI, 1501, .inl f14)), (h15, .inl (kI, 1501, .inl f15)), (h16, .inl (kI, 1501, .inl f16)), (h17, .inl (kI, 1501, .inl f17)), (h18, .inl (kI, 1501, .inl f18)), (h19, .inl (kI, 1501, .inl f19)), (h20, .inl (kI, 1501, .inl f20)), (h21, .inl (kI, 1501, .inl f21)), (h22, .inl (kZ, 1501, .inl f22))] sz) [(h3, .inr (1, [.ref h13, .ref h14, .ref h15, .ref h16, .ref h17, .ref h18, .ref h19, .ref h20, .ref h21, .ref h22, .int bn])), (h13, .inl (kJ, 1501, .inr (.inl f13))), (h14, .inl (kI, 1501, .inl f14)), (h15, .inl (kI, 1501, .inl f15)), (h16, .inl (kI, 1501, .inl f16)), (h17, .inl (kI, 1501, .inl f17)), (h18, .inl (kI, 1501, .inl f18)), (h19, .inl (kI, 1501, .inl f19)), (h20, .inl (kI, 1501, .inl f20)), (h21, .inl (kI, 1501, .inl f21)), (h22, .inl (kZ, 1501, .inl f22))] t) (va_A [(h3, .inr (1, [.ref h13, .ref h14, .ref h15, .ref h16, .ref h17, .ref h18, .ref h19, .ref h20, .ref h21, .ref h22, .int bn])), (h13, .inl (kJ, 1501, .inr (.inl f13))), (h14, .inl (kI, 1501, .inl f14)), (h15, .inl (kI, 1501, .inl f15)), (h16, .inl (kI, 1501, .inl f16)), (h17, .inl (kI, 1501, .inl f17)), (h18, .inl (kI, 1501, .inl f18)), (h19, .inl (kI, 1501, .inl f19)), (h20, .inl (kI, 1501, .inl f20)), (h21, .inl (kI, 1501, .inl f21)), (h22, .inl (kZ, 1501, .inl f22))] sz)) 0 0 (va_A [(h3, .inr (1, [.ref h13, .ref h14, .ref h15, .ref h16, .ref h17, .ref h18, .ref h19, .ref h20, .ref h21, .ref h22, .int bn])), (h13, .inl (kJ, 1501, .inr (.inl f13))), (h14, .inl (kI, 1501, .inl f14)), (h15, .inl (kI, 1501, .inl f15)), (h16, .inl (kI, 1501, .inl f16)), (h17, .inl (kI, 1501, .inl f17)), (h18, .inl (kI, 1501, .inl f18)), (h19, .inl (kI, 1501, .inl f19)), (h20, .inl (kI, 1501, .inl f20)), (h21, .inl (kI, 1501, .inl f21)), (h22, .inl (kZ, 1501, .inl f22))] sz) := by
  refine Met.ofW (cc := prog_7_method_12_code) (maxL := 2) (ret := some .int) (by decide +kernel) rfl ?_
  intro p e s m args below meth c s₁ B hml hv
  obtain ⟨rfl, hsz, hP, hK, hD0, hE⟩ := hv
  have hx := B.exec
  have hb := B.bytes
  have hr := B.returns
  have hts : ∀ w ∈ gT, w.before _ s = true := fun w h => atoms_spec (ws := Cond.code (⟨"AlgolJudge$Table", "kind", "(I)I"⟩ : MethodName) prog_7_method_12_code 2 (some .int) :: gT) B.pre w (List.mem_cons_of_mem _ h)
  have hown : s.vm.findClass "AlgolJudge$Table" = some m.cls := findClass_of_methodNamed B.named
  have hlocks := B.notSynchronized
  subst hsz
  have hD := hD0.self (sz := s.heap.size)
  generalize hAe : va_A [(h3, .inr (1, [.ref h13, .ref h14, .ref h15, .ref h16, .ref h17, .ref h18, .ref h19, .ref h20, .ref h21, .ref h22, .int bn])), (h13, .inl (kJ, 1501, .inr (.inl f13))), (h14, .inl (kI, 1501, .inl f14)), (h15, .inl (kI, 1501, .inl f15)), (h16, .inl (kI, 1501, .inl f16)), (h17, .inl (kI, 1501, .inl f17)), (h18, .inl (kI, 1501, .inl f18)), (h19, .inl (kI, 1501, .inl f19)), (h20, .inl (kI, 1501, .inl f20)), (h21, .inl (kI, 1501, .inl f21)), (h22, .inl (kZ, 1501, .inl f22))] s.heap.size = A at hD hE ⊢
  have hA : ∀ q : Nat, s.heap.size ≤ q → A q := fun q h => by rw [← hAe]; exact Or.inr h
  have hS : va_S A s.heap s.heap [] := va_S.rf
  have hP : va_P D cls9 [(h3, .inr (1, [.ref h13, .ref h14, .ref h15, .ref h16, .ref h17, .ref h18, .ref h19, .ref h20, .ref h21, .ref h22, .int bn])), (h13, .inl (kJ, 1501, .inr (.inl f13))), (h14, .inl (kI, 1501, .inl f14)), (h15, .inl (kI, 1501, .inl f15)), (h16, .inl (kI, 1501, .inl f16)), (h17, .inl (kI, 1501, .inl f17)), (h18, .inl (kI, 1501, .inl f18)), (h19, .inl (kI, 1501, .inl f19)), (h20, .inl (kI, 1501, .inl f20)), (h21, .inl (kI, 1501, .inl f21)), (h22, .inl (kZ, 1501, .inl f22))] s.heap := hP
  have hl := lv_entry ([.ref h3, .int p1]) (n := 2) (Nat.le_of_ble_eq_true rfl)
  rw [lg_entry_eq]
  generalize (lg_sl ([.ref h3, .int p1]) ++ List.replicate (2 - (lg_sl ([.ref h3, .int p1])).length) Slot.unset).toArray = ls at hl ⊢
  have hl : lv_has ls 2 [(0, .ref h3), (1, .int p1)] := hl
  refine lv_iload_n hx hb d_7_12_0 rfl (lv_at hl 1 rfl) ?_
  refine lv_if_lt (tgt := 21) hx hb d_7_12_1 (by decide +kernel) (fun c_1 => ?_) (fun c_1 => ?_)
  · skip
    have tc_1 : p1.toInt < 0 := Int32.lt_iff_toInt_lt.mp c_1
    refine lv_iconst (v := 0) hx hb d_7_12_21 (by decide +kernel) ?_
    have hP9 := hP.sub (ws' := [(h3, .inr (1, [.ref h13, .ref h14, .ref h15, .ref h16, .ref h17, .ref h18, .ref h19, .ref h20, .ref h21, .ref h22, .int bn])), (h13, .inl (kJ, 1501, .inr (.inl f13))), (h14, .inl (kI, 1501, .inl f14)), (h15, .inl (kI, 1501, .inl f15)), (h16, .inl (kI, 1501, .inl f16)), (h17, .inl (kI, 1501, .inl f17)), (h18, .inl (kI, 1501, .inl f18)), (h19, .inl (kI, 1501, .inl f19)), (h20, .inl (kI, 1501, .inl f20)), (h21, .inl (kI, 1501, .inl f21)), (h22, .inl (kZ, 1501, .inl f22))]) [0, 1, 2, 3, 4, 5, 6, 7, 8, 9, 10] rfl
    have hD9 := hD.sub (ws' := [(h3, .inr (1, [.ref h13, .ref h14, .ref h15, .ref h16, .ref h17, .ref h18, .ref h19, .ref h20, .ref h21, .ref h22, .int bn])), (h13, .inl (kJ, 1501, .inr (.inl f13))), (h14, .inl (kI, 1501, .inl f14)), (h15, .inl (kI, 1501, .inl f15)), (h16, .inl (kI, 1501, .inl f16)), (h17, .inl (kI, 1501, .inl f17)), (h18, .inl (kI, 1501, .inl f18)), (h19, .inl (kI, 1501, .inl f19)), (h20, .inl (kI, 1501, .inl f20)), (h21, .inl (kI, 1501, .inl f21)), (h22, .inl (kZ, 1501, .inl f22))]) [0, 1, 2, 3, 4, 5, 6, 7, 8, 9, 10] (by decide) rfl
    exact W.iret (v := 0) hx hb hr (fun t ht hW => ⟨⟨0, (), rfl, trivial, xEnd hK hP9 hD9 ht hW⟩, hS.F ht⟩) hS.2.2 d_7_12_22
  · skip
    have tc_1 : ¬ p1.toInt < 0 := fun h9 => c_1 (Int32.lt_iff_toInt_lt.mpr h9)
    refine lv_iload_n hx hb d_7_12_4 rfl (lv_at hl 1 rfl) ?_
    refine lv_aload_n hx hb d_7_12_5 rfl (lv_at hl 0 rfl) ?_
    refine va_get (D := D) (ci := 1) (v := .int bn) (C := "AlgolJudge$Table") (T := T_Table) (N := 11) hx hb hts i_Table hown hK hP 0 rfl rfl 10 (by decide +kernel) (hts _ m_254) (fun _ h9 => h9) rfl d_7_12_6 ?_
    refine lv_icmp_ge (tgt := 21) hx hb d_7_12_9 (by decide +kernel) (fun c_2 => ?_) (fun c_2 => ?_)
    · skip
      have tc_2 : bn.toInt ≤ p1.toInt := Int32.le_iff_toInt_le.mp c_2
      refine lv_iconst (v := 0) hx hb d_7_12_21 (by decide +kernel) ?_
      have hP9 := hP.sub (ws' := [(h3, .inr (1, [.ref h13, .ref h14, .ref h15, .ref h16, .ref h17, .ref h18, .ref h19, .ref h20, .ref h21, .ref h22, .int bn])), (h13, .inl (kJ, 1501, .inr (.inl f13))), (h14, .inl (kI, 1501, .inl f14)), (h15, .inl (kI, 1501, .inl f15)), (h16, .inl (kI, 1501, .inl f16)), (h17, .inl (kI, 1501, .inl f17)), (h18, .inl (kI, 1501, .inl f18)), (h19, .inl (kI, 1501, .inl f19)), (h20, .inl (kI, 1501, .inl f20)), (h21, .inl (kI, 1501, .inl f21)), (h22, .inl (kZ, 1501, .inl f22))]) [0, 1, 2, 3, 4, 5, 6, 7, 8, 9, 10] rfl
      have hD9 := hD.sub (ws' := [(h3, .inr (1, [.ref h13, .ref h14, .ref h15, .ref h16, .ref h17, .ref h18, .ref h19, .ref h20, .ref h21, .ref h22, .int bn])), (h13, .inl (kJ, 1501, .inr (.inl f13))), (h14, .inl (kI, 1501, .inl f14)), (h15, .inl (kI, 1501, .inl f15)), (h16, .inl (kI, 1501, .inl f16)), (h17, .inl (kI, 1501, .inl f17)), (h18, .inl (kI, 1501, .inl f18)), (h19, .inl (kI, 1501, .inl f19)), (h20, .inl (kI, 1501, .inl f20)), (h21, .inl (kI, 1501, .inl f21)), (h22, .inl (kZ, 1501, .inl f22))]) [0, 1, 2, 3, 4, 5, 6, 7, 8, 9, 10] (by decide) rfl
      exact W.iret (v := 0) hx hb hr (fun t ht hW => ⟨⟨0, (), rfl, trivial, xEnd hK hP9 hD9 ht hW⟩, hS.F ht⟩) hS.2.2 d_7_12_22
    · skip
      have tc_2 : ¬ bn.toInt ≤ p1.toInt := fun h9 => c_2 (Int32.le_iff_toInt_le.mpr h9)
      refine lv_aload_n hx hb d_7_12_12 rfl (lv_at hl 0 rfl) ?_
      refine va_get (D := D) (ci := 1) (v := .ref h14) (C := "AlgolJudge$Table") (T := T_Table) (N := 11) hx hb hts i_Table hown hK hP 0 rfl rfl 1 (by decide +kernel) (hts _ m_245) (fun _ h9 => h9) rfl d_7_12_13 ?_
      refine lv_iload_n hx hb d_7_12_16 rfl (lv_at hl 1 rfl) ?_
      refine va_iald hx hb hK hP 2 0 rfl rfl (vp_in_iff.mpr ⟨by omega, by omega⟩) d_7_12_17 ?_
      refine lv_topi (fun z_3 ez_3 => ?_)
      refine lv_goto (tgt := 22) hx hb d_7_12_18 (by decide +kernel) ?_
      have hP9 := hP.sub (ws' := [(h3, .inr (1, [.ref h13, .ref h14, .ref h15, .ref h16, .ref h17, .ref h18, .ref h19, .ref h20, .ref h21, .ref h22, .int bn])), (h13, .inl (kJ, 1501, .inr (.inl f13))), (h14, .inl (kI, 1501, .inl f14)), (h15, .inl (kI, 1501, .inl f15)), (h16, .inl (kI, 1501, .inl f16)), (h17, .inl (kI, 1501, .inl f17)), (h18, .inl (kI, 1501, .inl f18)), (h19, .inl (kI, 1501, .inl f19)), (h20, .inl (kI, 1501, .inl f20)), (h21, .inl (kI, 1501, .inl f21)), (h22, .inl (kZ, 1501, .inl f22))]) [0, 1, 2, 3, 4, 5, 6, 7, 8, 9, 10] rfl
      have hD9 := hD.sub (ws' := [(h3, .inr (1, [.ref h13, .ref h14, .ref h15, .ref h16, .ref h17, .ref h18, .ref h19, .ref h20, .ref h21, .ref h22, .int bn])), (h13, .inl (kJ, 1501, .inr (.inl f13))), (h14, .inl (kI, 1501, .inl f14)), (h15, .inl (kI, 1501, .inl f15)), (h16, .inl (kI, 1501, .inl f16)), (h17, .inl (kI, 1501, .inl f17)), (h18, .inl (kI, 1501, .inl f18)), (h19, .inl (kI, 1501, .inl f19)), (h20, .inl (kI, 1501, .inl f20)), (h21, .inl (kI, 1501, .inl f21)), (h22, .inl (kZ, 1501, .inl f22))]) [0, 1, 2, 3, 4, 5, 6, 7, 8, 9, 10] (by decide) rfl
      exact W.iret (v := z_3) hx hb hr (fun t ht hW => ⟨⟨z_3, (), rfl, trivial, xEnd hK hP9 hD9 ht hW⟩, hS.F ht⟩) hS.2.2 d_7_12_22
set_option maxHeartbeats 8000000 in
set_option maxRecDepth 100000 in
theorem g_Table_type (l : Launch) (D : va_G) (kI kJ kB kZ : ClassId) (sz : Nat) (h3 : Nat) (h13 : Nat) (h14 : Nat) (h15 : Nat) (h16 : Nat) (h17 : Nat) (h18 : Nat) (h19 : Nat) (h20 : Nat) (h21 : Nat) (h22 : Nat) (bn : Int32) (f13 : Nat → Int64) (f14 : Nat → Int32) (f15 : Nat → Int32) (f16 : Nat → Int32) (f17 : Nat → Int32) (f18 : Nat → Int32) (f19 : Nat → Int32) (f20 : Nat → Int32) (f21 : Nat → Int32) (f22 : Nat → Int32) (p1 : Int32) (hf_B1 : 0 ≤ bn.toInt) (hf_B2 : bn.toInt ≤ 1501) : Met l (⟨"AlgolJudge$Table", "type", "(I)I"⟩ : MethodName) (Cond.code (⟨"AlgolJudge$Table", "type", "(I)I"⟩ : MethodName) prog_7_method_13_code 2 (some .int) :: gT) ({ frames := 0, cells := 0, slots := 0, locals := 0 }) (va_Pc [.ref h3, .int p1] (xP D (xT kI kJ kB kZ) xN [(h3, .inr (1, [.ref h13, .ref h14, .ref h15, .ref h16, .ref h17, .ref h18, .ref h19, .ref h20, .ref h21, .ref h22, .int bn])), (h13, .inl (kJ, 1501, .inr (.inl f13))), (h14, .inl (kI, 1501, .inl f14)), (h15, .inl (kI, 1501, .inl f15)), (h16, .inl (kI, 1501, .inl f16)), (h17, .inl (kI, 1501, .inl f17)), (h18, .inl (kI, 1501, .inl f18)), (h19, .inl (kI, 1501, .inl f19)), (h20, .inl (kI, 1501, .inl f20)), (h21, .inl (kI, 1501, .inl f21)), (h22, .inl (kZ, 1501, .inl f22))] sz)) (va_Qi (fun (r : Int32) (_ : Unit) => True) (fun _ t => xQ D (xT kI kJ kB kZ) (va_A [(h3, .inr (1, [.ref h13, .ref h14, .ref h15, .ref h16, .ref h17, .ref h18, .ref h19, .ref h20, .ref h21, .ref h22, .int bn])), (h13, .inl (kJ, 1501, .inr (.inl f13))), (h14, .inl (kI, 1501, .inl f14)), (h15, .inl (kI, 1501, .inl f15)), (h16, .inl (kI, 1501, .inl f16)), (h17, .inl (kI, 1501, .inl f17)), (h18, .inl (kI, 1501, .inl f18)), (h19, .inl (kI, 1501, .inl f19)), (h20, .inl (kI, 1501, .inl f20)), (h21, .inl (kI, 1501, .inl f21)), (h22, .inl (kZ, 1501, .inl f22))] sz) [(h3, .inr (1, [.ref h13, .ref h14, .ref h15, .ref h16, .ref h17, .ref h18, .ref h19, .ref h20, .ref h21, .ref h22, .int bn])), (h13, .inl (kJ, 1501, .inr (.inl f13))), (h14, .inl (kI, 1501, .inl f14)), (h15, .inl (kI, 1501, .inl f15)), (h16, .inl (kI, 1501, .inl f16)), (h17, .inl (kI, 1501, .inl f17)), (h18, .inl (kI, 1501, .inl f18)), (h19, .inl (kI, 1501, .inl f19)), (h20, .inl (kI, 1501, .inl f20)), (h21, .inl (kI, 1501, .inl f21)), (h22, .inl (kZ, 1501, .inl f22))] t) (va_A [(h3, .inr (1, [.ref h13, .ref h14, .ref h15, .ref h16, .ref h17, .ref h18, .ref h19, .ref h20, .ref h21, .ref h22, .int bn])), (h13, .inl (kJ, 1501, .inr (.inl f13))), (h14, .inl (kI, 1501, .inl f14)), (h15, .inl (kI, 1501, .inl f15)), (h16, .inl (kI, 1501, .inl f16)), (h17, .inl (kI, 1501, .inl f17)), (h18, .inl (kI, 1501, .inl f18)), (h19, .inl (kI, 1501, .inl f19)), (h20, .inl (kI, 1501, .inl f20)), (h21, .inl (kI, 1501, .inl f21)), (h22, .inl (kZ, 1501, .inl f22))] sz)) 0 0 (va_A [(h3, .inr (1, [.ref h13, .ref h14, .ref h15, .ref h16, .ref h17, .ref h18, .ref h19, .ref h20, .ref h21, .ref h22, .int bn])), (h13, .inl (kJ, 1501, .inr (.inl f13))), (h14, .inl (kI, 1501, .inl f14)), (h15, .inl (kI, 1501, .inl f15)), (h16, .inl (kI, 1501, .inl f16)), (h17, .inl (kI, 1501, .inl f17)), (h18, .inl (kI, 1501, .inl f18)), (h19, .inl (kI, 1501, .inl f19)), (h20, .inl (kI, 1501, .inl f20)), (h21, .inl (kI, 1501, .inl f21)), (h22, .inl (kZ, 1501, .inl f22))] sz) := by
  refine Met.ofW (cc := prog_7_method_13_code) (maxL := 2) (ret := some .int) (by decide +kernel) rfl ?_
  intro p e s m args below meth c s₁ B hml hv
  obtain ⟨rfl, hsz, hP, hK, hD0, hE⟩ := hv
  have hx := B.exec
  have hb := B.bytes
  have hr := B.returns
  have hts : ∀ w ∈ gT, w.before _ s = true := fun w h => atoms_spec (ws := Cond.code (⟨"AlgolJudge$Table", "type", "(I)I"⟩ : MethodName) prog_7_method_13_code 2 (some .int) :: gT) B.pre w (List.mem_cons_of_mem _ h)
  have hown : s.vm.findClass "AlgolJudge$Table" = some m.cls := findClass_of_methodNamed B.named
  have hlocks := B.notSynchronized
  subst hsz
  have hD := hD0.self (sz := s.heap.size)
  generalize hAe : va_A [(h3, .inr (1, [.ref h13, .ref h14, .ref h15, .ref h16, .ref h17, .ref h18, .ref h19, .ref h20, .ref h21, .ref h22, .int bn])), (h13, .inl (kJ, 1501, .inr (.inl f13))), (h14, .inl (kI, 1501, .inl f14)), (h15, .inl (kI, 1501, .inl f15)), (h16, .inl (kI, 1501, .inl f16)), (h17, .inl (kI, 1501, .inl f17)), (h18, .inl (kI, 1501, .inl f18)), (h19, .inl (kI, 1501, .inl f19)), (h20, .inl (kI, 1501, .inl f20)), (h21, .inl (kI, 1501, .inl f21)), (h22, .inl (kZ, 1501, .inl f22))] s.heap.size = A at hD hE ⊢
  have hA : ∀ q : Nat, s.heap.size ≤ q → A q := fun q h => by rw [← hAe]; exact Or.inr h
  have hS : va_S A s.heap s.heap [] := va_S.rf
  have hP : va_P D cls9 [(h3, .inr (1, [.ref h13, .ref h14, .ref h15, .ref h16, .ref h17, .ref h18, .ref h19, .ref h20, .ref h21, .ref h22, .int bn])), (h13, .inl (kJ, 1501, .inr (.inl f13))), (h14, .inl (kI, 1501, .inl f14)), (h15, .inl (kI, 1501, .inl f15)), (h16, .inl (kI, 1501, .inl f16)), (h17, .inl (kI, 1501, .inl f17)), (h18, .inl (kI, 1501, .inl f18)), (h19, .inl (kI, 1501, .inl f19)), (h20, .inl (kI, 1501, .inl f20)), (h21, .inl (kI, 1501, .inl f21)), (h22, .inl (kZ, 1501, .inl f22))] s.heap := hP
  have hl := lv_entry ([.ref h3, .int p1]) (n := 2) (Nat.le_of_ble_eq_true rfl)
  rw [lg_entry_eq]
  generalize (lg_sl ([.ref h3, .int p1]) ++ List.replicate (2 - (lg_sl ([.ref h3, .int p1])).length) Slot.unset).toArray = ls at hl ⊢
  have hl : lv_has ls 2 [(0, .ref h3), (1, .int p1)] := hl
  refine lv_iload_n hx hb d_7_13_0 rfl (lv_at hl 1 rfl) ?_
  refine lv_if_lt (tgt := 21) hx hb d_7_13_1 (by decide +kernel) (fun c_1 => ?_) (fun c_1 => ?_)
  · skip
    have tc_1 : p1.toInt < 0 := Int32.lt_iff_toInt_lt.mp c_1
    refine lv_iconst (v := 0) hx hb d_7_13_21 (by decide +kernel) ?_
    have hP9 := hP.sub (ws' := [(h3, .inr (1, [.ref h13, .ref h14, .ref h15, .ref h16, .ref h17, .ref h18, .ref h19, .ref h20, .ref h21, .ref h22, .int bn])), (h13, .inl (kJ, 1501, .inr (.inl f13))), (h14, .inl (kI, 1501, .inl f14)), (h15, .inl (kI, 1501, .inl f15)), (h16, .inl (kI, 1501, .inl f16)), (h17, .inl (kI, 1501, .inl f17)), (h18, .inl (kI, 1501, .inl f18)), (h19, .inl (kI, 1501, .inl f19)), (h20, .inl (kI, 1501, .inl f20)), (h21, .inl (kI, 1501, .inl f21)), (h22, .inl (kZ, 1501, .inl f22))]) [0, 1, 2, 3, 4, 5, 6, 7, 8, 9, 10] rfl
    have hD9 := hD.sub (ws' := [(h3, .inr (1, [.ref h13, .ref h14, .ref h15, .ref h16, .ref h17, .ref h18, .ref h19, .ref h20, .ref h21, .ref h22, .int bn])), (h13, .inl (kJ, 1501, .inr (.inl f13))), (h14, .inl (kI, 1501, .inl f14)), (h15, .inl (kI, 1501, .inl f15)), (h16, .inl (kI, 1501, .inl f16)), (h17, .inl (kI, 1501, .inl f17)), (h18, .inl (kI, 1501, .inl f18)), (h19, .inl (kI, 1501, .inl f19)), (h20, .inl (kI, 1501, .inl f20)), (h21, .inl (kI, 1501, .inl f21)), (h22, .inl (kZ, 1501, .inl f22))]) [0, 1, 2, 3, 4, 5, 6, 7, 8, 9, 10] (by decide) rfl
    exact W.iret (v := 0) hx hb hr (fun t ht hW => ⟨⟨0, (), rfl, trivial, xEnd hK hP9 hD9 ht hW⟩, hS.F ht⟩) hS.2.2 d_7_13_22
  · skip
    have tc_1 : ¬ p1.toInt < 0 := fun h9 => c_1 (Int32.lt_iff_toInt_lt.mpr h9)
    refine lv_iload_n hx hb d_7_13_4 rfl (lv_at hl 1 rfl) ?_
    refine lv_aload_n hx hb d_7_13_5 rfl (lv_at hl 0 rfl) ?_
    refine va_get (D := D) (ci := 1) (v := .int bn) (C := "AlgolJudge$Table") (T := T_Table) (N := 11) hx hb hts i_Table hown hK hP 0 rfl rfl 10 (by decide +kernel) (hts _ m_254) (fun _ h9 => h9) rfl d_7_13_6 ?_
    refine lv_icmp_ge (tgt := 21) hx hb d_7_13_9 (by decide +kernel) (fun c_2 => ?_) (fun c_2 => ?_)
    · skip
      have tc_2 : bn.toInt ≤ p1.toInt := Int32.le_iff_toInt_le.mp c_2
      refine lv_iconst (v := 0) hx hb d_7_13_21 (by decide +kernel) ?_
      have hP9 := hP.sub (ws' := [(h3, .inr (1, [.ref h13, .ref h14, .ref h15, .ref h16, .ref h17, .ref h18, .ref h19, .ref h20, .ref h21, .ref h22, .int bn])), (h13, .inl (kJ, 1501, .inr (.inl f13))), (h14, .inl (kI, 1501, .inl f14)), (h15, .inl (kI, 1501, .inl f15)), (h16, .inl (kI, 1501, .inl f16)), (h17, .inl (kI, 1501, .inl f17)), (h18, .inl (kI, 1501, .inl f18)), (h19, .inl (kI, 1501, .inl f19)), (h20, .inl (kI, 1501, .inl f20)), (h21, .inl (kI, 1501, .inl f21)), (h22, .inl (kZ, 1501, .inl f22))]) [0, 1, 2, 3, 4, 5, 6, 7, 8, 9, 10] rfl
      have hD9 := hD.sub (ws' := [(h3, .inr (1, [.ref h13, .ref h14, .ref h15, .ref h16, .ref h17, .ref h18, .ref h19, .ref h20, .ref h21, .ref h22, .int bn])), (h13, .inl (kJ, 1501, .inr (.inl f13))), (h14, .inl (kI, 1501, .inl f14)), (h15, .inl (kI, 1501, .inl f15)), (h16, .inl (kI, 1501, .inl f16)), (h17, .inl (kI, 1501, .inl f17)), (h18, .inl (kI, 1501, .inl f18)), (h19, .inl (kI, 1501, .inl f19)), (h20, .inl (kI, 1501, .inl f20)), (h21, .inl (kI, 1501, .inl f21)), (h22, .inl (kZ, 1501, .inl f22))]) [0, 1, 2, 3, 4, 5, 6, 7, 8, 9, 10] (by decide) rfl
      exact W.iret (v := 0) hx hb hr (fun t ht hW => ⟨⟨0, (), rfl, trivial, xEnd hK hP9 hD9 ht hW⟩, hS.F ht⟩) hS.2.2 d_7_13_22
    · skip
      have tc_2 : ¬ bn.toInt ≤ p1.toInt := fun h9 => c_2 (Int32.le_iff_toInt_le.mpr h9)
      refine lv_aload_n hx hb d_7_13_12 rfl (lv_at hl 0 rfl) ?_
      refine va_get (D := D) (ci := 1) (v := .ref h15) (C := "AlgolJudge$Table") (T := T_Table) (N := 11) hx hb hts i_Table hown hK hP 0 rfl rfl 2 (by decide +kernel) (hts _ m_246) (fun _ h9 => h9) rfl d_7_13_13 ?_
      refine lv_iload_n hx hb d_7_13_16 rfl (lv_at hl 1 rfl) ?_
      refine va_iald hx hb hK hP 3 0 rfl rfl (vp_in_iff.mpr ⟨by omega, by omega⟩) d_7_13_17 ?_
      refine lv_topi (fun z_3 ez_3 => ?_)
      refine lv_goto (tgt := 22) hx hb d_7_13_18 (by decide +kernel) ?_
      have hP9 := hP.sub (ws' := [(h3, .inr (1, [.ref h13, .ref h14, .ref h15, .ref h16, .ref h17, .ref h18, .ref h19, .ref h20, .ref h21, .ref h22, .int bn])), (h13, .inl (kJ, 1501, .inr (.inl f13))), (h14, .inl (kI, 1501, .inl f14)), (h15, .inl (kI, 1501, .inl f15)), (h16, .inl (kI, 1501, .inl f16)), (h17, .inl (kI, 1501, .inl f17)), (h18, .inl (kI, 1501, .inl f18)), (h19, .inl (kI, 1501, .inl f19)), (h20, .inl (kI, 1501, .inl f20)), (h21, .inl (kI, 1501, .inl f21)), (h22, .inl (kZ, 1501, .inl f22))]) [0, 1, 2, 3, 4, 5, 6, 7, 8, 9, 10] rfl
      have hD9 := hD.sub (ws' := [(h3, .inr (1, [.ref h13, .ref h14, .ref h15, .ref h16, .ref h17, .ref h18, .ref h19, .ref h20, .ref h21, .ref h22, .int bn])), (h13, .inl (kJ, 1501, .inr (.inl f13))), (h14, .inl (kI, 1501, .inl f14)), (h15, .inl (kI, 1501, .inl f15)), (h16, .inl (kI, 1501, .inl f16)), (h17, .inl (kI, 1501, .inl f17)), (h18, .inl (kI, 1501, .inl f18)), (h19, .inl (kI, 1501, .inl f19)), (h20, .inl (kI, 1501, .inl f20)), (h21, .inl (kI, 1501, .inl f21)), (h22, .inl (kZ, 1501, .inl f22))]) [0, 1, 2, 3, 4, 5, 6, 7, 8, 9, 10] (by decide) rfl
      exact W.iret (v := z_3) hx hb hr (fun t ht hW => ⟨⟨z_3, (), rfl, trivial, xEnd hK hP9 hD9 ht hW⟩, hS.F ht⟩) hS.2.2 d_7_13_22
