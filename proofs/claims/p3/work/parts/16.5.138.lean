set_option maxHeartbeats 8000000 in
set_option maxRecDepth 100000 in
theorem g_Tokens_scanFrom (l : Launch) (D : va_G) (kI kJ kB kZ : ClassId) (sz : Nat) (h1 : Nat) (h2 : Nat) (h9 : Nat) (h10 : Nat) (h11 : Nat) (h12 : Nat) (tc : Int32) (ta : Int32) (td : Int32) (tf : Int32) (f9 : Nat → Int32) (f10 : Nat → Int32) (f11 : Nat → Int64) (f12 : Nat → Int64) (f1 : Nat → Int32) (p2 : Int32) (p3 : Int32) (sA : Nat → Nat) (sV : Nat → Nat) (hf_C1 : 0 ≤ tc.toInt) (hf_C2 : tc.toInt ≤ 3001) (hf_T6 : ∀ j : Nat, 0 ≤ (f10 j).toInt) (hq_0 : 0 ≤ p3.toInt) (hq_1 : p3.toInt < p2.toInt) (hq_2 : p2.toInt ≤ 3000) : Met l (⟨"AlgolJudge$Tokens", "scanFrom", "([BII)I"⟩ : MethodName) (Cond.code (⟨"AlgolJudge$Tokens", "scanFrom", "([BII)I"⟩ : MethodName) prog_8_method_4_code 5 (some .int) :: gT) ({ frames := 5, cells := 0, slots := 0, locals := 117 }) (va_Pc [.ref h2, .ref h1, .int p2, .int p3] (xP D (xT kI kJ kB kZ) (xE sA sV) [(h2, .inr (0, [.ref h9, .ref h10, .ref h11, .ref h12, .int tc, .int ta, .int td, .int tf])), (h9, .inl (kI, 3001, .inl f9)), (h10, .inl (kI, 3001, .inl f10)), (h11, .inl (kJ, 3001, .inr (.inl f11))), (h12, .inl (kJ, 27, .inr (.inl f12))), (h1, .inl (kB, 3000, .inl f1))] sz)) (va_Qi (fun (r : Int32) (_ : Unit) => 0 ≤ r.toInt) (fun _ t => ∃ tc' : Int32, ∃ f9' : Nat → Int32, ∃ f10' : Nat → Int32, ∃ f11' : Nat → Int64, (0 ≤ tc'.toInt) ∧ (tc'.toInt ≤ 3001) ∧ (∀ j : Nat, 0 ≤ (f10' j).toInt) ∧ xQ D (xT kI kJ kB kZ) (va_A [(h2, .inr (0, [.ref h9, .ref h10, .ref h11, .ref h12, .int tc, .int ta, .int td, .int tf])), (h9, .inl (kI, 3001, .inl f9)), (h10, .inl (kI, 3001, .inl f10)), (h11, .inl (kJ, 3001, .inr (.inl f11))), (h12, .inl (kJ, 27, .inr (.inl f12))), (h1, .inl (kB, 3000, .inl f1))] sz) [(h2, .inr (0, [.ref h9, .ref h10, .ref h11, .ref h12, .int tc', .int ta, .int td, .int tf])), (h9, .inl (kI, 3001, .inl f9')), (h10, .inl (kI, 3001, .inl f10')), (h11, .inl (kJ, 3001, .inr (.inl f11'))), (h12, .inl (kJ, 27, .inr (.inl f12))), (h1, .inl (kB, 3000, .inl f1))] t) (va_A [(h2, .inr (0, [.ref h9, .ref h10, .ref h11, .ref h12, .int tc, .int ta, .int td, .int tf])), (h9, .inl (kI, 3001, .inl f9)), (h10, .inl (kI, 3001, .inl f10)), (h11, .inl (kJ, 3001, .inr (.inl f11))), (h12, .inl (kJ, 27, .inr (.inl f12))), (h1, .inl (kB, 3000, .inl f1))] sz)) 0 0 (va_A [(h2, .inr (0, [.ref h9, .ref h10, .ref h11, .ref h12, .int tc, .int ta, .int td, .int tf])), (h9, .inl (kI, 3001, .inl f9)), (h10, .inl (kI, 3001, .inl f10)), (h11, .inl (kJ, 3001, .inr (.inl f11))), (h12, .inl (kJ, 27, .inr (.inl f12))), (h1, .inl (kB, 3000, .inl f1))] sz) := by
  refine Met.ofW (cc := prog_8_method_4_code) (maxL := 5) (ret := some .int) (by decide +kernel) rfl ?_
  intro p e s m args below meth c s₁ B hml hv
  obtain ⟨rfl, hsz, hP, hK, hD0, hE⟩ := hv
  have hx := B.exec
  have hb := B.bytes
  have hr := B.returns
  have hts : ∀ w ∈ gT, w.before _ s = true := fun w h => atoms_spec (ws := Cond.code (⟨"AlgolJudge$Tokens", "scanFrom", "([BII)I"⟩ : MethodName) prog_8_method_4_code 5 (some .int) :: gT) B.pre w (List.mem_cons_of_mem _ h)
  have hown : s.vm.findClass "AlgolJudge$Tokens" = some m.cls := findClass_of_methodNamed B.named
  have hlocks := B.notSynchronized
  subst hsz
  have hD := hD0.self (sz := s.heap.size)
  generalize hAe : va_A [(h2, .inr (0, [.ref h9, .ref h10, .ref h11, .ref h12, .int tc, .int ta, .int td, .int tf])), (h9, .inl (kI, 3001, .inl f9)), (h10, .inl (kI, 3001, .inl f10)), (h11, .inl (kJ, 3001, .inr (.inl f11))), (h12, .inl (kJ, 27, .inr (.inl f12))), (h1, .inl (kB, 3000, .inl f1))] s.heap.size = A at hD hE ⊢
  have hA : ∀ q : Nat, s.heap.size ≤ q → A q := fun q h => by rw [← hAe]; exact Or.inr h
  have hS : va_S A s.heap s.heap [] := va_S.rf
  have hP : va_P D cls9 [(h2, .inr (0, [.ref h9, .ref h10, .ref h11, .ref h12, .int tc, .int ta, .int td, .int tf])), (h9, .inl (kI, 3001, .inl f9)), (h10, .inl (kI, 3001, .inl f10)), (h11, .inl (kJ, 3001, .inr (.inl f11))), (h12, .inl (kJ, 27, .inr (.inl f12))), (h1, .inl (kB, 3000, .inl f1))] s.heap := hP
  have hl := lv_entry ([.ref h2, .ref h1, .int p2, .int p3]) (n := 5) (Nat.le_of_ble_eq_true rfl)
  rw [lg_entry_eq]
  generalize (lg_sl ([.ref h2, .ref h1, .int p2, .int p3]) ++ List.replicate (5 - (lg_sl ([.ref h2, .ref h1, .int p2, .int p3])).length) Slot.unset).toArray = ls at hl ⊢
  have hl : lv_has ls 5 [(0, .ref h2), (1, .ref h1), (2, .int p2), (3, .int p3)] := hl
  refine lv_aload_n hx hb d_8_4_0 rfl (lv_at hl 1 rfl) ?_
  refine lv_iload_n hx hb d_8_4_1 rfl (lv_at hl 3 rfl) ?_
  refine va_bald hx hb hK hP 5 2 rfl rfl (vp_in_iff.mpr ⟨by omega, by omega⟩) d_8_4_2 ?_
  refine lv_topi (fun z_1 ez_1 => ?_)
  refine lv_istore (lv' := [(4, .int z_1), (0, .ref h2), (1, .ref h1), (2, .int p2), (3, .int p3)]) hx hb d_8_4_3 hl (by decide +kernel) rfl (fun ls hl => ?_)
  refine lv_iload hx hb d_8_4_5 (lv_at hl 0 rfl) ?_
  refine lv_bipush (v := 32) hx hb d_8_4_7 (by decide +kernel) ?_
  refine lv_icmp_eq (tgt := 19) hx hb d_8_4_9 (by decide +kernel) (fun c_2 => ?_) (fun c_2 => ?_)
  · skip
    have tc_2 : z_1.toInt = 32 := congrArg Int32.toInt c_2
    refine lv_iload_n hx hb d_8_4_19 rfl (lv_at hl 4 rfl) ?_
    refine lv_iconst (v := 1) hx hb d_8_4_20 (by decide +kernel) ?_
    refine lv_iadd hx hb d_8_4_21 ?_
    refine lv_topi (fun y_3 ey_3 => ?_)
    have ty_3 : y_3.toInt = p3.toInt + 1 := by rw [ey_3]; exact zaddc (by decide +kernel) (by omega) (by omega)
    have hP9 := hP.sub (ws' := [(h2, .inr (0, [.ref h9, .ref h10, .ref h11, .ref h12, .int tc, .int ta, .int td, .int tf])), (h9, .inl (kI, 3001, .inl f9)), (h10, .inl (kI, 3001, .inl f10)), (h11, .inl (kJ, 3001, .inr (.inl f11))), (h12, .inl (kJ, 27, .inr (.inl f12))), (h1, .inl (kB, 3000, .inl f1))]) [0, 1, 2, 3, 4, 5] rfl
    have hD9 := hD.sub (ws' := [(h2, .inr (0, [.ref h9, .ref h10, .ref h11, .ref h12, .int tc, .int ta, .int td, .int tf])), (h9, .inl (kI, 3001, .inl f9)), (h10, .inl (kI, 3001, .inl f10)), (h11, .inl (kJ, 3001, .inr (.inl f11))), (h12, .inl (kJ, 27, .inr (.inl f12))), (h1, .inl (kB, 3000, .inl f1))]) [0, 1, 2, 3, 4, 5] (by decide) rfl
    have hrp : 0 ≤ y_3.toInt := by first |  omega | assumption | exact pk_nc _ | exact Or.inl ⟨by omega, by omega, by assumption⟩ | exact Or.inr ⟨by omega, by decide +kernel⟩ | exact fun h9 => absurd h9 (by omega) | exact fun _ => isH_no1 (by omega) | exact fun _ => isH_no2 (by assumption) (by assumption) (by omega) | (intro h9; omega) | (intro h8 h9; omega)
    exact W.iret (v := y_3) hx hb hr (fun t ht hW => ⟨⟨y_3, (), rfl, hrp, tc, f9, f10, f11, hf_C1, hf_C2, hf_T6, xEnd hK hP9 hD9 ht hW⟩, hS.F ht⟩) hS.2.2 d_8_4_22
  · skip
    have tc_2 : ¬ z_1.toInt = 32 := fun h9 => c_2 (Int32.toInt_inj.mp h9)
    refine lv_iload hx hb d_8_4_12 (lv_at hl 0 rfl) ?_
    refine lv_bipush (v := 10) hx hb d_8_4_14 (by decide +kernel) ?_
    refine lv_icmp_ne (tgt := 23) hx hb d_8_4_16 (by decide +kernel) (fun c_4 => ?_) (fun c_4 => ?_)
    · skip
      have tc_4 : ¬ z_1.toInt = 10 := fun h9 => c_4 (Int32.toInt_inj.mp h9)
      refine lv_iload hx hb d_8_4_23 (lv_at hl 0 rfl) ?_
      have hPc := hP.sub (ws' := []) [] rfl
      have hDc := hD.sub (ws' := []) [] (by decide) rfl
      have hFc := va_free (wc := []) hD hS hA [] rfl
      refine va_calli (va_runS (As := [.int z_1]) (rest := []) ⟨hx, hb, hml, hown, hts⟩ (g_Tokens_isLetter l D kI kJ kB kZ _ (z_1) ) (va_cwS 1 hts (gT_S m_207 m_208 m_121 (gT_ws m_209)) rfl rfl rfl (by decide +kernel) ⟨(Nat.le_of_ble_eq_true rfl), (Nat.le_of_ble_eq_true rfl)⟩) ⟨xBlind xOk_N, xAtN hK hPc hDc⟩ rfl rfl hl.1 rfl (lv_room (Nat.le_of_ble_eq_true rfl)) d_8_4_25 ⟨(Nat.le_of_ble_eq_true rfl), (Nat.le_of_ble_eq_true rfl)⟩) hS (fun q _ h => hFc q h) hFc (fun r_5 u t H locs ht hvm hw_6 hB hz1 hk1 hS => ?_)
      clear hz1
      have hPD := xJoin (wr := [(h2, .inr (0, [.ref h9, .ref h10, .ref h11, .ref h12, .int tc, .int ta, .int td, .int tf])), (h9, .inl (kI, 3001, .inl f9)), (h10, .inl (kI, 3001, .inl f10)), (h11, .inl (kJ, 3001, .inr (.inl f11))), (h12, .inl (kJ, 27, .inr (.inl f12))), (h1, .inl (kB, 3000, .inl f1))]) (w1 := []) hP hD [] [0, 1, 2, 3, 4, 5] rfl rfl (by decide) (by decide) hk1 hFc ht hB
      replace hP : va_P D cls9 [(h2, .inr (0, [.ref h9, .ref h10, .ref h11, .ref h12, .int tc, .int ta, .int td, .int tf])), (h9, .inl (kI, 3001, .inl f9)), (h10, .inl (kI, 3001, .inl f10)), (h11, .inl (kJ, 3001, .inr (.inl f11))), (h12, .inl (kJ, 27, .inr (.inl f12))), (h1, .inl (kB, 3000, .inl f1))] H := hPD.1
      replace hD : va_D A [(h2, .inr (0, [.ref h9, .ref h10, .ref h11, .ref h12, .int tc, .int ta, .int td, .int tf])), (h9, .inl (kI, 3001, .inl f9)), (h10, .inl (kI, 3001, .inl f10)), (h11, .inl (kJ, 3001, .inr (.inl f11))), (h12, .inl (kJ, 27, .inr (.inl f12))), (h1, .inl (kB, 3000, .inl f1))] := hPD.2
      clear hPD hB hk1 hPc hDc hFc
      refine lv_if_eq (tgt := 39) hx hb d_8_4_28 (by decide +kernel) (fun c_7 => ?_) (fun c_7 => ?_)
      · skip
        have tc_7 : r_5.toInt = 0 := congrArg Int32.toInt c_7
        refine lv_iload hx hb d_8_4_39 (lv_at hl 0 rfl) ?_
        have hPc := hP.sub (ws' := []) [] rfl
        have hDc := hD.sub (ws' := []) [] (by decide) rfl
        have hFc := va_free (wc := []) hD hS hA [] rfl
        refine va_calli (va_runS (As := [.int z_1]) (rest := []) ⟨hx, hb, hml, hown, hts⟩ (g_Tokens_isDigit l D kI kJ kB kZ _ (z_1) ) (va_cwS 1 hts (gT_S m_463 m_464 m_121 (gT_ws m_465)) rfl rfl rfl (by decide +kernel) ⟨(Nat.le_of_ble_eq_true rfl), (Nat.le_of_ble_eq_true rfl)⟩) ⟨xBlind xOk_N, xAtN hK hPc hDc⟩ rfl rfl hl.1 rfl (lv_room (Nat.le_of_ble_eq_true rfl)) d_8_4_41 ⟨(Nat.le_of_ble_eq_true rfl), (Nat.le_of_ble_eq_true rfl)⟩) hS (fun q _ h => hFc q h) hFc (fun r_8 u t H locs ht hvm hw_9 hB hz1 hk1 hS => ?_)
        clear hz1
        have hPD := xJoin (wr := [(h2, .inr (0, [.ref h9, .ref h10, .ref h11, .ref h12, .int tc, .int ta, .int td, .int tf])), (h9, .inl (kI, 3001, .inl f9)), (h10, .inl (kI, 3001, .inl f10)), (h11, .inl (kJ, 3001, .inr (.inl f11))), (h12, .inl (kJ, 27, .inr (.inl f12))), (h1, .inl (kB, 3000, .inl f1))]) (w1 := []) hP hD [] [0, 1, 2, 3, 4, 5] rfl rfl (by decide) (by decide) hk1 hFc ht hB
        replace hP : va_P D cls9 [(h2, .inr (0, [.ref h9, .ref h10, .ref h11, .ref h12, .int tc, .int ta, .int td, .int tf])), (h9, .inl (kI, 3001, .inl f9)), (h10, .inl (kI, 3001, .inl f10)), (h11, .inl (kJ, 3001, .inr (.inl f11))), (h12, .inl (kJ, 27, .inr (.inl f12))), (h1, .inl (kB, 3000, .inl f1))] H := hPD.1
        replace hD : va_D A [(h2, .inr (0, [.ref h9, .ref h10, .ref h11, .ref h12, .int tc, .int ta, .int td, .int tf])), (h9, .inl (kI, 3001, .inl f9)), (h10, .inl (kI, 3001, .inl f10)), (h11, .inl (kJ, 3001, .inr (.inl f11))), (h12, .inl (kJ, 27, .inr (.inl f12))), (h1, .inl (kB, 3000, .inl f1))] := hPD.2
        clear hPD hB hk1 hPc hDc hFc
        refine lv_if_eq (tgt := 55) hx hb d_8_4_44 (by decide +kernel) (fun c_10 => ?_) (fun c_10 => ?_)
        · skip
          have tc_10 : r_8.toInt = 0 := congrArg Int32.toInt c_10
          refine lv_aload_n hx hb d_8_4_55 rfl (lv_at hl 1 rfl) ?_
          refine lv_aload_n hx hb d_8_4_56 rfl (lv_at hl 2 rfl) ?_
          refine lv_iload_n hx hb d_8_4_57 rfl (lv_at hl 3 rfl) ?_
          refine lv_iload_n hx hb d_8_4_58 rfl (lv_at hl 4 rfl) ?_
          have hPc := hP.sub (ws' := [(h2, .inr (0, [.ref h9, .ref h10, .ref h11, .ref h12, .int tc, .int ta, .int td, .int tf])), (h9, .inl (kI, 3001, .inl f9)), (h10, .inl (kI, 3001, .inl f10)), (h11, .inl (kJ, 3001, .inr (.inl f11))), (h12, .inl (kJ, 27, .inr (.inl f12))), (h1, .inl (kB, 3000, .inl f1))]) [0, 1, 2, 3, 4, 5] rfl
          have hDc := hD.sub (ws' := [(h2, .inr (0, [.ref h9, .ref h10, .ref h11, .ref h12, .int tc, .int ta, .int td, .int tf])), (h9, .inl (kI, 3001, .inl f9)), (h10, .inl (kI, 3001, .inl f10)), (h11, .inl (kJ, 3001, .inr (.inl f11))), (h12, .inl (kJ, 27, .inr (.inl f12))), (h1, .inl (kB, 3000, .inl f1))]) [0, 1, 2, 3, 4, 5] (by decide) rfl
          have hFc := va_free (wc := [(h2, .inr (0, [.ref h9, .ref h10, .ref h11, .ref h12, .int tc, .int ta, .int td, .int tf])), (h9, .inl (kI, 3001, .inl f9)), (h10, .inl (kI, 3001, .inl f10)), (h11, .inl (kJ, 3001, .inr (.inl f11))), (h12, .inl (kJ, 27, .inr (.inl f12))), (h1, .inl (kB, 3000, .inl f1))]) hD hS hA [0, 1, 2, 3, 4, 5] rfl
          refine va_calli (va_runV (As := [.ref h1, .int p2, .int p3]) (rest := []) ⟨hx, hb, hml, hown, hts⟩ (g_Tokens_scanSign l D kI kJ kB kZ _ (h1) (h2) (h9) (h10) (h11) (h12) (tc) (ta) (td) (tf) (f9) (f10) (f11) (f12) (f1) (p2) (p3) (sA) (sV) hf_C1 hf_C2 hf_T6 hq_0 hq_1 hq_2) (cwV 3 hts (gT_V m_480 m_482 m_7 m_121 (gT_ws m_483)) rfl rfl rfl (by decide +kernel) ⟨(Nat.le_of_ble_eq_true rfl), (Nat.le_of_ble_eq_true rfl)⟩) ⟨xBlind (xOk_E sA sV), va_recv hK hP (ci := 0) (q0 := 0) rfl rfl, xAt (xOk_E sA sV) hK hPc hDc hS hFc hE⟩ rfl rfl hl.1 rfl (lv_room (Nat.le_of_ble_eq_true rfl)) d_8_4_59 ⟨(Nat.le_of_ble_eq_true rfl), (Nat.le_of_ble_eq_true rfl)⟩) hS (fun q _ h => hFc q h) hFc (fun r_11 u t H locs ht hvm hw_12 hB hz1 hk1 hS => ?_)
          clear hz1
          revert hB
          refine exI fun x_13 => exI fun x_14 => exI fun x_15 => exI fun x_16 => anI fun hb_17 => anI fun hb_18 => anI fun hb_19 => fun hB => ?_
          have hPD := xJoin (wr := []) (w1 := [(h2, .inr (0, [.ref h9, .ref h10, .ref h11, .ref h12, .int x_13, .int ta, .int td, .int tf])), (h9, .inl (kI, 3001, .inl x_14)), (h10, .inl (kI, 3001, .inl x_15)), (h11, .inl (kJ, 3001, .inr (.inl x_16))), (h12, .inl (kJ, 27, .inr (.inl f12))), (h1, .inl (kB, 3000, .inl f1))]) hP hD [0, 1, 2, 3, 4, 5] [] rfl rfl (by decide) (by decide) hk1 hFc ht hB
          replace hP : va_P D cls9 [(h2, .inr (0, [.ref h9, .ref h10, .ref h11, .ref h12, .int x_13, .int ta, .int td, .int tf])), (h9, .inl (kI, 3001, .inl x_14)), (h10, .inl (kI, 3001, .inl x_15)), (h11, .inl (kJ, 3001, .inr (.inl x_16))), (h12, .inl (kJ, 27, .inr (.inl f12))), (h1, .inl (kB, 3000, .inl f1))] H := hPD.1
          replace hD : va_D A [(h2, .inr (0, [.ref h9, .ref h10, .ref h11, .ref h12, .int x_13, .int ta, .int td, .int tf])), (h9, .inl (kI, 3001, .inl x_14)), (h10, .inl (kI, 3001, .inl x_15)), (h11, .inl (kJ, 3001, .inr (.inl x_16))), (h12, .inl (kJ, 27, .inr (.inl f12))), (h1, .inl (kB, 3000, .inl f1))] := hPD.2
          clear hPD hB hk1 hPc hDc hFc
          have hw_12 : 0 ≤ r_11.toInt := hw_12
          have hP9 := hP.sub (ws' := [(h2, .inr (0, [.ref h9, .ref h10, .ref h11, .ref h12, .int x_13, .int ta, .int td, .int tf])), (h9, .inl (kI, 3001, .inl x_14)), (h10, .inl (kI, 3001, .inl x_15)), (h11, .inl (kJ, 3001, .inr (.inl x_16))), (h12, .inl (kJ, 27, .inr (.inl f12))), (h1, .inl (kB, 3000, .inl f1))]) [0, 1, 2, 3, 4, 5] rfl
          have hD9 := hD.sub (ws' := [(h2, .inr (0, [.ref h9, .ref h10, .ref h11, .ref h12, .int x_13, .int ta, .int td, .int tf])), (h9, .inl (kI, 3001, .inl x_14)), (h10, .inl (kI, 3001, .inl x_15)), (h11, .inl (kJ, 3001, .inr (.inl x_16))), (h12, .inl (kJ, 27, .inr (.inl f12))), (h1, .inl (kB, 3000, .inl f1))]) [0, 1, 2, 3, 4, 5] (by decide) rfl
          have hrp : 0 ≤ r_11.toInt := by first |  omega | assumption | exact pk_nc _ | exact Or.inl ⟨by omega, by omega, by assumption⟩ | exact Or.inr ⟨by omega, by decide +kernel⟩ | exact fun h9 => absurd h9 (by omega) | exact fun _ => isH_no1 (by omega) | exact fun _ => isH_no2 (by assumption) (by assumption) (by omega) | (intro h9; omega) | (intro h8 h9; omega)
          exact W.iret (v := r_11) hx hb hr (fun t ht hW => ⟨⟨r_11, (), rfl, hrp, x_13, x_14, x_15, x_16, hb_17, hb_18, hb_19, xEnd hK hP9 hD9 ht hW⟩, hS.F ht⟩) hS.2.2 d_8_4_62
        · skip
          have tc_10 : ¬ r_8.toInt = 0 := fun h9 => c_10 (Int32.toInt_inj.mp h9)
          refine lv_aload_n hx hb d_8_4_47 rfl (lv_at hl 1 rfl) ?_
          refine lv_aload_n hx hb d_8_4_48 rfl (lv_at hl 2 rfl) ?_
          refine lv_iload_n hx hb d_8_4_49 rfl (lv_at hl 3 rfl) ?_
          refine lv_iload_n hx hb d_8_4_50 rfl (lv_at hl 4 rfl) ?_
          have hPc := hP.sub (ws' := [(h2, .inr (0, [.ref h9, .ref h10, .ref h11, .ref h12, .int tc, .int ta, .int td, .int tf])), (h9, .inl (kI, 3001, .inl f9)), (h10, .inl (kI, 3001, .inl f10)), (h11, .inl (kJ, 3001, .inr (.inl f11))), (h12, .inl (kJ, 27, .inr (.inl f12))), (h1, .inl (kB, 3000, .inl f1))]) [0, 1, 2, 3, 4, 5] rfl
          have hDc := hD.sub (ws' := [(h2, .inr (0, [.ref h9, .ref h10, .ref h11, .ref h12, .int tc, .int ta, .int td, .int tf])), (h9, .inl (kI, 3001, .inl f9)), (h10, .inl (kI, 3001, .inl f10)), (h11, .inl (kJ, 3001, .inr (.inl f11))), (h12, .inl (kJ, 27, .inr (.inl f12))), (h1, .inl (kB, 3000, .inl f1))]) [0, 1, 2, 3, 4, 5] (by decide) rfl
          have hFc := va_free (wc := [(h2, .inr (0, [.ref h9, .ref h10, .ref h11, .ref h12, .int tc, .int ta, .int td, .int tf])), (h9, .inl (kI, 3001, .inl f9)), (h10, .inl (kI, 3001, .inl f10)), (h11, .inl (kJ, 3001, .inr (.inl f11))), (h12, .inl (kJ, 27, .inr (.inl f12))), (h1, .inl (kB, 3000, .inl f1))]) hD hS hA [0, 1, 2, 3, 4, 5] rfl
          refine va_calli (va_runV (As := [.ref h1, .int p2, .int p3]) (rest := []) ⟨hx, hb, hml, hown, hts⟩ (g_Tokens_scanNumber l D kI kJ kB kZ _ (h1) (h2) (h9) (h10) (h11) (h12) (tc) (ta) (td) (tf) (f9) (f10) (f11) (f12) (f1) (p2) (p3) hf_C1 hf_C2 hf_T6 hq_0 hq_1 hq_2) (cwV 3 hts (gT_V m_474 m_476 m_6 m_121 (gT_ws m_477)) rfl rfl rfl (by decide +kernel) ⟨(Nat.le_of_ble_eq_true rfl), (Nat.le_of_ble_eq_true rfl)⟩) ⟨xBlind xOk_N, va_recv hK hP (ci := 0) (q0 := 0) rfl rfl, xAtN hK hPc hDc⟩ rfl rfl hl.1 rfl (lv_room (Nat.le_of_ble_eq_true rfl)) d_8_4_51 ⟨(Nat.le_of_ble_eq_true rfl), (Nat.le_of_ble_eq_true rfl)⟩) hS (fun q _ h => hFc q h) hFc (fun r_20 u t H locs ht hvm hw_21 hB hz1 hk1 hS => ?_)
          clear hz1
          revert hB
          refine exI fun x_22 => exI fun x_23 => exI fun x_24 => exI fun x_25 => anI fun hb_26 => anI fun hb_27 => anI fun hb_28 => fun hB => ?_
          have hPD := xJoin (wr := []) (w1 := [(h2, .inr (0, [.ref h9, .ref h10, .ref h11, .ref h12, .int x_22, .int ta, .int td, .int tf])), (h9, .inl (kI, 3001, .inl x_23)), (h10, .inl (kI, 3001, .inl x_24)), (h11, .inl (kJ, 3001, .inr (.inl x_25))), (h12, .inl (kJ, 27, .inr (.inl f12))), (h1, .inl (kB, 3000, .inl f1))]) hP hD [0, 1, 2, 3, 4, 5] [] rfl rfl (by decide) (by decide) hk1 hFc ht hB
          replace hP : va_P D cls9 [(h2, .inr (0, [.ref h9, .ref h10, .ref h11, .ref h12, .int x_22, .int ta, .int td, .int tf])), (h9, .inl (kI, 3001, .inl x_23)), (h10, .inl (kI, 3001, .inl x_24)), (h11, .inl (kJ, 3001, .inr (.inl x_25))), (h12, .inl (kJ, 27, .inr (.inl f12))), (h1, .inl (kB, 3000, .inl f1))] H := hPD.1
          replace hD : va_D A [(h2, .inr (0, [.ref h9, .ref h10, .ref h11, .ref h12, .int x_22, .int ta, .int td, .int tf])), (h9, .inl (kI, 3001, .inl x_23)), (h10, .inl (kI, 3001, .inl x_24)), (h11, .inl (kJ, 3001, .inr (.inl x_25))), (h12, .inl (kJ, 27, .inr (.inl f12))), (h1, .inl (kB, 3000, .inl f1))] := hPD.2
          clear hPD hB hk1 hPc hDc hFc
          have hw_21 : 0 ≤ r_20.toInt := hw_21
          have hP9 := hP.sub (ws' := [(h2, .inr (0, [.ref h9, .ref h10, .ref h11, .ref h12, .int x_22, .int ta, .int td, .int tf])), (h9, .inl (kI, 3001, .inl x_23)), (h10, .inl (kI, 3001, .inl x_24)), (h11, .inl (kJ, 3001, .inr (.inl x_25))), (h12, .inl (kJ, 27, .inr (.inl f12))), (h1, .inl (kB, 3000, .inl f1))]) [0, 1, 2, 3, 4, 5] rfl
          have hD9 := hD.sub (ws' := [(h2, .inr (0, [.ref h9, .ref h10, .ref h11, .ref h12, .int x_22, .int ta, .int td, .int tf])), (h9, .inl (kI, 3001, .inl x_23)), (h10, .inl (kI, 3001, .inl x_24)), (h11, .inl (kJ, 3001, .inr (.inl x_25))), (h12, .inl (kJ, 27, .inr (.inl f12))), (h1, .inl (kB, 3000, .inl f1))]) [0, 1, 2, 3, 4, 5] (by decide) rfl
          have hrp : 0 ≤ r_20.toInt := by first |  omega | assumption | exact pk_nc _ | exact Or.inl ⟨by omega, by omega, by assumption⟩ | exact Or.inr ⟨by omega, by decide +kernel⟩ | exact fun h9 => absurd h9 (by omega) | exact fun _ => isH_no1 (by omega) | exact fun _ => isH_no2 (by assumption) (by assumption) (by omega) | (intro h9; omega) | (intro h8 h9; omega)
          exact W.iret (v := r_20) hx hb hr (fun t ht hW => ⟨⟨r_20, (), rfl, hrp, x_22, x_23, x_24, x_25, hb_26, hb_27, hb_28, xEnd hK hP9 hD9 ht hW⟩, hS.F ht⟩) hS.2.2 d_8_4_54
      · skip
        have tc_7 : ¬ r_5.toInt = 0 := fun h9 => c_7 (Int32.toInt_inj.mp h9)
        refine lv_aload_n hx hb d_8_4_31 rfl (lv_at hl 1 rfl) ?_
        refine lv_aload_n hx hb d_8_4_32 rfl (lv_at hl 2 rfl) ?_
        refine lv_iload_n hx hb d_8_4_33 rfl (lv_at hl 3 rfl) ?_
        refine lv_iload_n hx hb d_8_4_34 rfl (lv_at hl 4 rfl) ?_
        have hPc := hP.sub (ws' := [(h2, .inr (0, [.ref h9, .ref h10, .ref h11, .ref h12, .int tc, .int ta, .int td, .int tf])), (h9, .inl (kI, 3001, .inl f9)), (h10, .inl (kI, 3001, .inl f10)), (h11, .inl (kJ, 3001, .inr (.inl f11))), (h12, .inl (kJ, 27, .inr (.inl f12))), (h1, .inl (kB, 3000, .inl f1))]) [0, 1, 2, 3, 4, 5] rfl
        have hDc := hD.sub (ws' := [(h2, .inr (0, [.ref h9, .ref h10, .ref h11, .ref h12, .int tc, .int ta, .int td, .int tf])), (h9, .inl (kI, 3001, .inl f9)), (h10, .inl (kI, 3001, .inl f10)), (h11, .inl (kJ, 3001, .inr (.inl f11))), (h12, .inl (kJ, 27, .inr (.inl f12))), (h1, .inl (kB, 3000, .inl f1))]) [0, 1, 2, 3, 4, 5] (by decide) rfl
        have hFc := va_free (wc := [(h2, .inr (0, [.ref h9, .ref h10, .ref h11, .ref h12, .int tc, .int ta, .int td, .int tf])), (h9, .inl (kI, 3001, .inl f9)), (h10, .inl (kI, 3001, .inl f10)), (h11, .inl (kJ, 3001, .inr (.inl f11))), (h12, .inl (kJ, 27, .inr (.inl f12))), (h1, .inl (kB, 3000, .inl f1))]) hD hS hA [0, 1, 2, 3, 4, 5] rfl
        refine va_calli (va_runV (As := [.ref h1, .int p2, .int p3]) (rest := []) ⟨hx, hb, hml, hown, hts⟩ (g_Tokens_scanWord l D kI kJ kB kZ _ (h1) (h2) (h9) (h10) (h11) (h12) (tc) (ta) (td) (tf) (f9) (f10) (f11) (f12) (f1) (p2) (p3) hf_C1 hf_C2 hf_T6 hq_0 hq_1 hq_2) (cwV 3 hts (gT_V m_456 m_458 m_3 m_121 (gT_ws m_459)) rfl rfl rfl (by decide +kernel) ⟨(Nat.le_of_ble_eq_true rfl), (Nat.le_of_ble_eq_true rfl)⟩) ⟨xBlind xOk_N, va_recv hK hP (ci := 0) (q0 := 0) rfl rfl, xAtN hK hPc hDc⟩ rfl rfl hl.1 rfl (lv_room (Nat.le_of_ble_eq_true rfl)) d_8_4_35 ⟨(Nat.le_of_ble_eq_true rfl), (Nat.le_of_ble_eq_true rfl)⟩) hS (fun q _ h => hFc q h) hFc (fun r_29 u t H locs ht hvm hw_30 hB hz1 hk1 hS => ?_)
        clear hz1
        revert hB
        refine exI fun x_31 => exI fun x_32 => exI fun x_33 => exI fun x_34 => anI fun hb_35 => anI fun hb_36 => anI fun hb_37 => fun hB => ?_
        have hPD := xJoin (wr := []) (w1 := [(h2, .inr (0, [.ref h9, .ref h10, .ref h11, .ref h12, .int x_31, .int ta, .int td, .int tf])), (h9, .inl (kI, 3001, .inl x_32)), (h10, .inl (kI, 3001, .inl x_33)), (h11, .inl (kJ, 3001, .inr (.inl x_34))), (h12, .inl (kJ, 27, .inr (.inl f12))), (h1, .inl (kB, 3000, .inl f1))]) hP hD [0, 1, 2, 3, 4, 5] [] rfl rfl (by decide) (by decide) hk1 hFc ht hB
        replace hP : va_P D cls9 [(h2, .inr (0, [.ref h9, .ref h10, .ref h11, .ref h12, .int x_31, .int ta, .int td, .int tf])), (h9, .inl (kI, 3001, .inl x_32)), (h10, .inl (kI, 3001, .inl x_33)), (h11, .inl (kJ, 3001, .inr (.inl x_34))), (h12, .inl (kJ, 27, .inr (.inl f12))), (h1, .inl (kB, 3000, .inl f1))] H := hPD.1
        replace hD : va_D A [(h2, .inr (0, [.ref h9, .ref h10, .ref h11, .ref h12, .int x_31, .int ta, .int td, .int tf])), (h9, .inl (kI, 3001, .inl x_32)), (h10, .inl (kI, 3001, .inl x_33)), (h11, .inl (kJ, 3001, .inr (.inl x_34))), (h12, .inl (kJ, 27, .inr (.inl f12))), (h1, .inl (kB, 3000, .inl f1))] := hPD.2
        clear hPD hB hk1 hPc hDc hFc
        have hw_30 : 0 ≤ r_29.toInt := hw_30
        have hP9 := hP.sub (ws' := [(h2, .inr (0, [.ref h9, .ref h10, .ref h11, .ref h12, .int x_31, .int ta, .int td, .int tf])), (h9, .inl (kI, 3001, .inl x_32)), (h10, .inl (kI, 3001, .inl x_33)), (h11, .inl (kJ, 3001, .inr (.inl x_34))), (h12, .inl (kJ, 27, .inr (.inl f12))), (h1, .inl (kB, 3000, .inl f1))]) [0, 1, 2, 3, 4, 5] rfl
        have hD9 := hD.sub (ws' := [(h2, .inr (0, [.ref h9, .ref h10, .ref h11, .ref h12, .int x_31, .int ta, .int td, .int tf])), (h9, .inl (kI, 3001, .inl x_32)), (h10, .inl (kI, 3001, .inl x_33)), (h11, .inl (kJ, 3001, .inr (.inl x_34))), (h12, .inl (kJ, 27, .inr (.inl f12))), (h1, .inl (kB, 3000, .inl f1))]) [0, 1, 2, 3, 4, 5] (by decide) rfl
        have hrp : 0 ≤ r_29.toInt := by first |  omega | assumption | exact pk_nc _ | exact Or.inl ⟨by omega, by omega, by assumption⟩ | exact Or.inr ⟨by omega, by decide +kernel⟩ | exact fun h9 => absurd h9 (by omega) | exact fun _ => isH_no1 (by omega) | exact fun _ => isH_no2 (by assumption) (by assumption) (by omega) | (intro h9; omega) | (intro h8 h9; omega)
        exact W.iret (v := r_29) hx hb hr (fun t ht hW => ⟨⟨r_29, (), rfl, hrp, x_31, x_32, x_33, x_34, hb_35, hb_36, hb_37, xEnd hK hP9 hD9 ht hW⟩, hS.F ht⟩) hS.2.2 d_8_4_38
    · skip
      have tc_4 : z_1.toInt = 10 := congrArg Int32.toInt c_4
      refine lv_iload_n hx hb d_8_4_19 rfl (lv_at hl 4 rfl) ?_
      refine lv_iconst (v := 1) hx hb d_8_4_20 (by decide +kernel) ?_
      refine lv_iadd hx hb d_8_4_21 ?_
      refine lv_topi (fun y_38 ey_38 => ?_)
      have ty_38 : y_38.toInt = p3.toInt + 1 := by rw [ey_38]; exact zaddc (by decide +kernel) (by omega) (by omega)
      have hP9 := hP.sub (ws' := [(h2, .inr (0, [.ref h9, .ref h10, .ref h11, .ref h12, .int tc, .int ta, .int td, .int tf])), (h9, .inl (kI, 3001, .inl f9)), (h10, .inl (kI, 3001, .inl f10)), (h11, .inl (kJ, 3001, .inr (.inl f11))), (h12, .inl (kJ, 27, .inr (.inl f12))), (h1, .inl (kB, 3000, .inl f1))]) [0, 1, 2, 3, 4, 5] rfl
      have hD9 := hD.sub (ws' := [(h2, .inr (0, [.ref h9, .ref h10, .ref h11, .ref h12, .int tc, .int ta, .int td, .int tf])), (h9, .inl (kI, 3001, .inl f9)), (h10, .inl (kI, 3001, .inl f10)), (h11, .inl (kJ, 3001, .inr (.inl f11))), (h12, .inl (kJ, 27, .inr (.inl f12))), (h1, .inl (kB, 3000, .inl f1))]) [0, 1, 2, 3, 4, 5] (by decide) rfl
      have hrp : 0 ≤ y_38.toInt := by first |  omega | assumption | exact pk_nc _ | exact Or.inl ⟨by omega, by omega, by assumption⟩ | exact Or.inr ⟨by omega, by decide +kernel⟩ | exact fun h9 => absurd h9 (by omega) | exact fun _ => isH_no1 (by omega) | exact fun _ => isH_no2 (by assumption) (by assumption) (by omega) | (intro h9; omega) | (intro h8 h9; omega)
      exact W.iret (v := y_38) hx hb hr (fun t ht hW => ⟨⟨y_38, (), rfl, hrp, tc, f9, f10, f11, hf_C1, hf_C2, hf_T6, xEnd hK hP9 hD9 ht hW⟩, hS.F ht⟩) hS.2.2 d_8_4_22
set_option maxHeartbeats 8000000 in
set_option maxRecDepth 100000 in
theorem g_Tokens_rewind_s (l : Launch) (D : va_G) (kI kJ kB kZ : ClassId) (sz : Nat) (h2 : Nat) (h9 : Nat) (h10 : Nat) (h11 : Nat) (h12 : Nat) (tc : Int32) (ta : Int32) (td : Int32) (tf : Int32) (f9 : Nat → Int32) (f10 : Nat → Int32) (f11 : Nat → Int64) (f12 : Nat → Int64)  : Met l (⟨"AlgolJudge$Tokens", "rewind", "()V"⟩ : MethodName) (Cond.code (⟨"AlgolJudge$Tokens", "rewind", "()V"⟩ : MethodName) prog_8_method_15_code 1 (none) :: gT) ({ frames := 0, cells := 0, slots := 0, locals := 0 }) (va_Pc [.ref h2] (xP D (xT kI kJ kB kZ) xN [(h2, .inr (0, [.ref h9, .ref h10, .ref h11, .ref h12, .int tc, .int ta, .int td, .int tf])), (h9, .inl (kI, 3001, .inl f9)), (h10, .inl (kI, 3001, .inl f10)), (h11, .inl (kJ, 3001, .inr (.inl f11))), (h12, .inl (kJ, 27, .inr (.inl f12)))] sz)) (va_Qv (fun _ : Unit => True) (fun _ t => xQ D (xT kI kJ kB kZ) (va_A [(h2, .inr (0, [.ref h9, .ref h10, .ref h11, .ref h12, .int tc, .int ta, .int td, .int tf])), (h9, .inl (kI, 3001, .inl f9)), (h10, .inl (kI, 3001, .inl f10)), (h11, .inl (kJ, 3001, .inr (.inl f11))), (h12, .inl (kJ, 27, .inr (.inl f12)))] sz) [(h2, .inr (0, [.ref h9, .ref h10, .ref h11, .ref h12, .int tc, .int 0, .int 0, .int tf])), (h9, .inl (kI, 3001, .inl f9)), (h10, .inl (kI, 3001, .inl f10)), (h11, .inl (kJ, 3001, .inr (.inl f11))), (h12, .inl (kJ, 27, .inr (.inl f12)))] t) (va_A [(h2, .inr (0, [.ref h9, .ref h10, .ref h11, .ref h12, .int tc, .int ta, .int td, .int tf])), (h9, .inl (kI, 3001, .inl f9)), (h10, .inl (kI, 3001, .inl f10)), (h11, .inl (kJ, 3001, .inr (.inl f11))), (h12, .inl (kJ, 27, .inr (.inl f12)))] sz)) 0 0 (va_A [(h2, .inr (0, [.ref h9, .ref h10, .ref h11, .ref h12, .int tc, .int ta, .int td, .int tf])), (h9, .inl (kI, 3001, .inl f9)), (h10, .inl (kI, 3001, .inl f10)), (h11, .inl (kJ, 3001, .inr (.inl f11))), (h12, .inl (kJ, 27, .inr (.inl f12)))] sz) := by
  refine Met.ofW (cc := prog_8_method_15_code) (maxL := 1) (ret := none) (by decide +kernel) rfl ?_
  intro p e s m args below meth c s₁ B hml hv
  obtain ⟨rfl, hsz, hP, hK, hD0, hE⟩ := hv
  have hx := B.exec
  have hb := B.bytes
  have hr := B.returns
  have hts : ∀ w ∈ gT, w.before _ s = true := fun w h => atoms_spec (ws := Cond.code (⟨"AlgolJudge$Tokens", "rewind", "()V"⟩ : MethodName) prog_8_method_15_code 1 (none) :: gT) B.pre w (List.mem_cons_of_mem _ h)
  have hown : s.vm.findClass "AlgolJudge$Tokens" = some m.cls := findClass_of_methodNamed B.named
  have hlocks := B.notSynchronized
  subst hsz
  have hD := hD0.self (sz := s.heap.size)
  generalize hAe : va_A [(h2, .inr (0, [.ref h9, .ref h10, .ref h11, .ref h12, .int tc, .int ta, .int td, .int tf])), (h9, .inl (kI, 3001, .inl f9)), (h10, .inl (kI, 3001, .inl f10)), (h11, .inl (kJ, 3001, .inr (.inl f11))), (h12, .inl (kJ, 27, .inr (.inl f12)))] s.heap.size = A at hD hE ⊢
  have hA : ∀ q : Nat, s.heap.size ≤ q → A q := fun q h => by rw [← hAe]; exact Or.inr h
  have hS : va_S A s.heap s.heap [] := va_S.rf
  have hP : va_P D cls9 [(h2, .inr (0, [.ref h9, .ref h10, .ref h11, .ref h12, .int tc, .int ta, .int td, .int tf])), (h9, .inl (kI, 3001, .inl f9)), (h10, .inl (kI, 3001, .inl f10)), (h11, .inl (kJ, 3001, .inr (.inl f11))), (h12, .inl (kJ, 27, .inr (.inl f12)))] s.heap := hP
  have hl := lv_entry ([.ref h2]) (n := 1) (Nat.le_of_ble_eq_true rfl)
  rw [lg_entry_eq]
  generalize (lg_sl ([.ref h2]) ++ List.replicate (1 - (lg_sl ([.ref h2])).length) Slot.unset).toArray = ls at hl ⊢
  have hl : lv_has ls 1 [(0, .ref h2)] := hl
  refine lv_aload_n hx hb d_8_15_0 rfl (lv_at hl 0 rfl) ?_
  refine lv_iconst (v := 0) hx hb d_8_15_1 (by decide +kernel) ?_
  refine va_put (D := D) (ci := 0) (v := .int 0) (ty := .int) (C := "AlgolJudge$Tokens") (T := T_Tokens) (N := 8) hx hb hts i_Tokens t_Tokens t_Tokens_ok n_Tokens hown hK hP hD hS 0 rfl rfl 5 (by decide +kernel) (hts _ m_215) (fun _ h9 => h9) rfl (by decide +kernel) rfl rfl (Nat.le_of_ble_eq_true rfl) d_8_15_2 (fun H locs hP1 hD1 hS1 => ?_)
  replace hP : va_P D cls9 [(h2, .inr (0, [.ref h9, .ref h10, .ref h11, .ref h12, .int tc, .int 0, .int td, .int tf])), (h9, .inl (kI, 3001, .inl f9)), (h10, .inl (kI, 3001, .inl f10)), (h11, .inl (kJ, 3001, .inr (.inl f11))), (h12, .inl (kJ, 27, .inr (.inl f12)))] H := hP1
  replace hD : va_D A [(h2, .inr (0, [.ref h9, .ref h10, .ref h11, .ref h12, .int tc, .int 0, .int td, .int tf])), (h9, .inl (kI, 3001, .inl f9)), (h10, .inl (kI, 3001, .inl f10)), (h11, .inl (kJ, 3001, .inr (.inl f11))), (h12, .inl (kJ, 27, .inr (.inl f12)))] := hD1
  replace hS := hS1
  clear hP1 hD1 hS1
  refine lv_aload_n hx hb d_8_15_5 rfl (lv_at hl 0 rfl) ?_
  refine lv_iconst (v := 0) hx hb d_8_15_6 (by decide +kernel) ?_
  refine va_put (D := D) (ci := 0) (v := .int 0) (ty := .int) (C := "AlgolJudge$Tokens") (T := T_Tokens) (N := 8) hx hb hts i_Tokens t_Tokens t_Tokens_ok n_Tokens hown hK hP hD hS 0 rfl rfl 6 (by decide +kernel) (hts _ m_216) (fun _ h9 => h9) rfl (by decide +kernel) rfl rfl (Nat.le_of_ble_eq_true rfl) d_8_15_7 (fun H locs hP1 hD1 hS1 => ?_)
  replace hP : va_P D cls9 [(h2, .inr (0, [.ref h9, .ref h10, .ref h11, .ref h12, .int tc, .int 0, .int 0, .int tf])), (h9, .inl (kI, 3001, .inl f9)), (h10, .inl (kI, 3001, .inl f10)), (h11, .inl (kJ, 3001, .inr (.inl f11))), (h12, .inl (kJ, 27, .inr (.inl f12)))] H := hP1
  replace hD : va_D A [(h2, .inr (0, [.ref h9, .ref h10, .ref h11, .ref h12, .int tc, .int 0, .int 0, .int tf])), (h9, .inl (kI, 3001, .inl f9)), (h10, .inl (kI, 3001, .inl f10)), (h11, .inl (kJ, 3001, .inr (.inl f11))), (h12, .inl (kJ, 27, .inr (.inl f12)))] := hD1
  replace hS := hS1
  clear hP1 hD1 hS1
  have hP9 := hP.sub (ws' := [(h2, .inr (0, [.ref h9, .ref h10, .ref h11, .ref h12, .int tc, .int 0, .int 0, .int tf])), (h9, .inl (kI, 3001, .inl f9)), (h10, .inl (kI, 3001, .inl f10)), (h11, .inl (kJ, 3001, .inr (.inl f11))), (h12, .inl (kJ, 27, .inr (.inl f12)))]) [0, 1, 2, 3, 4] rfl
  have hD9 := hD.sub (ws' := [(h2, .inr (0, [.ref h9, .ref h10, .ref h11, .ref h12, .int tc, .int 0, .int 0, .int tf])), (h9, .inl (kI, 3001, .inl f9)), (h10, .inl (kI, 3001, .inl f10)), (h11, .inl (kJ, 3001, .inr (.inl f11))), (h12, .inl (kJ, 27, .inr (.inl f12)))]) [0, 1, 2, 3, 4] (by decide) rfl
  exact W.vret hx hb hr (fun t ht hW => ⟨⟨(), rfl, trivial, xEnd hK hP9 hD9 ht hW⟩, hS.F ht⟩) hS.2.2 d_8_15_10
set_option maxHeartbeats 8000000 in
set_option maxRecDepth 100000 in
theorem g_Tokens_scan (l : Launch) (D : va_G) (kI kJ kB kZ : ClassId) (sz : Nat) (h1 : Nat) (h2 : Nat) (h9 : Nat) (h10 : Nat) (h11 : Nat) (h12 : Nat) (tc : Int32) (ta : Int32) (td : Int32) (tf : Int32) (f9 : Nat → Int32) (f10 : Nat → Int32) (f11 : Nat → Int64) (f12 : Nat → Int64) (f1 : Nat → Int32) (p2 : Int32) (sA : Nat → Nat) (sV : Nat → Nat) (hf_C1 : 0 ≤ tc.toInt) (hf_C2 : tc.toInt ≤ 3001) (hf_T6 : ∀ j : Nat, 0 ≤ (f10 j).toInt) (hq_0 : 0 ≤ p2.toInt) (hq_1 : p2.toInt ≤ 3000) : Met l (⟨"AlgolJudge$Tokens", "scan", "([BI)V"⟩ : MethodName) (Cond.code (⟨"AlgolJudge$Tokens", "scan", "([BI)V"⟩ : MethodName) prog_8_method_3_code 5 (none) :: gT) ({ frames := 6, cells := 0, slots := 0, locals := 141 }) (va_Pc [.ref h2, .ref h1, .int p2] (xP D (xT kI kJ kB kZ) (xE sA sV) [(h2, .inr (0, [.ref h9, .ref h10, .ref h11, .ref h12, .int tc, .int ta, .int td, .int tf])), (h9, .inl (kI, 3001, .inl f9)), (h10, .inl (kI, 3001, .inl f10)), (h11, .inl (kJ, 3001, .inr (.inl f11))), (h12, .inl (kJ, 27, .inr (.inl f12))), (h1, .inl (kB, 3000, .inl f1))] sz)) (va_Qv (fun _ : Unit => True) (fun _ t => ∃ tc' : Int32, ∃ f9' : Nat → Int32, ∃ f10' : Nat → Int32, ∃ f11' : Nat → Int64, (1 ≤ tc'.toInt) ∧ (tc'.toInt ≤ 3001) ∧ (∀ j : Nat, 0 ≤ (f10' j).toInt) ∧ xQ D (xT kI kJ kB kZ) (va_A [(h2, .inr (0, [.ref h9, .ref h10, .ref h11, .ref h12, .int tc, .int ta, .int td, .int tf])), (h9, .inl (kI, 3001, .inl f9)), (h10, .inl (kI, 3001, .inl f10)), (h11, .inl (kJ, 3001, .inr (.inl f11))), (h12, .inl (kJ, 27, .inr (.inl f12))), (h1, .inl (kB, 3000, .inl f1))] sz) [(h2, .inr (0, [.ref h9, .ref h10, .ref h11, .ref h12, .int tc', .int 0, .int 0, .int (-2)])), (h9, .inl (kI, 3001, .inl f9')), (h10, .inl (kI, 3001, .inl f10')), (h11, .inl (kJ, 3001, .inr (.inl f11'))), (h12, .inl (kJ, 27, .inr (.inl f12))), (h1, .inl (kB, 3000, .inl f1))] t) (va_A [(h2, .inr (0, [.ref h9, .ref h10, .ref h11, .ref h12, .int tc, .int ta, .int td, .int tf])), (h9, .inl (kI, 3001, .inl f9)), (h10, .inl (kI, 3001, .inl f10)), (h11, .inl (kJ, 3001, .inr (.inl f11))), (h12, .inl (kJ, 27, .inr (.inl f12))), (h1, .inl (kB, 3000, .inl f1))] sz)) 0 0 (va_A [(h2, .inr (0, [.ref h9, .ref h10, .ref h11, .ref h12, .int tc, .int ta, .int td, .int tf])), (h9, .inl (kI, 3001, .inl f9)), (h10, .inl (kI, 3001, .inl f10)), (h11, .inl (kJ, 3001, .inr (.inl f11))), (h12, .inl (kJ, 27, .inr (.inl f12))), (h1, .inl (kB, 3000, .inl f1))] sz) := by
  refine Met.ofW (cc := prog_8_method_3_code) (maxL := 5) (ret := none) (by decide +kernel) rfl ?_
  intro p e s m args below meth c s₁ B hml hv
  obtain ⟨rfl, hsz, hP, hK, hD0, hE⟩ := hv
  have hx := B.exec
  have hb := B.bytes
  have hr := B.returns
  have hts : ∀ w ∈ gT, w.before _ s = true := fun w h => atoms_spec (ws := Cond.code (⟨"AlgolJudge$Tokens", "scan", "([BI)V"⟩ : MethodName) prog_8_method_3_code 5 (none) :: gT) B.pre w (List.mem_cons_of_mem _ h)
  have hown : s.vm.findClass "AlgolJudge$Tokens" = some m.cls := findClass_of_methodNamed B.named
  have hlocks := B.notSynchronized
  subst hsz
  have hD := hD0.self (sz := s.heap.size)
  generalize hAe : va_A [(h2, .inr (0, [.ref h9, .ref h10, .ref h11, .ref h12, .int tc, .int ta, .int td, .int tf])), (h9, .inl (kI, 3001, .inl f9)), (h10, .inl (kI, 3001, .inl f10)), (h11, .inl (kJ, 3001, .inr (.inl f11))), (h12, .inl (kJ, 27, .inr (.inl f12))), (h1, .inl (kB, 3000, .inl f1))] s.heap.size = A at hD hE ⊢
  have hA : ∀ q : Nat, s.heap.size ≤ q → A q := fun q h => by rw [← hAe]; exact Or.inr h
  have hS : va_S A s.heap s.heap [] := va_S.rf
  have hP : va_P D cls9 [(h2, .inr (0, [.ref h9, .ref h10, .ref h11, .ref h12, .int tc, .int ta, .int td, .int tf])), (h9, .inl (kI, 3001, .inl f9)), (h10, .inl (kI, 3001, .inl f10)), (h11, .inl (kJ, 3001, .inr (.inl f11))), (h12, .inl (kJ, 27, .inr (.inl f12))), (h1, .inl (kB, 3000, .inl f1))] s.heap := hP
  have hl := lv_entry ([.ref h2, .ref h1, .int p2]) (n := 5) (Nat.le_of_ble_eq_true rfl)
  rw [lg_entry_eq]
  generalize (lg_sl ([.ref h2, .ref h1, .int p2]) ++ List.replicate (5 - (lg_sl ([.ref h2, .ref h1, .int p2])).length) Slot.unset).toArray = ls at hl ⊢
  have hl : lv_has ls 5 [(0, .ref h2), (1, .ref h1), (2, .int p2)] := hl
  refine lv_aload_n hx hb d_8_3_0 rfl (lv_at hl 0 rfl) ?_
  refine lv_iconst (v := 0) hx hb d_8_3_1 (by decide +kernel) ?_
  refine va_put (D := D) (ci := 0) (v := .int 0) (ty := .int) (C := "AlgolJudge$Tokens") (T := T_Tokens) (N := 8) hx hb hts i_Tokens t_Tokens t_Tokens_ok n_Tokens hown hK hP hD hS 0 rfl rfl 4 (by decide +kernel) (hts _ m_214) (fun _ h9 => h9) rfl (by decide +kernel) rfl rfl (Nat.le_of_ble_eq_true rfl) d_8_3_2 (fun H locs hP1 hD1 hS1 => ?_)
  replace hP : va_P D cls9 [(h2, .inr (0, [.ref h9, .ref h10, .ref h11, .ref h12, .int 0, .int ta, .int td, .int tf])), (h9, .inl (kI, 3001, .inl f9)), (h10, .inl (kI, 3001, .inl f10)), (h11, .inl (kJ, 3001, .inr (.inl f11))), (h12, .inl (kJ, 27, .inr (.inl f12))), (h1, .inl (kB, 3000, .inl f1))] H := hP1
  replace hD : va_D A [(h2, .inr (0, [.ref h9, .ref h10, .ref h11, .ref h12, .int 0, .int ta, .int td, .int tf])), (h9, .inl (kI, 3001, .inl f9)), (h10, .inl (kI, 3001, .inl f10)), (h11, .inl (kJ, 3001, .inr (.inl f11))), (h12, .inl (kJ, 27, .inr (.inl f12))), (h1, .inl (kB, 3000, .inl f1))] := hD1
  replace hS := hS1
  clear hP1 hD1 hS1
  refine lv_iconst (v := 0) hx hb d_8_3_5 (by decide +kernel) ?_
  refine lv_istore_n (lv' := [(3, .int 0), (0, .ref h2), (1, .ref h1), (2, .int p2)]) hx hb d_8_3_6 rfl hl (by decide +kernel) rfl (fun ls hl => ?_)
  refine lv_iconst (v := 0) hx hb d_8_3_7 (by decide +kernel) ?_
  refine lv_istore (lv' := [(4, .int 0), (3, .int 0), (0, .ref h2), (1, .ref h1), (2, .int p2)]) hx hb d_8_3_8 hl (by decide +kernel) rfl (fun ls hl => ?_)
  refine xLoop (I := fun n H locs ls => ∃ w10_h10 : Nat → Int32, ∃ w10_h11 : Nat → Int64, ∃ w10_h2_4 : Int32, ∃ w10_h9 : Nat → Int32, ∃ v10_4 : Int32, ∃ v10_3 : Int32, (0 ≤ w10_h2_4.toInt) ∧ (w10_h2_4.toInt ≤ 3001) ∧ (∀ j : Nat, 0 ≤ (w10_h10 j).toInt) ∧ (0 ≤ v10_4.toInt) ∧ (v10_4.toInt ≤ p2.toInt) ∧ (0 ≤ v10_3.toInt) ∧ n = (p2.toInt - v10_4.toInt).toNat ∧ va_P D cls9 [(h2, .inr (0, [.ref h9, .ref h10, .ref h11, .ref h12, .int w10_h2_4, .int ta, .int td, .int tf])), (h9, .inl (kI, 3001, .inl w10_h9)), (h10, .inl (kI, 3001, .inl w10_h10)), (h11, .inl (kJ, 3001, .inr (.inl w10_h11))), (h12, .inl (kJ, 27, .inr (.inl f12))), (h1, .inl (kB, 3000, .inl f1))] H ∧ va_D A [(h2, .inr (0, [.ref h9, .ref h10, .ref h11, .ref h12, .int w10_h2_4, .int ta, .int td, .int tf])), (h9, .inl (kI, 3001, .inl w10_h9)), (h10, .inl (kI, 3001, .inl w10_h10)), (h11, .inl (kJ, 3001, .inr (.inl w10_h11))), (h12, .inl (kJ, 27, .inr (.inl f12))), (h1, .inl (kB, 3000, .inl f1))] ∧ va_S A s.heap H locs ∧ lv_has ls 5 [(4, .int v10_4), (3, .int v10_3), (0, .ref h2), (1, .ref h1), (2, .int p2)]) ?_ _ _ _ _ ⟨f10, f11, 0, f9, 0, 0, (show 0 ≤ (0 : Int) from (by first | assumption | omega)), (show (0 : Int) ≤ 3001 from (by first | assumption | omega)), hf_T6, (show 0 ≤ (0 : Int) from (by first | assumption | omega)), (show (0 : Int) ≤ p2.toInt from (by first | assumption | omega)), (show 0 ≤ (0 : Int) from (by first | assumption | omega)), rfl, hP.sub (ws' := [(h2, .inr (0, [.ref h9, .ref h10, .ref h11, .ref h12, .int 0, .int ta, .int td, .int tf])), (h9, .inl (kI, 3001, .inl f9)), (h10, .inl (kI, 3001, .inl f10)), (h11, .inl (kJ, 3001, .inr (.inl f11))), (h12, .inl (kJ, 27, .inr (.inl f12))), (h1, .inl (kB, 3000, .inl f1))]) [0, 1, 2, 3, 4, 5] rfl, hD.sub (ws' := [(h2, .inr (0, [.ref h9, .ref h10, .ref h11, .ref h12, .int 0, .int ta, .int td, .int tf])), (h9, .inl (kI, 3001, .inl f9)), (h10, .inl (kI, 3001, .inl f10)), (h11, .inl (kJ, 3001, .inr (.inl f11))), (h12, .inl (kJ, 27, .inr (.inl f12))), (h1, .inl (kB, 3000, .inl f1))]) [0, 1, 2, 3, 4, 5] (by decide) rfl, hS, lv_sub hl [0, 1, 2, 3, 4] rfl⟩
  intro n_7 H locs ls hI9 ih_8
  revert hI9
  refine exI fun w10_h10 => exI fun w10_h11 => exI fun w10_h2_4 => exI fun w10_h9 => exI fun v10_4 => exI fun v10_3 => anI fun hl_1 => anI fun hl_2 => anI fun hl_3 => anI fun hl_4 => anI fun hl_5 => anI fun hl_6 => anI fun hn_7 => anI fun hP => anI fun hD => anI fun hS => fun hl => ?_
  refine lv_iload hx hb d_8_3_10 (lv_at hl 0 rfl) ?_
  refine lv_iload_n hx hb d_8_3_12 rfl (lv_at hl 4 rfl) ?_
  refine lv_icmp_ge (tgt := 35) hx hb d_8_3_13 (by decide +kernel) (fun c_9 => ?_) (fun c_9 => ?_)
  · skip
    have tc_9 : p2.toInt ≤ v10_4.toInt := Int32.le_iff_toInt_le.mp c_9
    refine lv_aload_n hx hb d_8_3_35 rfl (lv_at hl 2 rfl) ?_
    refine lv_iconst (v := 0) hx hb d_8_3_36 (by decide +kernel) ?_
    refine lv_iload_n hx hb d_8_3_37 rfl (lv_at hl 4 rfl) ?_
    refine lv_lconst (v := 0) hx hb d_8_3_38 (by decide +kernel) ?_
    have hPc := hP.sub (ws' := [(h2, .inr (0, [.ref h9, .ref h10, .ref h11, .ref h12, .int w10_h2_4, .int ta, .int td, .int tf])), (h9, .inl (kI, 3001, .inl w10_h9)), (h10, .inl (kI, 3001, .inl w10_h10)), (h11, .inl (kJ, 3001, .inr (.inl w10_h11))), (h12, .inl (kJ, 27, .inr (.inl f12)))]) [0, 1, 2, 3, 4] rfl
    have hDc := hD.sub (ws' := [(h2, .inr (0, [.ref h9, .ref h10, .ref h11, .ref h12, .int w10_h2_4, .int ta, .int td, .int tf])), (h9, .inl (kI, 3001, .inl w10_h9)), (h10, .inl (kI, 3001, .inl w10_h10)), (h11, .inl (kJ, 3001, .inr (.inl w10_h11))), (h12, .inl (kJ, 27, .inr (.inl f12)))]) [0, 1, 2, 3, 4] (by decide) rfl
    have hFc := va_free (wc := [(h2, .inr (0, [.ref h9, .ref h10, .ref h11, .ref h12, .int w10_h2_4, .int ta, .int td, .int tf])), (h9, .inl (kI, 3001, .inl w10_h9)), (h10, .inl (kI, 3001, .inl w10_h10)), (h11, .inl (kJ, 3001, .inr (.inl w10_h11))), (h12, .inl (kJ, 27, .inr (.inl f12)))]) hD hS hA [0, 1, 2, 3, 4] rfl
    refine va_callv (va_runV (As := [.int 0, .int p2, .long 0]) (rest := []) ⟨hx, hb, hml, hown, hts⟩ (g_Tokens_add l D kI kJ kB kZ _ (h2) (h9) (h10) (h11) (h12) (w10_h2_4) (ta) (td) (tf) (w10_h9) (w10_h10) (w10_h11) (f12) ((0 : Int32)) (p2) ((0 : Int64)) hl_1 hl_2 hl_3 hq_0) (cwV 3 hts (gT_V m_470 m_472 m_5 m_121 (gT_ws m_473)) rfl rfl rfl (by decide +kernel) ⟨(Nat.le_of_ble_eq_true rfl), (Nat.le_of_ble_eq_true rfl)⟩) ⟨xBlind xOk_N, va_recv hK hP (ci := 0) (q0 := 0) rfl rfl, xAtN hK hPc hDc⟩ rfl rfl hl.1 rfl (lv_room (Nat.le_of_ble_eq_true rfl)) d_8_3_39 ⟨(Nat.le_of_ble_eq_true rfl), (Nat.le_of_ble_eq_true rfl)⟩) hS (fun q _ h => hFc q h) hFc (fun u t H locs ht hvm hw_11 hB hz1 hk1 hS => ?_)
    clear hz1
    revert hB
    refine exI fun x_12 => exI fun x_13 => exI fun x_14 => exI fun x_15 => anI fun hb_16 => anI fun hb_17 => anI fun hb_18 => anI fun hb_19 => fun hB => ?_
    have hPD := xJoin (wr := [(h1, .inl (kB, 3000, .inl f1))]) (w1 := [(h2, .inr (0, [.ref h9, .ref h10, .ref h11, .ref h12, .int x_12, .int ta, .int td, .int tf])), (h9, .inl (kI, 3001, .inl x_13)), (h10, .inl (kI, 3001, .inl x_14)), (h11, .inl (kJ, 3001, .inr (.inl x_15))), (h12, .inl (kJ, 27, .inr (.inl f12)))]) hP hD [0, 1, 2, 3, 4] [5] rfl rfl (by decide) (by decide) hk1 hFc ht hB
    replace hP : va_P D cls9 [(h1, .inl (kB, 3000, .inl f1)), (h2, .inr (0, [.ref h9, .ref h10, .ref h11, .ref h12, .int x_12, .int ta, .int td, .int tf])), (h9, .inl (kI, 3001, .inl x_13)), (h10, .inl (kI, 3001, .inl x_14)), (h11, .inl (kJ, 3001, .inr (.inl x_15))), (h12, .inl (kJ, 27, .inr (.inl f12)))] H := hPD.1
    replace hD : va_D A [(h1, .inl (kB, 3000, .inl f1)), (h2, .inr (0, [.ref h9, .ref h10, .ref h11, .ref h12, .int x_12, .int ta, .int td, .int tf])), (h9, .inl (kI, 3001, .inl x_13)), (h10, .inl (kI, 3001, .inl x_14)), (h11, .inl (kJ, 3001, .inr (.inl x_15))), (h12, .inl (kJ, 27, .inr (.inl f12)))] := hPD.2
    clear hPD hB hk1 hPc hDc hFc
    refine lv_aload_n hx hb d_8_3_42 rfl (lv_at hl 2 rfl) ?_
    refine lv_bipush (v := (-2)) hx hb d_8_3_43 (by decide +kernel) ?_
    refine va_put (D := D) (ci := 0) (v := .int (-2)) (ty := .int) (C := "AlgolJudge$Tokens") (T := T_Tokens) (N := 8) hx hb hts i_Tokens t_Tokens t_Tokens_ok n_Tokens hown hK hP hD hS 1 rfl rfl 7 (by decide +kernel) (hts _ m_217) (fun _ h9 => h9) rfl (by decide +kernel) rfl rfl (Nat.le_of_ble_eq_true rfl) d_8_3_45 (fun H locs hP1 hD1 hS1 => ?_)
    replace hP : va_P D cls9 [(h1, .inl (kB, 3000, .inl f1)), (h2, .inr (0, [.ref h9, .ref h10, .ref h11, .ref h12, .int x_12, .int ta, .int td, .int (-2)])), (h9, .inl (kI, 3001, .inl x_13)), (h10, .inl (kI, 3001, .inl x_14)), (h11, .inl (kJ, 3001, .inr (.inl x_15))), (h12, .inl (kJ, 27, .inr (.inl f12)))] H := hP1
    replace hD : va_D A [(h1, .inl (kB, 3000, .inl f1)), (h2, .inr (0, [.ref h9, .ref h10, .ref h11, .ref h12, .int x_12, .int ta, .int td, .int (-2)])), (h9, .inl (kI, 3001, .inl x_13)), (h10, .inl (kI, 3001, .inl x_14)), (h11, .inl (kJ, 3001, .inr (.inl x_15))), (h12, .inl (kJ, 27, .inr (.inl f12)))] := hD1
    replace hS := hS1
    clear hP1 hD1 hS1
    refine lv_aload_n hx hb d_8_3_48 rfl (lv_at hl 2 rfl) ?_
    have hPc := hP.sub (ws' := [(h2, .inr (0, [.ref h9, .ref h10, .ref h11, .ref h12, .int x_12, .int ta, .int td, .int (-2)])), (h9, .inl (kI, 3001, .inl x_13)), (h10, .inl (kI, 3001, .inl x_14)), (h11, .inl (kJ, 3001, .inr (.inl x_15))), (h12, .inl (kJ, 27, .inr (.inl f12)))]) [1, 2, 3, 4, 5] rfl
    have hDc := hD.sub (ws' := [(h2, .inr (0, [.ref h9, .ref h10, .ref h11, .ref h12, .int x_12, .int ta, .int td, .int (-2)])), (h9, .inl (kI, 3001, .inl x_13)), (h10, .inl (kI, 3001, .inl x_14)), (h11, .inl (kJ, 3001, .inr (.inl x_15))), (h12, .inl (kJ, 27, .inr (.inl f12)))]) [1, 2, 3, 4, 5] (by decide) rfl
    have hFc := va_free (wc := [(h2, .inr (0, [.ref h9, .ref h10, .ref h11, .ref h12, .int x_12, .int ta, .int td, .int (-2)])), (h9, .inl (kI, 3001, .inl x_13)), (h10, .inl (kI, 3001, .inl x_14)), (h11, .inl (kJ, 3001, .inr (.inl x_15))), (h12, .inl (kJ, 27, .inr (.inl f12)))]) hD hS hA [1, 2, 3, 4, 5] rfl
    refine va_callv (va_runV (As := []) (rest := []) ⟨hx, hb, hml, hown, hts⟩ (g_Tokens_rewind_s l D kI kJ kB kZ _ (h2) (h9) (h10) (h11) (h12) (x_12) (ta) (td) (((-2) : Int32)) (x_13) (x_14) (x_15) (f12) ) (cwV 0 hts (gT_V m_547 m_548 m_549 m_121 (gT_ws m_550)) rfl rfl rfl (by decide +kernel) ⟨(Nat.le_of_ble_eq_true rfl), (Nat.le_of_ble_eq_true rfl)⟩) ⟨xBlind xOk_N, va_recv hK hP (ci := 0) (q0 := 1) rfl rfl, xAtN hK hPc hDc⟩ rfl rfl hl.1 rfl (lv_room (Nat.le_of_ble_eq_true rfl)) d_8_3_49 ⟨(Nat.le_of_ble_eq_true rfl), (Nat.le_of_ble_eq_true rfl)⟩) hS (fun q _ h => hFc q h) hFc (fun u t H locs ht hvm hw_21 hB hz1 hk1 hS => ?_)
    clear hz1
    have hPD := xJoin (wr := [(h1, .inl (kB, 3000, .inl f1))]) (w1 := [(h2, .inr (0, [.ref h9, .ref h10, .ref h11, .ref h12, .int x_12, .int 0, .int 0, .int (-2)])), (h9, .inl (kI, 3001, .inl x_13)), (h10, .inl (kI, 3001, .inl x_14)), (h11, .inl (kJ, 3001, .inr (.inl x_15))), (h12, .inl (kJ, 27, .inr (.inl f12)))]) hP hD [1, 2, 3, 4, 5] [0] rfl rfl (by decide) (by decide) hk1 hFc ht hB
    replace hP : va_P D cls9 [(h1, .inl (kB, 3000, .inl f1)), (h2, .inr (0, [.ref h9, .ref h10, .ref h11, .ref h12, .int x_12, .int 0, .int 0, .int (-2)])), (h9, .inl (kI, 3001, .inl x_13)), (h10, .inl (kI, 3001, .inl x_14)), (h11, .inl (kJ, 3001, .inr (.inl x_15))), (h12, .inl (kJ, 27, .inr (.inl f12)))] H := hPD.1
    replace hD : va_D A [(h1, .inl (kB, 3000, .inl f1)), (h2, .inr (0, [.ref h9, .ref h10, .ref h11, .ref h12, .int x_12, .int 0, .int 0, .int (-2)])), (h9, .inl (kI, 3001, .inl x_13)), (h10, .inl (kI, 3001, .inl x_14)), (h11, .inl (kJ, 3001, .inr (.inl x_15))), (h12, .inl (kJ, 27, .inr (.inl f12)))] := hPD.2
    clear hPD hB hk1 hPc hDc hFc
    have hP9 := hP.sub (ws' := [(h2, .inr (0, [.ref h9, .ref h10, .ref h11, .ref h12, .int x_12, .int 0, .int 0, .int (-2)])), (h9, .inl (kI, 3001, .inl x_13)), (h10, .inl (kI, 3001, .inl x_14)), (h11, .inl (kJ, 3001, .inr (.inl x_15))), (h12, .inl (kJ, 27, .inr (.inl f12))), (h1, .inl (kB, 3000, .inl f1))]) [1, 2, 3, 4, 5, 0] rfl
    have hD9 := hD.sub (ws' := [(h2, .inr (0, [.ref h9, .ref h10, .ref h11, .ref h12, .int x_12, .int 0, .int 0, .int (-2)])), (h9, .inl (kI, 3001, .inl x_13)), (h10, .inl (kI, 3001, .inl x_14)), (h11, .inl (kJ, 3001, .inr (.inl x_15))), (h12, .inl (kJ, 27, .inr (.inl f12))), (h1, .inl (kB, 3000, .inl f1))]) [1, 2, 3, 4, 5, 0] (by decide) rfl
    exact W.vret hx hb hr (fun t ht hW => ⟨⟨(), rfl, trivial, x_12, x_13, x_14, x_15, hb_19, hb_17, hb_18, xEnd hK hP9 hD9 ht hW⟩, hS.F ht⟩) hS.2.2 d_8_3_52
  · skip
    have tc_9 : ¬ p2.toInt ≤ v10_4.toInt := fun h9 => c_9 (Int32.le_iff_toInt_le.mpr h9)
    refine lv_iload_n hx hb d_8_3_16 rfl (lv_at hl 1 rfl) ?_
    refine lv_iload_n hx hb d_8_3_17 rfl (lv_at hl 4 rfl) ?_
    refine lv_icmp_ge (tgt := 35) hx hb d_8_3_18 (by decide +kernel) (fun c_22 => ?_) (fun c_22 => ?_)
    · skip
      have tc_22 : p2.toInt ≤ v10_3.toInt := Int32.le_iff_toInt_le.mp c_22
      refine lv_aload_n hx hb d_8_3_35 rfl (lv_at hl 2 rfl) ?_
      refine lv_iconst (v := 0) hx hb d_8_3_36 (by decide +kernel) ?_
      refine lv_iload_n hx hb d_8_3_37 rfl (lv_at hl 4 rfl) ?_
      refine lv_lconst (v := 0) hx hb d_8_3_38 (by decide +kernel) ?_
      have hPc := hP.sub (ws' := [(h2, .inr (0, [.ref h9, .ref h10, .ref h11, .ref h12, .int w10_h2_4, .int ta, .int td, .int tf])), (h9, .inl (kI, 3001, .inl w10_h9)), (h10, .inl (kI, 3001, .inl w10_h10)), (h11, .inl (kJ, 3001, .inr (.inl w10_h11))), (h12, .inl (kJ, 27, .inr (.inl f12)))]) [0, 1, 2, 3, 4] rfl
      have hDc := hD.sub (ws' := [(h2, .inr (0, [.ref h9, .ref h10, .ref h11, .ref h12, .int w10_h2_4, .int ta, .int td, .int tf])), (h9, .inl (kI, 3001, .inl w10_h9)), (h10, .inl (kI, 3001, .inl w10_h10)), (h11, .inl (kJ, 3001, .inr (.inl w10_h11))), (h12, .inl (kJ, 27, .inr (.inl f12)))]) [0, 1, 2, 3, 4] (by decide) rfl
      have hFc := va_free (wc := [(h2, .inr (0, [.ref h9, .ref h10, .ref h11, .ref h12, .int w10_h2_4, .int ta, .int td, .int tf])), (h9, .inl (kI, 3001, .inl w10_h9)), (h10, .inl (kI, 3001, .inl w10_h10)), (h11, .inl (kJ, 3001, .inr (.inl w10_h11))), (h12, .inl (kJ, 27, .inr (.inl f12)))]) hD hS hA [0, 1, 2, 3, 4] rfl
      refine va_callv (va_runV (As := [.int 0, .int p2, .long 0]) (rest := []) ⟨hx, hb, hml, hown, hts⟩ (g_Tokens_add l D kI kJ kB kZ _ (h2) (h9) (h10) (h11) (h12) (w10_h2_4) (ta) (td) (tf) (w10_h9) (w10_h10) (w10_h11) (f12) ((0 : Int32)) (p2) ((0 : Int64)) hl_1 hl_2 hl_3 hq_0) (cwV 3 hts (gT_V m_470 m_472 m_5 m_121 (gT_ws m_473)) rfl rfl rfl (by decide +kernel) ⟨(Nat.le_of_ble_eq_true rfl), (Nat.le_of_ble_eq_true rfl)⟩) ⟨xBlind xOk_N, va_recv hK hP (ci := 0) (q0 := 0) rfl rfl, xAtN hK hPc hDc⟩ rfl rfl hl.1 rfl (lv_room (Nat.le_of_ble_eq_true rfl)) d_8_3_39 ⟨(Nat.le_of_ble_eq_true rfl), (Nat.le_of_ble_eq_true rfl)⟩) hS (fun q _ h => hFc q h) hFc (fun u t H locs ht hvm hw_24 hB hz1 hk1 hS => ?_)
      clear hz1
      revert hB
      refine exI fun x_25 => exI fun x_26 => exI fun x_27 => exI fun x_28 => anI fun hb_29 => anI fun hb_30 => anI fun hb_31 => anI fun hb_32 => fun hB => ?_
      have hPD := xJoin (wr := [(h1, .inl (kB, 3000, .inl f1))]) (w1 := [(h2, .inr (0, [.ref h9, .ref h10, .ref h11, .ref h12, .int x_25, .int ta, .int td, .int tf])), (h9, .inl (kI, 3001, .inl x_26)), (h10, .inl (kI, 3001, .inl x_27)), (h11, .inl (kJ, 3001, .inr (.inl x_28))), (h12, .inl (kJ, 27, .inr (.inl f12)))]) hP hD [0, 1, 2, 3, 4] [5] rfl rfl (by decide) (by decide) hk1 hFc ht hB
      replace hP : va_P D cls9 [(h1, .inl (kB, 3000, .inl f1)), (h2, .inr (0, [.ref h9, .ref h10, .ref h11, .ref h12, .int x_25, .int ta, .int td, .int tf])), (h9, .inl (kI, 3001, .inl x_26)), (h10, .inl (kI, 3001, .inl x_27)), (h11, .inl (kJ, 3001, .inr (.inl x_28))), (h12, .inl (kJ, 27, .inr (.inl f12)))] H := hPD.1
      replace hD : va_D A [(h1, .inl (kB, 3000, .inl f1)), (h2, .inr (0, [.ref h9, .ref h10, .ref h11, .ref h12, .int x_25, .int ta, .int td, .int tf])), (h9, .inl (kI, 3001, .inl x_26)), (h10, .inl (kI, 3001, .inl x_27)), (h11, .inl (kJ, 3001, .inr (.inl x_28))), (h12, .inl (kJ, 27, .inr (.inl f12)))] := hPD.2
      clear hPD hB hk1 hPc hDc hFc
      refine lv_aload_n hx hb d_8_3_42 rfl (lv_at hl 2 rfl) ?_
      refine lv_bipush (v := (-2)) hx hb d_8_3_43 (by decide +kernel) ?_
      refine va_put (D := D) (ci := 0) (v := .int (-2)) (ty := .int) (C := "AlgolJudge$Tokens") (T := T_Tokens) (N := 8) hx hb hts i_Tokens t_Tokens t_Tokens_ok n_Tokens hown hK hP hD hS 1 rfl rfl 7 (by decide +kernel) (hts _ m_217) (fun _ h9 => h9) rfl (by decide +kernel) rfl rfl (Nat.le_of_ble_eq_true rfl) d_8_3_45 (fun H locs hP1 hD1 hS1 => ?_)
      replace hP : va_P D cls9 [(h1, .inl (kB, 3000, .inl f1)), (h2, .inr (0, [.ref h9, .ref h10, .ref h11, .ref h12, .int x_25, .int ta, .int td, .int (-2)])), (h9, .inl (kI, 3001, .inl x_26)), (h10, .inl (kI, 3001, .inl x_27)), (h11, .inl (kJ, 3001, .inr (.inl x_28))), (h12, .inl (kJ, 27, .inr (.inl f12)))] H := hP1
      replace hD : va_D A [(h1, .inl (kB, 3000, .inl f1)), (h2, .inr (0, [.ref h9, .ref h10, .ref h11, .ref h12, .int x_25, .int ta, .int td, .int (-2)])), (h9, .inl (kI, 3001, .inl x_26)), (h10, .inl (kI, 3001, .inl x_27)), (h11, .inl (kJ, 3001, .inr (.inl x_28))), (h12, .inl (kJ, 27, .inr (.inl f12)))] := hD1
      replace hS := hS1
      clear hP1 hD1 hS1
      refine lv_aload_n hx hb d_8_3_48 rfl (lv_at hl 2 rfl) ?_
      have hPc := hP.sub (ws' := [(h2, .inr (0, [.ref h9, .ref h10, .ref h11, .ref h12, .int x_25, .int ta, .int td, .int (-2)])), (h9, .inl (kI, 3001, .inl x_26)), (h10, .inl (kI, 3001, .inl x_27)), (h11, .inl (kJ, 3001, .inr (.inl x_28))), (h12, .inl (kJ, 27, .inr (.inl f12)))]) [1, 2, 3, 4, 5] rfl
      have hDc := hD.sub (ws' := [(h2, .inr (0, [.ref h9, .ref h10, .ref h11, .ref h12, .int x_25, .int ta, .int td, .int (-2)])), (h9, .inl (kI, 3001, .inl x_26)), (h10, .inl (kI, 3001, .inl x_27)), (h11, .inl (kJ, 3001, .inr (.inl x_28))), (h12, .inl (kJ, 27, .inr (.inl f12)))]) [1, 2, 3, 4, 5] (by decide) rfl
      have hFc := va_free (wc := [(h2, .inr (0, [.ref h9, .ref h10, .ref h11, .ref h12, .int x_25, .int ta, .int td, .int (-2)])), (h9, .inl (kI, 3001, .inl x_26)), (h10, .inl (kI, 3001, .inl x_27)), (h11, .inl (kJ, 3001, .inr (.inl x_28))), (h12, .inl (kJ, 27, .inr (.inl f12)))]) hD hS hA [1, 2, 3, 4, 5] rfl
      refine va_callv (va_runV (As := []) (rest := []) ⟨hx, hb, hml, hown, hts⟩ (g_Tokens_rewind_s l D kI kJ kB kZ _ (h2) (h9) (h10) (h11) (h12) (x_25) (ta) (td) (((-2) : Int32)) (x_26) (x_27) (x_28) (f12) ) (cwV 0 hts (gT_V m_547 m_548 m_549 m_121 (gT_ws m_550)) rfl rfl rfl (by decide +kernel) ⟨(Nat.le_of_ble_eq_true rfl), (Nat.le_of_ble_eq_true rfl)⟩) ⟨xBlind xOk_N, va_recv hK hP (ci := 0) (q0 := 1) rfl rfl, xAtN hK hPc hDc⟩ rfl rfl hl.1 rfl (lv_room (Nat.le_of_ble_eq_true rfl)) d_8_3_49 ⟨(Nat.le_of_ble_eq_true rfl), (Nat.le_of_ble_eq_true rfl)⟩) hS (fun q _ h => hFc q h) hFc (fun u t H locs ht hvm hw_34 hB hz1 hk1 hS => ?_)
      clear hz1
      have hPD := xJoin (wr := [(h1, .inl (kB, 3000, .inl f1))]) (w1 := [(h2, .inr (0, [.ref h9, .ref h10, .ref h11, .ref h12, .int x_25, .int 0, .int 0, .int (-2)])), (h9, .inl (kI, 3001, .inl x_26)), (h10, .inl (kI, 3001, .inl x_27)), (h11, .inl (kJ, 3001, .inr (.inl x_28))), (h12, .inl (kJ, 27, .inr (.inl f12)))]) hP hD [1, 2, 3, 4, 5] [0] rfl rfl (by decide) (by decide) hk1 hFc ht hB
      replace hP : va_P D cls9 [(h1, .inl (kB, 3000, .inl f1)), (h2, .inr (0, [.ref h9, .ref h10, .ref h11, .ref h12, .int x_25, .int 0, .int 0, .int (-2)])), (h9, .inl (kI, 3001, .inl x_26)), (h10, .inl (kI, 3001, .inl x_27)), (h11, .inl (kJ, 3001, .inr (.inl x_28))), (h12, .inl (kJ, 27, .inr (.inl f12)))] H := hPD.1
      replace hD : va_D A [(h1, .inl (kB, 3000, .inl f1)), (h2, .inr (0, [.ref h9, .ref h10, .ref h11, .ref h12, .int x_25, .int 0, .int 0, .int (-2)])), (h9, .inl (kI, 3001, .inl x_26)), (h10, .inl (kI, 3001, .inl x_27)), (h11, .inl (kJ, 3001, .inr (.inl x_28))), (h12, .inl (kJ, 27, .inr (.inl f12)))] := hPD.2
      clear hPD hB hk1 hPc hDc hFc
      have hP9 := hP.sub (ws' := [(h2, .inr (0, [.ref h9, .ref h10, .ref h11, .ref h12, .int x_25, .int 0, .int 0, .int (-2)])), (h9, .inl (kI, 3001, .inl x_26)), (h10, .inl (kI, 3001, .inl x_27)), (h11, .inl (kJ, 3001, .inr (.inl x_28))), (h12, .inl (kJ, 27, .inr (.inl f12))), (h1, .inl (kB, 3000, .inl f1))]) [1, 2, 3, 4, 5, 0] rfl
      have hD9 := hD.sub (ws' := [(h2, .inr (0, [.ref h9, .ref h10, .ref h11, .ref h12, .int x_25, .int 0, .int 0, .int (-2)])), (h9, .inl (kI, 3001, .inl x_26)), (h10, .inl (kI, 3001, .inl x_27)), (h11, .inl (kJ, 3001, .inr (.inl x_28))), (h12, .inl (kJ, 27, .inr (.inl f12))), (h1, .inl (kB, 3000, .inl f1))]) [1, 2, 3, 4, 5, 0] (by decide) rfl
      exact W.vret hx hb hr (fun t ht hW => ⟨⟨(), rfl, trivial, x_25, x_26, x_27, x_28, hb_32, hb_30, hb_31, xEnd hK hP9 hD9 ht hW⟩, hS.F ht⟩) hS.2.2 d_8_3_52
    · skip
      have tc_22 : ¬ p2.toInt ≤ v10_3.toInt := fun h9 => c_22 (Int32.le_iff_toInt_le.mpr h9)
      refine lv_aload_n hx hb d_8_3_21 rfl (lv_at hl 2 rfl) ?_
      refine lv_aload_n hx hb d_8_3_22 rfl (lv_at hl 3 rfl) ?_
      refine lv_iload_n hx hb d_8_3_23 rfl (lv_at hl 4 rfl) ?_
      refine lv_iload_n hx hb d_8_3_24 rfl (lv_at hl 1 rfl) ?_
      have hPc := hP.sub (ws' := [(h2, .inr (0, [.ref h9, .ref h10, .ref h11, .ref h12, .int w10_h2_4, .int ta, .int td, .int tf])), (h9, .inl (kI, 3001, .inl w10_h9)), (h10, .inl (kI, 3001, .inl w10_h10)), (h11, .inl (kJ, 3001, .inr (.inl w10_h11))), (h12, .inl (kJ, 27, .inr (.inl f12))), (h1, .inl (kB, 3000, .inl f1))]) [0, 1, 2, 3, 4, 5] rfl
      have hDc := hD.sub (ws' := [(h2, .inr (0, [.ref h9, .ref h10, .ref h11, .ref h12, .int w10_h2_4, .int ta, .int td, .int tf])), (h9, .inl (kI, 3001, .inl w10_h9)), (h10, .inl (kI, 3001, .inl w10_h10)), (h11, .inl (kJ, 3001, .inr (.inl w10_h11))), (h12, .inl (kJ, 27, .inr (.inl f12))), (h1, .inl (kB, 3000, .inl f1))]) [0, 1, 2, 3, 4, 5] (by decide) rfl
      have hFc := va_free (wc := [(h2, .inr (0, [.ref h9, .ref h10, .ref h11, .ref h12, .int w10_h2_4, .int ta, .int td, .int tf])), (h9, .inl (kI, 3001, .inl w10_h9)), (h10, .inl (kI, 3001, .inl w10_h10)), (h11, .inl (kJ, 3001, .inr (.inl w10_h11))), (h12, .inl (kJ, 27, .inr (.inl f12))), (h1, .inl (kB, 3000, .inl f1))]) hD hS hA [0, 1, 2, 3, 4, 5] rfl
      refine va_calli (va_runV (As := [.ref h1, .int p2, .int v10_3]) (rest := []) ⟨hx, hb, hml, hown, hts⟩ (g_Tokens_scanFrom l D kI kJ kB kZ _ (h1) (h2) (h9) (h10) (h11) (h12) (w10_h2_4) (ta) (td) (tf) (w10_h9) (w10_h10) (w10_h11) (f12) (f1) (p2) (v10_3) (sA) (sV) hl_1 hl_2 hl_3 hl_6 (by first | assumption | omega) hq_1) (cwV 3 hts (gT_V m_452 m_454 m_2 m_121 (gT_ws m_455)) rfl rfl rfl (by decide +kernel) ⟨(Nat.le_of_ble_eq_true rfl), (Nat.le_of_ble_eq_true rfl)⟩) ⟨xBlind (xOk_E sA sV), va_recv hK hP (ci := 0) (q0 := 0) rfl rfl, xAt (xOk_E sA sV) hK hPc hDc hS hFc hE⟩ rfl rfl hl.1 rfl (lv_room (Nat.le_of_ble_eq_true rfl)) d_8_3_25 ⟨(Nat.le_of_ble_eq_true rfl), (Nat.le_of_ble_eq_true rfl)⟩) hS (fun q _ h => hFc q h) hFc (fun r_35 u t H locs ht hvm hw_36 hB hz1 hk1 hS => ?_)
      clear hz1
      revert hB
      refine exI fun x_37 => exI fun x_38 => exI fun x_39 => exI fun x_40 => anI fun hb_41 => anI fun hb_42 => anI fun hb_43 => fun hB => ?_
      have hPD := xJoin (wr := []) (w1 := [(h2, .inr (0, [.ref h9, .ref h10, .ref h11, .ref h12, .int x_37, .int ta, .int td, .int tf])), (h9, .inl (kI, 3001, .inl x_38)), (h10, .inl (kI, 3001, .inl x_39)), (h11, .inl (kJ, 3001, .inr (.inl x_40))), (h12, .inl (kJ, 27, .inr (.inl f12))), (h1, .inl (kB, 3000, .inl f1))]) hP hD [0, 1, 2, 3, 4, 5] [] rfl rfl (by decide) (by decide) hk1 hFc ht hB
      replace hP : va_P D cls9 [(h2, .inr (0, [.ref h9, .ref h10, .ref h11, .ref h12, .int x_37, .int ta, .int td, .int tf])), (h9, .inl (kI, 3001, .inl x_38)), (h10, .inl (kI, 3001, .inl x_39)), (h11, .inl (kJ, 3001, .inr (.inl x_40))), (h12, .inl (kJ, 27, .inr (.inl f12))), (h1, .inl (kB, 3000, .inl f1))] H := hPD.1
      replace hD : va_D A [(h2, .inr (0, [.ref h9, .ref h10, .ref h11, .ref h12, .int x_37, .int ta, .int td, .int tf])), (h9, .inl (kI, 3001, .inl x_38)), (h10, .inl (kI, 3001, .inl x_39)), (h11, .inl (kJ, 3001, .inr (.inl x_40))), (h12, .inl (kJ, 27, .inr (.inl f12))), (h1, .inl (kB, 3000, .inl f1))] := hPD.2
      clear hPD hB hk1 hPc hDc hFc
      have hw_36 : 0 ≤ r_35.toInt := hw_36
      refine lv_istore_n (lv' := [(3, .int r_35), (4, .int v10_4), (0, .ref h2), (1, .ref h1), (2, .int p2)]) hx hb d_8_3_28 rfl hl (by decide +kernel) rfl (fun ls hl => ?_)
      obtain ⟨y_44, ey_44⟩ : ∃ y : Int32, y = v10_4 + 1 := ⟨_, rfl⟩
      have ty_44 : y_44.toInt = v10_4.toInt + 1 := by rw [ey_44]; exact zaddc (by decide +kernel) (by omega) (by omega)
      refine lv_iinc (v := y_44) (lv' := [(4, .int y_44), (3, .int r_35), (0, .ref h2), (1, .ref h1), (2, .int p2)]) hx hb d_8_3_29 hl (k := 1) rfl (by rw [ey_44]; rfl) (by decide +kernel) rfl (fun ls hl => ?_)
      refine lv_goto (tgt := 10) hx hb d_8_3_32 (by decide +kernel) ?_
      exact ih_8 _ _ _ _ (by omega) ⟨x_39, x_40, x_37, x_38, y_44, r_35, hb_41, hb_42, hb_43, (show 0 ≤ y_44.toInt from (by first | assumption | omega)), (show y_44.toInt ≤ p2.toInt from (by first | assumption | omega)), (show 0 ≤ r_35.toInt from (by first | assumption | omega)), rfl, hP.sub (ws' := [(h2, .inr (0, [.ref h9, .ref h10, .ref h11, .ref h12, .int x_37, .int ta, .int td, .int tf])), (h9, .inl (kI, 3001, .inl x_38)), (h10, .inl (kI, 3001, .inl x_39)), (h11, .inl (kJ, 3001, .inr (.inl x_40))), (h12, .inl (kJ, 27, .inr (.inl f12))), (h1, .inl (kB, 3000, .inl f1))]) [0, 1, 2, 3, 4, 5] rfl, hD.sub (ws' := [(h2, .inr (0, [.ref h9, .ref h10, .ref h11, .ref h12, .int x_37, .int ta, .int td, .int tf])), (h9, .inl (kI, 3001, .inl x_38)), (h10, .inl (kI, 3001, .inl x_39)), (h11, .inl (kJ, 3001, .inr (.inl x_40))), (h12, .inl (kJ, 27, .inr (.inl f12))), (h1, .inl (kB, 3000, .inl f1))]) [0, 1, 2, 3, 4, 5] (by decide) rfl, hS, lv_sub hl [0, 1, 2, 3, 4] rfl⟩
set_option maxHeartbeats 8000000 in
set_option maxRecDepth 100000 in
theorem g_Book_size (l : Launch) (D : va_G) (kI kJ kB kZ : ClassId) (sz : Nat) (h6 : Nat) (h28 : Nat) (h29 : Nat) (h30 : Nat) (h31 : Nat) (h32 : Nat) (h33 : Nat) (h34 : Nat) (ow : Int32) (on : Int32) (f28 : Nat → Int32) (f29 : Nat → Int32) (f30 : Nat → Int32) (f31 : Nat → Int32) (f32 : Nat → Int32) (f33 : Nat → Int32) (f34 : Nat → Int32)  : Met l (⟨"AlgolJudge$Book", "size", "()I"⟩ : MethodName) (Cond.code (⟨"AlgolJudge$Book", "size", "()I"⟩ : MethodName) prog_3_method_2_code 1 (some .int) :: gT) ({ frames := 0, cells := 0, slots := 0, locals := 0 }) (va_Pc [.ref h6] (xP D (xT kI kJ kB kZ) xN [(h6, .inr (6, [.ref h28, .ref h29, .ref h30, .ref h31, .ref h32, .ref h33, .ref h34, .int ow, .int on])), (h28, .inl (kI, 1501, .inl f28)), (h29, .inl (kI, 1501, .inl f29)), (h30, .inl (kI, 1501, .inl f30)), (h31, .inl (kI, 1501, .inl f31)), (h32, .inl (kI, 1501, .inl f32)), (h33, .inl (kI, 3000, .inl f33)), (h34, .inl (kI, 1501, .inl f34))] sz)) (va_Qi (fun (r : Int32) (_ : Unit) => True) (fun _ t => xQ D (xT kI kJ kB kZ) (va_A [(h6, .inr (6, [.ref h28, .ref h29, .ref h30, .ref h31, .ref h32, .ref h33, .ref h34, .int ow, .int on])), (h28, .inl (kI, 1501, .inl f28)), (h29, .inl (kI, 1501, .inl f29)), (h30, .inl (kI, 1501, .inl f30)), (h31, .inl (kI, 1501, .inl f31)), (h32, .inl (kI, 1501, .inl f32)), (h33, .inl (kI, 3000, .inl f33)), (h34, .inl (kI, 1501, .inl f34))] sz) [(h6, .inr (6, [.ref h28, .ref h29, .ref h30, .ref h31, .ref h32, .ref h33, .ref h34, .int ow, .int on])), (h28, .inl (kI, 1501, .inl f28)), (h29, .inl (kI, 1501, .inl f29)), (h30, .inl (kI, 1501, .inl f30)), (h31, .inl (kI, 1501, .inl f31)), (h32, .inl (kI, 1501, .inl f32)), (h33, .inl (kI, 3000, .inl f33)), (h34, .inl (kI, 1501, .inl f34))] t) (va_A [(h6, .inr (6, [.ref h28, .ref h29, .ref h30, .ref h31, .ref h32, .ref h33, .ref h34, .int ow, .int on])), (h28, .inl (kI, 1501, .inl f28)), (h29, .inl (kI, 1501, .inl f29)), (h30, .inl (kI, 1501, .inl f30)), (h31, .inl (kI, 1501, .inl f31)), (h32, .inl (kI, 1501, .inl f32)), (h33, .inl (kI, 3000, .inl f33)), (h34, .inl (kI, 1501, .inl f34))] sz)) 0 0 (va_A [(h6, .inr (6, [.ref h28, .ref h29, .ref h30, .ref h31, .ref h32, .ref h33, .ref h34, .int ow, .int on])), (h28, .inl (kI, 1501, .inl f28)), (h29, .inl (kI, 1501, .inl f29)), (h30, .inl (kI, 1501, .inl f30)), (h31, .inl (kI, 1501, .inl f31)), (h32, .inl (kI, 1501, .inl f32)), (h33, .inl (kI, 3000, .inl f33)), (h34, .inl (kI, 1501, .inl f34))] sz) := by
  refine Met.ofW (cc := prog_3_method_2_code) (maxL := 1) (ret := some .int) (by decide +kernel) rfl ?_
  intro p e s m args below meth c s₁ B hml hv
  obtain ⟨rfl, hsz, hP, hK, hD0, hE⟩ := hv
  have hx := B.exec
  have hb := B.bytes
  have hr := B.returns
  have hts : ∀ w ∈ gT, w.before _ s = true := fun w h => atoms_spec (ws := Cond.code (⟨"AlgolJudge$Book", "size", "()I"⟩ : MethodName) prog_3_method_2_code 1 (some .int) :: gT) B.pre w (List.mem_cons_of_mem _ h)
  have hown : s.vm.findClass "AlgolJudge$Book" = some m.cls := findClass_of_methodNamed B.named
  have hlocks := B.notSynchronized
  subst hsz
  have hD := hD0.self (sz := s.heap.size)
  generalize hAe : va_A [(h6, .inr (6, [.ref h28, .ref h29, .ref h30, .ref h31, .ref h32, .ref h33, .ref h34, .int ow, .int on])), (h28, .inl (kI, 1501, .inl f28)), (h29, .inl (kI, 1501, .inl f29)), (h30, .inl (kI, 1501, .inl f30)), (h31, .inl (kI, 1501, .inl f31)), (h32, .inl (kI, 1501, .inl f32)), (h33, .inl (kI, 3000, .inl f33)), (h34, .inl (kI, 1501, .inl f34))] s.heap.size = A at hD hE ⊢
  have hA : ∀ q : Nat, s.heap.size ≤ q → A q := fun q h => by rw [← hAe]; exact Or.inr h
  have hS : va_S A s.heap s.heap [] := va_S.rf
  have hP : va_P D cls9 [(h6, .inr (6, [.ref h28, .ref h29, .ref h30, .ref h31, .ref h32, .ref h33, .ref h34, .int ow, .int on])), (h28, .inl (kI, 1501, .inl f28)), (h29, .inl (kI, 1501, .inl f29)), (h30, .inl (kI, 1501, .inl f30)), (h31, .inl (kI, 1501, .inl f31)), (h32, .inl (kI, 1501, .inl f32)), (h33, .inl (kI, 3000, .inl f33)), (h34, .inl (kI, 1501, .inl f34))] s.heap := hP
  have hl := lv_entry ([.ref h6]) (n := 1) (Nat.le_of_ble_eq_true rfl)
  rw [lg_entry_eq]
  generalize (lg_sl ([.ref h6]) ++ List.replicate (1 - (lg_sl ([.ref h6])).length) Slot.unset).toArray = ls at hl ⊢
  have hl : lv_has ls 1 [(0, .ref h6)] := hl
  refine lv_aload_n hx hb d_3_2_0 rfl (lv_at hl 0 rfl) ?_
  refine va_get (D := D) (ci := 6) (v := .int ow) (C := "AlgolJudge$Book") (T := T_Book) (N := 9) hx hb hts i_Book hown hK hP 0 rfl rfl 7 (by decide +kernel) (hts _ m_389) (fun _ h9 => h9) rfl d_3_2_1 ?_
  refine lv_if_eq (tgt := 14) hx hb d_3_2_4 (by decide +kernel) (fun c_1 => ?_) (fun c_1 => ?_)
  · skip
    have tc_1 : ow.toInt = 0 := congrArg Int32.toInt c_1
    refine lv_bipush (v := (-2)) hx hb d_3_2_14 (by decide +kernel) ?_
    have hP9 := hP.sub (ws' := [(h6, .inr (6, [.ref h28, .ref h29, .ref h30, .ref h31, .ref h32, .ref h33, .ref h34, .int ow, .int on])), (h28, .inl (kI, 1501, .inl f28)), (h29, .inl (kI, 1501, .inl f29)), (h30, .inl (kI, 1501, .inl f30)), (h31, .inl (kI, 1501, .inl f31)), (h32, .inl (kI, 1501, .inl f32)), (h33, .inl (kI, 3000, .inl f33)), (h34, .inl (kI, 1501, .inl f34))]) [0, 1, 2, 3, 4, 5, 6, 7] rfl
    have hD9 := hD.sub (ws' := [(h6, .inr (6, [.ref h28, .ref h29, .ref h30, .ref h31, .ref h32, .ref h33, .ref h34, .int ow, .int on])), (h28, .inl (kI, 1501, .inl f28)), (h29, .inl (kI, 1501, .inl f29)), (h30, .inl (kI, 1501, .inl f30)), (h31, .inl (kI, 1501, .inl f31)), (h32, .inl (kI, 1501, .inl f32)), (h33, .inl (kI, 3000, .inl f33)), (h34, .inl (kI, 1501, .inl f34))]) [0, 1, 2, 3, 4, 5, 6, 7] (by decide) rfl
    exact W.iret (v := (-2)) hx hb hr (fun t ht hW => ⟨⟨(-2), (), rfl, trivial, xEnd hK hP9 hD9 ht hW⟩, hS.F ht⟩) hS.2.2 d_3_2_16
  · skip
    have tc_1 : ¬ ow.toInt = 0 := fun h9 => c_1 (Int32.toInt_inj.mp h9)
    refine lv_aload_n hx hb d_3_2_7 rfl (lv_at hl 0 rfl) ?_
    refine va_get (D := D) (ci := 6) (v := .int on) (C := "AlgolJudge$Book") (T := T_Book) (N := 9) hx hb hts i_Book hown hK hP 0 rfl rfl 8 (by decide +kernel) (hts _ m_390) (fun _ h9 => h9) rfl d_3_2_8 ?_
    refine lv_goto (tgt := 16) hx hb d_3_2_11 (by decide +kernel) ?_
    have hP9 := hP.sub (ws' := [(h6, .inr (6, [.ref h28, .ref h29, .ref h30, .ref h31, .ref h32, .ref h33, .ref h34, .int ow, .int on])), (h28, .inl (kI, 1501, .inl f28)), (h29, .inl (kI, 1501, .inl f29)), (h30, .inl (kI, 1501, .inl f30)), (h31, .inl (kI, 1501, .inl f31)), (h32, .inl (kI, 1501, .inl f32)), (h33, .inl (kI, 3000, .inl f33)), (h34, .inl (kI, 1501, .inl f34))]) [0, 1, 2, 3, 4, 5, 6, 7] rfl
    have hD9 := hD.sub (ws' := [(h6, .inr (6, [.ref h28, .ref h29, .ref h30, .ref h31, .ref h32, .ref h33, .ref h34, .int ow, .int on])), (h28, .inl (kI, 1501, .inl f28)), (h29, .inl (kI, 1501, .inl f29)), (h30, .inl (kI, 1501, .inl f30)), (h31, .inl (kI, 1501, .inl f31)), (h32, .inl (kI, 1501, .inl f32)), (h33, .inl (kI, 3000, .inl f33)), (h34, .inl (kI, 1501, .inl f34))]) [0, 1, 2, 3, 4, 5, 6, 7] (by decide) rfl
    exact W.iret (v := on) hx hb hr (fun t ht hW => ⟨⟨on, (), rfl, trivial, xEnd hK hP9 hD9 ht hW⟩, hS.F ht⟩) hS.2.2 d_3_2_16
set_option maxHeartbeats 8000000 in
set_option maxRecDepth 100000 in
theorem g_Book_about (l : Launch) (D : va_G) (kI kJ kB kZ : ClassId) (sz : Nat) (h6 : Nat) (h28 : Nat) (h29 : Nat) (h30 : Nat) (h31 : Nat) (h32 : Nat) (h33 : Nat) (h34 : Nat) (ow : Int32) (on : Int32) (f28 : Nat → Int32) (f29 : Nat → Int32) (f30 : Nat → Int32) (f31 : Nat → Int32) (f32 : Nat → Int32) (f33 : Nat → Int32) (f34 : Nat → Int32) (p1 : Int32) (p2 : Int32) (hf_K1 : on.toInt ≤ 1501) : Met l (⟨"AlgolJudge$Book", "about", "(II)I"⟩ : MethodName) (Cond.code (⟨"AlgolJudge$Book", "about", "(II)I"⟩ : MethodName) prog_3_method_3_code 3 (some .int) :: gT) ({ frames := 0, cells := 0, slots := 0, locals := 0 }) (va_Pc [.ref h6, .int p1, .int p2] (xP D (xT kI kJ kB kZ) xN [(h6, .inr (6, [.ref h28, .ref h29, .ref h30, .ref h31, .ref h32, .ref h33, .ref h34, .int ow, .int on])), (h28, .inl (kI, 1501, .inl f28)), (h29, .inl (kI, 1501, .inl f29)), (h30, .inl (kI, 1501, .inl f30)), (h31, .inl (kI, 1501, .inl f31)), (h32, .inl (kI, 1501, .inl f32)), (h33, .inl (kI, 3000, .inl f33)), (h34, .inl (kI, 1501, .inl f34))] sz)) (va_Qi (fun (r : Int32) (_ : Unit) => True) (fun _ t => xQ D (xT kI kJ kB kZ) (va_A [(h6, .inr (6, [.ref h28, .ref h29, .ref h30, .ref h31, .ref h32, .ref h33, .ref h34, .int ow, .int on])), (h28, .inl (kI, 1501, .inl f28)), (h29, .inl (kI, 1501, .inl f29)), (h30, .inl (kI, 1501, .inl f30)), (h31, .inl (kI, 1501, .inl f31)), (h32, .inl (kI, 1501, .inl f32)), (h33, .inl (kI, 3000, .inl f33)), (h34, .inl (kI, 1501, .inl f34))] sz) [(h6, .inr (6, [.ref h28, .ref h29, .ref h30, .ref h31, .ref h32, .ref h33, .ref h34, .int ow, .int on])), (h28, .inl (kI, 1501, .inl f28)), (h29, .inl (kI, 1501, .inl f29)), (h30, .inl (kI, 1501, .inl f30)), (h31, .inl (kI, 1501, .inl f31)), (h32, .inl (kI, 1501, .inl f32)), (h33, .inl (kI, 3000, .inl f33)), (h34, .inl (kI, 1501, .inl f34))] t) (va_A [(h6, .inr (6, [.ref h28, .ref h29, .ref h30, .ref h31, .ref h32, .ref h33, .ref h34, .int ow, .int on])), (h28, .inl (kI, 1501, .inl f28)), (h29, .inl (kI, 1501, .inl f29)), (h30, .inl (kI, 1501, .inl f30)), (h31, .inl (kI, 1501, .inl f31)), (h32, .inl (kI, 1501, .inl f32)), (h33, .inl (kI, 3000, .inl f33)), (h34, .inl (kI, 1501, .inl f34))] sz)) 0 0 (va_A [(h6, .inr (6, [.ref h28, .ref h29, .ref h30, .ref h31, .ref h32, .ref h33, .ref h34, .int ow, .int on])), (h28, .inl (kI, 1501, .inl f28)), (h29, .inl (kI, 1501, .inl f29)), (h30, .inl (kI, 1501, .inl f30)), (h31, .inl (kI, 1501, .inl f31)), (h32, .inl (kI, 1501, .inl f32)), (h33, .inl (kI, 3000, .inl f33)), (h34, .inl (kI, 1501, .inl f34))] sz) := by
  refine Met.ofW (cc := prog_3_method_3_code) (maxL := 3) (ret := some .int) (by decide +kernel) rfl ?_
  intro p e s m args below meth c s₁ B hml hv
  obtain ⟨rfl, hsz, hP, hK, hD0, hE⟩ := hv
  have hx := B.exec
  have hb := B.bytes
  have hr := B.returns
  have hts : ∀ w ∈ gT, w.before _ s = true := fun w h => atoms_spec (ws := Cond.code (⟨"AlgolJudge$Book", "about", "(II)I"⟩ : MethodName) prog_3_method_3_code 3 (some .int) :: gT) B.pre w (List.mem_cons_of_mem _ h)
  have hown : s.vm.findClass "AlgolJudge$Book" = some m.cls := findClass_of_methodNamed B.named
  have hlocks := B.notSynchronized
  subst hsz
  have hD := hD0.self (sz := s.heap.size)
  generalize hAe : va_A [(h6, .inr (6, [.ref h28, .ref h29, .ref h30, .ref h31, .ref h32, .ref h33, .ref h34, .int ow, .int on])), (h28, .inl (kI, 1501, .inl f28)), (h29, .inl (kI, 1501, .inl f29)), (h30, .inl (kI, 1501, .inl f30)), (h31, .inl (kI, 1501, .inl f31)), (h32, .inl (kI, 1501, .inl f32)), (h33, .inl (kI, 3000, .inl f33)), (h34, .inl (kI, 1501, .inl f34))] s.heap.size = A at hD hE ⊢
  have hA : ∀ q : Nat, s.heap.size ≤ q → A q := fun q h => by rw [← hAe]; exact Or.inr h
  have hS : va_S A s.heap s.heap [] := va_S.rf
  have hP : va_P D cls9 [(h6, .inr (6, [.ref h28, .ref h29, .ref h30, .ref h31, .ref h32, .ref h33, .ref h34, .int ow, .int on])), (h28, .inl (kI, 1501, .inl f28)), (h29, .inl (kI, 1501, .inl f29)), (h30, .inl (kI, 1501, .inl f30)), (h31, .inl (kI, 1501, .inl f31)), (h32, .inl (kI, 1501, .inl f32)), (h33, .inl (kI, 3000, .inl f33)), (h34, .inl (kI, 1501, .inl f34))] s.heap := hP
  have hl := lv_entry ([.ref h6, .int p1, .int p2]) (n := 3) (Nat.le_of_ble_eq_true rfl)
  rw [lg_entry_eq]
  generalize (lg_sl ([.ref h6, .int p1, .int p2]) ++ List.replicate (3 - (lg_sl ([.ref h6, .int p1, .int p2])).length) Slot.unset).toArray = ls at hl ⊢
  have hl : lv_has ls 3 [(0, .ref h6), (1, .int p1), (2, .int p2)] := hl
  refine lv_aload_n hx hb d_3_3_0 rfl (lv_at hl 0 rfl) ?_
  refine va_get (D := D) (ci := 6) (v := .int ow) (C := "AlgolJudge$Book") (T := T_Book) (N := 9) hx hb hts i_Book hown hK hP 0 rfl rfl 7 (by decide +kernel) (hts _ m_389) (fun _ h9 => h9) rfl d_3_3_1 ?_
  refine lv_if_eq (tgt := 19) hx hb d_3_3_4 (by decide +kernel) (fun c_1 => ?_) (fun c_1 => ?_)
  · skip
    have tc_1 : ow.toInt = 0 := congrArg Int32.toInt c_1
    refine lv_bipush (v := (-2)) hx hb d_3_3_19 (by decide +kernel) ?_
    have hP9 := hP.sub (ws' := [(h6, .inr (6, [.ref h28, .ref h29, .ref h30, .ref h31, .ref h32, .ref h33, .ref h34, .int ow, .int on])), (h28, .inl (kI, 1501, .inl f28)), (h29, .inl (kI, 1501, .inl f29)), (h30, .inl (kI, 1501, .inl f30)), (h31, .inl (kI, 1501, .inl f31)), (h32, .inl (kI, 1501, .inl f32)), (h33, .inl (kI, 3000, .inl f33)), (h34, .inl (kI, 1501, .inl f34))]) [0, 1, 2, 3, 4, 5, 6, 7] rfl
    have hD9 := hD.sub (ws' := [(h6, .inr (6, [.ref h28, .ref h29, .ref h30, .ref h31, .ref h32, .ref h33, .ref h34, .int ow, .int on])), (h28, .inl (kI, 1501, .inl f28)), (h29, .inl (kI, 1501, .inl f29)), (h30, .inl (kI, 1501, .inl f30)), (h31, .inl (kI, 1501, .inl f31)), (h32, .inl (kI, 1501, .inl f32)), (h33, .inl (kI, 3000, .inl f33)), (h34, .inl (kI, 1501, .inl f34))]) [0, 1, 2, 3, 4, 5, 6, 7] (by decide) rfl
    exact W.iret (v := (-2)) hx hb hr (fun t ht hW => ⟨⟨(-2), (), rfl, trivial, xEnd hK hP9 hD9 ht hW⟩, hS.F ht⟩) hS.2.2 d_3_3_21
  · skip
    have tc_1 : ¬ ow.toInt = 0 := fun h9 => c_1 (Int32.toInt_inj.mp h9)
    refine lv_iload_n hx hb d_3_3_7 rfl (lv_at hl 1 rfl) ?_
    refine lv_if_lt (tgt := 19) hx hb d_3_3_8 (by decide +kernel) (fun c_2 => ?_) (fun c_2 => ?_)
    · skip
      have tc_2 : p1.toInt < 0 := Int32.lt_iff_toInt_lt.mp c_2
      refine lv_bipush (v := (-2)) hx hb d_3_3_19 (by decide +kernel) ?_
      have hP9 := hP.sub (ws' := [(h6, .inr (6, [.ref h28, .ref h29, .ref h30, .ref h31, .ref h32, .ref h33, .ref h34, .int ow, .int on])), (h28, .inl (kI, 1501, .inl f28)), (h29, .inl (kI, 1501, .inl f29)), (h30, .inl (kI, 1501, .inl f30)), (h31, .inl (kI, 1501, .inl f31)), (h32, .inl (kI, 1501, .inl f32)), (h33, .inl (kI, 3000, .inl f33)), (h34, .inl (kI, 1501, .inl f34))]) [0, 1, 2, 3, 4, 5, 6, 7] rfl
      have hD9 := hD.sub (ws' := [(h6, .inr (6, [.ref h28, .ref h29, .ref h30, .ref h31, .ref h32, .ref h33, .ref h34, .int ow, .int on])), (h28, .inl (kI, 1501, .inl f28)), (h29, .inl (kI, 1501, .inl f29)), (h30, .inl (kI, 1501, .inl f30)), (h31, .inl (kI, 1501, .inl f31)), (h32, .inl (kI, 1501, .inl f32)), (h33, .inl (kI, 3000, .inl f33)), (h34, .inl (kI, 1501, .inl f34))]) [0, 1, 2, 3, 4, 5, 6, 7] (by decide) rfl
      exact W.iret (v := (-2)) hx hb hr (fun t ht hW => ⟨⟨(-2), (), rfl, trivial, xEnd hK hP9 hD9 ht hW⟩, hS.F ht⟩) hS.2.2 d_3_3_21
    · skip
      have tc_2 : ¬ p1.toInt < 0 := fun h9 => c_2 (Int32.lt_iff_toInt_lt.mpr h9)
      refine lv_iload_n hx hb d_3_3_11 rfl (lv_at hl 1 rfl) ?_
      refine lv_aload_n hx hb d_3_3_12 rfl (lv_at hl 0 rfl) ?_
      refine va_get (D := D) (ci := 6) (v := .int on) (C := "AlgolJudge$Book") (T := T_Book) (N := 9) hx hb hts i_Book hown hK hP 0 rfl rfl 8 (by decide +kernel) (hts _ m_390) (fun _ h9 => h9) rfl d_3_3_13 ?_
      refine lv_icmp_lt (tgt := 22) hx hb d_3_3_16 (by decide +kernel) (fun c_3 => ?_) (fun c_3 => ?_)
      · skip
        have tc_3 : p1.toInt < on.toInt := Int32.lt_iff_toInt_lt.mp c_3
        refine lv_iload_n hx hb d_3_3_22 rfl (lv_at hl 2 rfl) ?_
        by_cases c_4 : p2 = 0
        · skip
          have tc_4 : p2.toInt = 0 := by rw [c_4]; rfl
          refine lv_tableIn (off := 29) (tgt := 52) hx hb d_3_3_23 (by omega) (by omega) (by rw [c_4]; decide +kernel) (by decide +kernel) ?_
          refine lv_aload_n hx hb d_3_3_52 rfl (lv_at hl 0 rfl) ?_
          refine va_get (D := D) (ci := 6) (v := .ref h28) (C := "AlgolJudge$Book") (T := T_Book) (N := 9) hx hb hts i_Book hown hK hP 0 rfl rfl 0 (by decide +kernel) (hts _ m_382) (fun _ h9 => h9) rfl d_3_3_53 ?_
          refine lv_iload_n hx hb d_3_3_56 rfl (lv_at hl 1 rfl) ?_
          refine va_iald hx hb hK hP 1 0 rfl rfl (vp_in_iff.mpr ⟨by omega, by omega⟩) d_3_3_57 ?_
          refine lv_topi (fun z_5 ez_5 => ?_)
          have hP9 := hP.sub (ws' := [(h6, .inr (6, [.ref h28, .ref h29, .ref h30, .ref h31, .ref h32, .ref h33, .ref h34, .int ow, .int on])), (h28, .inl (kI, 1501, .inl f28)), (h29, .inl (kI, 1501, .inl f29)), (h30, .inl (kI, 1501, .inl f30)), (h31, .inl (kI, 1501, .inl f31)), (h32, .inl (kI, 1501, .inl f32)), (h33, .inl (kI, 3000, .inl f33)), (h34, .inl (kI, 1501, .inl f34))]) [0, 1, 2, 3, 4, 5, 6, 7] rfl
          have hD9 := hD.sub (ws' := [(h6, .inr (6, [.ref h28, .ref h29, .ref h30, .ref h31, .ref h32, .ref h33, .ref h34, .int ow, .int on])), (h28, .inl (kI, 1501, .inl f28)), (h29, .inl (kI, 1501, .inl f29)), (h30, .inl (kI, 1501, .inl f30)), (h31, .inl (kI, 1501, .inl f31)), (h32, .inl (kI, 1501, .inl f32)), (h33, .inl (kI, 3000, .inl f33)), (h34, .inl (kI, 1501, .inl f34))]) [0, 1, 2, 3, 4, 5, 6, 7] (by decide) rfl
          exact W.iret (v := z_5) hx hb hr (fun t ht hW => ⟨⟨z_5, (), rfl, trivial, xEnd hK hP9 hD9 ht hW⟩, hS.F ht⟩) hS.2.2 d_3_3_58
        have tc_4 : ¬ p2.toInt = 0 := fun h9 => c_4 (Int32.toInt_inj.mp h9)
        by_cases c_6 : p2 = 1
        · skip
          have tc_6 : p2.toInt = 1 := by rw [c_6]; rfl
          refine lv_tableIn (off := 36) (tgt := 59) hx hb d_3_3_23 (by omega) (by omega) (by rw [c_6]; decide +kernel) (by decide +kernel) ?_
          refine lv_aload_n hx hb d_3_3_59 rfl (lv_at hl 0 rfl) ?_
          refine va_get (D := D) (ci := 6) (v := .ref h29) (C := "AlgolJudge$Book") (T := T_Book) (N := 9) hx hb hts i_Book hown hK hP 0 rfl rfl 1 (by decide +kernel) (hts _ m_383) (fun _ h9 => h9) rfl d_3_3_60 ?_
          refine lv_iload_n hx hb d_3_3_63 rfl (lv_at hl 1 rfl) ?_
          refine va_iald hx hb hK hP 2 0 rfl rfl (vp_in_iff.mpr ⟨by omega, by omega⟩) d_3_3_64 ?_
          refine lv_topi (fun z_7 ez_7 => ?_)
          have hP9 := hP.sub (ws' := [(h6, .inr (6, [.ref h28, .ref h29, .ref h30, .ref h31, .ref h32, .ref h33, .ref h34, .int ow, .int on])), (h28, .inl (kI, 1501, .inl f28)), (h29, .inl (kI, 1501, .inl f29)), (h30, .inl (kI, 1501, .inl f30)), (h31, .inl (kI, 1501, .inl f31)), (h32, .inl (kI, 1501, .inl f32)), (h33, .inl (kI, 3000, .inl f33)), (h34, .inl (kI, 1501, .inl f34))]) [0, 1, 2, 3, 4, 5, 6, 7] rfl
          have hD9 := hD.sub (ws' := [(h6, .inr (6, [.ref h28, .ref h29, .ref h30, .ref h31, .ref h32, .ref h33, .ref h34, .int ow, .int on])), (h28, .inl (kI, 1501, .inl f28)), (h29, .inl (kI, 1501, .inl f29)), (h30, .inl (kI, 1501, .inl f30)), (h31, .inl (kI, 1501, .inl f31)), (h32, .inl (kI, 1501, .inl f32)), (h33, .inl (kI, 3000, .inl f33)), (h34, .inl (kI, 1501, .inl f34))]) [0, 1, 2, 3, 4, 5, 6, 7] (by decide) rfl
          exact W.iret (v := z_7) hx hb hr (fun t ht hW => ⟨⟨z_7, (), rfl, trivial, xEnd hK hP9 hD9 ht hW⟩, hS.F ht⟩) hS.2.2 d_3_3_65
        have tc_6 : ¬ p2.toInt = 1 := fun h9 => c_6 (Int32.toInt_inj.mp h9)
        by_cases c_8 : p2 = 2
        · skip
          have tc_8 : p2.toInt = 2 := by rw [c_8]; rfl
          refine lv_tableIn (off := 43) (tgt := 66) hx hb d_3_3_23 (by omega) (by omega) (by rw [c_8]; decide +kernel) (by decide +kernel) ?_
          refine lv_aload_n hx hb d_3_3_66 rfl (lv_at hl 0 rfl) ?_
          refine va_get (D := D) (ci := 6) (v := .ref h30) (C := "AlgolJudge$Book") (T := T_Book) (N := 9) hx hb hts i_Book hown hK hP 0 rfl rfl 2 (by decide +kernel) (hts _ m_384) (fun _ h9 => h9) rfl d_3_3_67 ?_
          refine lv_iload_n hx hb d_3_3_70 rfl (lv_at hl 1 rfl) ?_
          refine va_iald hx hb hK hP 3 0 rfl rfl (vp_in_iff.mpr ⟨by omega, by omega⟩) d_3_3_71 ?_
          refine lv_topi (fun z_9 ez_9 => ?_)
          have hP9 := hP.sub (ws' := [(h6, .inr (6, [.ref h28, .ref h29, .ref h30, .ref h31, .ref h32, .ref h33, .ref h34, .int ow, .int on])), (h28, .inl (kI, 1501, .inl f28)), (h29, .inl (kI, 1501, .inl f29)), (h30, .inl (kI, 1501, .inl f30)), (h31, .inl (kI, 1501, .inl f31)), (h32, .inl (kI, 1501, .inl f32)), (h33, .inl (kI, 3000, .inl f33)), (h34, .inl (kI, 1501, .inl f34))]) [0, 1, 2, 3, 4, 5, 6, 7] rfl
          have hD9 := hD.sub (ws' := [(h6, .inr (6, [.ref h28, .ref h29, .ref h30, .ref h31, .ref h32, .ref h33, .ref h34, .int ow, .int on])), (h28, .inl (kI, 1501, .inl f28)), (h29, .inl (kI, 1501, .inl f29)), (h30, .inl (kI, 1501, .inl f30)), (h31, .inl (kI, 1501, .inl f31)), (h32, .inl (kI, 1501, .inl f32)), (h33, .inl (kI, 3000, .inl f33)), (h34, .inl (kI, 1501, .inl f34))]) [0, 1, 2, 3, 4, 5, 6, 7] (by decide) rfl
          exact W.iret (v := z_9) hx hb hr (fun t ht hW => ⟨⟨z_9, (), rfl, trivial, xEnd hK hP9 hD9 ht hW⟩, hS.F ht⟩) hS.2.2 d_3_3_72
        have tc_8 : ¬ p2.toInt = 2 := fun h9 => c_8 (Int32.toInt_inj.mp h9)
        by_cases c_10 : p2 = 3
        · skip
          have tc_10 : p2.toInt = 3 := by rw [c_10]; rfl
          refine lv_tableIn (off := 50) (tgt := 73) hx hb d_3_3_23 (by omega) (by omega) (by rw [c_10]; decide +kernel) (by decide +kernel) ?_
          refine lv_aload_n hx hb d_3_3_73 rfl (lv_at hl 0 rfl) ?_
          refine va_get (D := D) (ci := 6) (v := .ref h31) (C := "AlgolJudge$Book") (T := T_Book) (N := 9) hx hb hts i_Book hown hK hP 0 rfl rfl 3 (by decide +kernel) (hts _ m_385) (fun _ h9 => h9) rfl d_3_3_74 ?_
          refine lv_iload_n hx hb d_3_3_77 rfl (lv_at hl 1 rfl) ?_
          refine va_iald hx hb hK hP 4 0 rfl rfl (vp_in_iff.mpr ⟨by omega, by omega⟩) d_3_3_78 ?_
          refine lv_topi (fun z_11 ez_11 => ?_)
          have hP9 := hP.sub (ws' := [(h6, .inr (6, [.ref h28, .ref h29, .ref h30, .ref h31, .ref h32, .ref h33, .ref h34, .int ow, .int on])), (h28, .inl (kI, 1501, .inl f28)), (h29, .inl (kI, 1501, .inl f29)), (h30, .inl (kI, 1501, .inl f30)), (h31, .inl (kI, 1501, .inl f31)), (h32, .inl (kI, 1501, .inl f32)), (h33, .inl (kI, 3000, .inl f33)), (h34, .inl (kI, 1501, .inl f34))]) [0, 1, 2, 3, 4, 5, 6, 7] rfl
          have hD9 := hD.sub (ws' := [(h6, .inr (6, [.ref h28, .ref h29, .ref h30, .ref h31, .ref h32, .ref h33, .ref h34, .int ow, .int on])), (h28, .inl (kI, 1501, .inl f28)), (h29, .inl (kI, 1501, .inl f29)), (h30, .inl (kI, 1501, .inl f30)), (h31, .inl (kI, 1501, .inl f31)), (h32, .inl (kI, 1501, .inl f32)), (h33, .inl (kI, 3000, .inl f33)), (h34, .inl (kI, 1501, .inl f34))]) [0, 1, 2, 3, 4, 5, 6, 7] (by decide) rfl
          exact W.iret (v := z_11) hx hb hr (fun t ht hW => ⟨⟨z_11, (), rfl, trivial, xEnd hK hP9 hD9 ht hW⟩, hS.F ht⟩) hS.2.2 d_3_3_79
        have tc_10 : ¬ p2.toInt = 3 := fun h9 => c_10 (Int32.toInt_inj.mp h9)
        refine lv_tableOut (tgt := 80) hx hb d_3_3_23 (by omega) (by decide +kernel) ?_
        refine lv_aload_n hx hb d_3_3_80 rfl (lv_at hl 0 rfl) ?_
        refine va_get (D := D) (ci := 6) (v := .ref h32) (C := "AlgolJudge$Book") (T := T_Book) (N := 9) hx hb hts i_Book hown hK hP 0 rfl rfl 4 (by decide +kernel) (hts _ m_386) (fun _ h9 => h9) rfl d_3_3_81 ?_
        refine lv_iload_n hx hb d_3_3_84 rfl (lv_at hl 1 rfl) ?_
        refine va_iald hx hb hK hP 5 0 rfl rfl (vp_in_iff.mpr ⟨by omega, by omega⟩) d_3_3_85 ?_
        refine lv_topi (fun z_12 ez_12 => ?_)
        have hP9 := hP.sub (ws' := [(h6, .inr (6, [.ref h28, .ref h29, .ref h30, .ref h31, .ref h32, .ref h33, .ref h34, .int ow, .int on])), (h28, .inl (kI, 1501, .inl f28)), (h29, .inl (kI, 1501, .inl f29)), (h30, .inl (kI, 1501, .inl f30)), (h31, .inl (kI, 1501, .inl f31)), (h32, .inl (kI, 1501, .inl f32)), (h33, .inl (kI, 3000, .inl f33)), (h34, .inl (kI, 1501, .inl f34))]) [0, 1, 2, 3, 4, 5, 6, 7] rfl
        have hD9 := hD.sub (ws' := [(h6, .inr (6, [.ref h28, .ref h29, .ref h30, .ref h31, .ref h32, .ref h33, .ref h34, .int ow, .int on])), (h28, .inl (kI, 1501, .inl f28)), (h29, .inl (kI, 1501, .inl f29)), (h30, .inl (kI, 1501, .inl f30)), (h31, .inl (kI, 1501, .inl f31)), (h32, .inl (kI, 1501, .inl f32)), (h33, .inl (kI, 3000, .inl f33)), (h34, .inl (kI, 1501, .inl f34))]) [0, 1, 2, 3, 4, 5, 6, 7] (by decide) rfl
        exact W.iret (v := z_12) hx hb hr (fun t ht hW => ⟨⟨z_12, (), rfl, trivial, xEnd hK hP9 hD9 ht hW⟩, hS.F ht⟩) hS.2.2 d_3_3_86
      · skip
        have tc_3 : ¬ p1.toInt < on.toInt := fun h9 => c_3 (Int32.lt_iff_toInt_lt.mpr h9)
        refine lv_bipush (v := (-2)) hx hb d_3_3_19 (by decide +kernel) ?_
        have hP9 := hP.sub (ws' := [(h6, .inr (6, [.ref h28, .ref h29, .ref h30, .ref h31, .ref h32, .ref h33, .ref h34, .int ow, .int on])), (h28, .inl (kI, 1501, .inl f28)), (h29, .inl (kI, 1501, .inl f29)), (h30, .inl (kI, 1501, .inl f30)), (h31, .inl (kI, 1501, .inl f31)), (h32, .inl (kI, 1501, .inl f32)), (h33, .inl (kI, 3000, .inl f33)), (h34, .inl (kI, 1501, .inl f34))]) [0, 1, 2, 3, 4, 5, 6, 7] rfl
        have hD9 := hD.sub (ws' := [(h6, .inr (6, [.ref h28, .ref h29, .ref h30, .ref h31, .ref h32, .ref h33, .ref h34, .int ow, .int on])), (h28, .inl (kI, 1501, .inl f28)), (h29, .inl (kI, 1501, .inl f29)), (h30, .inl (kI, 1501, .inl f30)), (h31, .inl (kI, 1501, .inl f31)), (h32, .inl (kI, 1501, .inl f32)), (h33, .inl (kI, 3000, .inl f33)), (h34, .inl (kI, 1501, .inl f34))]) [0, 1, 2, 3, 4, 5, 6, 7] (by decide) rfl
        exact W.iret (v := (-2)) hx hb hr (fun t ht hW => ⟨⟨(-2), (), rfl, trivial, xEnd hK hP9 hD9 ht hW⟩, hS.F ht⟩) hS.2.2 d_3_3_21
set_option maxHeartbeats 8000000 in
set_option maxRecDepth 100000 in
theorem g_Book_meaning (l : Launch) (D : va_G) (kI kJ kB kZ : ClassId) (sz : Nat) (h6 : Nat) (h28 : Nat) (h29 : Nat) (h30 : Nat) (h31 : Nat) (h32 : Nat) (h33 : Nat) (h34 : Nat) (ow : Int32) (on : Int32) (f28 : Nat → Int32) (f29 : Nat → Int32) (f30 : Nat → Int32) (f31 : Nat → Int32) (f32 : Nat → Int32) (f33 : Nat → Int32) (f34 : Nat → Int32) (p1 : Int32)  : Met l (⟨"AlgolJudge$Book", "meaning", "(I)I"⟩ : MethodName) (Cond.code (⟨"AlgolJudge$Book", "meaning", "(I)I"⟩ : MethodName) prog_3_method_4_code 2 (some .int) :: gT) ({ frames := 0, cells := 0, slots := 0, locals := 0 }) (va_Pc [.ref h6, .int p1] (xP D (xT kI kJ kB kZ) xN [(h6, .inr (6, [.ref h28, .ref h29, .ref h30, .ref h31, .ref h32, .ref h33, .ref h34, .int ow, .int on])), (h28, .inl (kI, 1501, .inl f28)), (h29, .inl (kI, 1501, .inl f29)), (h30, .inl (kI, 1501, .inl f30)), (h31, .inl (kI, 1501, .inl f31)), (h32, .inl (kI, 1501, .inl f32)), (h33, .inl (kI, 3000, .inl f33)), (h34, .inl (kI, 1501, .inl f34))] sz)) (va_Qi (fun (r : Int32) (_ : Unit) => True) (fun _ t => xQ D (xT kI kJ kB kZ) (va_A [(h6, .inr (6, [.ref h28, .ref h29, .ref h30, .ref h31, .ref h32, .ref h33, .ref h34, .int ow, .int on])), (h28, .inl (kI, 1501, .inl f28)), (h29, .inl (kI, 1501, .inl f29)), (h30, .inl (kI, 1501, .inl f30)), (h31, .inl (kI, 1501, .inl f31)), (h32, .inl (kI, 1501, .inl f32)), (h33, .inl (kI, 3000, .inl f33)), (h34, .inl (kI, 1501, .inl f34))] sz) [(h6, .inr (6, [.ref h28, .ref h29, .ref h30, .ref h31, .ref h32, .ref h33, .ref h34, .int ow, .int on])), (h28, .inl (kI, 1501, .inl f28)), (h29, .inl (kI, 1501, .inl f29)), (h30, .inl (kI, 1501, .inl f30)), (h31, .inl (kI, 1501, .inl f31)), (h32, .inl (kI, 1501, .inl f32)), (h33, .inl (kI, 3000, .inl f33)), (h34, .inl (kI, 1501, .inl f34))] t) (va_A [(h6, .inr (6, [.ref h28, .ref h29, .ref h30, .ref h31, .ref h32, .ref h33, .ref h34, .int ow, .int on])), (h28, .inl (kI, 1501, .inl f28)), (h29, .inl (kI, 1501, .inl f29)), (h30, .inl (kI, 1501, .inl f30)), (h31, .inl (kI, 1501, .inl f31)), (h32, .inl (kI, 1501, .inl f32)), (h33, .inl (kI, 3000, .inl f33)), (h34, .inl (kI, 1501, .inl f34))] sz)) 0 0 (va_A [(h6, .inr (6, [.ref h28, .ref h29, .ref h30, .ref h31, .ref h32, .ref h33, .ref h34, .int ow, .int on])), (h28, .inl (kI, 1501, .inl f28)), (h29, .inl (kI, 1501, .inl f29)), (h30, .inl (kI, 1501, .inl f30)), (h31, .inl (kI, 1501, .inl f31)), (h32, .inl (kI, 1501, .inl f32)), (h33, .inl (kI, 3000, .inl f33)), (h34, .inl (kI, 1501, .inl f34))] sz) := by
  refine Met.ofW (cc := prog_3_method_4_code) (maxL := 2) (ret := some .int) (by decide +kernel) rfl ?_
  intro p e s m args below meth c s₁ B hml hv
  obtain ⟨rfl, hsz, hP, hK, hD0, hE⟩ := hv
  have hx := B.exec
  have hb := B.bytes
  have hr := B.returns
  have hts : ∀ w ∈ gT, w.before _ s = true := fun w h => atoms_spec (ws := Cond.code (⟨"AlgolJudge$Book", "meaning", "(I)I"⟩ : MethodName) prog_3_method_4_code 2 (some .int) :: gT) B.pre w (List.mem_cons_of_mem _ h)
  have hown : s.vm.findClass "AlgolJudge$Book" = some m.cls := findClass_of_methodNamed B.named
  have hlocks := B.notSynchronized
  subst hsz
  have hD := hD0.self (sz := s.heap.size)
  generalize hAe : va_A [(h6, .inr (6, [.ref h28, .ref h29, .ref h30, .ref h31, .ref h32, .ref h33, .ref h34, .int ow, .int on])), (h28, .inl (kI, 1501, .inl f28)), (h29, .inl (kI, 1501, .inl f29)), (h30, .inl (kI, 1501, .inl f30)), (h31, .inl (kI, 1501, .inl f31)), (h32, .inl (kI, 1501, .inl f32)), (h33, .inl (kI, 3000, .inl f33)), (h34, .inl (kI, 1501, .inl f34))] s.heap.size = A at hD hE ⊢
  have hA : ∀ q : Nat, s.heap.size ≤ q → A q := fun q h => by rw [← hAe]; exact Or.inr h
  have hS : va_S A s.heap s.heap [] := va_S.rf
  have hP : va_P D cls9 [(h6, .inr (6, [.ref h28, .ref h29, .ref h30, .ref h31, .ref h32, .ref h33, .ref h34, .int ow, .int on])), (h28, .inl (kI, 1501, .inl f28)), (h29, .inl (kI, 1501, .inl f29)), (h30, .inl (kI, 1501, .inl f30)), (h31, .inl (kI, 1501, .inl f31)), (h32, .inl (kI, 1501, .inl f32)), (h33, .inl (kI, 3000, .inl f33)), (h34, .inl (kI, 1501, .inl f34))] s.heap := hP
  have hl := lv_entry ([.ref h6, .int p1]) (n := 2) (Nat.le_of_ble_eq_true rfl)
  rw [lg_entry_eq]
  generalize (lg_sl ([.ref h6, .int p1]) ++ List.replicate (2 - (lg_sl ([.ref h6, .int p1])).length) Slot.unset).toArray = ls at hl ⊢
  have hl : lv_has ls 2 [(0, .ref h6), (1, .int p1)] := hl
  refine lv_aload_n hx hb d_3_4_0 rfl (lv_at hl 0 rfl) ?_
  refine va_get (D := D) (ci := 6) (v := .int ow) (C := "AlgolJudge$Book") (T := T_Book) (N := 9) hx hb hts i_Book hown hK hP 0 rfl rfl 7 (by decide +kernel) (hts _ m_389) (fun _ h9 => h9) rfl d_3_4_1 ?_
  refine lv_if_eq (tgt := 27) hx hb d_3_4_4 (by decide +kernel) (fun c_1 => ?_) (fun c_1 => ?_)
  · skip
    have tc_1 : ow.toInt = 0 := congrArg Int32.toInt c_1
    refine lv_bipush (v := (-2)) hx hb d_3_4_27 (by decide +kernel) ?_
    have hP9 := hP.sub (ws' := [(h6, .inr (6, [.ref h28, .ref h29, .ref h30, .ref h31, .ref h32, .ref h33, .ref h34, .int ow, .int on])), (h28, .inl (kI, 1501, .inl f28)), (h29, .inl (kI, 1501, .inl f29)), (h30, .inl (kI, 1501, .inl f30)), (h31, .inl (kI, 1501, .inl f31)), (h32, .inl (kI, 1501, .inl f32)), (h33, .inl (kI, 3000, .inl f33)), (h34, .inl (kI, 1501, .inl f34))]) [0, 1, 2, 3, 4, 5, 6, 7] rfl
    have hD9 := hD.sub (ws' := [(h6, .inr (6, [.ref h28, .ref h29, .ref h30, .ref h31, .ref h32, .ref h33, .ref h34, .int ow, .int on])), (h28, .inl (kI, 1501, .inl f28)), (h29, .inl (kI, 1501, .inl f29)), (h30, .inl (kI, 1501, .inl f30)), (h31, .inl (kI, 1501, .inl f31)), (h32, .inl (kI, 1501, .inl f32)), (h33, .inl (kI, 3000, .inl f33)), (h34, .inl (kI, 1501, .inl f34))]) [0, 1, 2, 3, 4, 5, 6, 7] (by decide) rfl
    exact W.iret (v := (-2)) hx hb hr (fun t ht hW => ⟨⟨(-2), (), rfl, trivial, xEnd hK hP9 hD9 ht hW⟩, hS.F ht⟩) hS.2.2 d_3_4_29
  · skip
    have tc_1 : ¬ ow.toInt = 0 := fun h9 => c_1 (Int32.toInt_inj.mp h9)
    refine lv_iload_n hx hb d_3_4_7 rfl (lv_at hl 1 rfl) ?_
    refine lv_if_lt (tgt := 27) hx hb d_3_4_8 (by decide +kernel) (fun c_2 => ?_) (fun c_2 => ?_)
    · skip
      have tc_2 : p1.toInt < 0 := Int32.lt_iff_toInt_lt.mp c_2
      refine lv_bipush (v := (-2)) hx hb d_3_4_27 (by decide +kernel) ?_
      have hP9 := hP.sub (ws' := [(h6, .inr (6, [.ref h28, .ref h29, .ref h30, .ref h31, .ref h32, .ref h33, .ref h34, .int ow, .int on])), (h28, .inl (kI, 1501, .inl f28)), (h29, .inl (kI, 1501, .inl f29)), (h30, .inl (kI, 1501, .inl f30)), (h31, .inl (kI, 1501, .inl f31)), (h32, .inl (kI, 1501, .inl f32)), (h33, .inl (kI, 3000, .inl f33)), (h34, .inl (kI, 1501, .inl f34))]) [0, 1, 2, 3, 4, 5, 6, 7] rfl
      have hD9 := hD.sub (ws' := [(h6, .inr (6, [.ref h28, .ref h29, .ref h30, .ref h31, .ref h32, .ref h33, .ref h34, .int ow, .int on])), (h28, .inl (kI, 1501, .inl f28)), (h29, .inl (kI, 1501, .inl f29)), (h30, .inl (kI, 1501, .inl f30)), (h31, .inl (kI, 1501, .inl f31)), (h32, .inl (kI, 1501, .inl f32)), (h33, .inl (kI, 3000, .inl f33)), (h34, .inl (kI, 1501, .inl f34))]) [0, 1, 2, 3, 4, 5, 6, 7] (by decide) rfl
      exact W.iret (v := (-2)) hx hb hr (fun t ht hW => ⟨⟨(-2), (), rfl, trivial, xEnd hK hP9 hD9 ht hW⟩, hS.F ht⟩) hS.2.2 d_3_4_29
    · skip
      have tc_2 : ¬ p1.toInt < 0 := fun h9 => c_2 (Int32.lt_iff_toInt_lt.mpr h9)
      refine lv_iload_n hx hb d_3_4_11 rfl (lv_at hl 1 rfl) ?_
      refine lv_sipush (v := 3000) hx hb d_3_4_12 (by decide +kernel) ?_
      refine lv_icmp_ge (tgt := 27) hx hb d_3_4_15 (by decide +kernel) (fun c_3 => ?_) (fun c_3 => ?_)
      · skip
        have tc_3 : 3000 ≤ p1.toInt := Int32.le_iff_toInt_le.mp c_3
        refine lv_bipush (v := (-2)) hx hb d_3_4_27 (by decide +kernel) ?_
        have hP9 := hP.sub (ws' := [(h6, .inr (6, [.ref h28, .ref h29, .ref h30, .ref h31, .ref h32, .ref h33, .ref h34, .int ow, .int on])), (h28, .inl (kI, 1501, .inl f28)), (h29, .inl (kI, 1501, .inl f29)), (h30, .inl (kI, 1501, .inl f30)), (h31, .inl (kI, 1501, .inl f31)), (h32, .inl (kI, 1501, .inl f32)), (h33, .inl (kI, 3000, .inl f33)), (h34, .inl (kI, 1501, .inl f34))]) [0, 1, 2, 3, 4, 5, 6, 7] rfl
        have hD9 := hD.sub (ws' := [(h6, .inr (6, [.ref h28, .ref h29, .ref h30, .ref h31, .ref h32, .ref h33, .ref h34, .int ow, .int on])), (h28, .inl (kI, 1501, .inl f28)), (h29, .inl (kI, 1501, .inl f29)), (h30, .inl (kI, 1501, .inl f30)), (h31, .inl (kI, 1501, .inl f31)), (h32, .inl (kI, 1501, .inl f32)), (h33, .inl (kI, 3000, .inl f33)), (h34, .inl (kI, 1501, .inl f34))]) [0, 1, 2, 3, 4, 5, 6, 7] (by decide) rfl
        exact W.iret (v := (-2)) hx hb hr (fun t ht hW => ⟨⟨(-2), (), rfl, trivial, xEnd hK hP9 hD9 ht hW⟩, hS.F ht⟩) hS.2.2 d_3_4_29
      · skip
        have tc_3 : ¬ 3000 ≤ p1.toInt := fun h9 => c_3 (Int32.le_iff_toInt_le.mpr h9)
        refine lv_aload_n hx hb d_3_4_18 rfl (lv_at hl 0 rfl) ?_
        refine va_get (D := D) (ci := 6) (v := .ref h33) (C := "AlgolJudge$Book") (T := T_Book) (N := 9) hx hb hts i_Book hown hK hP 0 rfl rfl 5 (by decide +kernel) (hts _ m_387) (fun _ h9 => h9) rfl d_3_4_19 ?_
        refine lv_iload_n hx hb d_3_4_22 rfl (lv_at hl 1 rfl) ?_
        refine va_iald hx hb hK hP 6 0 rfl rfl (vp_in_iff.mpr ⟨by omega, by omega⟩) d_3_4_23 ?_
        refine lv_topi (fun z_4 ez_4 => ?_)
        refine lv_goto (tgt := 29) hx hb d_3_4_24 (by decide +kernel) ?_
        have hP9 := hP.sub (ws' := [(h6, .inr (6, [.ref h28, .ref h29, .ref h30, .ref h31, .ref h32, .ref h33, .ref h34, .int ow, .int on])), (h28, .inl (kI, 1501, .inl f28)), (h29, .inl (kI, 1501, .inl f29)), (h30, .inl (kI, 1501, .inl f30)), (h31, .inl (kI, 1501, .inl f31)), (h32, .inl (kI, 1501, .inl f32)), (h33, .inl (kI, 3000, .inl f33)), (h34, .inl (kI, 1501, .inl f34))]) [0, 1, 2, 3, 4, 5, 6, 7] rfl
        have hD9 := hD.sub (ws' := [(h6, .inr (6, [.ref h28, .ref h29, .ref h30, .ref h31, .ref h32, .ref h33, .ref h34, .int ow, .int on])), (h28, .inl (kI, 1501, .inl f28)), (h29, .inl (kI, 1501, .inl f29)), (h30, .inl (kI, 1501, .inl f30)), (h31, .inl (kI, 1501, .inl f31)), (h32, .inl (kI, 1501, .inl f32)), (h33, .inl (kI, 3000, .inl f33)), (h34, .inl (kI, 1501, .inl f34))]) [0, 1, 2, 3, 4, 5, 6, 7] (by decide) rfl
        exact W.iret (v := z_4) hx hb hr (fun t ht hW => ⟨⟨z_4, (), rfl, trivial, xEnd hK hP9 hD9 ht hW⟩, hS.F ht⟩) hS.2.2 d_3_4_29
set_option maxHeartbeats 8000000 in
set_option maxRecDepth 100000 in
theorem g_Book_numberOf (l : Launch) (D : va_G) (kI kJ kB kZ : ClassId) (sz : Nat) (h6 : Nat) (h28 : Nat) (h29 : Nat) (h30 : Nat) (h31 : Nat) (h32 : Nat) (h33 : Nat) (h34 : Nat) (ow : Int32) (on : Int32) (f28 : Nat → Int32) (f29 : Nat → Int32) (f30 : Nat → Int32) (f31 : Nat → Int32) (f32 : Nat → Int32) (f33 : Nat → Int32) (f34 : Nat → Int32) (p1 : Int32)  : Met l (⟨"AlgolJudge$Book", "numberOf", "(I)I"⟩ : MethodName) (Cond.code (⟨"AlgolJudge$Book", "numberOf", "(I)I"⟩ : MethodName) prog_3_method_8_code 2 (some .int) :: gT) ({ frames := 0, cells := 0, slots := 0, locals := 0 }) (va_Pc [.ref h6, .int p1] (xP D (xT kI kJ kB kZ) xN [(h6, .inr (6, [.ref h28, .ref h29, .ref h30, .ref h31, .ref h32, .ref h33, .ref h34, .int ow, .int on])), (h28, .inl (kI, 1501, .inl f28)), (h29, .inl (kI, 1501, .inl f29)), (h30, .inl (kI, 1501, .inl f30)), (h31, .inl (kI, 1501, .inl f31)), (h32, .inl (kI, 1501, .inl f32)), (h33, .inl (kI, 3000, .inl f33)), (h34, .inl (kI, 1501, .inl f34))] sz)) (va_Qi (fun (r : Int32) (_ : Unit) => True) (fun _ t => xQ D (xT kI kJ kB kZ) (va_A [(h6, .inr (6, [.ref h28, .ref h29, .ref h30, .ref h31, .ref h32, .ref h33, .ref h34, .int ow, .int on])), (h28, .inl (kI, 1501, .inl f28)), (h29, .inl (kI, 1501, .inl f29)), (h30, .inl (kI, 1501, .inl f30)), (h31, .inl (kI, 1501, .inl f31)), (h32, .inl (kI, 1501, .inl f32)), (h33, .inl (kI, 3000, .inl f33)), (h34, .inl (kI, 1501, .inl f34))] sz) [(h6, .inr (6, [.ref h28, .ref h29, .ref h30, .ref h31, .ref h32, .ref h33, .ref h34, .int ow, .int on])), (h28, .inl (kI, 1501, .inl f28)), (h29, .inl (kI, 1501, .inl f29)), (h30, .inl (kI, 1501, .inl f30)), (h31, .inl (kI, 1501, .inl f31)), (h32, .inl (kI, 1501, .inl f32)), (h33, .inl (kI, 3000, .inl f33)), (h34, .inl (kI, 1501, .inl f34))] t) (va_A [(h6, .inr (6, [.ref h28, .ref h29, .ref h30, .ref h31, .ref h32, .ref h33, .ref h34, .int ow, .int on])), (h28, .inl (kI, 1501, .inl f28)), (h29, .inl (kI, 1501, .inl f29)), (h30, .inl (kI, 1501, .inl f30)), (h31, .inl (kI, 1501, .inl f31)), (h32, .inl (kI, 1501, .inl f32)), (h33, .inl (kI, 3000, .inl f33)), (h34, .inl (kI, 1501, .inl f34))] sz)) 0 0 (va_A [(h6, .inr (6, [.ref h28, .ref h29, .ref h30, .ref h31, .ref h32, .ref h33, .ref h34, .int ow, .int on])), (h28, .inl (kI, 1501, .inl f28)), (h29, .inl (kI, 1501, .inl f29)), (h30, .inl (kI, 1501, .inl f30)), (h31, .inl (kI, 1501, .inl f31)), (h32, .inl (kI, 1501, .inl f32)), (h33, .inl (kI, 3000, .inl f33)), (h34, .inl (kI, 1501, .inl f34))] sz) := by
  refine Met.ofW (cc := prog_3_method_8_code) (maxL := 2) (ret := some .int) (by decide +kernel) rfl ?_
  intro p e s m args below meth c s₁ B hml hv
  obtain ⟨rfl, hsz, hP, hK, hD0, hE⟩ := hv
  have hx := B.exec
  have hb := B.bytes
  have hr := B.returns
  have hts : ∀ w ∈ gT, w.before _ s = true := fun w h => atoms_spec (ws := Cond.code (⟨"AlgolJudge$Book", "numberOf", "(I)I"⟩ : MethodName) prog_3_method_8_code 2 (some .int) :: gT) B.pre w (List.mem_cons_of_mem _ h)
  have hown : s.vm.findClass "AlgolJudge$Book" = some m.cls := findClass_of_methodNamed B.named
  have hlocks := B.notSynchronized
  subst hsz
  have hD := hD0.self (sz := s.heap.size)
  generalize hAe : va_A [(h6, .inr (6, [.ref h28, .ref h29, .ref h30, .ref h31, .ref h32, .ref h33, .ref h34, .int ow, .int on])), (h28, .inl (kI, 1501, .inl f28)), (h29, .inl (kI, 1501, .inl f29)), (h30, .inl (kI, 1501, .inl f30)), (h31, .inl (kI, 1501, .inl f31)), (h32, .inl (kI, 1501, .inl f32)), (h33, .inl (kI, 3000, .inl f33)), (h34, .inl (kI, 1501, .inl f34))] s.heap.size = A at hD hE ⊢
  have hA : ∀ q : Nat, s.heap.size ≤ q → A q := fun q h => by rw [← hAe]; exact Or.inr h
  have hS : va_S A s.heap s.heap [] := va_S.rf
  have hP : va_P D cls9 [(h6, .inr (6, [.ref h28, .ref h29, .ref h30, .ref h31, .ref h32, .ref h33, .ref h34, .int ow, .int on])), (h28, .inl (kI, 1501, .inl f28)), (h29, .inl (kI, 1501, .inl f29)), (h30, .inl (kI, 1501, .inl f30)), (h31, .inl (kI, 1501, .inl f31)), (h32, .inl (kI, 1501, .inl f32)), (h33, .inl (kI, 3000, .inl f33)), (h34, .inl (kI, 1501, .inl f34))] s.heap := hP
  have hl := lv_entry ([.ref h6, .int p1]) (n := 2) (Nat.le_of_ble_eq_true rfl)
  rw [lg_entry_eq]
  generalize (lg_sl ([.ref h6, .int p1]) ++ List.replicate (2 - (lg_sl ([.ref h6, .int p1])).length) Slot.unset).toArray = ls at hl ⊢
  have hl : lv_has ls 2 [(0, .ref h6), (1, .int p1)] := hl
  refine lv_iload_n hx hb d_3_8_0 rfl (lv_at hl 1 rfl) ?_
  refine lv_if_lt (tgt := 20) hx hb d_3_8_1 (by decide +kernel) (fun c_1 => ?_) (fun c_1 => ?_)
  · skip
    have tc_1 : p1.toInt < 0 := Int32.lt_iff_toInt_lt.mp c_1
    refine lv_iconst (v := (-1)) hx hb d_3_8_20 (by decide +kernel) ?_
    have hP9 := hP.sub (ws' := [(h6, .inr (6, [.ref h28, .ref h29, .ref h30, .ref h31, .ref h32, .ref h33, .ref h34, .int ow, .int on])), (h28, .inl (kI, 1501, .inl f28)), (h29, .inl (kI, 1501, .inl f29)), (h30, .inl (kI, 1501, .inl f30)), (h31, .inl (kI, 1501, .inl f31)), (h32, .inl (kI, 1501, .inl f32)), (h33, .inl (kI, 3000, .inl f33)), (h34, .inl (kI, 1501, .inl f34))]) [0, 1, 2, 3, 4, 5, 6, 7] rfl
    have hD9 := hD.sub (ws' := [(h6, .inr (6, [.ref h28, .ref h29, .ref h30, .ref h31, .ref h32, .ref h33, .ref h34, .int ow, .int on])), (h28, .inl (kI, 1501, .inl f28)), (h29, .inl (kI, 1501, .inl f29)), (h30, .inl (kI, 1501, .inl f30)), (h31, .inl (kI, 1501, .inl f31)), (h32, .inl (kI, 1501, .inl f32)), (h33, .inl (kI, 3000, .inl f33)), (h34, .inl (kI, 1501, .inl f34))]) [0, 1, 2, 3, 4, 5, 6, 7] (by decide) rfl
    exact W.iret (v := (-1)) hx hb hr (fun t ht hW => ⟨⟨(-1), (), rfl, trivial, xEnd hK hP9 hD9 ht hW⟩, hS.F ht⟩) hS.2.2 d_3_8_21
  · skip
    have tc_1 : ¬ p1.toInt < 0 := fun h9 => c_1 (Int32.lt_iff_toInt_lt.mpr h9)
    refine lv_iload_n hx hb d_3_8_4 rfl (lv_at hl 1 rfl) ?_
    refine lv_sipush (v := 1501) hx hb d_3_8_5 (by decide +kernel) ?_
    refine lv_icmp_ge (tgt := 20) hx hb d_3_8_8 (by decide +kernel) (fun c_2 => ?_) (fun c_2 => ?_)
    · skip
      have tc_2 : 1501 ≤ p1.toInt := Int32.le_iff_toInt_le.mp c_2
      refine lv_iconst (v := (-1)) hx hb d_3_8_20 (by decide +kernel) ?_
      have hP9 := hP.sub (ws' := [(h6, .inr (6, [.ref h28, .ref h29, .ref h30, .ref h31, .ref h32, .ref h33, .ref h34, .int ow, .int on])), (h28, .inl (kI, 1501, .inl f28)), (h29, .inl (kI, 1501, .inl f29)), (h30, .inl (kI, 1501, .inl f30)), (h31, .inl (kI, 1501, .inl f31)), (h32, .inl (kI, 1501, .inl f32)), (h33, .inl (kI, 3000, .inl f33)), (h34, .inl (kI, 1501, .inl f34))]) [0, 1, 2, 3, 4, 5, 6, 7] rfl
      have hD9 := hD.sub (ws' := [(h6, .inr (6, [.ref h28, .ref h29, .ref h30, .ref h31, .ref h32, .ref h33, .ref h34, .int ow, .int on])), (h28, .inl (kI, 1501, .inl f28)), (h29, .inl (kI, 1501, .inl f29)), (h30, .inl (kI, 1501, .inl f30)), (h31, .inl (kI, 1501, .inl f31)), (h32, .inl (kI, 1501, .inl f32)), (h33, .inl (kI, 3000, .inl f33)), (h34, .inl (kI, 1501, .inl f34))]) [0, 1, 2, 3, 4, 5, 6, 7] (by decide) rfl
      exact W.iret (v := (-1)) hx hb hr (fun t ht hW => ⟨⟨(-1), (), rfl, trivial, xEnd hK hP9 hD9 ht hW⟩, hS.F ht⟩) hS.2.2 d_3_8_21
    · skip
      have tc_2 : ¬ 1501 ≤ p1.toInt := fun h9 => c_2 (Int32.le_iff_toInt_le.mpr h9)
      refine lv_aload_n hx hb d_3_8_11 rfl (lv_at hl 0 rfl) ?_
      refine va_get (D := D) (ci := 6) (v := .ref h34) (C := "AlgolJudge$Book") (T := T_Book) (N := 9) hx hb hts i_Book hown hK hP 0 rfl rfl 6 (by decide +kernel) (hts _ m_388) (fun _ h9 => h9) rfl d_3_8_12 ?_
      refine lv_iload_n hx hb d_3_8_15 rfl (lv_at hl 1 rfl) ?_
      refine va_iald hx hb hK hP 7 0 rfl rfl (vp_in_iff.mpr ⟨by omega, by omega⟩) d_3_8_16 ?_
      refine lv_topi (fun z_3 ez_3 => ?_)
      refine lv_goto (tgt := 21) hx hb d_3_8_17 (by decide +kernel) ?_
      have hP9 := hP.sub (ws' := [(h6, .inr (6, [.ref h28, .ref h29, .ref h30, .ref h31, .ref h32, .ref h33, .ref h34, .int ow, .int on])), (h28, .inl (kI, 1501, .inl f28)), (h29, .inl (kI, 1501, .inl f29)), (h30, .inl (kI, 1501, .inl f30)), (h31, .inl (kI, 1501, .inl f31)), (h32, .inl (kI, 1501, .inl f32)), (h33, .inl (kI, 3000, .inl f33)), (h34, .inl (kI, 1501, .inl f34))]) [0, 1, 2, 3, 4, 5, 6, 7] rfl
      have hD9 := hD.sub (ws' := [(h6, .inr (6, [.ref h28, .ref h29, .ref h30, .ref h31, .ref h32, .ref h33, .ref h34, .int ow, .int on])), (h28, .inl (kI, 1501, .inl f28)), (h29, .inl (kI, 1501, .inl f29)), (h30, .inl (kI, 1501, .inl f30)), (h31, .inl (kI, 1501, .inl f31)), (h32, .inl (kI, 1501, .inl f32)), (h33, .inl (kI, 3000, .inl f33)), (h34, .inl (kI, 1501, .inl f34))]) [0, 1, 2, 3, 4, 5, 6, 7] (by decide) rfl
      exact W.iret (v := z_3) hx hb hr (fun t ht hW => ⟨⟨z_3, (), rfl, trivial, xEnd hK hP9 hD9 ht hW⟩, hS.F ht⟩) hS.2.2 d_3_8_21
