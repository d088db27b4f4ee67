set_option maxHeartbeats 8000000 in
set_option maxRecDepth 100000 in
theorem g_AlgolJudgeModel_isReserved_f (l : Launch) (D : va_G) (kI kJ kB kZ : ClassId) (sz : Nat) (h41 : Nat) (f41 : Nat → Int32) (p2 : Int32) (p3 : Int32) (sA : Nat → Nat) (sV : Nat → Nat) (hq_0 : 0 ≤ p2.toInt) (hq_1 : 1 ≤ p3.toInt) (hq_2 : p2.toInt + p3.toInt ≤ 3000) (hq_3 : cOk (tB f41) p2.toInt (p2.toInt + p3.toInt)) : Met l (⟨"AlgolJudgeModel", "isReserved", "([BII)Z"⟩ : MethodName) (Cond.code (⟨"AlgolJudgeModel", "isReserved", "([BII)Z"⟩ : MethodName) prog_10_method_4_code 7 (some .boolean) :: gT) ({ frames := 4, cells := 0, slots := 0, locals := 85 }) (va_Pc [.ref h41, .int p2, .int p3] (xP D (xT kI kJ kB kZ) (xE sA sV) [(h41, .inl (kB, 3000, .inl f41))] sz)) (va_Qi (fun (r : Int32) (u : Int32) => r = u ∧ (True)) (fun u t => ((u.toInt = 1 ∧ rsv (tB f41) p2.toInt p3.toInt) ∨ (u.toInt = 0 ∧ ¬ rsv (tB f41) p2.toInt p3.toInt)) ∧ xQ D (xT kI kJ kB kZ) (va_A [(h41, .inl (kB, 3000, .inl f41))] sz) [(h41, .inl (kB, 3000, .inl f41))] t) (va_A [(h41, .inl (kB, 3000, .inl f41))] sz)) 0 0 (va_A [(h41, .inl (kB, 3000, .inl f41))] sz) := by
  refine Met.ofW (cc := prog_10_method_4_code) (maxL := 7) (ret := some .boolean) (by decide +kernel) rfl ?_
  intro p e s m args below meth c s₁ B hml hv
  obtain ⟨rfl, hsz, hP, hK, hD0, hE⟩ := hv
  have hx := B.exec
  have hb := B.bytes
  have hr := B.returns
  have hts : ∀ w ∈ gT, w.before _ s = true := fun w h => atoms_spec (ws := Cond.code (⟨"AlgolJudgeModel", "isReserved", "([BII)Z"⟩ : MethodName) prog_10_method_4_code 7 (some .boolean) :: gT) B.pre w (List.mem_cons_of_mem _ h)
  have hown : s.vm.findClass "AlgolJudgeModel" = some m.cls := findClass_of_methodNamed B.named
  have hlocks := B.notSynchronized
  subst hsz
  have hD := hD0.self (sz := s.heap.size)
  generalize hAe : va_A [(h41, .inl (kB, 3000, .inl f41))] s.heap.size = A at hD hE ⊢
  have hA : ∀ q : Nat, s.heap.size ≤ q → A q := fun q h => by rw [← hAe]; exact Or.inr h
  have hS : va_S A s.heap s.heap [] := va_S.rf
  have hP : va_P D cls9 [(h41, .inl (kB, 3000, .inl f41))] s.heap := hP
  have hl := lv_entry ([.ref h41, .int p2, .int p3]) (n := 7) (Nat.le_of_ble_eq_true rfl)
  rw [lg_entry_eq]
  generalize (lg_sl ([.ref h41, .int p2, .int p3]) ++ List.replicate (7 - (lg_sl ([.ref h41, .int p2, .int p3])).length) Slot.unset).toArray = ls at hl ⊢
  have hl : lv_has ls 7 [(0, .ref h41), (1, .int p2), (2, .int p3)] := hl
  have hsn := sN_le 2 (by decide)
  have hz0 : Int32.toInt 0 = 0 := by decide +kernel
  have hz1 : Int32.toInt 1 = 1 := by decide +kernel
  have hzm : Int32.toInt (-1) = -1 := by decide +kernel
  refine va_ldcS hx hb hown (xE_r2 hE) d_10_4_0 ?_
  refine lv_astore_n (lv' := [(3, .ref (sA 2)), (0, .ref h41), (1, .int p2), (2, .int p3)]) hx hb d_10_4_2 rfl hl (by decide +kernel) rfl (fun ls hl => ?_)
  refine lv_iconst (v := 0) hx hb d_10_4_3 (by decide +kernel) ?_
  refine lv_istore (lv' := [(4, .int 0), (3, .ref (sA 2)), (0, .ref h41), (1, .int p2), (2, .int p3)]) hx hb d_10_4_4 hl (by decide +kernel) rfl (fun ls hl => ?_)
  refine xLoop (I := fun n H locs ls => ∃ v6_4 : Int32, (0 ≤ v6_4.toInt) ∧ (v6_4.toInt ≤ 200) ∧ (rsO (tB f41) p2.toInt p3.toInt v6_4.toInt) ∧ n = mN (200 - v6_4.toInt) ∧ va_P D cls9 [(h41, .inl (kB, 3000, .inl f41))] H ∧ va_D A [(h41, .inl (kB, 3000, .inl f41))] ∧ va_S A s.heap H locs ∧ lv_has ls 7 [(4, .int v6_4), (3, .ref (sA 2)), (0, .ref h41), (1, .int p2), (2, .int p3)]) ?_ _ _ _ _ ⟨0, (show 0 ≤ (0 : Int) from (by first | omega | assumption)), (show (0 : Int) ≤ 200 from (by first | omega | assumption)), (show rsO (tB f41) p2.toInt p3.toInt (0 : Int) from rsO_0), rfl, hP.sub (ws' := [(h41, .inl (kB, 3000, .inl f41))]) [0] rfl, hD.sub (ws' := [(h41, .inl (kB, 3000, .inl f41))]) [0] (by decide) rfl, hS, lv_sub hl [0, 1, 2, 3, 4] rfl⟩
  intro n_4 H locs ls hI9 ih_5
  revert hI9
  refine exI fun v6_4 => anI fun hl_1 => anI fun hl_2 => anI fun hl_3 => anI fun hn_4 => anI fun hP => anI fun hD => anI fun hS => fun hl => ?_
  refine lv_iload hx hb d_10_4_6 (lv_at hl 0 rfl) ?_
  refine lv_iload_n hx hb d_10_4_8 rfl (lv_at hl 4 rfl) ?_
  refine lv_iadd hx hb d_10_4_9 ?_
  refine lv_topi (fun y_6 ey_6 => ?_)
  have ty_6 : y_6.toInt = v6_4.toInt + p3.toInt := by rw [ey_6]; exact zadd (by omega) (by omega)
  refine lv_iconst (v := 1) hx hb d_10_4_10 (by decide +kernel) ?_
  refine lv_iadd hx hb d_10_4_11 ?_
  refine lv_topi (fun y_7 ey_7 => ?_)
  have ty_7 : y_7.toInt = y_6.toInt + 1 := by rw [ey_7]; exact zaddc (by decide +kernel) (by omega) (by omega)
  refine lv_aload_n hx hb d_10_4_12 rfl (lv_at hl 1 rfl) ?_
  have hPc := hP.sub (ws' := []) [] rfl
  have hDc := hD.sub (ws' := []) [] (by decide) rfl
  have hFc := va_free (wc := []) hD hS hA [] rfl
  refine va_calli (va_runV (As := []) (rest := [.int y_7]) ⟨hx, hb, hml, hown, hts⟩ (g_String_length l D kI kJ kB kZ _ (sA) (sV) (2) (by first | omega | assumption)) (cwV 0 hts (gT_V m_1326 m_156 m_157 m_122 (gT_ws m_158)) rfl rfl rfl (by decide +kernel) ⟨(Nat.le_of_ble_eq_true rfl), (Nat.le_of_ble_eq_true rfl)⟩) ⟨xBlind (xOk_E sA sV), (xE_O hE 2 (by decide) hS), xAt (xOk_E sA sV) hK hPc hDc hS hFc hE⟩ rfl rfl hl.1 rfl (lv_room (Nat.le_of_ble_eq_true rfl)) d_10_4_13 ⟨(Nat.le_of_ble_eq_true rfl), (Nat.le_of_ble_eq_true rfl)⟩) hS (fun q _ h => hFc q h) hFc (fun r_8 u t H locs ht hvm hw_9 hB hz1 hk1 hS => ?_)
  clear hz1
  have hPD := xJoin (wr := [(h41, .inl (kB, 3000, .inl f41))]) (w1 := []) hP hD [] [0] rfl rfl (by decide) (by decide) hk1 hFc ht hB
  replace hP : va_P D cls9 [(h41, .inl (kB, 3000, .inl f41))] H := hPD.1
  replace hD : va_D A [(h41, .inl (kB, 3000, .inl f41))] := hPD.2
  clear hPD hB hk1 hPc hDc hFc
  have hw_9 : r_8.toInt = sN 2 := hw_9
  refine lv_icmp_ge (tgt := 112) hx hb d_10_4_16 (by decide +kernel) (fun c_10 => ?_) (fun c_10 => ?_)
  · skip
    have tc_10 : r_8.toInt ≤ y_7.toInt := Int32.le_iff_toInt_le.mp c_10
    refine lv_iconst (v := 0) hx hb d_10_4_112 (by decide +kernel) ?_
    have hP9 := hP.sub (ws' := [(h41, .inl (kB, 3000, .inl f41))]) [0] rfl
    have hD9 := hD.sub (ws' := [(h41, .inl (kB, 3000, .inl f41))]) [0] (by decide) rfl
    have hz_0 : ((0 : Int) = 1 ∧ rsv (tB f41) p2.toInt p3.toInt) ∨ ((0 : Int) = 0 ∧ ¬ rsv (tB f41) p2.toInt p3.toInt) := (Or.inr ⟨rfl, rs_n hl_3 (by omega)⟩)
    exact W.zret (v := 0) (ty := .boolean) hx hb hr (by decide +kernel) (fun t ht hW => ⟨⟨0, 0, rfl, ⟨rfl, trivial⟩, hz_0, xEnd hK hP9 hD9 ht hW⟩, hS.F ht⟩) hS.2.2 d_10_4_113
  · skip
    have tc_10 : ¬ r_8.toInt ≤ y_7.toInt := fun h9 => c_10 (Int32.le_iff_toInt_le.mpr h9)
    refine lv_aload_n hx hb d_10_4_19 rfl (lv_at hl 1 rfl) ?_
    refine lv_iload hx hb d_10_4_20 (lv_at hl 0 rfl) ?_
    have hPc := hP.sub (ws' := []) [] rfl
    have hDc := hD.sub (ws' := []) [] (by decide) rfl
    have hFc := va_free (wc := []) hD hS hA [] rfl
    refine va_calli (va_runV (As := [.int v6_4]) (rest := []) ⟨hx, hb, hml, hown, hts⟩ (g_String_charAt l D kI kJ kB kZ _ (v6_4) (sA) (sV) (2) hl_1 (by first | omega | assumption) (by first | omega | assumption)) (cwV 1 hts (gT_V m_1327 m_166 m_167 m_122 (gT_ws m_168)) rfl rfl rfl (by decide +kernel) ⟨(Nat.le_of_ble_eq_true rfl), (Nat.le_of_ble_eq_true rfl)⟩) ⟨xBlind (xOk_E sA sV), (xE_O hE 2 (by decide) hS), xAt (xOk_E sA sV) hK hPc hDc hS hFc hE⟩ rfl rfl hl.1 rfl (lv_room (Nat.le_of_ble_eq_true rfl)) d_10_4_22 ⟨(Nat.le_of_ble_eq_true rfl), (Nat.le_of_ble_eq_true rfl)⟩) hS (fun q _ h => hFc q h) hFc (fun r_11 u t H locs ht hvm hw_12 hB hz1 hk1 hS => ?_)
    clear hz1
    obtain ⟨hu9, hw_12⟩ := hw_12
    subst hu9
    revert hB
    refine anI fun hb_13 => fun hB => ?_
    have hb_13 : r_11.toInt = sCh 2 v6_4.toInt := hb_13
    have hPD := xJoin (wr := [(h41, .inl (kB, 3000, .inl f41))]) (w1 := []) hP hD [] [0] rfl rfl (by decide) (by decide) hk1 hFc ht hB
    replace hP : va_P D cls9 [(h41, .inl (kB, 3000, .inl f41))] H := hPD.1
    replace hD : va_D A [(h41, .inl (kB, 3000, .inl f41))] := hPD.2
    clear hPD hB hk1 hPc hDc hFc
    have hw_12 : narrow .char (.int r_11) = .int r_11 := hw_12
    refine lv_bipush (v := 32) hx hb d_10_4_25 (by decide +kernel) ?_
    refine lv_icmp_ne (tgt := 49) hx hb d_10_4_27 (by decide +kernel) (fun c_14 => ?_) (fun c_14 => ?_)
    · skip
      have tc_14 : ¬ r_11.toInt = 32 := fun h9 => c_14 (Int32.toInt_inj.mp h9)
      refine lv_iconst (v := 0) hx hb d_10_4_49 (by decide +kernel) ?_
      refine lv_istore (lv' := [(5, .int 0), (4, .int v6_4), (3, .ref (sA 2)), (0, .ref h41), (1, .int p2), (2, .int p3)]) hx hb d_10_4_50 hl (by decide +kernel) rfl (fun ls hl => ?_)
      refine lv_iconst (v := 0) hx hb d_10_4_52 (by decide +kernel) ?_
      refine lv_istore (lv' := [(6, .int 0), (5, .int 0), (4, .int v6_4), (3, .ref (sA 2)), (0, .ref h41), (1, .int p2), (2, .int p3)]) hx hb d_10_4_53 hl (by decide +kernel) rfl (fun ls hl => ?_)
      refine xLoop (I := fun n H locs ls => ((0 : Int) ≤ 0) ∧ (0 ≤ p3.toInt) ∧ (rsI (tB f41) p2.toInt p3.toInt v6_4.toInt 0 0) ∧ n = mN (p3.toInt - 0) ∧ va_P D cls9 [(h41, .inl (kB, 3000, .inl f41))] H ∧ va_D A [(h41, .inl (kB, 3000, .inl f41))] ∧ va_S A s.heap H locs ∧ lv_has ls 7 [(6, .int 0), (5, .int 0), (4, .int v6_4), (3, .ref (sA 2)), (0, .ref h41), (1, .int p2), (2, .int p3)]) ?_ _ _ _ _ ⟨(show (0 : Int) ≤ 0 from (by first | omega | assumption)), (show 0 ≤ p3.toInt from (by first | omega | assumption)), (show rsI (tB f41) p2.toInt p3.toInt v6_4.toInt 0 0 from (rsI_a (by rw [← hb_13]; omega))), rfl, hP.sub (ws' := [(h41, .inl (kB, 3000, .inl f41))]) [0] rfl, hD.sub (ws' := [(h41, .inl (kB, 3000, .inl f41))]) [0] (by decide) rfl, hS, lv_sub hl [0, 1, 2, 3, 4, 5, 6] rfl⟩
      intro n_18 H locs ls hI9 ih_19
      revert hI9
      refine anI fun hl_15 => anI fun hl_16 => anI fun hl_17 => anI fun hn_18 => anI fun hP => anI fun hD => anI fun hS => fun hl => ?_
      refine lv_iload hx hb d_10_4_55 (lv_at hl 0 rfl) ?_
      refine lv_iload_n hx hb d_10_4_57 rfl (lv_at hl 6 rfl) ?_
      refine lv_icmp_ge (tgt := 99) hx hb d_10_4_58 (by decide +kernel) (fun c_20 => ?_) (fun c_20 => ?_)
      · skip
        have tc_20 : p3.toInt ≤ 0 := Int32.le_iff_toInt_le.mp c_20
        refine lv_iload hx hb d_10_4_99 (lv_at hl 1 rfl) ?_
        refine lv_if_eq (tgt := 106) hx hb d_10_4_101 (by decide +kernel) (fun c_21 => ?_) (fun c_21 => ?_)
        rotate_left
        · exact absurd c_21 (by decide +kernel)
        obtain ⟨y_22, ey_22⟩ : ∃ y : Int32, y = v6_4 + 1 := ⟨_, rfl⟩
        have ty_22 : y_22.toInt = v6_4.toInt + 1 := by rw [ey_22]; exact zaddc (by decide +kernel) (by omega) (by omega)
        refine lv_iinc (v := y_22) (lv' := [(4, .int y_22), (6, .int 0), (5, .int 0), (3, .ref (sA 2)), (0, .ref h41), (1, .int p2), (2, .int p3)]) hx hb d_10_4_106 hl (k := 2) rfl (by rw [ey_22]; rfl) (by decide +kernel) rfl (fun ls hl => ?_)
        refine lv_goto (tgt := 6) hx hb d_10_4_109 (by decide +kernel) ?_
        exact ih_5 _ _ _ _ (by rw [hn_4]; exact mN_lt (by omega) (by omega)) ⟨y_22, (show 0 ≤ y_22.toInt from (by first | omega | assumption)), (show y_22.toInt ≤ 200 from (by first | omega | assumption)), (show rsO (tB f41) p2.toInt p3.toInt y_22.toInt from (rsO_s hl_3 (rsI_n hl_17 (by omega)) (by omega))), rfl, hP.sub (ws' := [(h41, .inl (kB, 3000, .inl f41))]) [0] rfl, hD.sub (ws' := [(h41, .inl (kB, 3000, .inl f41))]) [0] (by decide) rfl, hS, lv_sub hl [0, 3, 4, 5, 6] rfl⟩
      · skip
        have tc_20 : ¬ p3.toInt ≤ 0 := fun h9 => c_20 (Int32.le_iff_toInt_le.mpr h9)
        refine lv_iload hx hb d_10_4_61 (lv_at hl 1 rfl) ?_
        refine lv_if_eq (tgt := 99) hx hb d_10_4_63 (by decide +kernel) (fun c_23 => ?_) (fun c_23 => ?_)
        rotate_left
        · exact absurd c_23 (by decide +kernel)
        refine lv_iload hx hb d_10_4_99 (lv_at hl 1 rfl) ?_
        refine lv_if_eq (tgt := 106) hx hb d_10_4_101 (by decide +kernel) (fun c_24 => ?_) (fun c_24 => ?_)
        rotate_left
        · exact absurd c_24 (by decide +kernel)
        obtain ⟨y_25, ey_25⟩ : ∃ y : Int32, y = v6_4 + 1 := ⟨_, rfl⟩
        have ty_25 : y_25.toInt = v6_4.toInt + 1 := by rw [ey_25]; exact zaddc (by decide +kernel) (by omega) (by omega)
        refine lv_iinc (v := y_25) (lv' := [(4, .int y_25), (6, .int 0), (5, .int 0), (3, .ref (sA 2)), (0, .ref h41), (1, .int p2), (2, .int p3)]) hx hb d_10_4_106 hl (k := 2) rfl (by rw [ey_25]; rfl) (by decide +kernel) rfl (fun ls hl => ?_)
        refine lv_goto (tgt := 6) hx hb d_10_4_109 (by decide +kernel) ?_
        exact ih_5 _ _ _ _ (by rw [hn_4]; exact mN_lt (by omega) (by omega)) ⟨y_25, (show 0 ≤ y_25.toInt from (by first | omega | assumption)), (show y_25.toInt ≤ 200 from (by first | omega | assumption)), (show rsO (tB f41) p2.toInt p3.toInt y_25.toInt from (rsO_s hl_3 (rsI_n hl_17 (by omega)) (by omega))), rfl, hP.sub (ws' := [(h41, .inl (kB, 3000, .inl f41))]) [0] rfl, hD.sub (ws' := [(h41, .inl (kB, 3000, .inl f41))]) [0] (by decide) rfl, hS, lv_sub hl [0, 3, 4, 5, 6] rfl⟩
    · skip
      have tc_14 : r_11.toInt = 32 := congrArg Int32.toInt c_14
      refine lv_aload_n hx hb d_10_4_30 rfl (lv_at hl 1 rfl) ?_
      refine lv_iload hx hb d_10_4_31 (lv_at hl 0 rfl) ?_
      refine lv_iload_n hx hb d_10_4_33 rfl (lv_at hl 4 rfl) ?_
      refine lv_iadd hx hb d_10_4_34 ?_
      refine lv_topi (fun y_26 ey_26 => ?_)
      have ty_26 : y_26.toInt = v6_4.toInt + p3.toInt := by rw [ey_26]; exact zadd (by omega) (by omega)
      refine lv_iconst (v := 1) hx hb d_10_4_35 (by decide +kernel) ?_
      refine lv_iadd hx hb d_10_4_36 ?_
      refine lv_topi (fun y_27 ey_27 => ?_)
      have ty_27 : y_27.toInt = y_26.toInt + 1 := by rw [ey_27]; exact zaddc (by decide +kernel) (by omega) (by omega)
      have hPc := hP.sub (ws' := []) [] rfl
      have hDc := hD.sub (ws' := []) [] (by decide) rfl
      have hFc := va_free (wc := []) hD hS hA [] rfl
      refine va_calli (va_runV (As := [.int y_27]) (rest := []) ⟨hx, hb, hml, hown, hts⟩ (g_String_charAt l D kI kJ kB kZ _ (y_27) (sA) (sV) (2) (by first | omega | assumption) (by first | omega | assumption) (by first | omega | assumption)) (cwV 1 hts (gT_V m_1327 m_166 m_167 m_122 (gT_ws m_168)) rfl rfl rfl (by decide +kernel) ⟨(Nat.le_of_ble_eq_true rfl), (Nat.le_of_ble_eq_true rfl)⟩) ⟨xBlind (xOk_E sA sV), (xE_O hE 2 (by decide) hS), xAt (xOk_E sA sV) hK hPc hDc hS hFc hE⟩ rfl rfl hl.1 rfl (lv_room (Nat.le_of_ble_eq_true rfl)) d_10_4_37 ⟨(Nat.le_of_ble_eq_true rfl), (Nat.le_of_ble_eq_true rfl)⟩) hS (fun q _ h => hFc q h) hFc (fun r_28 u t H locs ht hvm hw_29 hB hz1 hk1 hS => ?_)
      clear hz1
      obtain ⟨hu9, hw_29⟩ := hw_29
      subst hu9
      revert hB
      refine anI fun hb_30 => fun hB => ?_
      have hb_30 : r_28.toInt = sCh 2 y_27.toInt := hb_30
      have hPD := xJoin (wr := [(h41, .inl (kB, 3000, .inl f41))]) (w1 := []) hP hD [] [0] rfl rfl (by decide) (by decide) hk1 hFc ht hB
      replace hP : va_P D cls9 [(h41, .inl (kB, 3000, .inl f41))] H := hPD.1
      replace hD : va_D A [(h41, .inl (kB, 3000, .inl f41))] := hPD.2
      clear hPD hB hk1 hPc hDc hFc
      have hw_29 : narrow .char (.int r_28) = .int r_28 := hw_29
      refine lv_bipush (v := 32) hx hb d_10_4_40 (by decide +kernel) ?_
      refine lv_icmp_ne (tgt := 49) hx hb d_10_4_42 (by decide +kernel) (fun c_31 => ?_) (fun c_31 => ?_)
      · skip
        have tc_31 : ¬ r_28.toInt = 32 := fun h9 => c_31 (Int32.toInt_inj.mp h9)
        refine lv_iconst (v := 0) hx hb d_10_4_49 (by decide +kernel) ?_
        refine lv_istore (lv' := [(5, .int 0), (4, .int v6_4), (3, .ref (sA 2)), (0, .ref h41), (1, .int p2), (2, .int p3)]) hx hb d_10_4_50 hl (by decide +kernel) rfl (fun ls hl => ?_)
        refine lv_iconst (v := 0) hx hb d_10_4_52 (by decide +kernel) ?_
        refine lv_istore (lv' := [(6, .int 0), (5, .int 0), (4, .int v6_4), (3, .ref (sA 2)), (0, .ref h41), (1, .int p2), (2, .int p3)]) hx hb d_10_4_53 hl (by decide +kernel) rfl (fun ls hl => ?_)
        refine xLoop (I := fun n H locs ls => ((0 : Int) ≤ 0) ∧ (0 ≤ p3.toInt) ∧ (rsI (tB f41) p2.toInt p3.toInt v6_4.toInt 0 0) ∧ n = mN (p3.toInt - 0) ∧ va_P D cls9 [(h41, .inl (kB, 3000, .inl f41))] H ∧ va_D A [(h41, .inl (kB, 3000, .inl f41))] ∧ va_S A s.heap H locs ∧ lv_has ls 7 [(6, .int 0), (5, .int 0), (4, .int v6_4), (3, .ref (sA 2)), (0, .ref h41), (1, .int p2), (2, .int p3)]) ?_ _ _ _ _ ⟨(show (0 : Int) ≤ 0 from (by first | omega | assumption)), (show 0 ≤ p3.toInt from (by first | omega | assumption)), (show rsI (tB f41) p2.toInt p3.toInt v6_4.toInt 0 0 from (rsI_b (by have q9 := hb_30; rw [show y_27.toInt = v6_4.toInt + p3.toInt + 1 from by omega] at q9; rw [← q9]; omega))), rfl, hP.sub (ws' := [(h41, .inl (kB, 3000, .inl f41))]) [0] rfl, hD.sub (ws' := [(h41, .inl (kB, 3000, .inl f41))]) [0] (by decide) rfl, hS, lv_sub hl [0, 1, 2, 3, 4, 5, 6] rfl⟩
        intro n_35 H locs ls hI9 ih_36
        revert hI9
        refine anI fun hl_32 => anI fun hl_33 => anI fun hl_34 => anI fun hn_35 => anI fun hP => anI fun hD => anI fun hS => fun hl => ?_
        refine lv_iload hx hb d_10_4_55 (lv_at hl 0 rfl) ?_
        refine lv_iload_n hx hb d_10_4_57 rfl (lv_at hl 6 rfl) ?_
        refine lv_icmp_ge (tgt := 99) hx hb d_10_4_58 (by decide +kernel) (fun c_37 => ?_) (fun c_37 => ?_)
        · skip
          have tc_37 : p3.toInt ≤ 0 := Int32.le_iff_toInt_le.mp c_37
          refine lv_iload hx hb d_10_4_99 (lv_at hl 1 rfl) ?_
          refine lv_if_eq (tgt := 106) hx hb d_10_4_101 (by decide +kernel) (fun c_38 => ?_) (fun c_38 => ?_)
          rotate_left
          · exact absurd c_38 (by decide +kernel)
          obtain ⟨y_39, ey_39⟩ : ∃ y : Int32, y = v6_4 + 1 := ⟨_, rfl⟩
          have ty_39 : y_39.toInt = v6_4.toInt + 1 := by rw [ey_39]; exact zaddc (by decide +kernel) (by omega) (by omega)
          refine lv_iinc (v := y_39) (lv' := [(4, .int y_39), (6, .int 0), (5, .int 0), (3, .ref (sA 2)), (0, .ref h41), (1, .int p2), (2, .int p3)]) hx hb d_10_4_106 hl (k := 2) rfl (by rw [ey_39]; rfl) (by decide +kernel) rfl (fun ls hl => ?_)
          refine lv_goto (tgt := 6) hx hb d_10_4_109 (by decide +kernel) ?_
          exact ih_5 _ _ _ _ (by rw [hn_4]; exact mN_lt (by omega) (by omega)) ⟨y_39, (show 0 ≤ y_39.toInt from (by first | omega | assumption)), (show y_39.toInt ≤ 200 from (by first | omega | assumption)), (show rsO (tB f41) p2.toInt p3.toInt y_39.toInt from (rsO_s hl_3 (rsI_n hl_34 (by omega)) (by omega))), rfl, hP.sub (ws' := [(h41, .inl (kB, 3000, .inl f41))]) [0] rfl, hD.sub (ws' := [(h41, .inl (kB, 3000, .inl f41))]) [0] (by decide) rfl, hS, lv_sub hl [0, 3, 4, 5, 6] rfl⟩
        · skip
          have tc_37 : ¬ p3.toInt ≤ 0 := fun h9 => c_37 (Int32.le_iff_toInt_le.mpr h9)
          refine lv_iload hx hb d_10_4_61 (lv_at hl 1 rfl) ?_
          refine lv_if_eq (tgt := 99) hx hb d_10_4_63 (by decide +kernel) (fun c_40 => ?_) (fun c_40 => ?_)
          rotate_left
          · exact absurd c_40 (by decide +kernel)
          refine lv_iload hx hb d_10_4_99 (lv_at hl 1 rfl) ?_
          refine lv_if_eq (tgt := 106) hx hb d_10_4_101 (by decide +kernel) (fun c_41 => ?_) (fun c_41 => ?_)
          rotate_left
          · exact absurd c_41 (by decide +kernel)
          obtain ⟨y_42, ey_42⟩ : ∃ y : Int32, y = v6_4 + 1 := ⟨_, rfl⟩
          have ty_42 : y_42.toInt = v6_4.toInt + 1 := by rw [ey_42]; exact zaddc (by decide +kernel) (by omega) (by omega)
          refine lv_iinc (v := y_42) (lv' := [(4, .int y_42), (6, .int 0), (5, .int 0), (3, .ref (sA 2)), (0, .ref h41), (1, .int p2), (2, .int p3)]) hx hb d_10_4_106 hl (k := 2) rfl (by rw [ey_42]; rfl) (by decide +kernel) rfl (fun ls hl => ?_)
          refine lv_goto (tgt := 6) hx hb d_10_4_109 (by decide +kernel) ?_
          exact ih_5 _ _ _ _ (by rw [hn_4]; exact mN_lt (by omega) (by omega)) ⟨y_42, (show 0 ≤ y_42.toInt from (by first | omega | assumption)), (show y_42.toInt ≤ 200 from (by first | omega | assumption)), (show rsO (tB f41) p2.toInt p3.toInt y_42.toInt from (rsO_s hl_3 (rsI_n hl_34 (by omega)) (by omega))), rfl, hP.sub (ws' := [(h41, .inl (kB, 3000, .inl f41))]) [0] rfl, hD.sub (ws' := [(h41, .inl (kB, 3000, .inl f41))]) [0] (by decide) rfl, hS, lv_sub hl [0, 3, 4, 5, 6] rfl⟩
      · skip
        have tc_31 : r_28.toInt = 32 := congrArg Int32.toInt c_31
        refine lv_iconst (v := 1) hx hb d_10_4_45 (by decide +kernel) ?_
        refine lv_goto (tgt := 50) hx hb d_10_4_46 (by decide +kernel) ?_
        refine lv_istore (lv' := [(5, .int 1), (4, .int v6_4), (3, .ref (sA 2)), (0, .ref h41), (1, .int p2), (2, .int p3)]) hx hb d_10_4_50 hl (by decide +kernel) rfl (fun ls hl => ?_)
        refine lv_iconst (v := 0) hx hb d_10_4_52 (by decide +kernel) ?_
        refine lv_istore (lv' := [(6, .int 0), (5, .int 1), (4, .int v6_4), (3, .ref (sA 2)), (0, .ref h41), (1, .int p2), (2, .int p3)]) hx hb d_10_4_53 hl (by decide +kernel) rfl (fun ls hl => ?_)
        refine xLoop (I := fun n H locs ls => ∃ v55_6 : Int32, ∃ v55_5 : Int32, ((0 : Int) ≤ v55_6.toInt) ∧ (v55_6.toInt ≤ p3.toInt) ∧ (rsI (tB f41) p2.toInt p3.toInt v6_4.toInt v55_6.toInt v55_5.toInt) ∧ n = mN (p3.toInt - v55_6.toInt) ∧ va_P D cls9 [(h41, .inl (kB, 3000, .inl f41))] H ∧ va_D A [(h41, .inl (kB, 3000, .inl f41))] ∧ va_S A s.heap H locs ∧ lv_has ls 7 [(6, .int v55_6), (5, .int v55_5), (4, .int v6_4), (3, .ref (sA 2)), (0, .ref h41), (1, .int p2), (2, .int p3)]) ?_ _ _ _ _ ⟨0, 1, (show (0 : Int) ≤ (0 : Int) from (by first | omega | assumption)), (show (0 : Int) ≤ p3.toInt from (by first | omega | assumption)), (show rsI (tB f41) p2.toInt p3.toInt v6_4.toInt (0 : Int) (1 : Int) from (rsI_1 (by rw [← hb_13]; omega) (by have q9 := hb_30; rw [show y_27.toInt = v6_4.toInt + p3.toInt + 1 from by omega] at q9; rw [← q9]; omega))), rfl, hP.sub (ws' := [(h41, .inl (kB, 3000, .inl f41))]) [0] rfl, hD.sub (ws' := [(h41, .inl (kB, 3000, .inl f41))]) [0] (by decide) rfl, hS, lv_sub hl [0, 1, 2, 3, 4, 5, 6] rfl⟩
        intro n_46 H locs ls hI9 ih_47
        revert hI9
        refine exI fun v55_6 => exI fun v55_5 => anI fun hl_43 => anI fun hl_44 => anI fun hl_45 => anI fun hn_46 => anI fun hP => anI fun hD => anI fun hS => fun hl => ?_
        refine lv_iload hx hb d_10_4_55 (lv_at hl 0 rfl) ?_
        refine lv_iload_n hx hb d_10_4_57 rfl (lv_at hl 6 rfl) ?_
        refine lv_icmp_ge (tgt := 99) hx hb d_10_4_58 (by decide +kernel) (fun c_48 => ?_) (fun c_48 => ?_)
        · skip
          have tc_48 : p3.toInt ≤ v55_6.toInt := Int32.le_iff_toInt_le.mp c_48
          refine lv_iload hx hb d_10_4_99 (lv_at hl 1 rfl) ?_
          refine lv_if_eq (tgt := 106) hx hb d_10_4_101 (by decide +kernel) (fun c_49 => ?_) (fun c_49 => ?_)
          · skip
            have tc_49 : v55_5.toInt = 0 := congrArg Int32.toInt c_49
            obtain ⟨y_50, ey_50⟩ : ∃ y : Int32, y = v6_4 + 1 := ⟨_, rfl⟩
            have ty_50 : y_50.toInt = v6_4.toInt + 1 := by rw [ey_50]; exact zaddc (by decide +kernel) (by omega) (by omega)
            refine lv_iinc (v := y_50) (lv' := [(4, .int y_50), (6, .int v55_6), (5, .int v55_5), (3, .ref (sA 2)), (0, .ref h41), (1, .int p2), (2, .int p3)]) hx hb d_10_4_106 hl (k := 2) rfl (by rw [ey_50]; rfl) (by decide +kernel) rfl (fun ls hl => ?_)
            refine lv_goto (tgt := 6) hx hb d_10_4_109 (by decide +kernel) ?_
            exact ih_5 _ _ _ _ (by rw [hn_4]; exact mN_lt (by omega) (by omega)) ⟨y_50, (show 0 ≤ y_50.toInt from (by first | omega | assumption)), (show y_50.toInt ≤ 200 from (by first | omega | assumption)), (show rsO (tB f41) p2.toInt p3.toInt y_50.toInt from (rsO_s hl_3 (rsI_n hl_45 (by omega)) (by omega))), rfl, hP.sub (ws' := [(h41, .inl (kB, 3000, .inl f41))]) [0] rfl, hD.sub (ws' := [(h41, .inl (kB, 3000, .inl f41))]) [0] (by decide) rfl, hS, lv_sub hl [0, 3, 4, 5, 6] rfl⟩
          · skip
            have tc_49 : ¬ v55_5.toInt = 0 := fun h9 => c_49 (Int32.toInt_inj.mp h9)
            refine lv_iconst (v := 1) hx hb d_10_4_104 (by decide +kernel) ?_
            have hP9 := hP.sub (ws' := [(h41, .inl (kB, 3000, .inl f41))]) [0] rfl
            have hD9 := hD.sub (ws' := [(h41, .inl (kB, 3000, .inl f41))]) [0] (by decide) rfl
            have hz_0 : ((1 : Int) = 1 ∧ rsv (tB f41) p2.toInt p3.toInt) ∨ ((1 : Int) = 0 ∧ ¬ rsv (tB f41) p2.toInt p3.toInt) := (Or.inl ⟨rfl, rs_y (rsI_y hl_45 (by omega) (by omega)) hq_3 (by omega) (by omega) hq_1⟩)
            exact W.zret (v := 1) (ty := .boolean) hx hb hr (by decide +kernel) (fun t ht hW => ⟨⟨1, 1, rfl, ⟨rfl, trivial⟩, hz_0, xEnd hK hP9 hD9 ht hW⟩, hS.F ht⟩) hS.2.2 d_10_4_105
        · skip
          have tc_48 : ¬ p3.toInt ≤ v55_6.toInt := fun h9 => c_48 (Int32.le_iff_toInt_le.mpr h9)
          refine lv_iload hx hb d_10_4_61 (lv_at hl 1 rfl) ?_
          refine lv_if_eq (tgt := 99) hx hb d_10_4_63 (by decide +kernel) (fun c_51 => ?_) (fun c_51 => ?_)
          · skip
            have tc_51 : v55_5.toInt = 0 := congrArg Int32.toInt c_51
            refine lv_iload hx hb d_10_4_99 (lv_at hl 1 rfl) ?_
            refine lv_if_eq (tgt := 106) hx hb d_10_4_101 (by decide +kernel) (fun c_52 => ?_) (fun c_52 => ?_)
            · skip
              have tc_52 : v55_5.toInt = 0 := congrArg Int32.toInt c_52
              obtain ⟨y_53, ey_53⟩ : ∃ y : Int32, y = v6_4 + 1 := ⟨_, rfl⟩
              have ty_53 : y_53.toInt = v6_4.toInt + 1 := by rw [ey_53]; exact zaddc (by decide +kernel) (by omega) (by omega)
              refine lv_iinc (v := y_53) (lv' := [(4, .int y_53), (6, .int v55_6), (5, .int v55_5), (3, .ref (sA 2)), (0, .ref h41), (1, .int p2), (2, .int p3)]) hx hb d_10_4_106 hl (k := 2) rfl (by rw [ey_53]; rfl) (by decide +kernel) rfl (fun ls hl => ?_)
              refine lv_goto (tgt := 6) hx hb d_10_4_109 (by decide +kernel) ?_
              exact ih_5 _ _ _ _ (by rw [hn_4]; exact mN_lt (by omega) (by omega)) ⟨y_53, (show 0 ≤ y_53.toInt from (by first | omega | assumption)), (show y_53.toInt ≤ 200 from (by first | omega | assumption)), (show rsO (tB f41) p2.toInt p3.toInt y_53.toInt from (rsO_s hl_3 (rsI_n hl_45 (by omega)) (by omega))), rfl, hP.sub (ws' := [(h41, .inl (kB, 3000, .inl f41))]) [0] rfl, hD.sub (ws' := [(h41, .inl (kB, 3000, .inl f41))]) [0] (by decide) rfl, hS, lv_sub hl [0, 3, 4, 5, 6] rfl⟩
            · skip
              have tc_52 : ¬ v55_5.toInt = 0 := fun h9 => c_52 (Int32.toInt_inj.mp h9)
              refine lv_iconst (v := 1) hx hb d_10_4_104 (by decide +kernel) ?_
              have hP9 := hP.sub (ws' := [(h41, .inl (kB, 3000, .inl f41))]) [0] rfl
              have hD9 := hD.sub (ws' := [(h41, .inl (kB, 3000, .inl f41))]) [0] (by decide) rfl
              have hz_0 : ((1 : Int) = 1 ∧ rsv (tB f41) p2.toInt p3.toInt) ∨ ((1 : Int) = 0 ∧ ¬ rsv (tB f41) p2.toInt p3.toInt) := (Or.inl ⟨rfl, rs_y (rsI_y hl_45 (by omega) (by omega)) hq_3 (by omega) (by omega) hq_1⟩)
              exact W.zret (v := 1) (ty := .boolean) hx hb hr (by decide +kernel) (fun t ht hW => ⟨⟨1, 1, rfl, ⟨rfl, trivial⟩, hz_0, xEnd hK hP9 hD9 ht hW⟩, hS.F ht⟩) hS.2.2 d_10_4_105
          · skip
            have tc_51 : ¬ v55_5.toInt = 0 := fun h9 => c_51 (Int32.toInt_inj.mp h9)
            refine lv_aload_n hx hb d_10_4_66 rfl (lv_at hl 3 rfl) ?_
            refine lv_iload hx hb d_10_4_67 (lv_at hl 2 rfl) ?_
            refine lv_iconst (v := 1) hx hb d_10_4_69 (by decide +kernel) ?_
            refine lv_iadd hx hb d_10_4_70 ?_
            refine lv_topi (fun y_54 ey_54 => ?_)
            have ty_54 : y_54.toInt = v6_4.toInt + 1 := by rw [ey_54]; exact zaddc (by decide +kernel) (by omega) (by omega)
            refine lv_iload hx hb d_10_4_71 (lv_at hl 0 rfl) ?_
            refine lv_iadd hx hb d_10_4_73 ?_
            refine lv_topi (fun y_55 ey_55 => ?_)
            have ty_55 : y_55.toInt = y_54.toInt + v55_6.toInt := by rw [ey_55]; exact zadd (by omega) (by omega)
            have hPc := hP.sub (ws' := []) [] rfl
            have hDc := hD.sub (ws' := []) [] (by decide) rfl
            have hFc := va_free (wc := []) hD hS hA [] rfl
            refine va_calli (va_runV (As := [.int y_55]) (rest := []) ⟨hx, hb, hml, hown, hts⟩ (g_String_charAt l D kI kJ kB kZ _ (y_55) (sA) (sV) (2) (by first | omega | assumption) (by first | omega | assumption) (by first | omega | assumption)) (cwV 1 hts (gT_V m_1327 m_166 m_167 m_122 (gT_ws m_168)) rfl rfl rfl (by decide +kernel) ⟨(Nat.le_of_ble_eq_true rfl), (Nat.le_of_ble_eq_true rfl)⟩) ⟨xBlind (xOk_E sA sV), (xE_O hE 2 (by decide) hS), xAt (xOk_E sA sV) hK hPc hDc hS hFc hE⟩ rfl rfl hl.1 rfl (lv_room (Nat.le_of_ble_eq_true rfl)) d_10_4_74 ⟨(Nat.le_of_ble_eq_true rfl), (Nat.le_of_ble_eq_true rfl)⟩) hS (fun q _ h => hFc q h) hFc (fun r_56 u t H locs ht hvm hw_57 hB hz1 hk1 hS => ?_)
            clear hz1
            obtain ⟨hu9, hw_57⟩ := hw_57
            subst hu9
            revert hB
            refine anI fun hb_58 => fun hB => ?_
            have hb_58 : r_56.toInt = sCh 2 y_55.toInt := hb_58
            have hPD := xJoin (wr := [(h41, .inl (kB, 3000, .inl f41))]) (w1 := []) hP hD [] [0] rfl rfl (by decide) (by decide) hk1 hFc ht hB
            replace hP : va_P D cls9 [(h41, .inl (kB, 3000, .inl f41))] H := hPD.1
            replace hD : va_D A [(h41, .inl (kB, 3000, .inl f41))] := hPD.2
            clear hPD hB hk1 hPc hDc hFc
            have hw_57 : narrow .char (.int r_56) = .int r_56 := hw_57
            refine lv_aload_n hx hb d_10_4_77 rfl (lv_at hl 4 rfl) ?_
            refine lv_iload_n hx hb d_10_4_78 rfl (lv_at hl 5 rfl) ?_
            refine lv_iload hx hb d_10_4_79 (lv_at hl 0 rfl) ?_
            refine lv_iadd hx hb d_10_4_81 ?_
            refine lv_topi (fun y_59 ey_59 => ?_)
            have ty_59 : y_59.toInt = p2.toInt + v55_6.toInt := by rw [ey_59]; exact zadd (by omega) (by omega)
            refine va_bald hx hb hK hP 0 2 rfl rfl (vp_in_iff.mpr ⟨by omega, by omega⟩) d_10_4_82 ?_
            refine lv_topi (fun z_60 ez_60 => ?_)
            refine lv_icmp_ne (tgt := 90) hx hb d_10_4_83 (by decide +kernel) (fun c_61 => ?_) (fun c_61 => ?_)
            · skip
              have tc_61 : ¬ r_56.toInt = z_60.toInt := fun h9 => c_61 (Int32.toInt_inj.mp h9)
              refine lv_iconst (v := 0) hx hb d_10_4_90 (by decide +kernel) ?_
              refine lv_istore (lv' := [(5, .int 0), (6, .int v55_6), (4, .int v6_4), (3, .ref (sA 2)), (0, .ref h41), (1, .int p2), (2, .int p3)]) hx hb d_10_4_91 hl (by decide +kernel) rfl (fun ls hl => ?_)
              obtain ⟨y_62, ey_62⟩ : ∃ y : Int32, y = v55_6 + 1 := ⟨_, rfl⟩
              have ty_62 : y_62.toInt = v55_6.toInt + 1 := by rw [ey_62]; exact zaddc (by decide +kernel) (by omega) (by omega)
              refine lv_iinc (v := y_62) (lv' := [(6, .int y_62), (5, .int 0), (4, .int v6_4), (3, .ref (sA 2)), (0, .ref h41), (1, .int p2), (2, .int p3)]) hx hb d_10_4_93 hl (k := 1) rfl (by rw [ey_62]; rfl) (by decide +kernel) rfl (fun ls hl => ?_)
              refine lv_goto (tgt := 55) hx hb d_10_4_96 (by decide +kernel) ?_
              exact ih_47 _ _ _ _ (by rw [hn_46]; exact mN_lt (by omega) (by omega)) ⟨y_62, 0, (show (0 : Int) ≤ y_62.toInt from (by first | omega | assumption)), (show y_62.toInt ≤ p3.toInt from (by first | omega | assumption)), (show rsI (tB f41) p2.toInt p3.toInt v6_4.toInt y_62.toInt (0 : Int) from (rsI_m (i := v55_6.toInt) (by omega) (by omega) (by have q9 := hb_58; rw [show y_55.toInt = v6_4.toInt + 1 + v55_6.toInt from by omega] at q9; rw [← q9, show p2.toInt + v55_6.toInt = y_59.toInt from by omega, tB_z ez_60]; omega))), rfl, hP.sub (ws' := [(h41, .inl (kB, 3000, .inl f41))]) [0] rfl, hD.sub (ws' := [(h41, .inl (kB, 3000, .inl f41))]) [0] (by decide) rfl, hS, lv_sub hl [0, 1, 2, 3, 4, 5, 6] rfl⟩
            · skip
              have tc_61 : r_56.toInt = z_60.toInt := congrArg Int32.toInt c_61
              refine lv_iconst (v := 1) hx hb d_10_4_86 (by decide +kernel) ?_
              refine lv_goto (tgt := 91) hx hb d_10_4_87 (by decide +kernel) ?_
              refine lv_istore (lv' := [(5, .int 1), (6, .int v55_6), (4, .int v6_4), (3, .ref (sA 2)), (0, .ref h41), (1, .int p2), (2, .int p3)]) hx hb d_10_4_91 hl (by decide +kernel) rfl (fun ls hl => ?_)
              obtain ⟨y_63, ey_63⟩ : ∃ y : Int32, y = v55_6 + 1 := ⟨_, rfl⟩
              have ty_63 : y_63.toInt = v55_6.toInt + 1 := by rw [ey_63]; exact zaddc (by decide +kernel) (by omega) (by omega)
              refine lv_iinc (v := y_63) (lv' := [(6, .int y_63), (5, .int 1), (4, .int v6_4), (3, .ref (sA 2)), (0, .ref h41), (1, .int p2), (2, .int p3)]) hx hb d_10_4_93 hl (k := 1) rfl (by rw [ey_63]; rfl) (by decide +kernel) rfl (fun ls hl => ?_)
              refine lv_goto (tgt := 55) hx hb d_10_4_96 (by decide +kernel) ?_
              exact ih_47 _ _ _ _ (by rw [hn_46]; exact mN_lt (by omega) (by omega)) ⟨y_63, 1, (show (0 : Int) ≤ y_63.toInt from (by first | omega | assumption)), (show y_63.toInt ≤ p3.toInt from (by first | omega | assumption)), (show rsI (tB f41) p2.toInt p3.toInt v6_4.toInt y_63.toInt (1 : Int) from (rsI_s hl_45 (by omega) (by have q9 := hb_58; rw [show y_55.toInt = v6_4.toInt + 1 + v55_6.toInt from by omega] at q9; rw [← q9, show p2.toInt + v55_6.toInt = y_59.toInt from by omega, tB_z ez_60]; omega) (by omega))), rfl, hP.sub (ws' := [(h41, .inl (kB, 3000, .inl f41))]) [0] rfl, hD.sub (ws' := [(h41, .inl (kB, 3000, .inl f41))]) [0] (by decide) rfl, hS, lv_sub hl [0, 1, 2, 3, 4, 5, 6] rfl⟩
