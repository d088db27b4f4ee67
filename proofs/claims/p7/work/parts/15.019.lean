set_option maxHeartbeats 8000000 in
set_option maxRecDepth 100000 in
theorem g_Tokens_scanNumber (l : Launch) (D : va_G) (kI kJ kB kZ : ClassId) (sz : Nat) (h1 : Nat) (h2 : Nat) (h9 : Nat) (h10 : Nat) (h11 : Nat) (h12 : Nat) (tc : Int32) (ta : Int32) (td : Int32) (tf : Int32) (f9 : Nat → Int32) (f10 : Nat → Int32) (f11 : Nat → Int64) (f12 : Nat → Int64) (f1 : Nat → Int32) (p2 : Int32) (p3 : Int32) (hf_C1 : 0 ≤ tc.toInt) (hf_C2 : tc.toInt ≤ 3001) (hf_T6 : ∀ j : Nat, 0 ≤ (f10 j).toInt ∧ (f10 j).toInt ≤ 3000) (hf_WK : wK f12) (hf_BR : bR f1) (hq_0 : 0 ≤ p3.toInt) (hq_1 : p3.toInt < p2.toInt) (hq_2 : p2.toInt ≤ 3000) (hq_3 : tc.toInt ≤ p3.toInt) : Met l (⟨"AlgolJudge$Tokens", "scanNumber", "([BII)I"⟩ : MethodName) (Cond.code (⟨"AlgolJudge$Tokens", "scanNumber", "([BII)I"⟩ : MethodName) prog_8_method_7_code 7 (some .int) :: gT) ({ frames := 1, cells := 0, slots := 0, locals := 24 }) (va_Pc [.ref h2, .ref h1, .int p2, .int p3] (xP D (xT kI kJ kB kZ) xN [(h2, .inr (0, [.ref h9, .ref h10, .ref h11, .ref h12, .int tc, .int ta, .int td, .int tf])), (h9, .inl (kI, 3001, .inl f9)), (h10, .inl (kI, 3001, .inl f10)), (h11, .inl (kJ, 3001, .inr (.inl f11))), (h12, .inl (kJ, 27, .inr (.inl f12))), (h1, .inl (kB, 3000, .inl f1))] sz)) (va_Qi (fun (r : Int32) (u : Int32) => r = u ∧ (0 ≤ r.toInt)) (fun u t => ∃ tc' : Int32, ∃ f9' : Nat → Int32, ∃ f10' : Nat → Int32, ∃ f11' : Nat → Int64, (0 ≤ tc'.toInt) ∧ (tc'.toInt ≤ 3001) ∧ (∀ j : Nat, 0 ≤ (f10' j).toInt ∧ (f10' j).toInt ≤ 3000) ∧ (tNu (tB f1) p2.toInt p3.toInt tc f9 f10 f11 tc' f9' f10' f11' u.toInt) ∧ xQ D (xT kI kJ kB kZ) (va_A [(h2, .inr (0, [.ref h9, .ref h10, .ref h11, .ref h12, .int tc, .int ta, .int td, .int tf])), (h9, .inl (kI, 3001, .inl f9)), (h10, .inl (kI, 3001, .inl f10)), (h11, .inl (kJ, 3001, .inr (.inl f11))), (h12, .inl (kJ, 27, .inr (.inl f12))), (h1, .inl (kB, 3000, .inl f1))] sz) [(h2, .inr (0, [.ref h9, .ref h10, .ref h11, .ref h12, .int tc', .int ta, .int td, .int tf])), (h9, .inl (kI, 3001, .inl f9')), (h10, .inl (kI, 3001, .inl f10')), (h11, .inl (kJ, 3001, .inr (.inl f11'))), (h12, .inl (kJ, 27, .inr (.inl f12))), (h1, .inl (kB, 3000, .inl f1))] t) (va_A [(h2, .inr (0, [.ref h9, .ref h10, .ref h11, .ref h12, .int tc, .int ta, .int td, .int tf])), (h9, .inl (kI, 3001, .inl f9)), (h10, .inl (kI, 3001, .inl f10)), (h11, .inl (kJ, 3001, .inr (.inl f11))), (h12, .inl (kJ, 27, .inr (.inl f12))), (h1, .inl (kB, 3000, .inl f1))] sz)) 0 0 (va_A [(h2, .inr (0, [.ref h9, .ref h10, .ref h11, .ref h12, .int tc, .int ta, .int td, .int tf])), (h9, .inl (kI, 3001, .inl f9)), (h10, .inl (kI, 3001, .inl f10)), (h11, .inl (kJ, 3001, .inr (.inl f11))), (h12, .inl (kJ, 27, .inr (.inl f12))), (h1, .inl (kB, 3000, .inl f1))] sz) := by
  refine Met.ofW (cc := prog_8_method_7_code) (maxL := 7) (ret := some .int) (by decide +kernel) rfl ?_
  intro p e s m args below meth c s₁ B hml hv
  obtain ⟨rfl, hsz, hP, hK, hD0, hE⟩ := hv
  have hx := B.exec
  have hb := B.bytes
  have hr := B.returns
  have hts : ∀ w ∈ gT, w.before _ s = true := fun w h => atoms_spec (ws := Cond.code (⟨"AlgolJudge$Tokens", "scanNumber", "([BII)I"⟩ : MethodName) prog_8_method_7_code 7 (some .int) :: gT) B.pre w (List.mem_cons_of_mem _ h)
  have hown : s.vm.findClass "AlgolJudge$Tokens" = some m.cls := findClass_of_methodNamed B.named
  have hlocks := B.notSynchronized
  subst hsz
  have hD := hD0.self (sz := s.heap.size)
  generalize hAe : va_A [(h2, .inr (0, [.ref h9, .ref h10, .ref h11, .ref h12, .int tc, .int ta, .int td, .int tf])), (h9, .inl (kI, 3001, .inl f9)), (h10, .inl (kI, 3001, .inl f10)), (h11, .inl (kJ, 3001, .inr (.inl f11))), (h12, .inl (kJ, 27, .inr (.inl f12))), (h1, .inl (kB, 3000, .inl f1))] s.heap.size = A at hD hE ⊢
  have hA : ∀ q : Nat, s.heap.size ≤ q → A q := fun q h => by rw [← hAe]; exact Or.inr h
  have hS : va_S A s.heap s.heap [] := va_S.rf
  have hP : va_P D cls9 [(h2, .inr (0, [.ref h9, .ref h10, .ref h11, .ref h12, .int tc, .int ta, .int td, .int tf])), (h9, .inl (kI, 3001, .inl f9)), (h10, .inl (kI, 3001, .inl f10)), (h11, .inl (kJ, 3001, .inr (.inl f11))), (h12, .inl (kJ, 27, .inr (.inl f12))), (h1, .inl (kB, 3000, .inl f1))] s.heap := hP
  have hl := lv_entry ([.ref h2, .ref h1, .int p2, .int p3]) (n := 7) (Nat.le_of_ble_eq_true rfl)
  rw [lg_entry_eq]
  generalize (lg_sl ([.ref h2, .ref h1, .int p2, .int p3]) ++ List.replicate (7 - (lg_sl ([.ref h2, .ref h1, .int p2, .int p3])).length) Slot.unset).toArray = ls at hl ⊢
  have hl : lv_has ls 7 [(0, .ref h2), (1, .ref h1), (2, .int p2), (3, .int p3)] := hl
  refine lv_lconst (v := 0) hx hb d_8_7_0 (by decide +kernel) ?_
  refine lv_lstore (lv' := [(4, .long 0), (0, .ref h2), (1, .ref h1), (2, .int p2), (3, .int p3)]) hx hb d_8_7_1 hl (by decide +kernel) rfl (fun ls hl => ?_)
  refine lv_iload_n hx hb d_8_7_3 rfl (lv_at hl 4 rfl) ?_
  refine lv_istore (lv' := [(6, .int p3), (4, .long 0), (0, .ref h2), (1, .ref h1), (2, .int p2), (3, .int p3)]) hx hb d_8_7_4 hl (by decide +kernel) rfl (fun ls hl => ?_)
  refine xLoop (I := fun n H locs ls => ∃ v6_6 : Int32, ∃ v6_4 : Int64, (p3.toInt ≤ v6_6.toInt) ∧ (v6_6.toInt ≤ p2.toInt) ∧ (nIv (tB f1) p2.toInt p3.toInt v6_6.toInt v6_4.toInt) ∧ n = (p2.toInt - v6_6.toInt).toNat ∧ va_P D cls9 [(h2, .inr (0, [.ref h9, .ref h10, .ref h11, .ref h12, .int tc, .int ta, .int td, .int tf])), (h9, .inl (kI, 3001, .inl f9)), (h10, .inl (kI, 3001, .inl f10)), (h11, .inl (kJ, 3001, .inr (.inl f11))), (h12, .inl (kJ, 27, .inr (.inl f12))), (h1, .inl (kB, 3000, .inl f1))] H ∧ va_D A [(h2, .inr (0, [.ref h9, .ref h10, .ref h11, .ref h12, .int tc, .int ta, .int td, .int tf])), (h9, .inl (kI, 3001, .inl f9)), (h10, .inl (kI, 3001, .inl f10)), (h11, .inl (kJ, 3001, .inr (.inl f11))), (h12, .inl (kJ, 27, .inr (.inl f12))), (h1, .inl (kB, 3000, .inl f1))] ∧ va_S A s.heap H locs ∧ lv_has ls 7 [(6, .int v6_6), (4, .long v6_4), (0, .ref h2), (1, .ref h1), (2, .int p2), (3, .int p3)]) ?_ _ _ _ _ ⟨p3, 0, (show p3.toInt ≤ p3.toInt from (by first | assumption | omega)), (show p3.toInt ≤ p2.toInt from (by first | assumption | omega)), (show nIv (tB f1) p2.toInt p3.toInt p3.toInt (0 : Int) from (by exact nV_0)), rfl, hP.sub (ws' := [(h2, .inr (0, [.ref h9, .ref h10, .ref h11, .ref h12, .int tc, .int ta, .int td, .int tf])), (h9, .inl (kI, 3001, .inl f9)), (h10, .inl (kI, 3001, .inl f10)), (h11, .inl (kJ, 3001, .inr (.inl f11))), (h12, .inl (kJ, 27, .inr (.inl f12))), (h1, .inl (kB, 3000, .inl f1))]) [0, 1, 2, 3, 4, 5] rfl, hD.sub (ws' := [(h2, .inr (0, [.ref h9, .ref h10, .ref h11, .ref h12, .int tc, .int ta, .int td, .int tf])), (h9, .inl (kI, 3001, .inl f9)), (h10, .inl (kI, 3001, .inl f10)), (h11, .inl (kJ, 3001, .inr (.inl f11))), (h12, .inl (kJ, 27, .inr (.inl f12))), (h1, .inl (kB, 3000, .inl f1))]) [0, 1, 2, 3, 4, 5] (by decide) rfl, hS, lv_sub hl [0, 1, 2, 3, 4, 5] rfl⟩
  intro n_4 H locs ls hI9 ih_5
  revert hI9
  refine exI fun v6_6 => exI fun v6_4 => anI fun hl_1 => anI fun hl_2 => anI fun hl_3 => anI fun hn_4 => anI fun hP => anI fun hD => anI fun hS => fun hl => ?_
  refine lv_iload hx hb d_8_7_6 (lv_at hl 0 rfl) ?_
  refine lv_iload_n hx hb d_8_7_8 rfl (lv_at hl 4 rfl) ?_
  refine lv_icmp_ge (tgt := 54) hx hb d_8_7_9 (by decide +kernel) (fun c_6 => ?_) (fun c_6 => ?_)
  · skip
    have tc_6 : p2.toInt ≤ v6_6.toInt := Int32.le_iff_toInt_le.mp c_6
    refine lv_aload_n hx hb d_8_7_54 rfl (lv_at hl 2 rfl) ?_
    refine lv_lload hx hb d_8_7_55 (lv_at hl 1 rfl) ?_
    refine lv_ldc2 (v := 34359738367) hx hb hown (hts _ m_478) d_8_7_57 ?_
    refine W.lcmp hx hb d_8_7_60 ?_
    refine lv_if_gt (tgt := 69) hx hb d_8_7_61 (by decide +kernel) (fun c_7 => ?_) (fun c_7 => ?_)
    · skip
      have tc_7 : 0 < (lg_cmp v6_4 34359738367).toInt := Int32.lt_iff_toInt_lt.mp c_7
      refine lv_iconst (v := (-1)) hx hb d_8_7_69 (by decide +kernel) ?_
      refine lv_iload_n hx hb d_8_7_70 rfl (lv_at hl 5 rfl) ?_
      refine lv_lconst (v := 0) hx hb d_8_7_71 (by decide +kernel) ?_
      have hPc := hP.sub (ws' := [(h2, .inr (0, [.ref h9, .ref h10, .ref h11, .ref h12, .int tc, .int ta, .int td, .int tf])), (h9, .inl (kI, 3001, .inl f9)), (h10, .inl (kI, 3001, .inl f10)), (h11, .inl (kJ, 3001, .inr (.inl f11))), (h12, .inl (kJ, 27, .inr (.inl f12)))]) [0, 1, 2, 3, 4] rfl
      have hDc := hD.sub (ws' := [(h2, .inr (0, [.ref h9, .ref h10, .ref h11, .ref h12, .int tc, .int ta, .int td, .int tf])), (h9, .inl (kI, 3001, .inl f9)), (h10, .inl (kI, 3001, .inl f10)), (h11, .inl (kJ, 3001, .inr (.inl f11))), (h12, .inl (kJ, 27, .inr (.inl f12)))]) [0, 1, 2, 3, 4] (by decide) rfl
      have hFc := va_free (wc := [(h2, .inr (0, [.ref h9, .ref h10, .ref h11, .ref h12, .int tc, .int ta, .int td, .int tf])), (h9, .inl (kI, 3001, .inl f9)), (h10, .inl (kI, 3001, .inl f10)), (h11, .inl (kJ, 3001, .inr (.inl f11))), (h12, .inl (kJ, 27, .inr (.inl f12)))]) hD hS hA [0, 1, 2, 3, 4] rfl
      refine va_callv (va_runV (As := [.int (-1), .int p3, .long 0]) (rest := []) ⟨hx, hb, hml, hown, hts⟩ (g_Tokens_add l D kI kJ kB kZ _ (h2) (h9) (h10) (h11) (h12) (tc) (ta) (td) (tf) (f9) (f10) (f11) (f12) (((-1) : Int32)) (p3) ((0 : Int64)) hf_C1 hf_C2 hf_T6 hf_WK hq_0 (by first | assumption | omega)) (cwV 3 hts (gT_V m_470 m_472 m_5 m_121 (gT_ws m_473)) rfl rfl rfl (by decide +kernel) ⟨(Nat.le_of_ble_eq_true rfl), (Nat.le_of_ble_eq_true rfl)⟩) ⟨xBlind xOk_N, va_recv hK hP (ci := 0) (q0 := 0) rfl rfl, xAtN hK hPc hDc⟩ rfl rfl hl.1 rfl (lv_room (Nat.le_of_ble_eq_true rfl)) d_8_7_72 ⟨(Nat.le_of_ble_eq_true rfl), (Nat.le_of_ble_eq_true rfl)⟩) hS (fun q _ h => hFc q h) hFc (fun u t H locs ht hvm hw_9 hB hz1 hk1 hS => ?_)
      clear hz1
      revert hB
      refine exI fun x_10 => exI fun x_11 => exI fun x_12 => exI fun x_13 => anI fun hb_14 => anI fun hb_15 => anI fun hb_16 => anI fun hb_17 => anI fun hb_18 => fun hB => ?_
      have hb_18 : zAk tc f9 f10 f11 ((-1) : Int32) p3 (0 : Int64) x_10 x_11 x_12 x_13 := hb_18
      have hPD := xJoin (wr := [(h1, .inl (kB, 3000, .inl f1))]) (w1 := [(h2, .inr (0, [.ref h9, .ref h10, .ref h11, .ref h12, .int x_10, .int ta, .int td, .int tf])), (h9, .inl (kI, 3001, .inl x_11)), (h10, .inl (kI, 3001, .inl x_12)), (h11, .inl (kJ, 3001, .inr (.inl x_13))), (h12, .inl (kJ, 27, .inr (.inl f12)))]) hP hD [0, 1, 2, 3, 4] [5] rfl rfl (by decide) (by decide) hk1 hFc ht hB
      replace hP : va_P D cls9 [(h1, .inl (kB, 3000, .inl f1)), (h2, .inr (0, [.ref h9, .ref h10, .ref h11, .ref h12, .int x_10, .int ta, .int td, .int tf])), (h9, .inl (kI, 3001, .inl x_11)), (h10, .inl (kI, 3001, .inl x_12)), (h11, .inl (kJ, 3001, .inr (.inl x_13))), (h12, .inl (kJ, 27, .inr (.inl f12)))] H := hPD.1
      replace hD : va_D A [(h1, .inl (kB, 3000, .inl f1)), (h2, .inr (0, [.ref h9, .ref h10, .ref h11, .ref h12, .int x_10, .int ta, .int td, .int tf])), (h9, .inl (kI, 3001, .inl x_11)), (h10, .inl (kI, 3001, .inl x_12)), (h11, .inl (kJ, 3001, .inr (.inl x_13))), (h12, .inl (kJ, 27, .inr (.inl f12)))] := hPD.2
      clear hPD hB hk1 hPc hDc hFc
      refine lv_iload hx hb d_8_7_75 (lv_at hl 0 rfl) ?_
      have hP9 := hP.sub (ws' := [(h2, .inr (0, [.ref h9, .ref h10, .ref h11, .ref h12, .int x_10, .int ta, .int td, .int tf])), (h9, .inl (kI, 3001, .inl x_11)), (h10, .inl (kI, 3001, .inl x_12)), (h11, .inl (kJ, 3001, .inr (.inl x_13))), (h12, .inl (kJ, 27, .inr (.inl f12))), (h1, .inl (kB, 3000, .inl f1))]) [1, 2, 3, 4, 5, 0] rfl
      have hD9 := hD.sub (ws' := [(h2, .inr (0, [.ref h9, .ref h10, .ref h11, .ref h12, .int x_10, .int ta, .int td, .int tf])), (h9, .inl (kI, 3001, .inl x_11)), (h10, .inl (kI, 3001, .inl x_12)), (h11, .inl (kJ, 3001, .inr (.inl x_13))), (h12, .inl (kJ, 27, .inr (.inl f12))), (h1, .inl (kB, 3000, .inl f1))]) [1, 2, 3, 4, 5, 0] (by decide) rfl
      have hz_3 : tNu (tB f1) p2.toInt p3.toInt tc f9 f10 f11 x_10 x_11 x_12 x_13 v6_6.toInt := (P_num hl_3 (fun q9 => by have q8 := q9.1; omega) hb_18 (by omega) (by rw [if_neg (by have q9 := lcg tc_7; omega)]; decide +kernel) rfl (by decide))
      have hrp : 0 ≤ v6_6.toInt := by first |  omega | assumption | exact pk_nc _ | exact Or.inl ⟨by omega, by omega, by assumption⟩ | exact Or.inr ⟨by omega, by decide +kernel⟩ | exact fun h9 => absurd h9 (by omega) | exact fun _ => isH_no1 (by omega) | exact fun _ => isH_no2 (by assumption) (by assumption) (by omega) | (intro h9; omega) | (intro h8 h9; omega)
      exact W.iret (v := v6_6) hx hb hr (fun t ht hW => ⟨⟨v6_6, v6_6, rfl, ⟨rfl, hrp⟩, x_10, x_11, x_12, x_13, hb_14, hb_15, hb_16, hz_3, xEnd hK hP9 hD9 ht hW⟩, hS.F ht⟩) hS.2.2 d_8_7_77
    · skip
      have tc_7 : ¬ 0 < (lg_cmp v6_4 34359738367).toInt := fun h9 => c_7 (Int32.lt_iff_toInt_lt.mpr h9)
      refine lv_bipush (v := 28) hx hb d_8_7_64 (by decide +kernel) ?_
      refine lv_goto (tgt := 70) hx hb d_8_7_66 (by decide +kernel) ?_
      refine lv_iload_n hx hb d_8_7_70 rfl (lv_at hl 5 rfl) ?_
      refine lv_lconst (v := 0) hx hb d_8_7_71 (by decide +kernel) ?_
      have hPc := hP.sub (ws' := [(h2, .inr (0, [.ref h9, .ref h10, .ref h11, .ref h12, .int tc, .int ta, .int td, .int tf])), (h9, .inl (kI, 3001, .inl f9)), (h10, .inl (kI, 3001, .inl f10)), (h11, .inl (kJ, 3001, .inr (.inl f11))), (h12, .inl (kJ, 27, .inr (.inl f12)))]) [0, 1, 2, 3, 4] rfl
      have hDc := hD.sub (ws' := [(h2, .inr (0, [.ref h9, .ref h10, .ref h11, .ref h12, .int tc, .int ta, .int td, .int tf])), (h9, .inl (kI, 3001, .inl f9)), (h10, .inl (kI, 3001, .inl f10)), (h11, .inl (kJ, 3001, .inr (.inl f11))), (h12, .inl (kJ, 27, .inr (.inl f12)))]) [0, 1, 2, 3, 4] (by decide) rfl
      have hFc := va_free (wc := [(h2, .inr (0, [.ref h9, .ref h10, .ref h11, .ref h12, .int tc, .int ta, .int td, .int tf])), (h9, .inl (kI, 3001, .inl f9)), (h10, .inl (kI, 3001, .inl f10)), (h11, .inl (kJ, 3001, .inr (.inl f11))), (h12, .inl (kJ, 27, .inr (.inl f12)))]) hD hS hA [0, 1, 2, 3, 4] rfl
      refine va_callv (va_runV (As := [.int 28, .int p3, .long 0]) (rest := []) ⟨hx, hb, hml, hown, hts⟩ (g_Tokens_add l D kI kJ kB kZ _ (h2) (h9) (h10) (h11) (h12) (tc) (ta) (td) (tf) (f9) (f10) (f11) (f12) ((28 : Int32)) (p3) ((0 : Int64)) hf_C1 hf_C2 hf_T6 hf_WK hq_0 (by first | assumption | omega)) (cwV 3 hts (gT_V m_470 m_472 m_5 m_121 (gT_ws m_473)) rfl rfl rfl (by decide +kernel) ⟨(Nat.le_of_ble_eq_true rfl), (Nat.le_of_ble_eq_true rfl)⟩) ⟨xBlind xOk_N, va_recv hK hP (ci := 0) (q0 := 0) rfl rfl, xAtN hK hPc hDc⟩ rfl rfl hl.1 rfl (lv_room (Nat.le_of_ble_eq_true rfl)) d_8_7_72 ⟨(Nat.le_of_ble_eq_true rfl), (Nat.le_of_ble_eq_true rfl)⟩) hS (fun q _ h => hFc q h) hFc (fun u t H locs ht hvm hw_20 hB hz1 hk1 hS => ?_)
      clear hz1
      revert hB
      refine exI fun x_21 => exI fun x_22 => exI fun x_23 => exI fun x_24 => anI fun hb_25 => anI fun hb_26 => anI fun hb_27 => anI fun hb_28 => anI fun hb_29 => fun hB => ?_
      have hb_29 : zAk tc f9 f10 f11 (28 : Int32) p3 (0 : Int64) x_21 x_22 x_23 x_24 := hb_29
      have hPD := xJoin (wr := [(h1, .inl (kB, 3000, .inl f1))]) (w1 := [(h2, .inr (0, [.ref h9, .ref h10, .ref h11, .ref h12, .int x_21, .int ta, .int td, .int tf])), (h9, .inl (kI, 3001, .inl x_22)), (h10, .inl (kI, 3001, .inl x_23)), (h11, .inl (kJ, 3001, .inr (.inl x_24))), (h12, .inl (kJ, 27, .inr (.inl f12)))]) hP hD [0, 1, 2, 3, 4] [5] rfl rfl (by decide) (by decide) hk1 hFc ht hB
      replace hP : va_P D cls9 [(h1, .inl (kB, 3000, .inl f1)), (h2, .inr (0, [.ref h9, .ref h10, .ref h11, .ref h12, .int x_21, .int ta, .int td, .int tf])), (h9, .inl (kI, 3001, .inl x_22)), (h10, .inl (kI, 3001, .inl x_23)), (h11, .inl (kJ, 3001, .inr (.inl x_24))), (h12, .inl (kJ, 27, .inr (.inl f12)))] H := hPD.1
      replace hD : va_D A [(h1, .inl (kB, 3000, .inl f1)), (h2, .inr (0, [.ref h9, .ref h10, .ref h11, .ref h12, .int x_21, .int ta, .int td, .int tf])), (h9, .inl (kI, 3001, .inl x_22)), (h10, .inl (kI, 3001, .inl x_23)), (h11, .inl (kJ, 3001, .inr (.inl x_24))), (h12, .inl (kJ, 27, .inr (.inl f12)))] := hPD.2
      clear hPD hB hk1 hPc hDc hFc
      refine lv_iload hx hb d_8_7_75 (lv_at hl 0 rfl) ?_
      have hP9 := hP.sub (ws' := [(h2, .inr (0, [.ref h9, .ref h10, .ref h11, .ref h12, .int x_21, .int ta, .int td, .int tf])), (h9, .inl (kI, 3001, .inl x_22)), (h10, .inl (kI, 3001, .inl x_23)), (h11, .inl (kJ, 3001, .inr (.inl x_24))), (h12, .inl (kJ, 27, .inr (.inl f12))), (h1, .inl (kB, 3000, .inl f1))]) [1, 2, 3, 4, 5, 0] rfl
      have hD9 := hD.sub (ws' := [(h2, .inr (0, [.ref h9, .ref h10, .ref h11, .ref h12, .int x_21, .int ta, .int td, .int tf])), (h9, .inl (kI, 3001, .inl x_22)), (h10, .inl (kI, 3001, .inl x_23)), (h11, .inl (kJ, 3001, .inr (.inl x_24))), (h12, .inl (kJ, 27, .inr (.inl f12))), (h1, .inl (kB, 3000, .inl f1))]) [1, 2, 3, 4, 5, 0] (by decide) rfl
      have hz_3 : tNu (tB f1) p2.toInt p3.toInt tc f9 f10 f11 x_21 x_22 x_23 x_24 v6_6.toInt := (P_num hl_3 (fun q9 => by have q8 := q9.1; omega) hb_29 (by omega) (by rw [if_pos (lcl tc_7)]; decide +kernel) rfl (by decide))
      have hrp : 0 ≤ v6_6.toInt := by first |  omega | assumption | exact pk_nc _ | exact Or.inl ⟨by omega, by omega, by assumption⟩ | exact Or.inr ⟨by omega, by decide +kernel⟩ | exact fun h9 => absurd h9 (by omega) | exact fun _ => isH_no1 (by omega) | exact fun _ => isH_no2 (by assumption) (by assumption) (by omega) | (intro h9; omega) | (intro h8 h9; omega)
      exact W.iret (v := v6_6) hx hb hr (fun t ht hW => ⟨⟨v6_6, v6_6, rfl, ⟨rfl, hrp⟩, x_21, x_22, x_23, x_24, hb_25, hb_26, hb_27, hz_3, xEnd hK hP9 hD9 ht hW⟩, hS.F ht⟩) hS.2.2 d_8_7_77
  · skip
    have tc_6 : ¬ p2.toInt ≤ v6_6.toInt := fun h9 => c_6 (Int32.le_iff_toInt_le.mpr h9)
    refine lv_aload_n hx hb d_8_7_12 rfl (lv_at hl 3 rfl) ?_
    refine lv_iload hx hb d_8_7_13 (lv_at hl 0 rfl) ?_
    refine va_bald hx hb hK hP 5 2 rfl rfl (vp_in_iff.mpr ⟨by omega, by omega⟩) d_8_7_15 ?_
    refine lv_topi (fun z_30 ez_30 => ?_)
    have hPc := hP.sub (ws' := []) [] rfl
    have hDc := hD.sub (ws' := []) [] (by decide) rfl
    have hFc := va_free (wc := []) hD hS hA [] rfl
    refine va_calli (va_runS (As := [.int z_30]) (rest := []) ⟨hx, hb, hml, hown, hts⟩ (g_Tokens_isDigit l D kI kJ kB kZ _ (z_30) ) (va_cwS 1 hts (gT_S m_463 m_464 m_121 (gT_ws m_465)) rfl rfl rfl (by decide +kernel) ⟨(Nat.le_of_ble_eq_true rfl), (Nat.le_of_ble_eq_true rfl)⟩) ⟨xBlind xOk_N, xAtN hK hPc hDc⟩ rfl rfl hl.1 rfl (lv_room (Nat.le_of_ble_eq_true rfl)) d_8_7_16 ⟨(Nat.le_of_ble_eq_true rfl), (Nat.le_of_ble_eq_true rfl)⟩) hS (fun q _ h => hFc q h) hFc (fun r_31 u t H locs ht hvm hw_32 hB hz1 hk1 hS => ?_)
    clear hz1
    obtain ⟨hu9, hw_32⟩ := hw_32
    subst hu9
    revert hB
    refine anI fun hb_33 => fun hB => ?_
    have hb_33 : (r_31.toInt = 1 ∧ (48 ≤ z_30.toInt ∧ z_30.toInt ≤ 57)) ∨ (r_31.toInt = 0 ∧ ¬ (48 ≤ z_30.toInt ∧ z_30.toInt ≤ 57)) := hb_33
    have hPD := xJoin (wr := [(h2, .inr (0, [.ref h9, .ref h10, .ref h11, .ref h12, .int tc, .int ta, .int td, .int tf])), (h9, .inl (kI, 3001, .inl f9)), (h10, .inl (kI, 3001, .inl f10)), (h11, .inl (kJ, 3001, .inr (.inl f11))), (h12, .inl (kJ, 27, .inr (.inl f12))), (h1, .inl (kB, 3000, .inl f1))]) (w1 := []) hP hD [] [0, 1, 2, 3, 4, 5] rfl rfl (by decide) (by decide) hk1 hFc ht hB
    replace hP : va_P D cls9 [(h2, .inr (0, [.ref h9, .ref h10, .ref h11, .ref h12, .int tc, .int ta, .int td, .int tf])), (h9, .inl (kI, 3001, .inl f9)), (h10, .inl (kI, 3001, .inl f10)), (h11, .inl (kJ, 3001, .inr (.inl f11))), (h12, .inl (kJ, 27, .inr (.inl f12))), (h1, .inl (kB, 3000, .inl f1))] H := hPD.1
    replace hD : va_D A [(h2, .inr (0, [.ref h9, .ref h10, .ref h11, .ref h12, .int tc, .int ta, .int td, .int tf])), (h9, .inl (kI, 3001, .inl f9)), (h10, .inl (kI, 3001, .inl f10)), (h11, .inl (kJ, 3001, .inr (.inl f11))), (h12, .inl (kJ, 27, .inr (.inl f12))), (h1, .inl (kB, 3000, .inl f1))] := hPD.2
    clear hPD hB hk1 hPc hDc hFc
    refine lv_if_eq (tgt := 54) hx hb d_8_7_19 (by decide +kernel) (fun c_34 => ?_) (fun c_34 => ?_)
    · skip
      have tc_34 : r_31.toInt = 0 := congrArg Int32.toInt c_34
      refine lv_aload_n hx hb d_8_7_54 rfl (lv_at hl 2 rfl) ?_
      refine lv_lload hx hb d_8_7_55 (lv_at hl 1 rfl) ?_
      refine lv_ldc2 (v := 34359738367) hx hb hown (hts _ m_478) d_8_7_57 ?_
      refine W.lcmp hx hb d_8_7_60 ?_
      refine lv_if_gt (tgt := 69) hx hb d_8_7_61 (by decide +kernel) (fun c_35 => ?_) (fun c_35 => ?_)
      · skip
        have tc_35 : 0 < (lg_cmp v6_4 34359738367).toInt := Int32.lt_iff_toInt_lt.mp c_35
        refine lv_iconst (v := (-1)) hx hb d_8_7_69 (by decide +kernel) ?_
        refine lv_iload_n hx hb d_8_7_70 rfl (lv_at hl 5 rfl) ?_
        refine lv_lconst (v := 0) hx hb d_8_7_71 (by decide +kernel) ?_
        have hPc := hP.sub (ws' := [(h2, .inr (0, [.ref h9, .ref h10, .ref h11, .ref h12, .int tc, .int ta, .int td, .int tf])), (h9, .inl (kI, 3001, .inl f9)), (h10, .inl (kI, 3001, .inl f10)), (h11, .inl (kJ, 3001, .inr (.inl f11))), (h12, .inl (kJ, 27, .inr (.inl f12)))]) [0, 1, 2, 3, 4] rfl
        have hDc := hD.sub (ws' := [(h2, .inr (0, [.ref h9, .ref h10, .ref h11, .ref h12, .int tc, .int ta, .int td, .int tf])), (h9, .inl (kI, 3001, .inl f9)), (h10, .inl (kI, 3001, .inl f10)), (h11, .inl (kJ, 3001, .inr (.inl f11))), (h12, .inl (kJ, 27, .inr (.inl f12)))]) [0, 1, 2, 3, 4] (by decide) rfl
        have hFc := va_free (wc := [(h2, .inr (0, [.ref h9, .ref h10, .ref h11, .ref h12, .int tc, .int ta, .int td, .int tf])), (h9, .inl (kI, 3001, .inl f9)), (h10, .inl (kI, 3001, .inl f10)), (h11, .inl (kJ, 3001, .inr (.inl f11))), (h12, .inl (kJ, 27, .inr (.inl f12)))]) hD hS hA [0, 1, 2, 3, 4] rfl
        refine va_callv (va_runV (As := [.int (-1), .int p3, .long 0]) (rest := []) ⟨hx, hb, hml, hown, hts⟩ (g_Tokens_add l D kI kJ kB kZ _ (h2) (h9) (h10) (h11) (h12) (tc) (ta) (td) (tf) (f9) (f10) (f11) (f12) (((-1) : Int32)) (p3) ((0 : Int64)) hf_C1 hf_C2 hf_T6 hf_WK hq_0 (by first | assumption | omega)) (cwV 3 hts (gT_V m_470 m_472 m_5 m_121 (gT_ws m_473)) rfl rfl rfl (by decide +kernel) ⟨(Nat.le_of_ble_eq_true rfl), (Nat.le_of_ble_eq_true rfl)⟩) ⟨xBlind xOk_N, va_recv hK hP (ci := 0) (q0 := 0) rfl rfl, xAtN hK hPc hDc⟩ rfl rfl hl.1 rfl (lv_room (Nat.le_of_ble_eq_true rfl)) d_8_7_72 ⟨(Nat.le_of_ble_eq_true rfl), (Nat.le_of_ble_eq_true rfl)⟩) hS (fun q _ h => hFc q h) hFc (fun u t H locs ht hvm hw_37 hB hz1 hk1 hS => ?_)
        clear hz1
        revert hB
        refine exI fun x_38 => exI fun x_39 => exI fun x_40 => exI fun x_41 => anI fun hb_42 => anI fun hb_43 => anI fun hb_44 => anI fun hb_45 => anI fun hb_46 => fun hB => ?_
        have hb_46 : zAk tc f9 f10 f11 ((-1) : Int32) p3 (0 : Int64) x_38 x_39 x_40 x_41 := hb_46
        have hPD := xJoin (wr := [(h1, .inl (kB, 3000, .inl f1))]) (w1 := [(h2, .inr (0, [.ref h9, .ref h10, .ref h11, .ref h12, .int x_38, .int ta, .int td, .int tf])), (h9, .inl (kI, 3001, .inl x_39)), (h10, .inl (kI, 3001, .inl x_40)), (h11, .inl (kJ, 3001, .inr (.inl x_41))), (h12, .inl (kJ, 27, .inr (.inl f12)))]) hP hD [0, 1, 2, 3, 4] [5] rfl rfl (by decide) (by decide) hk1 hFc ht hB
        replace hP : va_P D cls9 [(h1, .inl (kB, 3000, .inl f1)), (h2, .inr (0, [.ref h9, .ref h10, .ref h11, .ref h12, .int x_38, .int ta, .int td, .int tf])), (h9, .inl (kI, 3001, .inl x_39)), (h10, .inl (kI, 3001, .inl x_40)), (h11, .inl (kJ, 3001, .inr (.inl x_41))), (h12, .inl (kJ, 27, .inr (.inl f12)))] H := hPD.1
        replace hD : va_D A [(h1, .inl (kB, 3000, .inl f1)), (h2, .inr (0, [.ref h9, .ref h10, .ref h11, .ref h12, .int x_38, .int ta, .int td, .int tf])), (h9, .inl (kI, 3001, .inl x_39)), (h10, .inl (kI, 3001, .inl x_40)), (h11, .inl (kJ, 3001, .inr (.inl x_41))), (h12, .inl (kJ, 27, .inr (.inl f12)))] := hPD.2
        clear hPD hB hk1 hPc hDc hFc
        refine lv_iload hx hb d_8_7_75 (lv_at hl 0 rfl) ?_
        have hP9 := hP.sub (ws' := [(h2, .inr (0, [.ref h9, .ref h10, .ref h11, .ref h12, .int x_38, .int ta, .int td, .int tf])), (h9, .inl (kI, 3001, .inl x_39)), (h10, .inl (kI, 3001, .inl x_40)), (h11, .inl (kJ, 3001, .inr (.inl x_41))), (h12, .inl (kJ, 27, .inr (.inl f12))), (h1, .inl (kB, 3000, .inl f1))]) [1, 2, 3, 4, 5, 0] rfl
        have hD9 := hD.sub (ws' := [(h2, .inr (0, [.ref h9, .ref h10, .ref h11, .ref h12, .int x_38, .int ta, .int td, .int tf])), (h9, .inl (kI, 3001, .inl x_39)), (h10, .inl (kI, 3001, .inl x_40)), (h11, .inl (kJ, 3001, .inr (.inl x_41))), (h12, .inl (kJ, 27, .inr (.inl f12))), (h1, .inl (kB, 3000, .inl f1))]) [1, 2, 3, 4, 5, 0] (by decide) rfl
        have hz_3 : tNu (tB f1) p2.toInt p3.toInt tc f9 f10 f11 x_38 x_39 x_40 x_41 v6_6.toInt := (P_num hl_3 (fun q9 => by have q8 := q9.2; rw [tB_z ez_30] at q8; have q7 : 48 ≤ z_30.toInt ∧ z_30.toInt ≤ 57 := q8; omega) hb_46 (by omega) (by rw [if_neg (by have q9 := lcg tc_35; omega)]; decide +kernel) rfl (by decide))
        have hrp : 0 ≤ v6_6.toInt := by first |  omega | assumption | exact pk_nc _ | exact Or.inl ⟨by omega, by omega, by assumption⟩ | exact Or.inr ⟨by omega, by decide +kernel⟩ | exact fun h9 => absurd h9 (by omega) | exact fun _ => isH_no1 (by omega) | exact fun _ => isH_no2 (by assumption) (by assumption) (by omega) | (intro h9; omega) | (intro h8 h9; omega)
        exact W.iret (v := v6_6) hx hb hr (fun t ht hW => ⟨⟨v6_6, v6_6, rfl, ⟨rfl, hrp⟩, x_38, x_39, x_40, x_41, hb_42, hb_43, hb_44, hz_3, xEnd hK hP9 hD9 ht hW⟩, hS.F ht⟩) hS.2.2 d_8_7_77
      · skip
        have tc_35 : ¬ 0 < (lg_cmp v6_4 34359738367).toInt := fun h9 => c_35 (Int32.lt_iff_toInt_lt.mpr h9)
        refine lv_bipush (v := 28) hx hb d_8_7_64 (by decide +kernel) ?_
        refine lv_goto (tgt := 70) hx hb d_8_7_66 (by decide +kernel) ?_
        refine lv_iload_n hx hb d_8_7_70 rfl (lv_at hl 5 rfl) ?_
        refine lv_lconst (v := 0) hx hb d_8_7_71 (by decide +kernel) ?_
        have hPc := hP.sub (ws' := [(h2, .inr (0, [.ref h9, .ref h10, .ref h11, .ref h12, .int tc, .int ta, .int td, .int tf])), (h9, .inl (kI, 3001, .inl f9)), (h10, .inl (kI, 3001, .inl f10)), (h11, .inl (kJ, 3001, .inr (.inl f11))), (h12, .inl (kJ, 27, .inr (.inl f12)))]) [0, 1, 2, 3, 4] rfl
        have hDc := hD.sub (ws' := [(h2, .inr (0, [.ref h9, .ref h10, .ref h11, .ref h12, .int tc, .int ta, .int td, .int tf])), (h9, .inl (kI, 3001, .inl f9)), (h10, .inl (kI, 3001, .inl f10)), (h11, .inl (kJ, 3001, .inr (.inl f11))), (h12, .inl (kJ, 27, .inr (.inl f12)))]) [0, 1, 2, 3, 4] (by decide) rfl
        have hFc := va_free (wc := [(h2, .inr (0, [.ref h9, .ref h10, .ref h11, .ref h12, .int tc, .int ta, .int td, .int tf])), (h9, .inl (kI, 3001, .inl f9)), (h10, .inl (kI, 3001, .inl f10)), (h11, .inl (kJ, 3001, .inr (.inl f11))), (h12, .inl (kJ, 27, .inr (.inl f12)))]) hD hS hA [0, 1, 2, 3, 4] rfl
        refine va_callv (va_runV (As := [.int 28, .int p3, .long 0]) (rest := []) ⟨hx, hb, hml, hown, hts⟩ (g_Tokens_add l D kI kJ kB kZ _ (h2) (h9) (h10) (h11) (h12) (tc) (ta) (td) (tf) (f9) (f10) (f11) (f12) ((28 : Int32)) (p3) ((0 : Int64)) hf_C1 hf_C2 hf_T6 hf_WK hq_0 (by first | assumption | omega)) (cwV 3 hts (gT_V m_470 m_472 m_5 m_121 (gT_ws m_473)) rfl rfl rfl (by decide +kernel) ⟨(Nat.le_of_ble_eq_true rfl), (Nat.le_of_ble_eq_true rfl)⟩) ⟨xBlind xOk_N, va_recv hK hP (ci := 0) (q0 := 0) rfl rfl, xAtN hK hPc hDc⟩ rfl rfl hl.1 rfl (lv_room (Nat.le_of_ble_eq_true rfl)) d_8_7_72 ⟨(Nat.le_of_ble_eq_true rfl), (Nat.le_of_ble_eq_true rfl)⟩) hS (fun q _ h => hFc q h) hFc (fun u t H locs ht hvm hw_48 hB hz1 hk1 hS => ?_)
        clear hz1
        revert hB
        refine exI fun x_49 => exI fun x_50 => exI fun x_51 => exI fun x_52 => anI fun hb_53 => anI fun hb_54 => anI fun hb_55 => anI fun hb_56 => anI fun hb_57 => fun hB => ?_
        have hb_57 : zAk tc f9 f10 f11 (28 : Int32) p3 (0 : Int64) x_49 x_50 x_51 x_52 := hb_57
        have hPD := xJoin (wr := [(h1, .inl (kB, 3000, .inl f1))]) (w1 := [(h2, .inr (0, [.ref h9, .ref h10, .ref h11, .ref h12, .int x_49, .int ta, .int td, .int tf])), (h9, .inl (kI, 3001, .inl x_50)), (h10, .inl (kI, 3001, .inl x_51)), (h11, .inl (kJ, 3001, .inr (.inl x_52))), (h12, .inl (kJ, 27, .inr (.inl f12)))]) hP hD [0, 1, 2, 3, 4] [5] rfl rfl (by decide) (by decide) hk1 hFc ht hB
        replace hP : va_P D cls9 [(h1, .inl (kB, 3000, .inl f1)), (h2, .inr (0, [.ref h9, .ref h10, .ref h11, .ref h12, .int x_49, .int ta, .int td, .int tf])), (h9, .inl (kI, 3001, .inl x_50)), (h10, .inl (kI, 3001, .inl x_51)), (h11, .inl (kJ, 3001, .inr (.inl x_52))), (h12, .inl (kJ, 27, .inr (.inl f12)))] H := hPD.1
        replace hD : va_D A [(h1, .inl (kB, 3000, .inl f1)), (h2, .inr (0, [.ref h9, .ref h10, .ref h11, .ref h12, .int x_49, .int ta, .int td, .int tf])), (h9, .inl (kI, 3001, .inl x_50)), (h10, .inl (kI, 3001, .inl x_51)), (h11, .inl (kJ, 3001, .inr (.inl x_52))), (h12, .inl (kJ, 27, .inr (.inl f12)))] := hPD.2
        clear hPD hB hk1 hPc hDc hFc
        refine lv_iload hx hb d_8_7_75 (lv_at hl 0 rfl) ?_
        have hP9 := hP.sub (ws' := [(h2, .inr (0, [.ref h9, .ref h10, .ref h11, .ref h12, .int x_49, .int ta, .int td, .int tf])), (h9, .inl (kI, 3001, .inl x_50)), (h10, .inl (kI, 3001, .inl x_51)), (h11, .inl (kJ, 3001, .inr (.inl x_52))), (h12, .inl (kJ, 27, .inr (.inl f12))), (h1, .inl (kB, 3000, .inl f1))]) [1, 2, 3, 4, 5, 0] rfl
        have hD9 := hD.sub (ws' := [(h2, .inr (0, [.ref h9, .ref h10, .ref h11, .ref h12, .int x_49, .int ta, .int td, .int tf])), (h9, .inl (kI, 3001, .inl x_50)), (h10, .inl (kI, 3001, .inl x_51)), (h11, .inl (kJ, 3001, .inr (.inl x_52))), (h12, .inl (kJ, 27, .inr (.inl f12))), (h1, .inl (kB, 3000, .inl f1))]) [1, 2, 3, 4, 5, 0] (by decide) rfl
        have hz_3 : tNu (tB f1) p2.toInt p3.toInt tc f9 f10 f11 x_49 x_50 x_51 x_52 v6_6.toInt := (P_num hl_3 (fun q9 => by have q8 := q9.2; rw [tB_z ez_30] at q8; have q7 : 48 ≤ z_30.toInt ∧ z_30.toInt ≤ 57 := q8; omega) hb_57 (by omega) (by rw [if_pos (lcl tc_35)]; decide +kernel) rfl (by decide))
        have hrp : 0 ≤ v6_6.toInt := by first |  omega | assumption | exact pk_nc _ | exact Or.inl ⟨by omega, by omega, by assumption⟩ | exact Or.inr ⟨by omega, by decide +kernel⟩ | exact fun h9 => absurd h9 (by omega) | exact fun _ => isH_no1 (by omega) | exact fun _ => isH_no2 (by assumption) (by assumption) (by omega) | (intro h9; omega) | (intro h8 h9; omega)
        exact W.iret (v := v6_6) hx hb hr (fun t ht hW => ⟨⟨v6_6, v6_6, rfl, ⟨rfl, hrp⟩, x_49, x_50, x_51, x_52, hb_53, hb_54, hb_55, hz_3, xEnd hK hP9 hD9 ht hW⟩, hS.F ht⟩) hS.2.2 d_8_7_77
    · skip
      have tc_34 : ¬ r_31.toInt = 0 := fun h9 => c_34 (Int32.toInt_inj.mp h9)
      refine lv_lload hx hb d_8_7_22 (lv_at hl 1 rfl) ?_
      refine lv_ldc2 (v := 34359738367) hx hb hown (hts _ m_478) d_8_7_24 ?_
      refine W.lcmp hx hb d_8_7_27 ?_
      refine lv_if_gt (tgt := 48) hx hb d_8_7_28 (by decide +kernel) (fun c_58 => ?_) (fun c_58 => ?_)
      · skip
        have tc_58 : 0 < (lg_cmp v6_4 34359738367).toInt := Int32.lt_iff_toInt_lt.mp c_58
        obtain ⟨y_59, ey_59⟩ : ∃ y : Int32, y = v6_6 + 1 := ⟨_, rfl⟩
        have ty_59 : y_59.toInt = v6_6.toInt + 1 := by rw [ey_59]; exact zaddc (by decide +kernel) (by omega) (by omega)
        refine lv_iinc (v := y_59) (lv' := [(6, .int y_59), (4, .long v6_4), (0, .ref h2), (1, .ref h1), (2, .int p2), (3, .int p3)]) hx hb d_8_7_48 hl (k := 0) rfl (by rw [ey_59]; rfl) (by decide +kernel) rfl (fun ls hl => ?_)
        refine lv_goto (tgt := 6) hx hb d_8_7_51 (by decide +kernel) ?_
        exact ih_5 _ _ _ _ (by omega) ⟨y_59, v6_4, (show p3.toInt ≤ y_59.toInt from (by first | assumption | omega)), (show y_59.toInt ≤ p2.toInt from (by first | assumption | omega)), (show nIv (tB f1) p2.toInt p3.toInt y_59.toInt v6_4.toInt from (nV_t hl_3 (by omega) (by omega) (by rw [tB_z ez_30]; show 48 ≤ _ ∧ _ ≤ 57; omega) (by have q9 := lcg tc_58; omega) (by omega))), rfl, hP.sub (ws' := [(h2, .inr (0, [.ref h9, .ref h10, .ref h11, .ref h12, .int tc, .int ta, .int td, .int tf])), (h9, .inl (kI, 3001, .inl f9)), (h10, .inl (kI, 3001, .inl f10)), (h11, .inl (kJ, 3001, .inr (.inl f11))), (h12, .inl (kJ, 27, .inr (.inl f12))), (h1, .inl (kB, 3000, .inl f1))]) [0, 1, 2, 3, 4, 5] rfl, hD.sub (ws' := [(h2, .inr (0, [.ref h9, .ref h10, .ref h11, .ref h12, .int tc, .int ta, .int td, .int tf])), (h9, .inl (kI, 3001, .inl f9)), (h10, .inl (kI, 3001, .inl f10)), (h11, .inl (kJ, 3001, .inr (.inl f11))), (h12, .inl (kJ, 27, .inr (.inl f12))), (h1, .inl (kB, 3000, .inl f1))]) [0, 1, 2, 3, 4, 5] (by decide) rfl, hS, lv_sub hl [0, 1, 2, 3, 4, 5] rfl⟩
      · skip
        have tc_58 : ¬ 0 < (lg_cmp v6_4 34359738367).toInt := fun h9 => c_58 (Int32.lt_iff_toInt_lt.mpr h9)
        refine lv_lload hx hb d_8_7_31 (lv_at hl 1 rfl) ?_
        refine lv_ldc2 (v := 10) hx hb hown (hts _ m_479) d_8_7_33 ?_
        refine lv_lmul hx hb d_8_7_36 ?_
        refine lv_aload_n hx hb d_8_7_37 rfl (lv_at hl 3 rfl) ?_
        refine lv_iload hx hb d_8_7_38 (lv_at hl 0 rfl) ?_
        refine va_bald hx hb hK hP 5 2 rfl rfl (vp_in_iff.mpr ⟨by omega, by omega⟩) d_8_7_40 ?_
        refine lv_topi (fun z_60 ez_60 => ?_)
        refine lv_bipush (v := 48) hx hb d_8_7_41 (by decide +kernel) ?_
        have hzz : z_60.toInt = z_30.toInt := by rw [ez_60, ez_30]
        refine lv_isub hx hb d_8_7_43 ?_
        refine lv_topi (fun y_61 ey_61 => ?_)
        have ty_61 : y_61.toInt = z_60.toInt - 48 := by rw [ey_61]; exact zsubc (by decide +kernel) (by omega) (by omega)
        refine lv_i2l (v := (y_61.toInt64)) hx hb d_8_7_44 rfl ?_
        refine lv_ladd hx hb d_8_7_45 ?_
        refine lv_lstore (lv' := [(4, .long ((v6_4 * 10) + (y_61.toInt64))), (6, .int v6_6), (0, .ref h2), (1, .ref h1), (2, .int p2), (3, .int p3)]) hx hb d_8_7_46 hl (by decide +kernel) rfl (fun ls hl => ?_)
        obtain ⟨y_62, ey_62⟩ : ∃ y : Int32, y = v6_6 + 1 := ⟨_, rfl⟩
        have ty_62 : y_62.toInt = v6_6.toInt + 1 := by rw [ey_62]; exact zaddc (by decide +kernel) (by omega) (by omega)
        refine lv_iinc (v := y_62) (lv' := [(6, .int y_62), (4, .long ((v6_4 * 10) + (y_61.toInt64))), (0, .ref h2), (1, .ref h1), (2, .int p2), (3, .int p3)]) hx hb d_8_7_48 hl (k := 1) rfl (by rw [ey_62]; rfl) (by decide +kernel) rfl (fun ls hl => ?_)
        refine lv_goto (tgt := 6) hx hb d_8_7_51 (by decide +kernel) ?_
        exact ih_5 _ _ _ _ (by omega) ⟨y_62, ((v6_4 * 10) + (y_61.toInt64)), (show p3.toInt ≤ y_62.toInt from (by first | assumption | omega)), (show y_62.toInt ≤ p2.toInt from (by first | assumption | omega)), (show nIv (tB f1) p2.toInt p3.toInt y_62.toInt ((v6_4 * 10) + (y_61.toInt64)).toInt from (nV_s hl_3 (by omega) (by omega) (by rw [tB_z ez_30]; show 48 ≤ _ ∧ _ ≤ 57; omega) (lcl tc_58) (by omega) (by rw [nu_1 hl_3.2.2.1 (lcl tc_58) (by omega) (by omega), tB_z ez_60]; omega))), rfl, hP.sub (ws' := [(h2, .inr (0, [.ref h9, .ref h10, .ref h11, .ref h12, .int tc, .int ta, .int td, .int tf])), (h9, .inl (kI, 3001, .inl f9)), (h10, .inl (kI, 3001, .inl f10)), (h11, .inl (kJ, 3001, .inr (.inl f11))), (h12, .inl (kJ, 27, .inr (.inl f12))), (h1, .inl (kB, 3000, .inl f1))]) [0, 1, 2, 3, 4, 5] rfl, hD.sub (ws' := [(h2, .inr (0, [.ref h9, .ref h10, .ref h11, .ref h12, .int tc, .int ta, .int td, .int tf])), (h9, .inl (kI, 3001, .inl f9)), (h10, .inl (kI, 3001, .inl f10)), (h11, .inl (kJ, 3001, .inr (.inl f11))), (h12, .inl (kJ, 27, .inr (.inl f12))), (h1, .inl (kB, 3000, .inl f1))]) [0, 1, 2, 3, 4, 5] (by decide) rfl, hS, lv_sub hl [0, 1, 2, 3, 4, 5] rfl⟩
set_option maxHeartbeats 8000000 in
set_option maxRecDepth 100000 in
theorem g_Tokens_scanSign (l : Launch) (D : va_G) (kI kJ kB kZ : ClassId) (sz : Nat) (h1 : Nat) (h2 : Nat) (h9 : Nat) (h10 : Nat) (h11 : Nat) (h12 : Nat) (tc : Int32) (ta : Int32) (td : Int32) (tf : Int32) (f9 : Nat → Int32) (f10 : Nat → Int32) (f11 : Nat → Int64) (f12 : Nat → Int64) (f1 : Nat → Int32) (p2 : Int32) (p3 : Int32) (sA : Nat → Nat) (sV : Nat → Nat) (hf_C1 : 0 ≤ tc.toInt) (hf_C2 : tc.toInt ≤ 3001) (hf_T6 : ∀ j : Nat, 0 ≤ (f10 j).toInt ∧ (f10 j).toInt ≤ 3000) (hf_WK : wK f12) (hf_BR : bR f1) (hq_0 : 0 ≤ p3.toInt) (hq_1 : p3.toInt < p2.toInt) (hq_2 : p2.toInt ≤ 3000) (hq_3 : tc.toInt ≤ p3.toInt) : Met l (⟨"AlgolJudge$Tokens", "scanSign", "([BII)I"⟩ : MethodName) (Cond.code (⟨"AlgolJudge$Tokens", "scanSign", "([BII)I"⟩ : MethodName) prog_8_method_8_code 7 (some .int) :: gT) ({ frames := 4, cells := 0, slots := 0, locals := 91 }) (va_Pc [.ref h2, .ref h1, .int p2, .int p3] (xP D (xT kI kJ kB kZ) (xE sA sV) [(h2, .inr (0, [.ref h9, .ref h10, .ref h11, .ref h12, .int tc, .int ta, .int td, .int tf])), (h9, .inl (kI, 3001, .inl f9)), (h10, .inl (kI, 3001, .inl f10)), (h11, .inl (kJ, 3001, .inr (.inl f11))), (h12, .inl (kJ, 27, .inr (.inl f12))), (h1, .inl (kB, 3000, .inl f1))] sz)) (va_Qi (fun (r : Int32) (u : Int32) => r = u ∧ (0 ≤ r.toInt)) (fun u t => ∃ tc' : Int32, ∃ f9' : Nat → Int32, ∃ f10' : Nat → Int32, ∃ f11' : Nat → Int64, (0 ≤ tc'.toInt) ∧ (tc'.toInt ≤ 3001) ∧ (∀ j : Nat, 0 ≤ (f10' j).toInt ∧ (f10' j).toInt ≤ 3000) ∧ (tSg (tB f1) p2.toInt p3.toInt tc f9 f10 f11 tc' f9' f10' f11' u.toInt) ∧ xQ D (xT kI kJ kB kZ) (va_A [(h2, .inr (0, [.ref h9, .ref h10, .ref h11, .ref h12, .int tc, .int ta, .int td, .int tf])), (h9, .inl (kI, 3001, .inl f9)), (h10, .inl (kI, 3001, .inl f10)), (h11, .inl (kJ, 3001, .inr (.inl f11))), (h12, .inl (kJ, 27, .inr (.inl f12))), (h1, .inl (kB, 3000, .inl f1))] sz) [(h2, .inr (0, [.ref h9, .ref h10, .ref h11, .ref h12, .int tc', .int ta, .int td, .int tf])), (h9, .inl (kI, 3001, .inl f9')), (h10, .inl (kI, 3001, .inl f10')), (h11, .inl (kJ, 3001, .inr (.inl f11'))), (h12, .inl (kJ, 27, .inr (.inl f12))), (h1, .inl (kB, 3000, .inl f1))] t) (va_A [(h2, .inr (0, [.ref h9, .ref h10, .ref h11, .ref h12, .int tc, .int ta, .int td, .int tf])), (h9, .inl (kI, 3001, .inl f9)), (h10, .inl (kI, 3001, .inl f10)), (h11, .inl (kJ, 3001, .inr (.inl f11))), (h12, .inl (kJ, 27, .inr (.inl f12))), (h1, .inl (kB, 3000, .inl f1))] sz)) 0 0 (va_A [(h2, .inr (0, [.ref h9, .ref h10, .ref h11, .ref h12, .int tc, .int ta, .int td, .int tf])), (h9, .inl (kI, 3001, .inl f9)), (h10, .inl (kI, 3001, .inl f10)), (h11, .inl (kJ, 3001, .inr (.inl f11))), (h12, .inl (kJ, 27, .inr (.inl f12))), (h1, .inl (kB, 3000, .inl f1))] sz) := by
  refine Met.ofW (cc := prog_8_method_8_code) (maxL := 7) (ret := some .int) (by decide +kernel) rfl ?_
  intro p e s m args below meth c s₁ B hml hv
  obtain ⟨rfl, hsz, hP, hK, hD0, hE⟩ := hv
  have hx := B.exec
  have hb := B.bytes
  have hr := B.returns
  have hts : ∀ w ∈ gT, w.before _ s = true := fun w h => atoms_spec (ws := Cond.code (⟨"AlgolJudge$Tokens", "scanSign", "([BII)I"⟩ : MethodName) prog_8_method_8_code 7 (some .int) :: gT) B.pre w (List.mem_cons_of_mem _ h)
  have hown : s.vm.findClass "AlgolJudge$Tokens" = some m.cls := findClass_of_methodNamed B.named
  have hlocks := B.notSynchronized
  subst hsz
  have hD := hD0.self (sz := s.heap.size)
  generalize hAe : va_A [(h2, .inr (0, [.ref h9, .ref h10, .ref h11, .ref h12, .int tc, .int ta, .int td, .int tf])), (h9, .inl (kI, 3001, .inl f9)), (h10, .inl (kI, 3001, .inl f10)), (h11, .inl (kJ, 3001, .inr (.inl f11))), (h12, .inl (kJ, 27, .inr (.inl f12))), (h1, .inl (kB, 3000, .inl f1))] s.heap.size = A at hD hE ⊢
  have hA : ∀ q : Nat, s.heap.size ≤ q → A q := fun q h => by rw [← hAe]; exact Or.inr h
  have hS : va_S A s.heap s.heap [] := va_S.rf
  have hP : va_P D cls9 [(h2, .inr (0, [.ref h9, .ref h10, .ref h11, .ref h12, .int tc, .int ta, .int td, .int tf])), (h9, .inl (kI, 3001, .inl f9)), (h10, .inl (kI, 3001, .inl f10)), (h11, .inl (kJ, 3001, .inr (.inl f11))), (h12, .inl (kJ, 27, .inr (.inl f12))), (h1, .inl (kB, 3000, .inl f1))] s.heap := hP
  have hl := lv_entry ([.ref h2, .ref h1, .int p2, .int p3]) (n := 7) (Nat.le_of_ble_eq_true rfl)
  rw [lg_entry_eq]
  generalize (lg_sl ([.ref h2, .ref h1, .int p2, .int p3]) ++ List.replicate (7 - (lg_sl ([.ref h2, .ref h1, .int p2, .int p3])).length) Slot.unset).toArray = ls at hl ⊢
  have hl : lv_has ls 7 [(0, .ref h2), (1, .ref h1), (2, .int p2), (3, .int p3)] := hl
  refine va_ldcS hx hb hown (xE_r1 hE) d_8_8_0 ?_
  refine lv_aload_n hx hb d_8_8_2 rfl (lv_at hl 1 rfl) ?_
  refine lv_iload_n hx hb d_8_8_3 rfl (lv_at hl 3 rfl) ?_
  refine va_bald hx hb hK hP 5 2 rfl rfl (vp_in_iff.mpr ⟨by omega, by omega⟩) d_8_8_4 ?_
  refine lv_topi (fun z_1 ez_1 => ?_)
  refine lv_sipush (v := 255) hx hb d_8_8_5 (by decide +kernel) ?_
  refine lv_iand hx hb d_8_8_8 ?_
  refine lv_topi (fun y_2 ey_2 => ?_)
  refine lv_i2c (v := ((y_2.toUInt32 % 65536).toInt32)) hx hb d_8_8_9 rfl ?_
  have hPc := hP.sub (ws' := []) [] rfl
  have hDc := hD.sub (ws' := []) [] (by decide) rfl
  have hFc := va_free (wc := []) hD hS hA [] rfl
  refine va_calli (va_runV (As := [.int ((y_2.toUInt32 % 65536).toInt32)]) (rest := []) ⟨hx, hb, hml, hown, hts⟩ (g_String_indexOf_1 l D kI kJ kB kZ _ (((y_2.toUInt32 % 65536).toInt32)) (sA) (sV) (1) (by first | assumption | omega)) (cwV 1 hts (gT_V m_485 m_486 m_487 m_122 (gT_ws m_488)) rfl rfl rfl (by decide +kernel) ⟨(Nat.le_of_ble_eq_true rfl), (Nat.le_of_ble_eq_true rfl)⟩) ⟨xBlind (xOk_E sA sV), (xE_O hE 1 (by decide) hS), xAt (xOk_E sA sV) hK hPc hDc hS hFc hE⟩ rfl rfl hl.1 rfl (lv_room (Nat.le_of_ble_eq_true rfl)) d_8_8_10 ⟨(Nat.le_of_ble_eq_true rfl), (Nat.le_of_ble_eq_true rfl)⟩) hS (fun q _ h => hFc q h) hFc (fun r_3 u t H locs ht hvm hw_4 hB hz1 hk1 hS => ?_)
  clear hz1
  obtain ⟨hu9, hw_4⟩ := hw_4
  subst hu9
  revert hB
  refine anI fun hb_5 => fun hB => ?_
  have hb_5 : 0 ≤ ((y_2.toUInt32 % 65536).toInt32).toInt ∧ ((y_2.toUInt32 % 65536).toInt32).toInt ≤ 255 → r_3.toInt = fIx (sCh 1) (((y_2.toUInt32 % 65536).toInt32).toInt8.toInt32).toInt (sN 1) 0 := hb_5
  have hPD := xJoin (wr := [(h2, .inr (0, [.ref h9, .ref h10, .ref h11, .ref h12, .int tc, .int ta, .int td, .int tf])), (h9, .inl (kI, 3001, .inl f9)), (h10, .inl (kI, 3001, .inl f10)), (h11, .inl (kJ, 3001, .inr (.inl f11))), (h12, .inl (kJ, 27, .inr (.inl f12))), (h1, .inl (kB, 3000, .inl f1))]) (w1 := []) hP hD [] [0, 1, 2, 3, 4, 5] rfl rfl (by decide) (by decide) hk1 hFc ht hB
  replace hP : va_P D cls9 [(h2, .inr (0, [.ref h9, .ref h10, .ref h11, .ref h12, .int tc, .int ta, .int td, .int tf])), (h9, .inl (kI, 3001, .inl f9)), (h10, .inl (kI, 3001, .inl f10)), (h11, .inl (kJ, 3001, .inr (.inl f11))), (h12, .inl (kJ, 27, .inr (.inl f12))), (h1, .inl (kB, 3000, .inl f1))] H := hPD.1
  replace hD : va_D A [(h2, .inr (0, [.ref h9, .ref h10, .ref h11, .ref h12, .int tc, .int ta, .int td, .int tf])), (h9, .inl (kI, 3001, .inl f9)), (h10, .inl (kI, 3001, .inl f10)), (h11, .inl (kJ, 3001, .inr (.inl f11))), (h12, .inl (kJ, 27, .inr (.inl f12))), (h1, .inl (kB, 3000, .inl f1))] := hPD.2
  clear hPD hB hk1 hPc hDc hFc
  have hbr : -128 ≤ z_1.toInt ∧ z_1.toInt ≤ 127 := by rw [ez_1]; exact hf_BR _
  have hsg := kS_1 ez_1 ey_2 hbr.1 hbr.2 hb_5
  refine lv_istore (lv' := [(4, .int r_3), (0, .ref h2), (1, .ref h1), (2, .int p2), (3, .int p3)]) hx hb d_8_8_13 hl (by decide +kernel) rfl (fun ls hl => ?_)
  refine lv_iload hx hb d_8_8_15 (lv_at hl 0 rfl) ?_
  refine lv_if_ge (tgt := 24) hx hb d_8_8_17 (by decide +kernel) (fun c_6 => ?_) (fun c_6 => ?_)
  · skip
    have tc_6 : 0 ≤ r_3.toInt := Int32.le_iff_toInt_le.mp c_6
    refine lv_bipush (v := 30) hx hb d_8_8_24 (by decide +kernel) ?_
    refine lv_iload hx hb d_8_8_26 (lv_at hl 0 rfl) ?_
    refine lv_iadd hx hb d_8_8_28 ?_
    refine lv_topi (fun y_7 ey_7 => ?_)
    have ty_7 : y_7.toInt = 30 + r_3.toInt := by rw [ey_7]; exact zaddd (by decide +kernel) (by omega) (by omega)
    refine lv_istore (lv' := [(5, .int y_7), (4, .int r_3), (0, .ref h2), (1, .ref h1), (2, .int p2), (3, .int p3)]) hx hb d_8_8_29 hl (by decide +kernel) rfl (fun ls hl => ?_)
    refine lv_iload_n hx hb d_8_8_31 rfl (lv_at hl 5 rfl) ?_
    refine lv_iconst (v := 1) hx hb d_8_8_32 (by decide +kernel) ?_
    refine lv_iadd hx hb d_8_8_33 ?_
    refine lv_topi (fun y_8 ey_8 => ?_)
    have ty_8 : y_8.toInt = p3.toInt + 1 := by rw [ey_8]; exact zaddc (by decide +kernel) (by omega) (by omega)
    refine lv_iload_n hx hb d_8_8_34 rfl (lv_at hl 4 rfl) ?_
    refine lv_icmp_ge (tgt := 56) hx hb d_8_8_35 (by decide +kernel) (fun c_9 => ?_) (fun c_9 => ?_)
    · skip
      have tc_9 : p2.toInt ≤ y_8.toInt := Int32.le_iff_toInt_le.mp c_9
      refine lv_iconst (v := (-1)) hx hb d_8_8_56 (by decide +kernel) ?_
      refine lv_istore (lv' := [(6, .int (-1)), (5, .int y_7), (4, .int r_3), (0, .ref h2), (1, .ref h1), (2, .int p2), (3, .int p3)]) hx hb d_8_8_57 hl (by decide +kernel) rfl (fun ls hl => ?_)
      refine lv_aload_n hx hb d_8_8_59 rfl (lv_at hl 3 rfl) ?_
      refine lv_iload hx hb d_8_8_60 (lv_at hl 0 rfl) ?_
      refine lv_iconst (v := (-1)) hx hb d_8_8_62 (by decide +kernel) ?_
      refine lv_icmp_ne (tgt := 71) hx hb d_8_8_63 (by decide +kernel) (fun c_10 => ?_) (fun c_10 => ?_)
      · exact absurd c_10 (by decide +kernel)
      refine lv_iload hx hb d_8_8_66 (lv_at hl 1 rfl) ?_
      refine lv_goto (tgt := 73) hx hb d_8_8_68 (by decide +kernel) ?_
      refine lv_iload_n hx hb d_8_8_73 rfl (lv_at hl 6 rfl) ?_
      refine lv_lconst (v := 0) hx hb d_8_8_74 (by decide +kernel) ?_
      have hPc := hP.sub (ws' := [(h2, .inr (0, [.ref h9, .ref h10, .ref h11, .ref h12, .int tc, .int ta, .int td, .int tf])), (h9, .inl (kI, 3001, .inl f9)), (h10, .inl (kI, 3001, .inl f10)), (h11, .inl (kJ, 3001, .inr (.inl f11))), (h12, .inl (kJ, 27, .inr (.inl f12)))]) [0, 1, 2, 3, 4] rfl
      have hDc := hD.sub (ws' := [(h2, .inr (0, [.ref h9, .ref h10, .ref h11, .ref h12, .int tc, .int ta, .int td, .int tf])), (h9, .inl (kI, 3001, .inl f9)), (h10, .inl (kI, 3001, .inl f10)), (h11, .inl (kJ, 3001, .inr (.inl f11))), (h12, .inl (kJ, 27, .inr (.inl f12)))]) [0, 1, 2, 3, 4] (by decide) rfl
      have hFc := va_free (wc := [(h2, .inr (0, [.ref h9, .ref h10, .ref h11, .ref h12, .int tc, .int ta, .int td, .int tf])), (h9, .inl (kI, 3001, .inl f9)), (h10, .inl (kI, 3001, .inl f10)), (h11, .inl (kJ, 3001, .inr (.inl f11))), (h12, .inl (kJ, 27, .inr (.inl f12)))]) hD hS hA [0, 1, 2, 3, 4] rfl
      refine va_callv (va_runV (As := [.int y_7, .int p3, .long 0]) (rest := []) ⟨hx, hb, hml, hown, hts⟩ (g_Tokens_add l D kI kJ kB kZ _ (h2) (h9) (h10) (h11) (h12) (tc) (ta) (td) (tf) (f9) (f10) (f11) (f12) (y_7) (p3) ((0 : Int64)) hf_C1 hf_C2 hf_T6 hf_WK hq_0 (by first | assumption | omega)) (cwV 3 hts (gT_V m_470 m_472 m_5 m_121 (gT_ws m_473)) rfl rfl rfl (by decide +kernel) ⟨(Nat.le_of_ble_eq_true rfl), (Nat.le_of_ble_eq_true rfl)⟩) ⟨xBlind xOk_N, va_recv hK hP (ci := 0) (q0 := 0) rfl rfl, xAtN hK hPc hDc⟩ rfl rfl hl.1 rfl (lv_room (Nat.le_of_ble_eq_true rfl)) d_8_8_75 ⟨(Nat.le_of_ble_eq_true rfl), (Nat.le_of_ble_eq_true rfl)⟩) hS (fun q _ h => hFc q h) hFc (fun u t H locs ht hvm hw_12 hB hz1 hk1 hS => ?_)
      clear hz1
      revert hB
      refine exI fun x_13 => exI fun x_14 => exI fun x_15 => exI fun x_16 => anI fun hb_17 => anI fun hb_18 => anI fun hb_19 => anI fun hb_20 => anI fun hb_21 => fun hB => ?_
      have hb_21 : zAk tc f9 f10 f11 y_7 p3 (0 : Int64) x_13 x_14 x_15 x_16 := hb_21
      have hPD := xJoin (wr := [(h1, .inl (kB, 3000, .inl f1))]) (w1 := [(h2, .inr (0, [.ref h9, .ref h10, .ref h11, .ref h12, .int x_13, .int ta, .int td, .int tf])), (h9, .inl (kI, 3001, .inl x_14)), (h10, .inl (kI, 3001, .inl x_15)), (h11, .inl (kJ, 3001, .inr (.inl x_16))), (h12, .inl (kJ, 27, .inr (.inl f12)))]) hP hD [0, 1, 2, 3, 4] [5] rfl rfl (by decide) (by decide) hk1 hFc ht hB
      replace hP : va_P D cls9 [(h1, .inl (kB, 3000, .inl f1)), (h2, .inr (0, [.ref h9, .ref h10, .ref h11, .ref h12, .int x_13, .int ta, .int td, .int tf])), (h9, .inl (kI, 3001, .inl x_14)), (h10, .inl (kI, 3001, .inl x_15)), (h11, .inl (kJ, 3001, .inr (.inl x_16))), (h12, .inl (kJ, 27, .inr (.inl f12)))] H := hPD.1
      replace hD : va_D A [(h1, .inl (kB, 3000, .inl f1)), (h2, .inr (0, [.ref h9, .ref h10, .ref h11, .ref h12, .int x_13, .int ta, .int td, .int tf])), (h9, .inl (kI, 3001, .inl x_14)), (h10, .inl (kI, 3001, .inl x_15)), (h11, .inl (kJ, 3001, .inr (.inl x_16))), (h12, .inl (kJ, 27, .inr (.inl f12)))] := hPD.2
      clear hPD hB hk1 hPc hDc hFc
      refine lv_iload hx hb d_8_8_78 (lv_at hl 0 rfl) ?_
      refine lv_iconst (v := (-1)) hx hb d_8_8_80 (by decide +kernel) ?_
      refine lv_icmp_ne (tgt := 90) hx hb d_8_8_81 (by decide +kernel) (fun c_22 => ?_) (fun c_22 => ?_)
      · exact absurd c_22 (by decide +kernel)
      refine lv_iload_n hx hb d_8_8_84 rfl (lv_at hl 6 rfl) ?_
      refine lv_iconst (v := 1) hx hb d_8_8_85 (by decide +kernel) ?_
      refine lv_iadd hx hb d_8_8_86 ?_
      refine lv_topi (fun y_23 ey_23 => ?_)
      have ty_23 : y_23.toInt = p3.toInt + 1 := by rw [ey_23]; exact zaddc (by decide +kernel) (by omega) (by omega)
      refine lv_goto (tgt := 93) hx hb d_8_8_87 (by decide +kernel) ?_
      have hP9 := hP.sub (ws' := [(h2, .inr (0, [.ref h9, .ref h10, .ref h11, .ref h12, .int x_13, .int ta, .int td, .int tf])), (h9, .inl (kI, 3001, .inl x_14)), (h10, .inl (kI, 3001, .inl x_15)), (h11, .inl (kJ, 3001, .inr (.inl x_16))), (h12, .inl (kJ, 27, .inr (.inl f12))), (h1, .inl (kB, 3000, .inl f1))]) [1, 2, 3, 4, 5, 0] rfl
      have hD9 := hD.sub (ws' := [(h2, .inr (0, [.ref h9, .ref h10, .ref h11, .ref h12, .int x_13, .int ta, .int td, .int tf])), (h9, .inl (kI, 3001, .inl x_14)), (h10, .inl (kI, 3001, .inl x_15)), (h11, .inl (kJ, 3001, .inr (.inl x_16))), (h12, .inl (kJ, 27, .inr (.inl f12))), (h1, .inl (kB, 3000, .inl f1))]) [1, 2, 3, 4, 5, 0] (by decide) rfl
      have hz_3 : tSg (tB f1) p2.toInt p3.toInt tc f9 f10 f11 x_13 x_14 x_15 x_16 y_23.toInt := (P_si1 (by have q4 : Int32.toInt (-1) = -1 := (by decide +kernel); omega) (fun q9 => by have q8 := q9.1; have q7 := q9.2.1; skip; omega) hb_21 (by omega) rfl (by decide) (by omega))
      have hrp : 0 ≤ y_23.toInt := by first |  omega | assumption | exact pk_nc _ | exact Or.inl ⟨by omega, by omega, by assumption⟩ | exact Or.inr ⟨by omega, by decide +kernel⟩ | exact fun h9 => absurd h9 (by omega) | exact fun _ => isH_no1 (by omega) | exact fun _ => isH_no2 (by assumption) (by assumption) (by omega) | (intro h9; omega) | (intro h8 h9; omega)
      exact W.iret (v := y_23) hx hb hr (fun t ht hW => ⟨⟨y_23, y_23, rfl, ⟨rfl, hrp⟩, x_13, x_14, x_15, x_16, hb_17, hb_18, hb_19, hz_3, xEnd hK hP9 hD9 ht hW⟩, hS.F ht⟩) hS.2.2 d_8_8_93
    · skip
      have tc_9 : ¬ p2.toInt ≤ y_8.toInt := fun h9 => c_9 (Int32.le_iff_toInt_le.mpr h9)
      refine lv_aload_n hx hb d_8_8_38 rfl (lv_at hl 3 rfl) ?_
      refine lv_iload_n hx hb d_8_8_39 rfl (lv_at hl 5 rfl) ?_
      refine lv_iconst (v := 1) hx hb d_8_8_40 (by decide +kernel) ?_
      refine lv_iadd hx hb d_8_8_41 ?_
      refine lv_topi (fun y_24 ey_24 => ?_)
      have ty_24 : y_24.toInt = p3.toInt + 1 := by rw [ey_24]; exact zaddc (by decide +kernel) (by omega) (by omega)
      refine va_bald hx hb hK hP 5 2 rfl rfl (vp_in_iff.mpr ⟨by omega, by omega⟩) d_8_8_42 ?_
      refine lv_topi (fun z_25 ez_25 => ?_)
      refine lv_bipush (v := 61) hx hb d_8_8_43 (by decide +kernel) ?_
      refine lv_icmp_ne (tgt := 56) hx hb d_8_8_45 (by decide +kernel) (fun c_26 => ?_) (fun c_26 => ?_)
      · skip
        have tc_26 : ¬ z_25.toInt = 61 := fun h9 => c_26 (Int32.toInt_inj.mp h9)
        refine lv_iconst (v := (-1)) hx hb d_8_8_56 (by decide +kernel) ?_
        refine lv_istore (lv' := [(6, .int (-1)), (5, .int y_7), (4, .int r_3), (0, .ref h2), (1, .ref h1), (2, .int p2), (3, .int p3)]) hx hb d_8_8_57 hl (by decide +kernel) rfl (fun ls hl => ?_)
        refine lv_aload_n hx hb d_8_8_59 rfl (lv_at hl 3 rfl) ?_
        refine lv_iload hx hb d_8_8_60 (lv_at hl 0 rfl) ?_
        refine lv_iconst (v := (-1)) hx hb d_8_8_62 (by decide +kernel) ?_
        refine lv_icmp_ne (tgt := 71) hx hb d_8_8_63 (by decide +kernel) (fun c_27 => ?_) (fun c_27 => ?_)
        · exact absurd c_27 (by decide +kernel)
        refine lv_iload hx hb d_8_8_66 (lv_at hl 1 rfl) ?_
        refine lv_goto (tgt := 73) hx hb d_8_8_68 (by decide +kernel) ?_
        refine lv_iload_n hx hb d_8_8_73 rfl (lv_at hl 6 rfl) ?_
        refine lv_lconst (v := 0) hx hb d_8_8_74 (by decide +kernel) ?_
        have hPc := hP.sub (ws' := [(h2, .inr (0, [.ref h9, .ref h10, .ref h11, .ref h12, .int tc, .int ta, .int td, .int tf])), (h9, .inl (kI, 3001, .inl f9)), (h10, .inl (kI, 3001, .inl f10)), (h11, .inl (kJ, 3001, .inr (.inl f11))), (h12, .inl (kJ, 27, .inr (.inl f12)))]) [0, 1, 2, 3, 4] rfl
        have hDc := hD.sub (ws' := [(h2, .inr (0, [.ref h9, .ref h10, .ref h11, .ref h12, .int tc, .int ta, .int td, .int tf])), (h9, .inl (kI, 3001, .inl f9)), (h10, .inl (kI, 3001, .inl f10)), (h11, .inl (kJ, 3001, .inr (.inl f11))), (h12, .inl (kJ, 27, .inr (.inl f12)))]) [0, 1, 2, 3, 4] (by decide) rfl
        have hFc := va_free (wc := [(h2, .inr (0, [.ref h9, .ref h10, .ref h11, .ref h12, .int tc, .int ta, .int td, .int tf])), (h9, .inl (kI, 3001, .inl f9)), (h10, .inl (kI, 3001, .inl f10)), (h11, .inl (kJ, 3001, .inr (.inl f11))), (h12, .inl (kJ, 27, .inr (.inl f12)))]) hD hS hA [0, 1, 2, 3, 4] rfl
        refine va_callv (va_runV (As := [.int y_7, .int p3, .long 0]) (rest := []) ⟨hx, hb, hml, hown, hts⟩ (g_Tokens_add l D kI kJ kB kZ _ (h2) (h9) (h10) (h11) (h12) (tc) (ta) (td) (tf) (f9) (f10) (f11) (f12) (y_7) (p3) ((0 : Int64)) hf_C1 hf_C2 hf_T6 hf_WK hq_0 (by first | assumption | omega)) (cwV 3 hts (gT_V m_470 m_472 m_5 m_121 (gT_ws m_473)) rfl rfl rfl (by decide +kernel) ⟨(Nat.le_of_ble_eq_true rfl), (Nat.le_of_ble_eq_true rfl)⟩) ⟨xBlind xOk_N, va_recv hK hP (ci := 0) (q0 := 0) rfl rfl, xAtN hK hPc hDc⟩ rfl rfl hl.1 rfl (lv_room (Nat.le_of_ble_eq_true rfl)) d_8_8_75 ⟨(Nat.le_of_ble_eq_true rfl), (Nat.le_of_ble_eq_true rfl)⟩) hS (fun q _ h => hFc q h) hFc (fun u t H locs ht hvm hw_29 hB hz1 hk1 hS => ?_)
        clear hz1
        revert hB
        refine exI fun x_30 => exI fun x_31 => exI fun x_32 => exI fun x_33 => anI fun hb_34 => anI fun hb_35 => anI fun hb_36 => anI fun hb_37 => anI fun hb_38 => fun hB => ?_
        have hb_38 : zAk tc f9 f10 f11 y_7 p3 (0 : Int64) x_30 x_31 x_32 x_33 := hb_38
        have hPD := xJoin (wr := [(h1, .inl (kB, 3000, .inl f1))]) (w1 := [(h2, .inr (0, [.ref h9, .ref h10, .ref h11, .ref h12, .int x_30, .int ta, .int td, .int tf])), (h9, .inl (kI, 3001, .inl x_31)), (h10, .inl (kI, 3001, .inl x_32)), (h11, .inl (kJ, 3001, .inr (.inl x_33))), (h12, .inl (kJ, 27, .inr (.inl f12)))]) hP hD [0, 1, 2, 3, 4] [5] rfl rfl (by decide) (by decide) hk1 hFc ht hB
        replace hP : va_P D cls9 [(h1, .inl (kB, 3000, .inl f1)), (h2, .inr (0, [.ref h9, .ref h10, .ref h11, .ref h12, .int x_30, .int ta, .int td, .int tf])), (h9, .inl (kI, 3001, .inl x_31)), (h10, .inl (kI, 3001, .inl x_32)), (h11, .inl (kJ, 3001, .inr (.inl x_33))), (h12, .inl (kJ, 27, .inr (.inl f12)))] H := hPD.1
        replace hD : va_D A [(h1, .inl (kB, 3000, .inl f1)), (h2, .inr (0, [.ref h9, .ref h10, .ref h11, .ref h12, .int x_30, .int ta, .int td, .int tf])), (h9, .inl (kI, 3001, .inl x_31)), (h10, .inl (kI, 3001, .inl x_32)), (h11, .inl (kJ, 3001, .inr (.inl x_33))), (h12, .inl (kJ, 27, .inr (.inl f12)))] := hPD.2
        clear hPD hB hk1 hPc hDc hFc
        refine lv_iload hx hb d_8_8_78 (lv_at hl 0 rfl) ?_
        refine lv_iconst (v := (-1)) hx hb d_8_8_80 (by decide +kernel) ?_
        refine lv_icmp_ne (tgt := 90) hx hb d_8_8_81 (by decide +kernel) (fun c_39 => ?_) (fun c_39 => ?_)
        · exact absurd c_39 (by decide +kernel)
        refine lv_iload_n hx hb d_8_8_84 rfl (lv_at hl 6 rfl) ?_
        refine lv_iconst (v := 1) hx hb d_8_8_85 (by decide +kernel) ?_
        refine lv_iadd hx hb d_8_8_86 ?_
        refine lv_topi (fun y_40 ey_40 => ?_)
        have ty_40 : y_40.toInt = p3.toInt + 1 := by rw [ey_40]; exact zaddc (by decide +kernel) (by omega) (by omega)
        refine lv_goto (tgt := 93) hx hb d_8_8_87 (by decide +kernel) ?_
        have hP9 := hP.sub (ws' := [(h2, .inr (0, [.ref h9, .ref h10, .ref h11, .ref h12, .int x_30, .int ta, .int td, .int tf])), (h9, .inl (kI, 3001, .inl x_31)), (h10, .inl (kI, 3001, .inl x_32)), (h11, .inl (kJ, 3001, .inr (.inl x_33))), (h12, .inl (kJ, 27, .inr (.inl f12))), (h1, .inl (kB, 3000, .inl f1))]) [1, 2, 3, 4, 5, 0] rfl
        have hD9 := hD.sub (ws' := [(h2, .inr (0, [.ref h9, .ref h10, .ref h11, .ref h12, .int x_30, .int ta, .int td, .int tf])), (h9, .inl (kI, 3001, .inl x_31)), (h10, .inl (kI, 3001, .inl x_32)), (h11, .inl (kJ, 3001, .inr (.inl x_33))), (h12, .inl (kJ, 27, .inr (.inl f12))), (h1, .inl (kB, 3000, .inl f1))]) [1, 2, 3, 4, 5, 0] (by decide) rfl
        have hz_3 : tSg (tB f1) p2.toInt p3.toInt tc f9 f10 f11 x_30 x_31 x_32 x_33 y_40.toInt := (P_si1 (by have q4 : Int32.toInt (-1) = -1 := (by decide +kernel); omega) (fun q9 => by have q8 := q9.1; have q7 := q9.2.1; have q6 : (tB f1) (p3.toInt + 1) = z_25.toInt := (by have q5 := tB_z ez_25; rw [show y_24.toInt = p3.toInt + 1 from by omega] at q5; exact q5); omega) hb_38 (by omega) rfl (by decide) (by omega))
        have hrp : 0 ≤ y_40.toInt := by first |  omega | assumption | exact pk_nc _ | exact Or.inl ⟨by omega, by omega, by assumption⟩ | exact Or.inr ⟨by omega, by decide +kernel⟩ | exact fun h9 => absurd h9 (by omega) | exact fun _ => isH_no1 (by omega) | exact fun _ => isH_no2 (by assumption) (by assumption) (by omega) | (intro h9; omega) | (intro h8 h9; omega)
        exact W.iret (v := y_40) hx hb hr (fun t ht hW => ⟨⟨y_40, y_40, rfl, ⟨rfl, hrp⟩, x_30, x_31, x_32, x_33, hb_34, hb_35, hb_36, hz_3, xEnd hK hP9 hD9 ht hW⟩, hS.F ht⟩) hS.2.2 d_8_8_93
      · skip
        have tc_26 : z_25.toInt = 61 := congrArg Int32.toInt c_26
        refine lv_iload hx hb d_8_8_48 (lv_at hl 0 rfl) ?_
        have hPc := hP.sub (ws' := []) [] rfl
        have hDc := hD.sub (ws' := []) [] (by decide) rfl
        have hFc := va_free (wc := []) hD hS hA [] rfl
        refine va_calli (va_runS (As := [.int y_7]) (rest := []) ⟨hx, hb, hml, hown, hts⟩ (g_Tokens_withEqual l D kI kJ kB kZ _ (y_7) ) (va_cwS 1 hts (gT_S m_544 m_545 m_121 (gT_ws m_546)) rfl rfl rfl (by decide +kernel) ⟨(Nat.le_of_ble_eq_true rfl), (Nat.le_of_ble_eq_true rfl)⟩) ⟨xBlind xOk_N, xAtN hK hPc hDc⟩ rfl rfl hl.1 rfl (lv_room (Nat.le_of_ble_eq_true rfl)) d_8_8_50 ⟨(Nat.le_of_ble_eq_true rfl), (Nat.le_of_ble_eq_true rfl)⟩) hS (fun q _ h => hFc q h) hFc (fun r_41 u t H locs ht hvm hw_42 hB hz1 hk1 hS => ?_)
        clear hz1
        obtain ⟨hu9, hw_42⟩ := hw_42
        subst hu9
        revert hB
        refine anI fun hb_43 => fun hB => ?_
        have hb_43 : kPr y_7.toInt = r_41.toInt := hb_43
        have hPD := xJoin (wr := [(h2, .inr (0, [.ref h9, .ref h10, .ref h11, .ref h12, .int tc, .int ta, .int td, .int tf])), (h9, .inl (kI, 3001, .inl f9)), (h10, .inl (kI, 3001, .inl f10)), (h11, .inl (kJ, 3001, .inr (.inl f11))), (h12, .inl (kJ, 27, .inr (.inl f12))), (h1, .inl (kB, 3000, .inl f1))]) (w1 := []) hP hD [] [0, 1, 2, 3, 4, 5] rfl rfl (by decide) (by decide) hk1 hFc ht hB
        replace hP : va_P D cls9 [(h2, .inr (0, [.ref h9, .ref h10, .ref h11, .ref h12, .int tc, .int ta, .int td, .int tf])), (h9, .inl (kI, 3001, .inl f9)), (h10, .inl (kI, 3001, .inl f10)), (h11, .inl (kJ, 3001, .inr (.inl f11))), (h12, .inl (kJ, 27, .inr (.inl f12))), (h1, .inl (kB, 3000, .inl f1))] H := hPD.1
        replace hD : va_D A [(h2, .inr (0, [.ref h9, .ref h10, .ref h11, .ref h12, .int tc, .int ta, .int td, .int tf])), (h9, .inl (kI, 3001, .inl f9)), (h10, .inl (kI, 3001, .inl f10)), (h11, .inl (kJ, 3001, .inr (.inl f11))), (h12, .inl (kJ, 27, .inr (.inl f12))), (h1, .inl (kB, 3000, .inl f1))] := hPD.2
        clear hPD hB hk1 hPc hDc hFc
        refine lv_goto (tgt := 57) hx hb d_8_8_53 (by decide +kernel) ?_
        refine lv_istore (lv' := [(6, .int r_41), (5, .int y_7), (4, .int r_3), (0, .ref h2), (1, .ref h1), (2, .int p2), (3, .int p3)]) hx hb d_8_8_57 hl (by decide +kernel) rfl (fun ls hl => ?_)
        refine lv_aload_n hx hb d_8_8_59 rfl (lv_at hl 3 rfl) ?_
        refine lv_iload hx hb d_8_8_60 (lv_at hl 0 rfl) ?_
        refine lv_iconst (v := (-1)) hx hb d_8_8_62 (by decide +kernel) ?_
        refine lv_icmp_ne (tgt := 71) hx hb d_8_8_63 (by decide +kernel) (fun c_44 => ?_) (fun c_44 => ?_)
        · skip
          have tc_44 : ¬ r_41.toInt = (-1) := fun h9 => c_44 (Int32.toInt_inj.mp h9)
          refine lv_iload hx hb d_8_8_71 (lv_at hl 0 rfl) ?_
          refine lv_iload_n hx hb d_8_8_73 rfl (lv_at hl 6 rfl) ?_
          refine lv_lconst (v := 0) hx hb d_8_8_74 (by decide +kernel) ?_
          have hPc := hP.sub (ws' := [(h2, .inr (0, [.ref h9, .ref h10, .ref h11, .ref h12, .int tc, .int ta, .int td, .int tf])), (h9, .inl (kI, 3001, .inl f9)), (h10, .inl (kI, 3001, .inl f10)), (h11, .inl (kJ, 3001, .inr (.inl f11))), (h12, .inl (kJ, 27, .inr (.inl f12)))]) [0, 1, 2, 3, 4] rfl
          have hDc := hD.sub (ws' := [(h2, .inr (0, [.ref h9, .ref h10, .ref h11, .ref h12, .int tc, .int ta, .int td, .int tf])), (h9, .inl (kI, 3001, .inl f9)), (h10, .inl (kI, 3001, .inl f10)), (h11, .inl (kJ, 3001, .inr (.inl f11))), (h12, .inl (kJ, 27, .inr (.inl f12)))]) [0, 1, 2, 3, 4] (by decide) rfl
          have hFc := va_free (wc := [(h2, .inr (0, [.ref h9, .ref h10, .ref h11, .ref h12, .int tc, .int ta, .int td, .int tf])), (h9, .inl (kI, 3001, .inl f9)), (h10, .inl (kI, 3001, .inl f10)), (h11, .inl (kJ, 3001, .inr (.inl f11))), (h12, .inl (kJ, 27, .inr (.inl f12)))]) hD hS hA [0, 1, 2, 3, 4] rfl
          refine va_callv (va_runV (As := [.int r_41, .int p3, .long 0]) (rest := []) ⟨hx, hb, hml, hown, hts⟩ (g_Tokens_add l D kI kJ kB kZ _ (h2) (h9) (h10) (h11) (h12) (tc) (ta) (td) (tf) (f9) (f10) (f11) (f12) (r_41) (p3) ((0 : Int64)) hf_C1 hf_C2 hf_T6 hf_WK hq_0 (by first | assumption | omega)) (cwV 3 hts (gT_V m_470 m_472 m_5 m_121 (gT_ws m_473)) rfl rfl rfl (by decide +kernel) ⟨(Nat.le_of_ble_eq_true rfl), (Nat.le_of_ble_eq_true rfl)⟩) ⟨xBlind xOk_N, va_recv hK hP (ci := 0) (q0 := 0) rfl rfl, xAtN hK hPc hDc⟩ rfl rfl hl.1 rfl (lv_room (Nat.le_of_ble_eq_true rfl)) d_8_8_75 ⟨(Nat.le_of_ble_eq_true rfl), (Nat.le_of_ble_eq_true rfl)⟩) hS (fun q _ h => hFc q h) hFc (fun u t H locs ht hvm hw_46 hB hz1 hk1 hS => ?_)
          clear hz1
          revert hB
          refine exI fun x_47 => exI fun x_48 => exI fun x_49 => exI fun x_50 => anI fun hb_51 => anI fun hb_52 => anI fun hb_53 => anI fun hb_54 => anI fun hb_55 => fun hB => ?_
          have hb_55 : zAk tc f9 f10 f11 r_41 p3 (0 : Int64) x_47 x_48 x_49 x_50 := hb_55
          have hPD := xJoin (wr := [(h1, .inl (kB, 3000, .inl f1))]) (w1 := [(h2, .inr (0, [.ref h9, .ref h10, .ref h11, .ref h12, .int x_47, .int ta, .int td, .int tf])), (h9, .inl (kI, 3001, .inl x_48)), (h10, .inl (kI, 3001, .inl x_49)), (h11, .inl (kJ, 3001, .inr (.inl x_50))), (h12, .inl (kJ, 27, .inr (.inl f12)))]) hP hD [0, 1, 2, 3, 4] [5] rfl rfl (by decide) (by decide) hk1 hFc ht hB
          replace hP : va_P D cls9 [(h1, .inl (kB, 3000, .inl f1)), (h2, .inr (0, [.ref h9, .ref h10, .ref h11, .ref h12, .int x_47, .int ta, .int td, .int tf])), (h9, .inl (kI, 3001, .inl x_48)), (h10, .inl (kI, 3001, .inl x_49)), (h11, .inl (kJ, 3001, .inr (.inl x_50))), (h12, .inl (kJ, 27, .inr (.inl f12)))] H := hPD.1
          replace hD : va_D A [(h1, .inl (kB, 3000, .inl f1)), (h2, .inr (0, [.ref h9, .ref h10, .ref h11, .ref h12, .int x_47, .int ta, .int td, .int tf])), (h9, .inl (kI, 3001, .inl x_48)), (h10, .inl (kI, 3001, .inl x_49)), (h11, .inl (kJ, 3001, .inr (.inl x_50))), (h12, .inl (kJ, 27, .inr (.inl f12)))] := hPD.2
          clear hPD hB hk1 hPc hDc hFc
          refine lv_iload hx hb d_8_8_78 (lv_at hl 0 rfl) ?_
          refine lv_iconst (v := (-1)) hx hb d_8_8_80 (by decide +kernel) ?_
          refine lv_icmp_ne (tgt := 90) hx hb d_8_8_81 (by decide +kernel) (fun c_56 => ?_) (fun c_56 => ?_)
          · skip
            have tc_56 : ¬ r_41.toInt = (-1) := fun h9 => c_56 (Int32.toInt_inj.mp h9)
            refine lv_iload_n hx hb d_8_8_90 rfl (lv_at hl 6 rfl) ?_
            refine lv_iconst (v := 2) hx hb d_8_8_91 (by decide +kernel) ?_
            refine lv_iadd hx hb d_8_8_92 ?_
            refine lv_topi (fun y_57 ey_57 => ?_)
            have ty_57 : y_57.toInt = p3.toInt + 2 := by rw [ey_57]; exact zaddc (by decide +kernel) (by omega) (by omega)
            have hP9 := hP.sub (ws' := [(h2, .inr (0, [.ref h9, .ref h10, .ref h11, .ref h12, .int x_47, .int ta, .int td, .int tf])), (h9, .inl (kI, 3001, .inl x_48)), (h10, .inl (kI, 3001, .inl x_49)), (h11, .inl (kJ, 3001, .inr (.inl x_50))), (h12, .inl (kJ, 27, .inr (.inl f12))), (h1, .inl (kB, 3000, .inl f1))]) [1, 2, 3, 4, 5, 0] rfl
            have hD9 := hD.sub (ws' := [(h2, .inr (0, [.ref h9, .ref h10, .ref h11, .ref h12, .int x_47, .int ta, .int td, .int tf])), (h9, .inl (kI, 3001, .inl x_48)), (h10, .inl (kI, 3001, .inl x_49)), (h11, .inl (kJ, 3001, .inr (.inl x_50))), (h12, .inl (kJ, 27, .inr (.inl f12))), (h1, .inl (kB, 3000, .inl f1))]) [1, 2, 3, 4, 5, 0] (by decide) rfl
            have hz_3 : tSg (tB f1) p2.toInt p3.toInt tc f9 f10 f11 x_47 x_48 x_49 x_50 y_57.toInt := (P_si2 ⟨by omega, by have q6 : (tB f1) (p3.toInt + 1) = z_25.toInt := (by have q5 := tB_z ez_25; rw [show y_24.toInt = p3.toInt + 1 from by omega] at q5; exact q5); omega, by rw [show kPr (kSg ((tB f1) p3.toInt)) = r_41.toInt from (by rw [show kSg ((tB f1) p3.toInt) = y_7.toInt from by omega]; exact hb_43)]; omega⟩ (by rw [show kSg ((tB f1) p3.toInt) = y_7.toInt from by omega]; exact hb_43) hb_55 (by omega) rfl (by decide) (by omega))
            have hrp : 0 ≤ y_57.toInt := by first |  omega | assumption | exact pk_nc _ | exact Or.inl ⟨by omega, by omega, by assumption⟩ | exact Or.inr ⟨by omega, by decide +kernel⟩ | exact fun h9 => absurd h9 (by omega) | exact fun _ => isH_no1 (by omega) | exact fun _ => isH_no2 (by assumption) (by assumption) (by omega) | (intro h9; omega) | (intro h8 h9; omega)
            exact W.iret (v := y_57) hx hb hr (fun t ht hW => ⟨⟨y_57, y_57, rfl, ⟨rfl, hrp⟩, x_47, x_48, x_49, x_50, hb_51, hb_52, hb_53, hz_3, xEnd hK hP9 hD9 ht hW⟩, hS.F ht⟩) hS.2.2 d_8_8_93
          · skip
            have tc_56 : r_41.toInt = (-1) := congrArg Int32.toInt c_56
            refine lv_iload_n hx hb d_8_8_84 rfl (lv_at hl 6 rfl) ?_
            refine lv_iconst (v := 1) hx hb d_8_8_85 (by decide +kernel) ?_
            refine lv_iadd hx hb d_8_8_86 ?_
            refine lv_topi (fun y_58 ey_58 => ?_)
            have ty_58 : y_58.toInt = p3.toInt + 1 := by rw [ey_58]; exact zaddc (by decide +kernel) (by omega) (by omega)
            refine lv_goto (tgt := 93) hx hb d_8_8_87 (by decide +kernel) ?_
            have hP9 := hP.sub (ws' := [(h2, .inr (0, [.ref h9, .ref h10, .ref h11, .ref h12, .int x_47, .int ta, .int td, .int tf])), (h9, .inl (kI, 3001, .inl x_48)), (h10, .inl (kI, 3001, .inl x_49)), (h11, .inl (kJ, 3001, .inr (.inl x_50))), (h12, .inl (kJ, 27, .inr (.inl f12))), (h1, .inl (kB, 3000, .inl f1))]) [1, 2, 3, 4, 5, 0] rfl
            have hD9 := hD.sub (ws' := [(h2, .inr (0, [.ref h9, .ref h10, .ref h11, .ref h12, .int x_47, .int ta, .int td, .int tf])), (h9, .inl (kI, 3001, .inl x_48)), (h10, .inl (kI, 3001, .inl x_49)), (h11, .inl (kJ, 3001, .inr (.inl x_50))), (h12, .inl (kJ, 27, .inr (.inl f12))), (h1, .inl (kB, 3000, .inl f1))]) [1, 2, 3, 4, 5, 0] (by decide) rfl
            have hz_3 : tSg (tB f1) p2.toInt p3.toInt tc f9 f10 f11 x_47 x_48 x_49 x_50 y_58.toInt := (P_si2 ⟨by omega, by have q6 : (tB f1) (p3.toInt + 1) = z_25.toInt := (by have q5 := tB_z ez_25; rw [show y_24.toInt = p3.toInt + 1 from by omega] at q5; exact q5); omega, by rw [show kPr (kSg ((tB f1) p3.toInt)) = r_41.toInt from (by rw [show kSg ((tB f1) p3.toInt) = y_7.toInt from by omega]; exact hb_43)]; omega⟩ (by rw [show kSg ((tB f1) p3.toInt) = y_7.toInt from by omega]; exact hb_43) hb_55 (by omega) rfl (by decide) (by omega))
            have hrp : 0 ≤ y_58.toInt := by first |  omega | assumption | exact pk_nc _ | exact Or.inl ⟨by omega, by omega, by assumption⟩ | exact Or.inr ⟨by omega, by decide +kernel⟩ | exact fun h9 => absurd h9 (by omega) | exact fun _ => isH_no1 (by omega) | exact fun _ => isH_no2 (by assumption) (by assumption) (by omega) | (intro h9; omega) | (intro h8 h9; omega)
            exact W.iret (v := y_58) hx hb hr (fun t ht hW => ⟨⟨y_58, y_58, rfl, ⟨rfl, hrp⟩, x_47, x_48, x_49, x_50, hb_51, hb_52, hb_53, hz_3, xEnd hK hP9 hD9 ht hW⟩, hS.F ht⟩) hS.2.2 d_8_8_93
        · skip
          have tc_44 : r_41.toInt = (-1) := congrArg Int32.toInt c_44
          refine lv_iload hx hb d_8_8_66 (lv_at hl 1 rfl) ?_
          refine lv_goto (tgt := 73) hx hb d_8_8_68 (by decide +kernel) ?_
          refine lv_iload_n hx hb d_8_8_73 rfl (lv_at hl 6 rfl) ?_
          refine lv_lconst (v := 0) hx hb d_8_8_74 (by decide +kernel) ?_
          have hPc := hP.sub (ws' := [(h2, .inr (0, [.ref h9, .ref h10, .ref h11, .ref h12, .int tc, .int ta, .int td, .int tf])), (h9, .inl (kI, 3001, .inl f9)), (h10, .inl (kI, 3001, .inl f10)), (h11, .inl (kJ, 3001, .inr (.inl f11))), (h12, .inl (kJ, 27, .inr (.inl f12)))]) [0, 1, 2, 3, 4] rfl
          have hDc := hD.sub (ws' := [(h2, .inr (0, [.ref h9, .ref h10, .ref h11, .ref h12, .int tc, .int ta, .int td, .int tf])), (h9, .inl (kI, 3001, .inl f9)), (h10, .inl (kI, 3001, .inl f10)), (h11, .inl (kJ, 3001, .inr (.inl f11))), (h12, .inl (kJ, 27, .inr (.inl f12)))]) [0, 1, 2, 3, 4] (by decide) rfl
          have hFc := va_free (wc := [(h2, .inr (0, [.ref h9, .ref h10, .ref h11, .ref h12, .int tc, .int ta, .int td, .int tf])), (h9, .inl (kI, 3001, .inl f9)), (h10, .inl (kI, 3001, .inl f10)), (h11, .inl (kJ, 3001, .inr (.inl f11))), (h12, .inl (kJ, 27, .inr (.inl f12)))]) hD hS hA [0, 1, 2, 3, 4] rfl
          refine va_callv (va_runV (As := [.int y_7, .int p3, .long 0]) (rest := []) ⟨hx, hb, hml, hown, hts⟩ (g_Tokens_add l D kI kJ kB kZ _ (h2) (h9) (h10) (h11) (h12) (tc) (ta) (td) (tf) (f9) (f10) (f11) (f12) (y_7) (p3) ((0 : Int64)) hf_C1 hf_C2 hf_T6 hf_WK hq_0 (by first | assumption | omega)) (cwV 3 hts (gT_V m_470 m_472 m_5 m_121 (gT_ws m_473)) rfl rfl rfl (by decide +kernel) ⟨(Nat.le_of_ble_eq_true rfl), (Nat.le_of_ble_eq_true rfl)⟩) ⟨xBlind xOk_N, va_recv hK hP (ci := 0) (q0 := 0) rfl rfl, xAtN hK hPc hDc⟩ rfl rfl hl.1 rfl (lv_room (Nat.le_of_ble_eq_true rfl)) d_8_8_75 ⟨(Nat.le_of_ble_eq_true rfl), (Nat.le_of_ble_eq_true rfl)⟩) hS (fun q _ h => hFc q h) hFc (fun u t H locs ht hvm hw_60 hB hz1 hk1 hS => ?_)
          clear hz1
          revert hB
          refine exI fun x_61 => exI fun x_62 => exI fun x_63 => exI fun x_64 => anI fun hb_65 => anI fun hb_66 => anI fun hb_67 => anI fun hb_68 => anI fun hb_69 => fun hB => ?_
          have hb_69 : zAk tc f9 f10 f11 y_7 p3 (0 : Int64) x_61 x_62 x_63 x_64 := hb_69
          have hPD := xJoin (wr := [(h1, .inl (kB, 3000, .inl f1))]) (w1 := [(h2, .inr (0, [.ref h9, .ref h10, .ref h11, .ref h12, .int x_61, .int ta, .int td, .int tf])), (h9, .inl (kI, 3001, .inl x_62)), (h10, .inl (kI, 3001, .inl x_63)), (h11, .inl (kJ, 3001, .inr (.inl x_64))), (h12, .inl (kJ, 27, .inr (.inl f12)))]) hP hD [0, 1, 2, 3, 4] [5] rfl rfl (by decide) (by decide) hk1 hFc ht hB
          replace hP : va_P D cls9 [(h1, .inl (kB, 3000, .inl f1)), (h2, .inr (0, [.ref h9, .ref h10, .ref h11, .ref h12, .int x_61, .int ta, .int td, .int tf])), (h9, .inl (kI, 3001, .inl x_62)), (h10, .inl (kI, 3001, .inl x_63)), (h11, .inl (kJ, 3001, .inr (.inl x_64))), (h12, .inl (kJ, 27, .inr (.inl f12)))] H := hPD.1
          replace hD : va_D A [(h1, .inl (kB, 3000, .inl f1)), (h2, .inr (0, [.ref h9, .ref h10, .ref h11, .ref h12, .int x_61, .int ta, .int td, .int tf])), (h9, .inl (kI, 3001, .inl x_62)), (h10, .inl (kI, 3001, .inl x_63)), (h11, .inl (kJ, 3001, .inr (.inl x_64))), (h12, .inl (kJ, 27, .inr (.inl f12)))] := hPD.2
          clear hPD hB hk1 hPc hDc hFc
          refine lv_iload hx hb d_8_8_78 (lv_at hl 0 rfl) ?_
          refine lv_iconst (v := (-1)) hx hb d_8_8_80 (by decide +kernel) ?_
          refine lv_icmp_ne (tgt := 90) hx hb d_8_8_81 (by decide +kernel) (fun c_70 => ?_) (fun c_70 => ?_)
          · skip
            have tc_70 : ¬ r_41.toInt = (-1) := fun h9 => c_70 (Int32.toInt_inj.mp h9)
            refine lv_iload_n hx hb d_8_8_90 rfl (lv_at hl 6 rfl) ?_
            refine lv_iconst (v := 2) hx hb d_8_8_91 (by decide +kernel) ?_
            refine lv_iadd hx hb d_8_8_92 ?_
            refine lv_topi (fun y_71 ey_71 => ?_)
            have ty_71 : y_71.toInt = p3.toInt + 2 := by rw [ey_71]; exact zaddc (by decide +kernel) (by omega) (by omega)
            have hP9 := hP.sub (ws' := [(h2, .inr (0, [.ref h9, .ref h10, .ref h11, .ref h12, .int x_61, .int ta, .int td, .int tf])), (h9, .inl (kI, 3001, .inl x_62)), (h10, .inl (kI, 3001, .inl x_63)), (h11, .inl (kJ, 3001, .inr (.inl x_64))), (h12, .inl (kJ, 27, .inr (.inl f12))), (h1, .inl (kB, 3000, .inl f1))]) [1, 2, 3, 4, 5, 0] rfl
            have hD9 := hD.sub (ws' := [(h2, .inr (0, [.ref h9, .ref h10, .ref h11, .ref h12, .int x_61, .int ta, .int td, .int tf])), (h9, .inl (kI, 3001, .inl x_62)), (h10, .inl (kI, 3001, .inl x_63)), (h11, .inl (kJ, 3001, .inr (.inl x_64))), (h12, .inl (kJ, 27, .inr (.inl f12))), (h1, .inl (kB, 3000, .inl f1))]) [1, 2, 3, 4, 5, 0] (by decide) rfl
            have hz_3 : tSg (tB f1) p2.toInt p3.toInt tc f9 f10 f11 x_61 x_62 x_63 x_64 y_71.toInt := (P_si1 (by have q4 : Int32.toInt (-1) = -1 := (by decide +kernel); omega) (fun q9 => q9.2.2 (by rw [show kPr (kSg ((tB f1) p3.toInt)) = r_41.toInt from (by rw [show kSg ((tB f1) p3.toInt) = y_7.toInt from by omega]; exact hb_43)]; omega)) hb_69 (by omega) rfl (by decide) (by omega))
            have hrp : 0 ≤ y_71.toInt := by first |  omega | assumption | exact pk_nc _ | exact Or.inl ⟨by omega, by omega, by assumption⟩ | exact Or.inr ⟨by omega, by decide +kernel⟩ | exact fun h9 => absurd h9 (by omega) | exact fun _ => isH_no1 (by omega) | exact fun _ => isH_no2 (by assumption) (by assumption) (by omega) | (intro h9; omega) | (intro h8 h9; omega)
            exact W.iret (v := y_71) hx hb hr (fun t ht hW => ⟨⟨y_71, y_71, rfl, ⟨rfl, hrp⟩, x_61, x_62, x_63, x_64, hb_65, hb_66, hb_67, hz_3, xEnd hK hP9 hD9 ht hW⟩, hS.F ht⟩) hS.2.2 d_8_8_93
          · skip
            have tc_70 : r_41.toInt = (-1) := congrArg Int32.toInt c_70
            refine lv_iload_n hx hb d_8_8_84 rfl (lv_at hl 6 rfl) ?_
            refine lv_iconst (v := 1) hx hb d_8_8_85 (by decide +kernel) ?_
            refine lv_iadd hx hb d_8_8_86 ?_
            refine lv_topi (fun y_72 ey_72 => ?_)
            have ty_72 : y_72.toInt = p3.toInt + 1 := by rw [ey_72]; exact zaddc (by decide +kernel) (by omega) (by omega)
            refine lv_goto (tgt := 93) hx hb d_8_8_87 (by decide +kernel) ?_
            have hP9 := hP.sub (ws' := [(h2, .inr (0, [.ref h9, .ref h10, .ref h11, .ref h12, .int x_61, .int ta, .int td, .int tf])), (h9, .inl (kI, 3001, .inl x_62)), (h10, .inl (kI, 3001, .inl x_63)), (h11, .inl (kJ, 3001, .inr (.inl x_64))), (h12, .inl (kJ, 27, .inr (.inl f12))), (h1, .inl (kB, 3000, .inl f1))]) [1, 2, 3, 4, 5, 0] rfl
            have hD9 := hD.sub (ws' := [(h2, .inr (0, [.ref h9, .ref h10, .ref h11, .ref h12, .int x_61, .int ta, .int td, .int tf])), (h9, .inl (kI, 3001, .inl x_62)), (h10, .inl (kI, 3001, .inl x_63)), (h11, .inl (kJ, 3001, .inr (.inl x_64))), (h12, .inl (kJ, 27, .inr (.inl f12))), (h1, .inl (kB, 3000, .inl f1))]) [1, 2, 3, 4, 5, 0] (by decide) rfl
            have hz_3 : tSg (tB f1) p2.toInt p3.toInt tc f9 f10 f11 x_61 x_62 x_63 x_64 y_72.toInt := (P_si1 (by have q4 : Int32.toInt (-1) = -1 := (by decide +kernel); omega) (fun q9 => q9.2.2 (by rw [show kPr (kSg ((tB f1) p3.toInt)) = r_41.toInt from (by rw [show kSg ((tB f1) p3.toInt) = y_7.toInt from by omega]; exact hb_43)]; omega)) hb_69 (by omega) rfl (by decide) (by omega))
            have hrp : 0 ≤ y_72.toInt := by first |  omega | assumption | exact pk_nc _ | exact Or.inl ⟨by omega, by omega, by assumption⟩ | exact Or.inr ⟨by omega, by decide +kernel⟩ | exact fun h9 => absurd h9 (by omega) | exact fun _ => isH_no1 (by omega) | exact fun _ => isH_no2 (by assumption) (by assumption) (by omega) | (intro h9; omega) | (intro h8 h9; omega)
            exact W.iret (v := y_72) hx hb hr (fun t ht hW => ⟨⟨y_72, y_72, rfl, ⟨rfl, hrp⟩, x_61, x_62, x_63, x_64, hb_65, hb_66, hb_67, hz_3, xEnd hK hP9 hD9 ht hW⟩, hS.F ht⟩) hS.2.2 d_8_8_93
  · skip
    have tc_6 : ¬ 0 ≤ r_3.toInt := fun h9 => c_6 (Int32.le_iff_toInt_le.mpr h9)
    refine lv_iconst (v := (-1)) hx hb d_8_8_20 (by decide +kernel) ?_
    refine lv_goto (tgt := 29) hx hb d_8_8_21 (by decide +kernel) ?_
    refine lv_istore (lv' := [(5, .int (-1)), (4, .int r_3), (0, .ref h2), (1, .ref h1), (2, .int p2), (3, .int p3)]) hx hb d_8_8_29 hl (by decide +kernel) rfl (fun ls hl => ?_)
    refine lv_iload_n hx hb d_8_8_31 rfl (lv_at hl 5 rfl) ?_
    refine lv_iconst (v := 1) hx hb d_8_8_32 (by decide +kernel) ?_
    refine lv_iadd hx hb d_8_8_33 ?_
    refine lv_topi (fun y_73 ey_73 => ?_)
    have ty_73 : y_73.toInt = p3.toInt + 1 := by rw [ey_73]; exact zaddc (by decide +kernel) (by omega) (by omega)
    refine lv_iload_n hx hb d_8_8_34 rfl (lv_at hl 4 rfl) ?_
    refine lv_icmp_ge (tgt := 56) hx hb d_8_8_35 (by decide +kernel) (fun c_74 => ?_) (fun c_74 => ?_)
    · skip
      have tc_74 : p2.toInt ≤ y_73.toInt := Int32.le_iff_toInt_le.mp c_74
      refine lv_iconst (v := (-1)) hx hb d_8_8_56 (by decide +kernel) ?_
      refine lv_istore (lv' := [(6, .int (-1)), (5, .int (-1)), (4, .int r_3), (0, .ref h2), (1, .ref h1), (2, .int p2), (3, .int p3)]) hx hb d_8_8_57 hl (by decide +kernel) rfl (fun ls hl => ?_)
      refine lv_aload_n hx hb d_8_8_59 rfl (lv_at hl 3 rfl) ?_
      refine lv_iload hx hb d_8_8_60 (lv_at hl 0 rfl) ?_
      refine lv_iconst (v := (-1)) hx hb d_8_8_62 (by decide +kernel) ?_
      refine lv_icmp_ne (tgt := 71) hx hb d_8_8_63 (by decide +kernel) (fun c_75 => ?_) (fun c_75 => ?_)
      · exact absurd c_75 (by decide +kernel)
      refine lv_iload hx hb d_8_8_66 (lv_at hl 1 rfl) ?_
      refine lv_goto (tgt := 73) hx hb d_8_8_68 (by decide +kernel) ?_
      refine lv_iload_n hx hb d_8_8_73 rfl (lv_at hl 6 rfl) ?_
      refine lv_lconst (v := 0) hx hb d_8_8_74 (by decide +kernel) ?_
      have hPc := hP.sub (ws' := [(h2, .inr (0, [.ref h9, .ref h10, .ref h11, .ref h12, .int tc, .int ta, .int td, .int tf])), (h9, .inl (kI, 3001, .inl f9)), (h10, .inl (kI, 3001, .inl f10)), (h11, .inl (kJ, 3001, .inr (.inl f11))), (h12, .inl (kJ, 27, .inr (.inl f12)))]) [0, 1, 2, 3, 4] rfl
      have hDc := hD.sub (ws' := [(h2, .inr (0, [.ref h9, .ref h10, .ref h11, .ref h12, .int tc, .int ta, .int td, .int tf])), (h9, .inl (kI, 3001, .inl f9)), (h10, .inl (kI, 3001, .inl f10)), (h11, .inl (kJ, 3001, .inr (.inl f11))), (h12, .inl (kJ, 27, .inr (.inl f12)))]) [0, 1, 2, 3, 4] (by decide) rfl
      have hFc := va_free (wc := [(h2, .inr (0, [.ref h9, .ref h10, .ref h11, .ref h12, .int tc, .int ta, .int td, .int tf])), (h9, .inl (kI, 3001, .inl f9)), (h10, .inl (kI, 3001, .inl f10)), (h11, .inl (kJ, 3001, .inr (.inl f11))), (h12, .inl (kJ, 27, .inr (.inl f12)))]) hD hS hA [0, 1, 2, 3, 4] rfl
      refine va_callv (va_runV (As := [.int (-1), .int p3, .long 0]) (rest := []) ⟨hx, hb, hml, hown, hts⟩ (g_Tokens_add l D kI kJ kB kZ _ (h2) (h9) (h10) (h11) (h12) (tc) (ta) (td) (tf) (f9) (f10) (f11) (f12) (((-1) : Int32)) (p3) ((0 : Int64)) hf_C1 hf_C2 hf_T6 hf_WK hq_0 (by first | assumption | omega)) (cwV 3 hts (gT_V m_470 m_472 m_5 m_121 (gT_ws m_473)) rfl rfl rfl (by decide +kernel) ⟨(Nat.le_of_ble_eq_true rfl), (Nat.le_of_ble_eq_true rfl)⟩) ⟨xBlind xOk_N, va_recv hK hP (ci := 0) (q0 := 0) rfl rfl, xAtN hK hPc hDc⟩ rfl rfl hl.1 rfl (lv_room (Nat.le_of_ble_eq_true rfl)) d_8_8_75 ⟨(Nat.le_of_ble_eq_true rfl), (Nat.le_of_ble_eq_true rfl)⟩) hS (fun q _ h => hFc q h) hFc (fun u t H locs ht hvm hw_77 hB hz1 hk1 hS => ?_)
      clear hz1
      revert hB
      refine exI fun x_78 => exI fun x_79 => exI fun x_80 => exI fun x_81 => anI fun hb_82 => anI fun hb_83 => anI fun hb_84 => anI fun hb_85 => anI fun hb_86 => fun hB => ?_
      have hb_86 : zAk tc f9 f10 f11 ((-1) : Int32) p3 (0 : Int64) x_78 x_79 x_80 x_81 := hb_86
      have hPD := xJoin (wr := [(h1, .inl (kB, 3000, .inl f1))]) (w1 := [(h2, .inr (0, [.ref h9, .ref h10, .ref h11, .ref h12, .int x_78, .int ta, .int td, .int tf])), (h9, .inl (kI, 3001, .inl x_79)), (h10, .inl (kI, 3001, .inl x_80)), (h11, .inl (kJ, 3001, .inr (.inl x_81))), (h12, .inl (kJ, 27, .inr (.inl f12)))]) hP hD [0, 1, 2, 3, 4] [5] rfl rfl (by decide) (by decide) hk1 hFc ht hB
      replace hP : va_P D cls9 [(h1, .inl (kB, 3000, .inl f1)), (h2, .inr (0, [.ref h9, .ref h10, .ref h11, .ref h12, .int x_78, .int ta, .int td, .int tf])), (h9, .inl (kI, 3001, .inl x_79)), (h10, .inl (kI, 3001, .inl x_80)), (h11, .inl (kJ, 3001, .inr (.inl x_81))), (h12, .inl (kJ, 27, .inr (.inl f12)))] H := hPD.1
      replace hD : va_D A [(h1, .inl (kB, 3000, .inl f1)), (h2, .inr (0, [.ref h9, .ref h10, .ref h11, .ref h12, .int x_78, .int ta, .int td, .int tf])), (h9, .inl (kI, 3001, .inl x_79)), (h10, .inl (kI, 3001, .inl x_80)), (h11, .inl (kJ, 3001, .inr (.inl x_81))), (h12, .inl (kJ, 27, .inr (.inl f12)))] := hPD.2
      clear hPD hB hk1 hPc hDc hFc
      refine lv_iload hx hb d_8_8_78 (lv_at hl 0 rfl) ?_
      refine lv_iconst (v := (-1)) hx hb d_8_8_80 (by decide +kernel) ?_
      refine lv_icmp_ne (tgt := 90) hx hb d_8_8_81 (by decide +kernel) (fun c_87 => ?_) (fun c_87 => ?_)
      · exact absurd c_87 (by decide +kernel)
      refine lv_iload_n hx hb d_8_8_84 rfl (lv_at hl 6 rfl) ?_
      refine lv_iconst (v := 1) hx hb d_8_8_85 (by decide +kernel) ?_
      refine lv_iadd hx hb d_8_8_86 ?_
      refine lv_topi (fun y_88 ey_88 => ?_)
      have ty_88 : y_88.toInt = p3.toInt + 1 := by rw [ey_88]; exact zaddc (by decide +kernel) (by omega) (by omega)
      refine lv_goto (tgt := 93) hx hb d_8_8_87 (by decide +kernel) ?_
      have hP9 := hP.sub (ws' := [(h2, .inr (0, [.ref h9, .ref h10, .ref h11, .ref h12, .int x_78, .int ta, .int td, .int tf])), (h9, .inl (kI, 3001, .inl x_79)), (h10, .inl (kI, 3001, .inl x_80)), (h11, .inl (kJ, 3001, .inr (.inl x_81))), (h12, .inl (kJ, 27, .inr (.inl f12))), (h1, .inl (kB, 3000, .inl f1))]) [1, 2, 3, 4, 5, 0] rfl
      have hD9 := hD.sub (ws' := [(h2, .inr (0, [.ref h9, .ref h10, .ref h11, .ref h12, .int x_78, .int ta, .int td, .int tf])), (h9, .inl (kI, 3001, .inl x_79)), (h10, .inl (kI, 3001, .inl x_80)), (h11, .inl (kJ, 3001, .inr (.inl x_81))), (h12, .inl (kJ, 27, .inr (.inl f12))), (h1, .inl (kB, 3000, .inl f1))]) [1, 2, 3, 4, 5, 0] (by decide) rfl
      have hz_3 : tSg (tB f1) p2.toInt p3.toInt tc f9 f10 f11 x_78 x_79 x_80 x_81 y_88.toInt := (P_si1 (by have q4 : Int32.toInt (-1) = -1 := (by decide +kernel); omega) (fun q9 => by have q8 := q9.1; have q7 := q9.2.1; skip; omega) hb_86 (by omega) rfl (by decide) (by omega))
      have hrp : 0 ≤ y_88.toInt := by first |  omega | assumption | exact pk_nc _ | exact Or.inl ⟨by omega, by omega, by assumption⟩ | exact Or.inr ⟨by omega, by decide +kernel⟩ | exact fun h9 => absurd h9 (by omega) | exact fun _ => isH_no1 (by omega) | exact fun _ => isH_no2 (by assumption) (by assumption) (by omega) | (intro h9; omega) | (intro h8 h9; omega)
      exact W.iret (v := y_88) hx hb hr (fun t ht hW => ⟨⟨y_88, y_88, rfl, ⟨rfl, hrp⟩, x_78, x_79, x_80, x_81, hb_82, hb_83, hb_84, hz_3, xEnd hK hP9 hD9 ht hW⟩, hS.F ht⟩) hS.2.2 d_8_8_93
    · skip
      have tc_74 : ¬ p2.toInt ≤ y_73.toInt := fun h9 => c_74 (Int32.le_iff_toInt_le.mpr h9)
      refine lv_aload_n hx hb d_8_8_38 rfl (lv_at hl 3 rfl) ?_
      refine lv_iload_n hx hb d_8_8_39 rfl (lv_at hl 5 rfl) ?_
      refine lv_iconst (v := 1) hx hb d_8_8_40 (by decide +kernel) ?_
      refine lv_iadd hx hb d_8_8_41 ?_
      refine lv_topi (fun y_89 ey_89 => ?_)
      have ty_89 : y_89.toInt = p3.toInt + 1 := by rw [ey_89]; exact zaddc (by decide +kernel) (by omega) (by omega)
      refine va_bald hx hb hK hP 5 2 rfl rfl (vp_in_iff.mpr ⟨by omega, by omega⟩) d_8_8_42 ?_
      refine lv_topi (fun z_90 ez_90 => ?_)
      refine lv_bipush (v := 61) hx hb d_8_8_43 (by decide +kernel) ?_
      refine lv_icmp_ne (tgt := 56) hx hb d_8_8_45 (by decide +kernel) (fun c_91 => ?_) (fun c_91 => ?_)
      · skip
        have tc_91 : ¬ z_90.toInt = 61 := fun h9 => c_91 (Int32.toInt_inj.mp h9)
        refine lv_iconst (v := (-1)) hx hb d_8_8_56 (by decide +kernel) ?_
        refine lv_istore (lv' := [(6, .int (-1)), (5, .int (-1)), (4, .int r_3), (0, .ref h2), (1, .ref h1), (2, .int p2), (3, .int p3)]) hx hb d_8_8_57 hl (by decide +kernel) rfl (fun ls hl => ?_)
        refine lv_aload_n hx hb d_8_8_59 rfl (lv_at hl 3 rfl) ?_
        refine lv_iload hx hb d_8_8_60 (lv_at hl 0 rfl) ?_
        refine lv_iconst (v := (-1)) hx hb d_8_8_62 (by decide +kernel) ?_
        refine lv_icmp_ne (tgt := 71) hx hb d_8_8_63 (by decide +kernel) (fun c_92 => ?_) (fun c_92 => ?_)
        · exact absurd c_92 (by decide +kernel)
        refine lv_iload hx hb d_8_8_66 (lv_at hl 1 rfl) ?_
        refine lv_goto (tgt := 73) hx hb d_8_8_68 (by decide +kernel) ?_
        refine lv_iload_n hx hb d_8_8_73 rfl (lv_at hl 6 rfl) ?_
        refine lv_lconst (v := 0) hx hb d_8_8_74 (by decide +kernel) ?_
        have hPc := hP.sub (ws' := [(h2, .inr (0, [.ref h9, .ref h10, .ref h11, .ref h12, .int tc, .int ta, .int td, .int tf])), (h9, .inl (kI, 3001, .inl f9)), (h10, .inl (kI, 3001, .inl f10)), (h11, .inl (kJ, 3001, .inr (.inl f11))), (h12, .inl (kJ, 27, .inr (.inl f12)))]) [0, 1, 2, 3, 4] rfl
        have hDc := hD.sub (ws' := [(h2, .inr (0, [.ref h9, .ref h10, .ref h11, .ref h12, .int tc, .int ta, .int td, .int tf])), (h9, .inl (kI, 3001, .inl f9)), (h10, .inl (kI, 3001, .inl f10)), (h11, .inl (kJ, 3001, .inr (.inl f11))), (h12, .inl (kJ, 27, .inr (.inl f12)))]) [0, 1, 2, 3, 4] (by decide) rfl
        have hFc := va_free (wc := [(h2, .inr (0, [.ref h9, .ref h10, .ref h11, .ref h12, .int tc, .int ta, .int td, .int tf])), (h9, .inl (kI, 3001, .inl f9)), (h10, .inl (kI, 3001, .inl f10)), (h11, .inl (kJ, 3001, .inr (.inl f11))), (h12, .inl (kJ, 27, .inr (.inl f12)))]) hD hS hA [0, 1, 2, 3, 4] rfl
        refine va_callv (va_runV (As := [.int (-1), .int p3, .long 0]) (rest := []) ⟨hx, hb, hml, hown, hts⟩ (g_Tokens_add l D kI kJ kB kZ _ (h2) (h9) (h10) (h11) (h12) (tc) (ta) (td) (tf) (f9) (f10) (f11) (f12) (((-1) : Int32)) (p3) ((0 : Int64)) hf_C1 hf_C2 hf_T6 hf_WK hq_0 (by first | assumption | omega)) (cwV 3 hts (gT_V m_470 m_472 m_5 m_121 (gT_ws m_473)) rfl rfl rfl (by decide +kernel) ⟨(Nat.le_of_ble_eq_true rfl), (Nat.le_of_ble_eq_true rfl)⟩) ⟨xBlind xOk_N, va_recv hK hP (ci := 0) (q0 := 0) rfl rfl, xAtN hK hPc hDc⟩ rfl rfl hl.1 rfl (lv_room (Nat.le_of_ble_eq_true rfl)) d_8_8_75 ⟨(Nat.le_of_ble_eq_true rfl), (Nat.le_of_ble_eq_true rfl)⟩) hS (fun q _ h => hFc q h) hFc (fun u t H locs ht hvm hw_94 hB hz1 hk1 hS => ?_)
        clear hz1
        revert hB
        refine exI fun x_95 => exI fun x_96 => exI fun x_97 => exI fun x_98 => anI fun hb_99 => anI fun hb_100 => anI fun hb_101 => anI fun hb_102 => anI fun hb_103 => fun hB => ?_
        have hb_103 : zAk tc f9 f10 f11 ((-1) : Int32) p3 (0 : Int64) x_95 x_96 x_97 x_98 := hb_103
        have hPD := xJoin (wr := [(h1, .inl (kB, 3000, .inl f1))]) (w1 := [(h2, .inr (0, [.ref h9, .ref h10, .ref h11, .ref h12, .int x_95, .int ta, .int td, .int tf])), (h9, .inl (kI, 3001, .inl x_96)), (h10, .inl (kI, 3001, .inl x_97)), (h11, .inl (kJ, 3001, .inr (.inl x_98))), (h12, .inl (kJ, 27, .inr (.inl f12)))]) hP hD [0, 1, 2, 3, 4] [5] rfl rfl (by decide) (by decide) hk1 hFc ht hB
        replace hP : va_P D cls9 [(h1, .inl (kB, 3000, .inl f1)), (h2, .inr (0, [.ref h9, .ref h10, .ref h11, .ref h12, .int x_95, .int ta, .int td, .int tf])), (h9, .inl (kI, 3001, .inl x_96)), (h10, .inl (kI, 3001, .inl x_97)), (h11, .inl (kJ, 3001, .inr (.inl x_98))), (h12, .inl (kJ, 27, .inr (.inl f12)))] H := hPD.1
        replace hD : va_D A [(h1, .inl (kB, 3000, .inl f1)), (h2, .inr (0, [.ref h9, .ref h10, .ref h11, .ref h12, .int x_95, .int ta, .int td, .int tf])), (h9, .inl (kI, 3001, .inl x_96)), (h10, .inl (kI, 3001, .inl x_97)), (h11, .inl (kJ, 3001, .inr (.inl x_98))), (h12, .inl (kJ, 27, .inr (.inl f12)))] := hPD.2
        clear hPD hB hk1 hPc hDc hFc
        refine lv_iload hx hb d_8_8_78 (lv_at hl 0 rfl) ?_
        refine lv_iconst (v := (-1)) hx hb d_8_8_80 (by decide +kernel) ?_
        refine lv_icmp_ne (tgt := 90) hx hb d_8_8_81 (by decide +kernel) (fun c_104 => ?_) (fun c_104 => ?_)
        · exact absurd c_104 (by decide +kernel)
        refine lv_iload_n hx hb d_8_8_84 rfl (lv_at hl 6 rfl) ?_
        refine lv_iconst (v := 1) hx hb d_8_8_85 (by decide +kernel) ?_
        refine lv_iadd hx hb d_8_8_86 ?_
        refine lv_topi (fun y_105 ey_105 => ?_)
        have ty_105 : y_105.toInt = p3.toInt + 1 := by rw [ey_105]; exact zaddc (by decide +kernel) (by omega) (by omega)
        refine lv_goto (tgt := 93) hx hb d_8_8_87 (by decide +kernel) ?_
        have hP9 := hP.sub (ws' := [(h2, .inr (0, [.ref h9, .ref h10, .ref h11, .ref h12, .int x_95, .int ta, .int td, .int tf])), (h9, .inl (kI, 3001, .inl x_96)), (h10, .inl (kI, 3001, .inl x_97)), (h11, .inl (kJ, 3001, .inr (.inl x_98))), (h12, .inl (kJ, 27, .inr (.inl f12))), (h1, .inl (kB, 3000, .inl f1))]) [1, 2, 3, 4, 5, 0] rfl
        have hD9 := hD.sub (ws' := [(h2, .inr (0, [.ref h9, .ref h10, .ref h11, .ref h12, .int x_95, .int ta, .int td, .int tf])), (h9, .inl (kI, 3001, .inl x_96)), (h10, .inl (kI, 3001, .inl x_97)), (h11, .inl (kJ, 3001, .inr (.inl x_98))), (h12, .inl (kJ, 27, .inr (.inl f12))), (h1, .inl (kB, 3000, .inl f1))]) [1, 2, 3, 4, 5, 0] (by decide) rfl
        have hz_3 : tSg (tB f1) p2.toInt p3.toInt tc f9 f10 f11 x_95 x_96 x_97 x_98 y_105.toInt := (P_si1 (by have q4 : Int32.toInt (-1) = -1 := (by decide +kernel); omega) (fun q9 => by have q8 := q9.1; have q7 := q9.2.1; have q6 : (tB f1) (p3.toInt + 1) = z_90.toInt := (by have q5 := tB_z ez_90; rw [show y_89.toInt = p3.toInt + 1 from by omega] at q5; exact q5); omega) hb_103 (by omega) rfl (by decide) (by omega))
        have hrp : 0 ≤ y_105.toInt := by first |  omega | assumption | exact pk_nc _ | exact Or.inl ⟨by omega, by omega, by assumption⟩ | exact Or.inr ⟨by omega, by decide +kernel⟩ | exact fun h9 => absurd h9 (by omega) | exact fun _ => isH_no1 (by omega) | exact fun _ => isH_no2 (by assumption) (by assumption) (by omega) | (intro h9; omega) | (intro h8 h9; omega)
        exact W.iret (v := y_105) hx hb hr (fun t ht hW => ⟨⟨y_105, y_105, rfl, ⟨rfl, hrp⟩, x_95, x_96, x_97, x_98, hb_99, hb_100, hb_101, hz_3, xEnd hK hP9 hD9 ht hW⟩, hS.F ht⟩) hS.2.2 d_8_8_93
      · skip
        have tc_91 : z_90.toInt = 61 := congrArg Int32.toInt c_91
        refine lv_iload hx hb d_8_8_48 (lv_at hl 0 rfl) ?_
        have hPc := hP.sub (ws' := []) [] rfl
        have hDc := hD.sub (ws' := []) [] (by decide) rfl
        have hFc := va_free (wc := []) hD hS hA [] rfl
        refine va_calli (va_runS (As := [.int (-1)]) (rest := []) ⟨hx, hb, hml, hown, hts⟩ (g_Tokens_withEqual l D kI kJ kB kZ _ (((-1) : Int32)) ) (va_cwS 1 hts (gT_S m_544 m_545 m_121 (gT_ws m_546)) rfl rfl rfl (by decide +kernel) ⟨(Nat.le_of_ble_eq_true rfl), (Nat.le_of_ble_eq_true rfl)⟩) ⟨xBlind xOk_N, xAtN hK hPc hDc⟩ rfl rfl hl.1 rfl (lv_room (Nat.le_of_ble_eq_true rfl)) d_8_8_50 ⟨(Nat.le_of_ble_eq_true rfl), (Nat.le_of_ble_eq_true rfl)⟩) hS (fun q _ h => hFc q h) hFc (fun r_106 u t H locs ht hvm hw_107 hB hz1 hk1 hS => ?_)
        clear hz1
        obtain ⟨hu9, hw_107⟩ := hw_107
        subst hu9
        revert hB
        refine anI fun hb_108 => fun hB => ?_
        have hb_108 : kPr ((-1) : Int) = r_106.toInt := hb_108
        have hPD := xJoin (wr := [(h2, .inr (0, [.ref h9, .ref h10, .ref h11, .ref h12, .int tc, .int ta, .int td, .int tf])), (h9, .inl (kI, 3001, .inl f9)), (h10, .inl (kI, 3001, .inl f10)), (h11, .inl (kJ, 3001, .inr (.inl f11))), (h12, .inl (kJ, 27, .inr (.inl f12))), (h1, .inl (kB, 3000, .inl f1))]) (w1 := []) hP hD [] [0, 1, 2, 3, 4, 5] rfl rfl (by decide) (by decide) hk1 hFc ht hB
        replace hP : va_P D cls9 [(h2, .inr (0, [.ref h9, .ref h10, .ref h11, .ref h12, .int tc, .int ta, .int td, .int tf])), (h9, .inl (kI, 3001, .inl f9)), (h10, .inl (kI, 3001, .inl f10)), (h11, .inl (kJ, 3001, .inr (.inl f11))), (h12, .inl (kJ, 27, .inr (.inl f12))), (h1, .inl (kB, 3000, .inl f1))] H := hPD.1
        replace hD : va_D A [(h2, .inr (0, [.ref h9, .ref h10, .ref h11, .ref h12, .int tc, .int ta, .int td, .int tf])), (h9, .inl (kI, 3001, .inl f9)), (h10, .inl (kI, 3001, .inl f10)), (h11, .inl (kJ, 3001, .inr (.inl f11))), (h12, .inl (kJ, 27, .inr (.inl f12))), (h1, .inl (kB, 3000, .inl f1))] := hPD.2
        clear hPD hB hk1 hPc hDc hFc
        refine lv_goto (tgt := 57) hx hb d_8_8_53 (by decide +kernel) ?_
        refine lv_istore (lv' := [(6, .int r_106), (5, .int (-1)), (4, .int r_3), (0, .ref h2), (1, .ref h1), (2, .int p2), (3, .int p3)]) hx hb d_8_8_57 hl (by decide +kernel) rfl (fun ls hl => ?_)
        refine lv_aload_n hx hb d_8_8_59 rfl (lv_at hl 3 rfl) ?_
        refine lv_iload hx hb d_8_8_60 (lv_at hl 0 rfl) ?_
        refine lv_iconst (v := (-1)) hx hb d_8_8_62 (by decide +kernel) ?_
        refine lv_icmp_ne (tgt := 71) hx hb d_8_8_63 (by decide +kernel) (fun c_109 => ?_) (fun c_109 => ?_)
        · skip
          have tc_109 : ¬ r_106.toInt = (-1) := fun h9 => c_109 (Int32.toInt_inj.mp h9)
          refine lv_iload hx hb d_8_8_71 (lv_at hl 0 rfl) ?_
          refine lv_iload_n hx hb d_8_8_73 rfl (lv_at hl 6 rfl) ?_
          refine lv_lconst (v := 0) hx hb d_8_8_74 (by decide +kernel) ?_
          have hPc := hP.sub (ws' := [(h2, .inr (0, [.ref h9, .ref h10, .ref h11, .ref h12, .int tc, .int ta, .int td, .int tf])), (h9, .inl (kI, 3001, .inl f9)), (h10, .inl (kI, 3001, .inl f10)), (h11, .inl (kJ, 3001, .inr (.inl f11))), (h12, .inl (kJ, 27, .inr (.inl f12)))]) [0, 1, 2, 3, 4] rfl
          have hDc := hD.sub (ws' := [(h2, .inr (0, [.ref h9, .ref h10, .ref h11, .ref h12, .int tc, .int ta, .int td, .int tf])), (h9, .inl (kI, 3001, .inl f9)), (h10, .inl (kI, 3001, .inl f10)), (h11, .inl (kJ, 3001, .inr (.inl f11))), (h12, .inl (kJ, 27, .inr (.inl f12)))]) [0, 1, 2, 3, 4] (by decide) rfl
          have hFc := va_free (wc := [(h2, .inr (0, [.ref h9, .ref h10, .ref h11, .ref h12, .int tc, .int ta, .int td, .int tf])), (h9, .inl (kI, 3001, .inl f9)), (h10, .inl (kI, 3001, .inl f10)), (h11, .inl (kJ, 3001, .inr (.inl f11))), (h12, .inl (kJ, 27, .inr (.inl f12)))]) hD hS hA [0, 1, 2, 3, 4] rfl
          refine va_callv (va_runV (As := [.int r_106, .int p3, .long 0]) (rest := []) ⟨hx, hb, hml, hown, hts⟩ (g_Tokens_add l D kI kJ kB kZ _ (h2) (h9) (h10) (h11) (h12) (tc) (ta) (td) (tf) (f9) (f10) (f11) (f12) (r_106) (p3) ((0 : Int64)) hf_C1 hf_C2 hf_T6 hf_WK hq_0 (by first | assumption | omega)) (cwV 3 hts (gT_V m_470 m_472 m_5 m_121 (gT_ws m_473)) rfl rfl rfl (by decide +kernel) ⟨(Nat.le_of_ble_eq_true rfl), (Nat.le_of_ble_eq_true rfl)⟩) ⟨xBlind xOk_N, va_recv hK hP (ci := 0) (q0 := 0) rfl rfl, xAtN hK hPc hDc⟩ rfl rfl hl.1 rfl (lv_room (Nat.le_of_ble_eq_true rfl)) d_8_8_75 ⟨(Nat.le_of_ble_eq_true rfl), (Nat.le_of_ble_eq_true rfl)⟩) hS (fun q _ h => hFc q h) hFc (fun u t H locs ht hvm hw_111 hB hz1 hk1 hS => ?_)
          clear hz1
          revert hB
          refine exI fun x_112 => exI fun x_113 => exI fun x_114 => exI fun x_115 => anI fun hb_116 => anI fun hb_117 => anI fun hb_118 => anI fun hb_119 => anI fun hb_120 => fun hB => ?_
          have hb_120 : zAk tc f9 f10 f11 r_106 p3 (0 : Int64) x_112 x_113 x_114 x_115 := hb_120
          have hPD := xJoin (wr := [(h1, .inl (kB, 3000, .inl f1))]) (w1 := [(h2, .inr (0, [.ref h9, .ref h10, .ref h11, .ref h12, .int x_112, .int ta, .int td, .int tf])), (h9, .inl (kI, 3001, .inl x_113)), (h10, .inl (kI, 3001, .inl x_114)), (h11, .inl (kJ, 3001, .inr (.inl x_115))), (h12, .inl (kJ, 27, .inr (.inl f12)))]) hP hD [0, 1, 2, 3, 4] [5] rfl rfl (by decide) (by decide) hk1 hFc ht hB
          replace hP : va_P D cls9 [(h1, .inl (kB, 3000, .inl f1)), (h2, .inr (0, [.ref h9, .ref h10, .ref h11, .ref h12, .int x_112, .int ta, .int td, .int tf])), (h9, .inl (kI, 3001, .inl x_113)), (h10, .inl (kI, 3001, .inl x_114)), (h11, .inl (kJ, 3001, .inr (.inl x_115))), (h12, .inl (kJ, 27, .inr (.inl f12)))] H := hPD.1
          replace hD : va_D A [(h1, .inl (kB, 3000, .inl f1)), (h2, .inr (0, [.ref h9, .ref h10, .ref h11, .ref h12, .int x_112, .int ta, .int td, .int tf])), (h9, .inl (kI, 3001, .inl x_113)), (h10, .inl (kI, 3001, .inl x_114)), (h11, .inl (kJ, 3001, .inr (.inl x_115))), (h12, .inl (kJ, 27, .inr (.inl f12)))] := hPD.2
          clear hPD hB hk1 hPc hDc hFc
          refine lv_iload hx hb d_8_8_78 (lv_at hl 0 rfl) ?_
          refine lv_iconst (v := (-1)) hx hb d_8_8_80 (by decide +kernel) ?_
          refine lv_icmp_ne (tgt := 90) hx hb d_8_8_81 (by decide +kernel) (fun c_121 => ?_) (fun c_121 => ?_)
          · skip
            have tc_121 : ¬ r_106.toInt = (-1) := fun h9 => c_121 (Int32.toInt_inj.mp h9)
            refine lv_iload_n hx hb d_8_8_90 rfl (lv_at hl 6 rfl) ?_
            refine lv_iconst (v := 2) hx hb d_8_8_91 (by decide +kernel) ?_
            refine lv_iadd hx hb d_8_8_92 ?_
            refine lv_topi (fun y_122 ey_122 => ?_)
            have ty_122 : y_122.toInt = p3.toInt + 2 := by rw [ey_122]; exact zaddc (by decide +kernel) (by omega) (by omega)
            have hP9 := hP.sub (ws' := [(h2, .inr (0, [.ref h9, .ref h10, .ref h11, .ref h12, .int x_112, .int ta, .int td, .int tf])), (h9, .inl (kI, 3001, .inl x_113)), (h10, .inl (kI, 3001, .inl x_114)), (h11, .inl (kJ, 3001, .inr (.inl x_115))), (h12, .inl (kJ, 27, .inr (.inl f12))), (h1, .inl (kB, 3000, .inl f1))]) [1, 2, 3, 4, 5, 0] rfl
            have hD9 := hD.sub (ws' := [(h2, .inr (0, [.ref h9, .ref h10, .ref h11, .ref h12, .int x_112, .int ta, .int td, .int tf])), (h9, .inl (kI, 3001, .inl x_113)), (h10, .inl (kI, 3001, .inl x_114)), (h11, .inl (kJ, 3001, .inr (.inl x_115))), (h12, .inl (kJ, 27, .inr (.inl f12))), (h1, .inl (kB, 3000, .inl f1))]) [1, 2, 3, 4, 5, 0] (by decide) rfl
            have hz_3 : tSg (tB f1) p2.toInt p3.toInt tc f9 f10 f11 x_112 x_113 x_114 x_115 y_122.toInt := (P_si2 ⟨by omega, by have q6 : (tB f1) (p3.toInt + 1) = z_90.toInt := (by have q5 := tB_z ez_90; rw [show y_89.toInt = p3.toInt + 1 from by omega] at q5; exact q5); omega, by rw [show kPr (kSg ((tB f1) p3.toInt)) = r_106.toInt from (by rw [show kSg ((tB f1) p3.toInt) = (-1) from by omega]; exact hb_108)]; omega⟩ (by rw [show kSg ((tB f1) p3.toInt) = (-1) from by omega]; exact hb_108) hb_120 (by omega) rfl (by decide) (by omega))
            have hrp : 0 ≤ y_122.toInt := by first |  omega | assumption | exact pk_nc _ | exact Or.inl ⟨by omega, by omega, by assumption⟩ | exact Or.inr ⟨by omega, by decide +kernel⟩ | exact fun h9 => absurd h9 (by omega) | exact fun _ => isH_no1 (by omega) | exact fun _ => isH_no2 (by assumption) (by assumption) (by omega) | (intro h9; omega) | (intro h8 h9; omega)
            exact W.iret (v := y_122) hx hb hr (fun t ht hW => ⟨⟨y_122, y_122, rfl, ⟨rfl, hrp⟩, x_112, x_113, x_114, x_115, hb_116, hb_117, hb_118, hz_3, xEnd hK hP9 hD9 ht hW⟩, hS.F ht⟩) hS.2.2 d_8_8_93
          · skip
            have tc_121 : r_106.toInt = (-1) := congrArg Int32.toInt c_121
            refine lv_iload_n hx hb d_8_8_84 rfl (lv_at hl 6 rfl) ?_
            refine lv_iconst (v := 1) hx hb d_8_8_85 (by decide +kernel) ?_
            refine lv_iadd hx hb d_8_8_86 ?_
            refine lv_topi (fun y_123 ey_123 => ?_)
            have ty_123 : y_123.toInt = p3.toInt + 1 := by rw [ey_123]; exact zaddc (by decide +kernel) (by omega) (by omega)
            refine lv_goto (tgt := 93) hx hb d_8_8_87 (by decide +kernel) ?_
            have hP9 := hP.sub (ws' := [(h2, .inr (0, [.ref h9, .ref h10, .ref h11, .ref h12, .int x_112, .int ta, .int td, .int tf])), (h9, .inl (kI, 3001, .inl x_113)), (h10, .inl (kI, 3001, .inl x_114)), (h11, .inl (kJ, 3001, .inr (.inl x_115))), (h12, .inl (kJ, 27, .inr (.inl f12))), (h1, .inl (kB, 3000, .inl f1))]) [1, 2, 3, 4, 5, 0] rfl
            have hD9 := hD.sub (ws' := [(h2, .inr (0, [.ref h9, .ref h10, .ref h11, .ref h12, .int x_112, .int ta, .int td, .int tf])), (h9, .inl (kI, 3001, .inl x_113)), (h10, .inl (kI, 3001, .inl x_114)), (h11, .inl (kJ, 3001, .inr (.inl x_115))), (h12, .inl (kJ, 27, .inr (.inl f12))), (h1, .inl (kB, 3000, .inl f1))]) [1, 2, 3, 4, 5, 0] (by decide) rfl
            have hz_3 : tSg (tB f1) p2.toInt p3.toInt tc f9 f10 f11 x_112 x_113 x_114 x_115 y_123.toInt := (P_si2 ⟨by omega, by have q6 : (tB f1) (p3.toInt + 1) = z_90.toInt := (by have q5 := tB_z ez_90; rw [show y_89.toInt = p3.toInt + 1 from by omega] at q5; exact q5); omega, by rw [show kPr (kSg ((tB f1) p3.toInt)) = r_106.toInt from (by rw [show kSg ((tB f1) p3.toInt) = (-1) from by omega]; exact hb_108)]; omega⟩ (by rw [show kSg ((tB f1) p3.toInt) = (-1) from by omega]; exact hb_108) hb_120 (by omega) rfl (by decide) (by omega))
            have hrp : 0 ≤ y_123.toInt := by first |  omega | assumption | exact pk_nc _ | exact Or.inl ⟨by omega, by omega, by assumption⟩ | exact Or.inr ⟨by omega, by decide +kernel⟩ | exact fun h9 => absurd h9 (by omega) | exact fun _ => isH_no1 (by omega) | exact fun _ => isH_no2 (by assumption) (by assumption) (by omega) | (intro h9; omega) | (intro h8 h9; omega)
            exact W.iret (v := y_123) hx hb hr (fun t ht hW => ⟨⟨y_123, y_123, rfl, ⟨rfl, hrp⟩, x_112, x_113, x_114, x_115, hb_116, hb_117, hb_118, hz_3, xEnd hK hP9 hD9 ht hW⟩, hS.F ht⟩) hS.2.2 d_8_8_93
        · skip
          have tc_109 : r_106.toInt = (-1) := congrArg Int32.toInt c_109
          refine lv_iload hx hb d_8_8_66 (lv_at hl 1 rfl) ?_
          refine lv_goto (tgt := 73) hx hb d_8_8_68 (by decide +kernel) ?_
          refine lv_iload_n hx hb d_8_8_73 rfl (lv_at hl 6 rfl) ?_
          refine lv_lconst (v := 0) hx hb d_8_8_74 (by decide +kernel) ?_
          have hPc := hP.sub (ws' := [(h2, .inr (0, [.ref h9, .ref h10, .ref h11, .ref h12, .int tc, .int ta, .int td, .int tf])), (h9, .inl (kI, 3001, .inl f9)), (h10, .inl (kI, 3001, .inl f10)), (h11, .inl (kJ, 3001, .inr (.inl f11))), (h12, .inl (kJ, 27, .inr (.inl f12)))]) [0, 1, 2, 3, 4] rfl
          have hDc := hD.sub (ws' := [(h2, .inr (0, [.ref h9, .ref h10, .ref h11, .ref h12, .int tc, .int ta, .int td, .int tf])), (h9, .inl (kI, 3001, .inl f9)), (h10, .inl (kI, 3001, .inl f10)), (h11, .inl (kJ, 3001, .inr (.inl f11))), (h12, .inl (kJ, 27, .inr (.inl f12)))]) [0, 1, 2, 3, 4] (by decide) rfl
          have hFc := va_free (wc := [(h2, .inr (0, [.ref h9, .ref h10, .ref h11, .ref h12, .int tc, .int ta, .int td, .int tf])), (h9, .inl (kI, 3001, .inl f9)), (h10, .inl (kI, 3001, .inl f10)), (h11, .inl (kJ, 3001, .inr (.inl f11))), (h12, .inl (kJ, 27, .inr (.inl f12)))]) hD hS hA [0, 1, 2, 3, 4] rfl
          refine va_callv (va_runV (As := [.int (-1), .int p3, .long 0]) (rest := []) ⟨hx, hb, hml, hown, hts⟩ (g_Tokens_add l D kI kJ kB kZ _ (h2) (h9) (h10) (h11) (h12) (tc) (ta) (td) (tf) (f9) (f10) (f11) (f12) (((-1) : Int32)) (p3) ((0 : Int64)) hf_C1 hf_C2 hf_T6 hf_WK hq_0 (by first | assumption | omega)) (cwV 3 hts (gT_V m_470 m_472 m_5 m_121 (gT_ws m_473)) rfl rfl rfl (by decide +kernel) ⟨(Nat.le_of_ble_eq_true rfl), (Nat.le_of_ble_eq_true rfl)⟩) ⟨xBlind xOk_N, va_recv hK hP (ci := 0) (q0 := 0) rfl rfl, xAtN hK hPc hDc⟩ rfl rfl hl.1 rfl (lv_room (Nat.le_of_ble_eq_true rfl)) d_8_8_75 ⟨(Nat.le_of_ble_eq_true rfl), (Nat.le_of_ble_eq_true rfl)⟩) hS (fun q _ h => hFc q h) hFc (fun u t H locs ht hvm hw_125 hB hz1 hk1 hS => ?_)
          clear hz1
          revert hB
          refine exI fun x_126 => exI fun x_127 => exI fun x_128 => exI fun x_129 => anI fun hb_130 => anI fun hb_131 => anI fun hb_132 => anI fun hb_133 => anI fun hb_134 => fun hB => ?_
          have hb_134 : zAk tc f9 f10 f11 ((-1) : Int32) p3 (0 : Int64) x_126 x_127 x_128 x_129 := hb_134
          have hPD := xJoin (wr := [(h1, .inl (kB, 3000, .inl f1))]) (w1 := [(h2, .inr (0, [.ref h9, .ref h10, .ref h11, .ref h12, .int x_126, .int ta, .int td, .int tf])), (h9, .inl (kI, 3001, .inl x_127)), (h10, .inl (kI, 3001, .inl x_128)), (h11, .inl (kJ, 3001, .inr (.inl x_129))), (h12, .inl (kJ, 27, .inr (.inl f12)))]) hP hD [0, 1, 2, 3, 4] [5] rfl rfl (by decide) (by decide) hk1 hFc ht hB
          replace hP : va_P D cls9 [(h1, .inl (kB, 3000, .inl f1)), (h2, .inr (0, [.ref h9, .ref h10, .ref h11, .ref h12, .int x_126, .int ta, .int td, .int tf])), (h9, .inl (kI, 3001, .inl x_127)), (h10, .inl (kI, 3001, .inl x_128)), (h11, .inl (kJ, 3001, .inr (.inl x_129))), (h12, .inl (kJ, 27, .inr (.inl f12)))] H := hPD.1
          replace hD : va_D A [(h1, .inl (kB, 3000, .inl f1)), (h2, .inr (0, [.ref h9, .ref h10, .ref h11, .ref h12, .int x_126, .int ta, .int td, .int tf])), (h9, .inl (kI, 3001, .inl x_127)), (h10, .inl (kI, 3001, .inl x_128)), (h11, .inl (kJ, 3001, .inr (.inl x_129))), (h12, .inl (kJ, 27, .inr (.inl f12)))] := hPD.2
          clear hPD hB hk1 hPc hDc hFc
          refine lv_iload hx hb d_8_8_78 (lv_at hl 0 rfl) ?_
          refine lv_iconst (v := (-1)) hx hb d_8_8_80 (by decide +kernel) ?_
          refine lv_icmp_ne (tgt := 90) hx hb d_8_8_81 (by decide +kernel) (fun c_135 => ?_) (fun c_135 => ?_)
          · skip
            have tc_135 : ¬ r_106.toInt = (-1) := fun h9 => c_135 (Int32.toInt_inj.mp h9)
            refine lv_iload_n hx hb d_8_8_90 rfl (lv_at hl 6 rfl) ?_
            refine lv_iconst (v := 2) hx hb d_8_8_91 (by decide +kernel) ?_
            refine lv_iadd hx hb d_8_8_92 ?_
            refine lv_topi (fun y_136 ey_136 => ?_)
            have ty_136 : y_136.toInt = p3.toInt + 2 := by rw [ey_136]; exact zaddc (by decide +kernel) (by omega) (by omega)
            have hP9 := hP.sub (ws' := [(h2, .inr (0, [.ref h9, .ref h10, .ref h11, .ref h12, .int x_126, .int ta, .int td, .int tf])), (h9, .inl (kI, 3001, .inl x_127)), (h10, .inl (kI, 3001, .inl x_128)), (h11, .inl (kJ, 3001, .inr (.inl x_129))), (h12, .inl (kJ, 27, .inr (.inl f12))), (h1, .inl (kB, 3000, .inl f1))]) [1, 2, 3, 4, 5, 0] rfl
            have hD9 := hD.sub (ws' := [(h2, .inr (0, [.ref h9, .ref h10, .ref h11, .ref h12, .int x_126, .int ta, .int td, .int tf])), (h9, .inl (kI, 3001, .inl x_127)), (h10, .inl (kI, 3001, .inl x_128)), (h11, .inl (kJ, 3001, .inr (.inl x_129))), (h12, .inl (kJ, 27, .inr (.inl f12))), (h1, .inl (kB, 3000, .inl f1))]) [1, 2, 3, 4, 5, 0] (by decide) rfl
            have hz_3 : tSg (tB f1) p2.toInt p3.toInt tc f9 f10 f11 x_126 x_127 x_128 x_129 y_136.toInt := (P_si1 (by have q4 : Int32.toInt (-1) = -1 := (by decide +kernel); omega) (fun q9 => q9.2.2 (by rw [show kPr (kSg ((tB f1) p3.toInt)) = r_106.toInt from (by rw [show kSg ((tB f1) p3.toInt) = (-1) from by omega]; exact hb_108)]; omega)) hb_134 (by omega) rfl (by decide) (by omega))
            have hrp : 0 ≤ y_136.toInt := by first |  omega | assumption | exact pk_nc _ | exact Or.inl ⟨by omega, by omega, by assumption⟩ | exact Or.inr ⟨by omega, by decide +kernel⟩ | exact fun h9 => absurd h9 (by omega) | exact fun _ => isH_no1 (by omega) | exact fun _ => isH_no2 (by assumption) (by assumption) (by omega) | (intro h9; omega) | (intro h8 h9; omega)
            exact W.iret (v := y_136) hx hb hr (fun t ht hW => ⟨⟨y_136, y_136, rfl, ⟨rfl, hrp⟩, x_126, x_127, x_128, x_129, hb_130, hb_131, hb_132, hz_3, xEnd hK hP9 hD9 ht hW⟩, hS.F ht⟩) hS.2.2 d_8_8_93
          · skip
            have tc_135 : r_106.toInt = (-1) := congrArg Int32.toInt c_135
            refine lv_iload_n hx hb d_8_8_84 rfl (lv_at hl 6 rfl) ?_
            refine lv_iconst (v := 1) hx hb d_8_8_85 (by decide +kernel) ?_
            refine lv_iadd hx hb d_8_8_86 ?_
            refine lv_topi (fun y_137 ey_137 => ?_)
            have ty_137 : y_137.toInt = p3.toInt + 1 := by rw [ey_137]; exact zaddc (by decide +kernel) (by omega) (by omega)
            refine lv_goto (tgt := 93) hx hb d_8_8_87 (by decide +kernel) ?_
            have hP9 := hP.sub (ws' := [(h2, .inr (0, [.ref h9, .ref h10, .ref h11, .ref h12, .int x_126, .int ta, .int td, .int tf])), (h9, .inl (kI, 3001, .inl x_127)), (h10, .inl (kI, 3001, .inl x_128)), (h11, .inl (kJ, 3001, .inr (.inl x_129))), (h12, .inl (kJ, 27, .inr (.inl f12))), (h1, .inl (kB, 3000, .inl f1))]) [1, 2, 3, 4, 5, 0] rfl
            have hD9 := hD.sub (ws' := [(h2, .inr (0, [.ref h9, .ref h10, .ref h11, .ref h12, .int x_126, .int ta, .int td, .int tf])), (h9, .inl (kI, 3001, .inl x_127)), (h10, .inl (kI, 3001, .inl x_128)), (h11, .inl (kJ, 3001, .inr (.inl x_129))), (h12, .inl (kJ, 27, .inr (.inl f12))), (h1, .inl (kB, 3000, .inl f1))]) [1, 2, 3, 4, 5, 0] (by decide) rfl
            have hz_3 : tSg (tB f1) p2.toInt p3.toInt tc f9 f10 f11 x_126 x_127 x_128 x_129 y_137.toInt := (P_si1 (by have q4 : Int32.toInt (-1) = -1 := (by decide +kernel); omega) (fun q9 => q9.2.2 (by rw [show kPr (kSg ((tB f1) p3.toInt)) = r_106.toInt from (by rw [show kSg ((tB f1) p3.toInt) = (-1) from by omega]; exact hb_108)]; omega)) hb_134 (by omega) rfl (by decide) (by omega))
            have hrp : 0 ≤ y_137.toInt := by first |  omega | assumption | exact pk_nc _ | exact Or.inl ⟨by omega, by omega, by assumption⟩ | exact Or.inr ⟨by omega, by decide +kernel⟩ | exact fun h9 => absurd h9 (by omega) | exact fun _ => isH_no1 (by omega) | exact fun _ => isH_no2 (by assumption) (by assumption) (by omega) | (intro h9; omega) | (intro h8 h9; omega)
            exact W.iret (v := y_137) hx hb hr (fun t ht hW => ⟨⟨y_137, y_137, rfl, ⟨rfl, hrp⟩, x_126, x_127, x_128, x_129, hb_130, hb_131, hb_132, hz_3, xEnd hK hP9 hD9 ht hW⟩, hS.F ht⟩) hS.2.2 d_8_8_93
set_option maxHeartbeats 8000000 in
set_option maxRecDepth 100000 in
theorem g_Tokens_scanFrom (l : Launch) (D : va_G) (kI kJ kB kZ : ClassId) (sz : Nat) (h1 : Nat) (h2 : Nat) (h9 : Nat) (h10 : Nat) (h11 : Nat) (h12 : Nat) (tc : Int32) (ta : Int32) (td : Int32) (tf : Int32) (f9 : Nat → Int32) (f10 : Nat → Int32) (f11 : Nat → Int64) (f12 : Nat → Int64) (f1 : Nat → Int32) (p2 : Int32) (p3 : Int32) (sA : Nat → Nat) (sV : Nat → Nat) (hf_C1 : 0 ≤ tc.toInt) (hf_C2 : tc.toInt ≤ 3001) (hf_T6 : ∀ j : Nat, 0 ≤ (f10 j).toInt ∧ (f10 j).toInt ≤ 3000) (hf_WK : wK f12) (hf_BR : bR f1) (hq_0 : 0 ≤ p3.toInt) (hq_1 : p3.toInt < p2.toInt) (hq_2 : p2.toInt ≤ 3000) (hq_3 : tc.toInt ≤ p3.toInt) : Met l (⟨"AlgolJudge$Tokens", "scanFrom", "([BII)I"⟩ : MethodName) (Cond.code (⟨"AlgolJudge$Tokens", "scanFrom", "([BII)I"⟩ : MethodName) prog_8_method_4_code 5 (some .int) :: gT) ({ frames := 5, cells := 0, slots := 0, locals := 117 }) (va_Pc [.ref h2, .ref h1, .int p2, .int p3] (xP D (xT kI kJ kB kZ) (xE sA sV) [(h2, .inr (0, [.ref h9, .ref h10, .ref h11, .ref h12, .int tc, .int ta, .int td, .int tf])), (h9, .inl (kI, 3001, .inl f9)), (h10, .inl (kI, 3001, .inl f10)), (h11, .inl (kJ, 3001, .inr (.inl f11))), (h12, .inl (kJ, 27, .inr (.inl f12))), (h1, .inl (kB, 3000, .inl f1))] sz)) (va_Qi (fun (r : Int32) (u : Int32) => r = u ∧ (0 ≤ r.toInt)) (fun u t => ∃ tc' : Int32, ∃ f9' : Nat → Int32, ∃ f10' : Nat → Int32, ∃ f11' : Nat → Int64, (0 ≤ tc'.toInt) ∧ (tc'.toInt ≤ 3001) ∧ (∀ j : Nat, 0 ≤ (f10' j).toInt ∧ (f10' j).toInt ≤ 3000) ∧ (tSt (tB f1) p2.toInt p3.toInt tc f9 f10 f11 tc' f9' f10' f11' u.toInt) ∧ xQ D (xT kI kJ kB kZ) (va_A [(h2, .inr (0, [.ref h9, .ref h10, .ref h11, .ref h12, .int tc, .int ta, .int td, .int tf])), (h9, .inl (kI, 3001, .inl f9)), (h10, .inl (kI, 3001, .inl f10)), (h11, .inl (kJ, 3001, .inr (.inl f11))), (h12, .inl (kJ, 27, .inr (.inl f12))), (h1, .inl (kB, 3000, .inl f1))] sz) [(h2, .inr (0, [.ref h9, .ref h10, .ref h11, .ref h12, .int tc', .int ta, .int td, .int tf])), (h9, .inl (kI, 3001, .inl f9')), (h10, .inl (kI, 3001, .inl f10')), (h11, .inl (kJ, 3001, .inr (.inl f11'))), (h12, .inl (kJ, 27, .inr (.inl f12))), (h1, .inl (kB, 3000, .inl f1))] t) (va_A [(h2, .inr (0, [.ref h9, .ref h10, .ref h11, .ref h12, .int tc, .int ta, .int td, .int tf])), (h9, .inl (kI, 3001, .inl f9)), (h10, .inl (kI, 3001, .inl f10)), (h11, .inl (kJ, 3001, .inr (.inl f11))), (h12, .inl (kJ, 27, .inr (.inl f12))), (h1, .inl (kB, 3000, .inl f1))] sz)) 0 0 (va_A [(h2, .inr (0, [.ref h9, .ref h10, .ref h11, .ref h12, .int tc, .int ta, .int td, .int tf])), (h9, .inl (kI, 3001, .inl f9)), (h10, .inl (kI, 3001, .inl f10)), (h11, .inl (kJ, 3001, .inr (.inl f11))), (h12, .inl (kJ, 27, .inr (.inl f12))), (h1, .inl (kB, 3000, .inl f1))] sz) := by
  refine Met.ofW (cc := prog_8_method_4_code) (maxL := 5) (ret := some .int) (by decide +kernel) rfl ?_
  intro p e s m args below meth c s₁ B hml hv
  obtain ⟨rfl, hsz, hP, hK, hD0, hE⟩ := hv
  have hx := B.exec
  have hb := B.bytes
  have hr := B.returns
  have hts : ∀ w ∈ gT, w.before _ s = true := fun w h => atoms_spec (ws := Cond.code (⟨"AlgolJudge$Tokens", "scanFrom", "([BII)I"⟩ : MethodName) prog_8_method_4_code 5 (some .int) :: gT) B.pre w (List.mem_cons_of_mem _ h)
  have hown : s.vm.findClass "AlgolJudge$Tokens" = some m.cls := findClass_of_methodNamed B.named
  have hlocks := B.notSynchronized
  subst hsz
  have hD := hD0.self (sz := s.heap.size)
  generalize hAe : va_A [(h2, .inr (0, [.ref h9, .ref h10, .ref h11, .ref h12, .int tc, .int ta, .int td, .int tf])), (h9, .inl (kI, 3001, .inl f9)), (h10, .inl (kI, 3001, .inl f10)), (h11, .inl (kJ, 3001, .inr (.inl f11))), (h12, .inl (kJ, 27, .inr (.inl f12))), (h1, .inl (kB, 3000, .inl f1))] s.heap.size = A at hD hE ⊢
  have hA : ∀ q : Nat, s.heap.size ≤ q → A q := fun q h => by rw [← hAe]; exact Or.inr h
  have hS : va_S A s.heap s.heap [] := va_S.rf
  have hP : va_P D cls9 [(h2, .inr (0, [.ref h9, .ref h10, .ref h11, .ref h12, .int tc, .int ta, .int td, .int tf])), (h9, .inl (kI, 3001, .inl f9)), (h10, .inl (kI, 3001, .inl f10)), (h11, .inl (kJ, 3001, .inr (.inl f11))), (h12, .inl (kJ, 27, .inr (.inl f12))), (h1, .inl (kB, 3000, .inl f1))] s.heap := hP
  have hl := lv_entry ([.ref h2, .ref h1, .int p2, .int p3]) (n := 5) (Nat.le_of_ble_eq_true rfl)
  rw [lg_entry_eq]
  generalize (lg_sl ([.ref h2, .ref h1, .int p2, .int p3]) ++ List.replicate (5 - (lg_sl ([.ref h2, .ref h1, .int p2, .int p3])).length) Slot.unset).toArray = ls at hl ⊢
  have hl : lv_has ls 5 [(0, .ref h2), (1, .ref h1), (2, .int p2), (3, .int p3)] := hl
  refine lv_aload_n hx hb d_8_4_0 rfl (lv_at hl 1 rfl) ?_
  refine lv_iload_n hx hb d_8_4_1 rfl (lv_at hl 3 rfl) ?_
  refine va_bald hx hb hK hP 5 2 rfl rfl (vp_in_iff.mpr ⟨by omega, by omega⟩) d_8_4_2 ?_
  refine lv_topi (fun z_1 ez_1 => ?_)
  refine lv_istore (lv' := [(4, .int z_1), (0, .ref h2), (1, .ref h1), (2, .int p2), (3, .int p3)]) hx hb d_8_4_3 hl (by decide +kernel) rfl (fun ls hl => ?_)
  refine lv_iload hx hb d_8_4_5 (lv_at hl 0 rfl) ?_
  refine lv_bipush (v := 32) hx hb d_8_4_7 (by decide +kernel) ?_
  refine lv_icmp_eq (tgt := 19) hx hb d_8_4_9 (by decide +kernel) (fun c_2 => ?_) (fun c_2 => ?_)
  · skip
    have tc_2 : z_1.toInt = 32 := congrArg Int32.toInt c_2
    refine lv_iload_n hx hb d_8_4_19 rfl (lv_at hl 4 rfl) ?_
    refine lv_iconst (v := 1) hx hb d_8_4_20 (by decide +kernel) ?_
    refine lv_iadd hx hb d_8_4_21 ?_
    refine lv_topi (fun y_3 ey_3 => ?_)
    have ty_3 : y_3.toInt = p3.toInt + 1 := by rw [ey_3]; exact zaddc (by decide +kernel) (by omega) (by omega)
    have hP9 := hP.sub (ws' := [(h2, .inr (0, [.ref h9, .ref h10, .ref h11, .ref h12, .int tc, .int ta, .int td, .int tf])), (h9, .inl (kI, 3001, .inl f9)), (h10, .inl (kI, 3001, .inl f10)), (h11, .inl (kJ, 3001, .inr (.inl f11))), (h12, .inl (kJ, 27, .inr (.inl f12))), (h1, .inl (kB, 3000, .inl f1))]) [0, 1, 2, 3, 4, 5] rfl
    have hD9 := hD.sub (ws' := [(h2, .inr (0, [.ref h9, .ref h10, .ref h11, .ref h12, .int tc, .int ta, .int td, .int tf])), (h9, .inl (kI, 3001, .inl f9)), (h10, .inl (kI, 3001, .inl f10)), (h11, .inl (kJ, 3001, .inr (.inl f11))), (h12, .inl (kJ, 27, .inr (.inl f12))), (h1, .inl (kB, 3000, .inl f1))]) [0, 1, 2, 3, 4, 5] (by decide) rfl
    have hz_3 : tSt (tB f1) p2.toInt p3.toInt tc f9 f10 f11 tc f9 f10 f11 y_3.toInt := (P_fr0 (by rw [tB_z ez_1]; show (_ = 32 ∨ _ = 10); omega) (by omega))
    have hrp : 0 ≤ y_3.toInt := by first |  omega | assumption | exact pk_nc _ | exact Or.inl ⟨by omega, by omega, by assumption⟩ | exact Or.inr ⟨by omega, by decide +kernel⟩ | exact fun h9 => absurd h9 (by omega) | exact fun _ => isH_no1 (by omega) | exact fun _ => isH_no2 (by assumption) (by assumption) (by omega) | (intro h9; omega) | (intro h8 h9; omega)
    exact W.iret (v := y_3) hx hb hr (fun t ht hW => ⟨⟨y_3, y_3, rfl, ⟨rfl, hrp⟩, tc, f9, f10, f11, hf_C1, hf_C2, hf_T6, hz_3, xEnd hK hP9 hD9 ht hW⟩, hS.F ht⟩) hS.2.2 d_8_4_22
  · skip
    have tc_2 : ¬ z_1.toInt = 32 := fun h9 => c_2 (Int32.toInt_inj.mp h9)
    refine lv_iload hx hb d_8_4_12 (lv_at hl 0 rfl) ?_
    refine lv_bipush (v := 10) hx hb d_8_4_14 (by decide +kernel) ?_
    refine lv_icmp_ne (tgt := 23) hx hb d_8_4_16 (by decide +kernel) (fun c_4 => ?_) (fun c_4 => ?_)
    · skip
      have tc_4 : ¬ z_1.toInt = 10 := fun h9 => c_4 (Int32.toInt_inj.mp h9)
      refine lv_iload hx hb d_8_4_23 (lv_at hl 0 rfl) ?_
      have hPc := hP.sub (ws' := []) [] rfl
      have hDc := hD.sub (ws' := []) [] (by decide) rfl
      have hFc := va_free (wc := []) hD hS hA [] rfl
      refine va_calli (va_runS (As := [.int z_1]) (rest := []) ⟨hx, hb, hml, hown, hts⟩ (g_Tokens_isLetter l D kI kJ kB kZ _ (z_1) ) (va_cwS 1 hts (gT_S m_207 m_208 m_121 (gT_ws m_209)) rfl rfl rfl (by decide +kernel) ⟨(Nat.le_of_ble_eq_true rfl), (Nat.le_of_ble_eq_true rfl)⟩) ⟨xBlind xOk_N, xAtN hK hPc hDc⟩ rfl rfl hl.1 rfl (lv_room (Nat.le_of_ble_eq_true rfl)) d_8_4_25 ⟨(Nat.le_of_ble_eq_true rfl), (Nat.le_of_ble_eq_true rfl)⟩) hS (fun q _ h => hFc q h) hFc (fun r_5 u t H locs ht hvm hw_6 hB hz1 hk1 hS => ?_)
      clear hz1
      obtain ⟨hu9, hw_6⟩ := hw_6
      subst hu9
      revert hB
      refine anI fun hb_7 => fun hB => ?_
      have hb_7 : (r_5.toInt = 1 ∧ (97 ≤ z_1.toInt ∧ z_1.toInt ≤ 122)) ∨ (r_5.toInt = 0 ∧ ¬ (97 ≤ z_1.toInt ∧ z_1.toInt ≤ 122)) := hb_7
      have hPD := xJoin (wr := [(h2, .inr (0, [.ref h9, .ref h10, .ref h11, .ref h12, .int tc, .int ta, .int td, .int tf])), (h9, .inl (kI, 3001, .inl f9)), (h10, .inl (kI, 3001, .inl f10)), (h11, .inl (kJ, 3001, .inr (.inl f11))), (h12, .inl (kJ, 27, .inr (.inl f12))), (h1, .inl (kB, 3000, .inl f1))]) (w1 := []) hP hD [] [0, 1, 2, 3, 4, 5] rfl rfl (by decide) (by decide) hk1 hFc ht hB
      replace hP : va_P D cls9 [(h2, .inr (0, [.ref h9, .ref h10, .ref h11, .ref h12, .int tc, .int ta, .int td, .int tf])), (h9, .inl (kI, 3001, .inl f9)), (h10, .inl (kI, 3001, .inl f10)), (h11, .inl (kJ, 3001, .inr (.inl f11))), (h12, .inl (kJ, 27, .inr (.inl f12))), (h1, .inl (kB, 3000, .inl f1))] H := hPD.1
      replace hD : va_D A [(h2, .inr (0, [.ref h9, .ref h10, .ref h11, .ref h12, .int tc, .int ta, .int td, .int tf])), (h9, .inl (kI, 3001, .inl f9)), (h10, .inl (kI, 3001, .inl f10)), (h11, .inl (kJ, 3001, .inr (.inl f11))), (h12, .inl (kJ, 27, .inr (.inl f12))), (h1, .inl (kB, 3000, .inl f1))] := hPD.2
      clear hPD hB hk1 hPc hDc hFc
      refine lv_if_eq (tgt := 39) hx hb d_8_4_28 (by decide +kernel) (fun c_8 => ?_) (fun c_8 => ?_)
      · skip
        have tc_8 : r_5.toInt = 0 := congrArg Int32.toInt c_8
        refine lv_iload hx hb d_8_4_39 (lv_at hl 0 rfl) ?_
        have hPc := hP.sub (ws' := []) [] rfl
        have hDc := hD.sub (ws' := []) [] (by decide) rfl
        have hFc := va_free (wc := []) hD hS hA [] rfl
        refine va_calli (va_runS (As := [.int z_1]) (rest := []) ⟨hx, hb, hml, hown, hts⟩ (g_Tokens_isDigit l D kI kJ kB kZ _ (z_1) ) (va_cwS 1 hts (gT_S m_463 m_464 m_121 (gT_ws m_465)) rfl rfl rfl (by decide +kernel) ⟨(Nat.le_of_ble_eq_true rfl), (Nat.le_of_ble_eq_true rfl)⟩) ⟨xBlind xOk_N, xAtN hK hPc hDc⟩ rfl rfl hl.1 rfl (lv_room (Nat.le_of_ble_eq_true rfl)) d_8_4_41 ⟨(Nat.le_of_ble_eq_true rfl), (Nat.le_of_ble_eq_true rfl)⟩) hS (fun q _ h => hFc q h) hFc (fun r_9 u t H locs ht hvm hw_10 hB hz1 hk1 hS => ?_)
        clear hz1
        obtain ⟨hu9, hw_10⟩ := hw_10
        subst hu9
        revert hB
        refine anI fun hb_11 => fun hB => ?_
        have hb_11 : (r_9.toInt = 1 ∧ (48 ≤ z_1.toInt ∧ z_1.toInt ≤ 57)) ∨ (r_9.toInt = 0 ∧ ¬ (48 ≤ z_1.toInt ∧ z_1.toInt ≤ 57)) := hb_11
        have hPD := xJoin (wr := [(h2, .inr (0, [.ref h9, .ref h10, .ref h11, .ref h12, .int tc, .int ta, .int td, .int tf])), (h9, .inl (kI, 3001, .inl f9)), (h10, .inl (kI, 3001, .inl f10)), (h11, .inl (kJ, 3001, .inr (.inl f11))), (h12, .inl (kJ, 27, .inr (.inl f12))), (h1, .inl (kB, 3000, .inl f1))]) (w1 := []) hP hD [] [0, 1, 2, 3, 4, 5] rfl rfl (by decide) (by decide) hk1 hFc ht hB
        replace hP : va_P D cls9 [(h2, .inr (0, [.ref h9, .ref h10, .ref h11, .ref h12, .int tc, .int ta, .int td, .int tf])), (h9, .inl (kI, 3001, .inl f9)), (h10, .inl (kI, 3001, .inl f10)), (h11, .inl (kJ, 3001, .inr (.inl f11))), (h12, .inl (kJ, 27, .inr (.inl f12))), (h1, .inl (kB, 3000, .inl f1))] H := hPD.1
        replace hD : va_D A [(h2, .inr (0, [.ref h9, .ref h10, .ref h11, .ref h12, .int tc, .int ta, .int td, .int tf])), (h9, .inl (kI, 3001, .inl f9)), (h10, .inl (kI, 3001, .inl f10)), (h11, .inl (kJ, 3001, .inr (.inl f11))), (h12, .inl (kJ, 27, .inr (.inl f12))), (h1, .inl (kB, 3000, .inl f1))] := hPD.2
        clear hPD hB hk1 hPc hDc hFc
        refine lv_if_eq (tgt := 55) hx hb d_8_4_44 (by decide +kernel) (fun c_12 => ?_) (fun c_12 => ?_)
        · skip
          have tc_12 : r_9.toInt = 0 := congrArg Int32.toInt c_12
          refine lv_aload_n hx hb d_8_4_55 rfl (lv_at hl 1 rfl) ?_
          refine lv_aload_n hx hb d_8_4_56 rfl (lv_at hl 2 rfl) ?_
          refine lv_iload_n hx hb d_8_4_57 rfl (lv_at hl 3 rfl) ?_
          refine lv_iload_n hx hb d_8_4_58 rfl (lv_at hl 4 rfl) ?_
          have hPc := hP.sub (ws' := [(h2, .inr (0, [.ref h9, .ref h10, .ref h11, .ref h12, .int tc, .int ta, .int td, .int tf])), (h9, .inl (kI, 3001, .inl f9)), (h10, .inl (kI, 3001, .inl f10)), (h11, .inl (kJ, 3001, .inr (.inl f11))), (h12, .inl (kJ, 27, .inr (.inl f12))), (h1, .inl (kB, 3000, .inl f1))]) [0, 1, 2, 3, 4, 5] rfl
          have hDc := hD.sub (ws' := [(h2, .inr (0, [.ref h9, .ref h10, .ref h11, .ref h12, .int tc, .int ta, .int td, .int tf])), (h9, .inl (kI, 3001, .inl f9)), (h10, .inl (kI, 3001, .inl f10)), (h11, .inl (kJ, 3001, .inr (.inl f11))), (h12, .inl (kJ, 27, .inr (.inl f12))), (h1, .inl (kB, 3000, .inl f1))]) [0, 1, 2, 3, 4, 5] (by decide) rfl
          have hFc := va_free (wc := [(h2, .inr (0, [.ref h9, .ref h10, .ref h11, .ref h12, .int tc, .int ta, .int td, .int tf])), (h9, .inl (kI, 3001, .inl f9)), (h10, .inl (kI, 3001, .inl f10)), (h11, .inl (kJ, 3001, .inr (.inl f11))), (h12, .inl (kJ, 27, .inr (.inl f12))), (h1, .inl (kB, 3000, .inl f1))]) hD hS hA [0, 1, 2, 3, 4, 5] rfl
          refine va_calli (va_runV (As := [.ref h1, .int p2, .int p3]) (rest := []) ⟨hx, hb, hml, hown, hts⟩ (g_Tokens_scanSign l D kI kJ kB kZ _ (h1) (h2) (h9) (h10) (h11) (h12) (tc) (ta) (td) (tf) (f9) (f10) (f11) (f12) (f1) (p2) (p3) (sA) (sV) hf_C1 hf_C2 hf_T6 hf_WK hf_BR hq_0 hq_1 hq_2 hq_3) (cwV 3 hts (gT_V m_480 m_482 m_7 m_121 (gT_ws m_483)) rfl rfl rfl (by decide +kernel) ⟨(Nat.le_of_ble_eq_true rfl), (Nat.le_of_ble_eq_true rfl)⟩) ⟨xBlind (xOk_E sA sV), va_recv hK hP (ci := 0) (q0 := 0) rfl rfl, xAt (xOk_E sA sV) hK hPc hDc hS hFc hE⟩ rfl rfl hl.1 rfl (lv_room (Nat.le_of_ble_eq_true rfl)) d_8_4_59 ⟨(Nat.le_of_ble_eq_true rfl), (Nat.le_of_ble_eq_true rfl)⟩) hS (fun q _ h => hFc q h) hFc (fun r_13 u t H locs ht hvm hw_14 hB hz1 hk1 hS => ?_)
          clear hz1
          obtain ⟨hu9, hw_14⟩ := hw_14
          subst hu9
          revert hB
          refine exI fun x_15 => exI fun x_16 => exI fun x_17 => exI fun x_18 => anI fun hb_19 => anI fun hb_20 => anI fun hb_21 => anI fun hb_22 => fun hB => ?_
          have hb_22 : tSg (tB f1) p2.toInt p3.toInt tc f9 f10 f11 x_15 x_16 x_17 x_18 r_13.toInt := hb_22
          have hPD := xJoin (wr := []) (w1 := [(h2, .inr (0, [.ref h9, .ref h10, .ref h11, .ref h12, .int x_15, .int ta, .int td, .int tf])), (h9, .inl (kI, 3001, .inl x_16)), (h10, .inl (kI, 3001, .inl x_17)), (h11, .inl (kJ, 3001, .inr (.inl x_18))), (h12, .inl (kJ, 27, .inr (.inl f12))), (h1, .inl (kB, 3000, .inl f1))]) hP hD [0, 1, 2, 3, 4, 5] [] rfl rfl (by decide) (by decide) hk1 hFc ht hB
          replace hP : va_P D cls9 [(h2, .inr (0, [.ref h9, .ref h10, .ref h11, .ref h12, .int x_15, .int ta, .int td, .int tf])), (h9, .inl (kI, 3001, .inl x_16)), (h10, .inl (kI, 3001, .inl x_17)), (h11, .inl (kJ, 3001, .inr (.inl x_18))), (h12, .inl (kJ, 27, .inr (.inl f12))), (h1, .inl (kB, 3000, .inl f1))] H := hPD.1
          replace hD : va_D A [(h2, .inr (0, [.ref h9, .ref h10, .ref h11, .ref h12, .int x_15, .int ta, .int td, .int tf])), (h9, .inl (kI, 3001, .inl x_16)), (h10, .inl (kI, 3001, .inl x_17)), (h11, .inl (kJ, 3001, .inr (.inl x_18))), (h12, .inl (kJ, 27, .inr (.inl f12))), (h1, .inl (kB, 3000, .inl f1))] := hPD.2
          clear hPD hB hk1 hPc hDc hFc
          have hw_14 : 0 ≤ r_13.toInt := hw_14
          have hP9 := hP.sub (ws' := [(h2, .inr (0, [.ref h9, .ref h10, .ref h11, .ref h12, .int x_15, .int ta, .int td, .int tf])), (h9, .inl (kI, 3001, .inl x_16)), (h10, .inl (kI, 3001, .inl x_17)), (h11, .inl (kJ, 3001, .inr (.inl x_18))), (h12, .inl (kJ, 27, .inr (.inl f12))), (h1, .inl (kB, 3000, .inl f1))]) [0, 1, 2, 3, 4, 5] rfl
          have hD9 := hD.sub (ws' := [(h2, .inr (0, [.ref h9, .ref h10, .ref h11, .ref h12, .int x_15, .int ta, .int td, .int tf])), (h9, .inl (kI, 3001, .inl x_16)), (h10, .inl (kI, 3001, .inl x_17)), (h11, .inl (kJ, 3001, .inr (.inl x_18))), (h12, .inl (kJ, 27, .inr (.inl f12))), (h1, .inl (kB, 3000, .inl f1))]) [0, 1, 2, 3, 4, 5] (by decide) rfl
          have hz_3 : tSt (tB f1) p2.toInt p3.toInt tc f9 f10 f11 x_15 x_16 x_17 x_18 r_13.toInt := (P_fr3 (by rw [tB_z ez_1]; show ¬ (_ = 32 ∨ _ = 10); omega) (by rw [tB_z ez_1]; show ¬ (97 ≤ _ ∧ _ ≤ 122); omega) (by rw [tB_z ez_1]; show ¬ (48 ≤ _ ∧ _ ≤ 57); omega) hb_22)
          have hrp : 0 ≤ r_13.toInt := by first |  omega | assumption | exact pk_nc _ | exact Or.inl ⟨by omega, by omega, by assumption⟩ | exact Or.inr ⟨by omega, by decide +kernel⟩ | exact fun h9 => absurd h9 (by omega) | exact fun _ => isH_no1 (by omega) | exact fun _ => isH_no2 (by assumption) (by assumption) (by omega) | (intro h9; omega) | (intro h8 h9; omega)
          exact W.iret (v := r_13) hx hb hr (fun t ht hW => ⟨⟨r_13, r_13, rfl, ⟨rfl, hrp⟩, x_15, x_16, x_17, x_18, hb_19, hb_20, hb_21, hz_3, xEnd hK hP9 hD9 ht hW⟩, hS.F ht⟩) hS.2.2 d_8_4_62
        · skip
          have tc_12 : ¬ r_9.toInt = 0 := fun h9 => c_12 (Int32.toInt_inj.mp h9)
          refine lv_aload_n hx hb d_8_4_47 rfl (lv_at hl 1 rfl) ?_
          refine lv_aload_n hx hb d_8_4_48 rfl (lv_at hl 2 rfl) ?_
          refine lv_iload_n hx hb d_8_4_49 rfl (lv_at hl 3 rfl) ?_
          refine lv_iload_n hx hb d_8_4_50 rfl (lv_at hl 4 rfl) ?_
          have hPc := hP.sub (ws' := [(h2, .inr (0, [.ref h9, .ref h10, .ref h11, .ref h12, .int tc, .int ta, .int td, .int tf])), (h9, .inl (kI, 3001, .inl f9)), (h10, .inl (kI, 3001, .inl f10)), (h11, .inl (kJ, 3001, .inr (.inl f11))), (h12, .inl (kJ, 27, .inr (.inl f12))), (h1, .inl (kB, 3000, .inl f1))]) [0, 1, 2, 3, 4, 5] rfl
          have hDc := hD.sub (ws' := [(h2, .inr (0, [.ref h9, .ref h10, .ref h11, .ref h12, .int tc, .int ta, .int td, .int tf])), (h9, .inl (kI, 3001, .inl f9)), (h10, .inl (kI, 3001, .inl f10)), (h11, .inl (kJ, 3001, .inr (.inl f11))), (h12, .inl (kJ, 27, .inr (.inl f12))), (h1, .inl (kB, 3000, .inl f1))]) [0, 1, 2, 3, 4, 5] (by decide) rfl
          have hFc := va_free (wc := [(h2, .inr (0, [.ref h9, .ref h10, .ref h11, .ref h12, .int tc, .int ta, .int td, .int tf])), (h9, .inl (kI, 3001, .inl f9)), (h10, .inl (kI, 3001, .inl f10)), (h11, .inl (kJ, 3001, .inr (.inl f11))), (h12, .inl (kJ, 27, .inr (.inl f12))), (h1, .inl (kB, 3000, .inl f1))]) hD hS hA [0, 1, 2, 3, 4, 5] rfl
          refine va_calli (va_runV (As := [.ref h1, .int p2, .int p3]) (rest := []) ⟨hx, hb, hml, hown, hts⟩ (g_Tokens_scanNumber l D kI kJ kB kZ _ (h1) (h2) (h9) (h10) (h11) (h12) (tc) (ta) (td) (tf) (f9) (f10) (f11) (f12) (f1) (p2) (p3) hf_C1 hf_C2 hf_T6 hf_WK hf_BR hq_0 hq_1 hq_2 hq_3) (cwV 3 hts (gT_V m_474 m_476 m_6 m_121 (gT_ws m_477)) rfl rfl rfl (by decide +kernel) ⟨(Nat.le_of_ble_eq_true rfl), (Nat.le_of_ble_eq_true rfl)⟩) ⟨xBlind xOk_N, va_recv hK hP (ci := 0) (q0 := 0) rfl rfl, xAtN hK hPc hDc⟩ rfl rfl hl.1 rfl (lv_room (Nat.le_of_ble_eq_true rfl)) d_8_4_51 ⟨(Nat.le_of_ble_eq_true rfl), (Nat.le_of_ble_eq_true rfl)⟩) hS (fun q _ h => hFc q h) hFc (fun r_23 u t H locs ht hvm hw_24 hB hz1 hk1 hS => ?_)
          clear hz1
          obtain ⟨hu9, hw_24⟩ := hw_24
          subst hu9
          revert hB
          refine exI fun x_25 => exI fun x_26 => exI fun x_27 => exI fun x_28 => anI fun hb_29 => anI fun hb_30 => anI fun hb_31 => anI fun hb_32 => fun hB => ?_
          have hb_32 : tNu (tB f1) p2.toInt p3.toInt tc f9 f10 f11 x_25 x_26 x_27 x_28 r_23.toInt := hb_32
          have hPD := xJoin (wr := []) (w1 := [(h2, .inr (0, [.ref h9, .ref h10, .ref h11, .ref h12, .int x_25, .int ta, .int td, .int tf])), (h9, .inl (kI, 3001, .inl x_26)), (h10, .inl (kI, 3001, .inl x_27)), (h11, .inl (kJ, 3001, .inr (.inl x_28))), (h12, .inl (kJ, 27, .inr (.inl f12))), (h1, .inl (kB, 3000, .inl f1))]) hP hD [0, 1, 2, 3, 4, 5] [] rfl rfl (by decide) (by decide) hk1 hFc ht hB
          replace hP : va_P D cls9 [(h2, .inr (0, [.ref h9, .ref h10, .ref h11, .ref h12, .int x_25, .int ta, .int td, .int tf])), (h9, .inl (kI, 3001, .inl x_26)), (h10, .inl (kI, 3001, .inl x_27)), (h11, .inl (kJ, 3001, .inr (.inl x_28))), (h12, .inl (kJ, 27, .inr (.inl f12))), (h1, .inl (kB, 3000, .inl f1))] H := hPD.1
          replace hD : va_D A [(h2, .inr (0, [.ref h9, .ref h10, .ref h11, .ref h12, .int x_25, .int ta, .int td, .int tf])), (h9, .inl (kI, 3001, .inl x_26)), (h10, .inl (kI, 3001, .inl x_27)), (h11, .inl (kJ, 3001, .inr (.inl x_28))), (h12, .inl (kJ, 27, .inr (.inl f12))), (h1, .inl (kB, 3000, .inl f1))] := hPD.2
          clear hPD hB hk1 hPc hDc hFc
          have hw_24 : 0 ≤ r_23.toInt := hw_24
          have hP9 := hP.sub (ws' := [(h2, .inr (0, [.ref h9, .ref h10, .ref h11, .ref h12, .int x_25, .int ta, .int td, .int tf])), (h9, .inl (kI, 3001, .inl x_26)), (h10, .inl (kI, 3001, .inl x_27)), (h11, .inl (kJ, 3001, .inr (.inl x_28))), (h12, .inl (kJ, 27, .inr (.inl f12))), (h1, .inl (kB, 3000, .inl f1))]) [0, 1, 2, 3, 4, 5] rfl
          have hD9 := hD.sub (ws' := [(h2, .inr (0, [.ref h9, .ref h10, .ref h11, .ref h12, .int x_25, .int ta, .int td, .int tf])), (h9, .inl (kI, 3001, .inl x_26)), (h10, .inl (kI, 3001, .inl x_27)), (h11, .inl (kJ, 3001, .inr (.inl x_28))), (h12, .inl (kJ, 27, .inr (.inl f12))), (h1, .inl (kB, 3000, .inl f1))]) [0, 1, 2, 3, 4, 5] (by decide) rfl
          have hz_3 : tSt (tB f1) p2.toInt p3.toInt tc f9 f10 f11 x_25 x_26 x_27 x_28 r_23.toInt := (P_fr2 (by rw [tB_z ez_1]; show ¬ (_ = 32 ∨ _ = 10); omega) (by rw [tB_z ez_1]; show ¬ (97 ≤ _ ∧ _ ≤ 122); omega) (by rw [tB_z ez_1]; show (48 ≤ _ ∧ _ ≤ 57); omega) hb_32)
          have hrp : 0 ≤ r_23.toInt := by first |  omega | assumption | exact pk_nc _ | exact Or.inl ⟨by omega, by omega, by assumption⟩ | exact Or.inr ⟨by omega, by decide +kernel⟩ | exact fun h9 => absurd h9 (by omega) | exact fun _ => isH_no1 (by omega) | exact fun _ => isH_no2 (by assumption) (by assumption) (by omega) | (intro h9; omega) | (intro h8 h9; omega)
          exact W.iret (v := r_23) hx hb hr (fun t ht hW => ⟨⟨r_23, r_23, rfl, ⟨rfl, hrp⟩, x_25, x_26, x_27, x_28, hb_29, hb_30, hb_31, hz_3, xEnd hK hP9 hD9 ht hW⟩, hS.F ht⟩) hS.2.2 d_8_4_54
      · skip
        have tc_8 : ¬ r_5.toInt = 0 := fun h9 => c_8 (Int32.toInt_inj.mp h9)
        refine lv_aload_n hx hb d_8_4_31 rfl (lv_at hl 1 rfl) ?_
        refine lv_aload_n hx hb d_8_4_32 rfl (lv_at hl 2 rfl) ?_
        refine lv_iload_n hx hb d_8_4_33 rfl (lv_at hl 3 rfl) ?_
        refine lv_iload_n hx hb d_8_4_34 rfl (lv_at hl 4 rfl) ?_
        have hPc := hP.sub (ws' := [(h2, .inr (0, [.ref h9, .ref h10, .ref h11, .ref h12, .int tc, .int ta, .int td, .int tf])), (h9, .inl (kI, 3001, .inl f9)), (h10, .inl (kI, 3001, .inl f10)), (h11, .inl (kJ, 3001, .inr (.inl f11))), (h12, .inl (kJ, 27, .inr (.inl f12))), (h1, .inl (kB, 3000, .inl f1))]) [0, 1, 2, 3, 4, 5] rfl
        have hDc := hD.sub (ws' := [(h2, .inr (0, [.ref h9, .ref h10, .ref h11, .ref h12, .int tc, .int ta, .int td, .int tf])), (h9, .inl (kI, 3001, .inl f9)), (h10, .inl (kI, 3001, .inl f10)), (h11, .inl (kJ, 3001, .inr (.inl f11))), (h12, .inl (kJ, 27, .inr (.inl f12))), (h1, .inl (kB, 3000, .inl f1))]) [0, 1, 2, 3, 4, 5] (by decide) rfl
        have hFc := va_free (wc := [(h2, .inr (0, [.ref h9, .ref h10, .ref h11, .ref h12, .int tc, .int ta, .int td, .int tf])), (h9, .inl (kI, 3001, .inl f9)), (h10, .inl (kI, 3001, .inl f10)), (h11, .inl (kJ, 3001, .inr (.inl f11))), (h12, .inl (kJ, 27, .inr (.inl f12))), (h1, .inl (kB, 3000, .inl f1))]) hD hS hA [0, 1, 2, 3, 4, 5] rfl
        refine va_calli (va_runV (As := [.ref h1, .int p2, .int p3]) (rest := []) ⟨hx, hb, hml, hown, hts⟩ (g_Tokens_scanWord l D kI kJ kB kZ _ (h1) (h2) (h9) (h10) (h11) (h12) (tc) (ta) (td) (tf) (f9) (f10) (f11) (f12) (f1) (p2) (p3) hf_C1 hf_C2 hf_T6 hf_WK hf_BR hq_0 hq_1 hq_2 hq_3) (cwV 3 hts (gT_V m_456 m_458 m_3 m_121 (gT_ws m_459)) rfl rfl rfl (by decide +kernel) ⟨(Nat.le_of_ble_eq_true rfl), (Nat.le_of_ble_eq_true rfl)⟩) ⟨xBlind xOk_N, va_recv hK hP (ci := 0) (q0 := 0) rfl rfl, xAtN hK hPc hDc⟩ rfl rfl hl.1 rfl (lv_room (Nat.le_of_ble_eq_true rfl)) d_8_4_35 ⟨(Nat.le_of_ble_eq_true rfl), (Nat.le_of_ble_eq_true rfl)⟩) hS (fun q _ h => hFc q h) hFc (fun r_33 u t H locs ht hvm hw_34 hB hz1 hk1 hS => ?_)
        clear hz1
        obtain ⟨hu9, hw_34⟩ := hw_34
        subst hu9
        revert hB
        refine exI fun x_35 => exI fun x_36 => exI fun x_37 => exI fun x_38 => anI fun hb_39 => anI fun hb_40 => anI fun hb_41 => anI fun hb_42 => fun hB => ?_
        have hb_42 : tWd (tB f1) p2.toInt p3.toInt tc f9 f10 f11 x_35 x_36 x_37 x_38 r_33.toInt := hb_42
        have hPD := xJoin (wr := []) (w1 := [(h2, .inr (0, [.ref h9, .ref h10, .ref h11, .ref h12, .int x_35, .int ta, .int td, .int tf])), (h9, .inl (kI, 3001, .inl x_36)), (h10, .inl (kI, 3001, .inl x_37)), (h11, .inl (kJ, 3001, .inr (.inl x_38))), (h12, .inl (kJ, 27, .inr (.inl f12))), (h1, .inl (kB, 3000, .inl f1))]) hP hD [0, 1, 2, 3, 4, 5] [] rfl rfl (by decide) (by decide) hk1 hFc ht hB
        replace hP : va_P D cls9 [(h2, .inr (0, [.ref h9, .ref h10, .ref h11, .ref h12, .int x_35, .int ta, .int td, .int tf])), (h9, .inl (kI, 3001, .inl x_36)), (h10, .inl (kI, 3001, .inl x_37)), (h11, .inl (kJ, 3001, .inr (.inl x_38))), (h12, .inl (kJ, 27, .inr (.inl f12))), (h1, .inl (kB, 3000, .inl f1))] H := hPD.1
        replace hD : va_D A [(h2, .inr (0, [.ref h9, .ref h10, .ref h11, .ref h12, .int x_35, .int ta, .int td, .int tf])), (h9, .inl (kI, 3001, .inl x_36)), (h10, .inl (kI, 3001, .inl x_37)), (h11, .inl (kJ, 3001, .inr (.inl x_38))), (h12, .inl (kJ, 27, .inr (.inl f12))), (h1, .inl (kB, 3000, .inl f1))] := hPD.2
        clear hPD hB hk1 hPc hDc hFc
        have hw_34 : 0 ≤ r_33.toInt := hw_34
        have hP9 := hP.sub (ws' := [(h2, .inr (0, [.ref h9, .ref h10, .ref h11, .ref h12, .int x_35, .int ta, .int td, .int tf])), (h9, .inl (kI, 3001, .inl x_36)), (h10, .inl (kI, 3001, .inl x_37)), (h11, .inl (kJ, 3001, .inr (.inl x_38))), (h12, .inl (kJ, 27, .inr (.inl f12))), (h1, .inl (kB, 3000, .inl f1))]) [0, 1, 2, 3, 4, 5] rfl
        have hD9 := hD.sub (ws' := [(h2, .inr (0, [.ref h9, .ref h10, .ref h11, .ref h12, .int x_35, .int ta, .int td, .int tf])), (h9, .inl (kI, 3001, .inl x_36)), (h10, .inl (kI, 3001, .inl x_37)), (h11, .inl (kJ, 3001, .inr (.inl x_38))), (h12, .inl (kJ, 27, .inr (.inl f12))), (h1, .inl (kB, 3000, .inl f1))]) [0, 1, 2, 3, 4, 5] (by decide) rfl
        have hz_3 : tSt (tB f1) p2.toInt p3.toInt tc f9 f10 f11 x_35 x_36 x_37 x_38 r_33.toInt := (P_fr1 (by rw [tB_z ez_1]; show ¬ (_ = 32 ∨ _ = 10); omega) (by rw [tB_z ez_1]; show (97 ≤ _ ∧ _ ≤ 122); omega)  hb_42)
        have hrp : 0 ≤ r_33.toInt := by first |  omega | assumption | exact pk_nc _ | exact Or.inl ⟨by omega, by omega, by assumption⟩ | exact Or.inr ⟨by omega, by decide +kernel⟩ | exact fun h9 => absurd h9 (by omega) | exact fun _ => isH_no1 (by omega) | exact fun _ => isH_no2 (by assumption) (by assumption) (by omega) | (intro h9; omega) | (intro h8 h9; omega)
        exact W.iret (v := r_33) hx hb hr (fun t ht hW => ⟨⟨r_33, r_33, rfl, ⟨rfl, hrp⟩, x_35, x_36, x_37, x_38, hb_39, hb_40, hb_41, hz_3, xEnd hK hP9 hD9 ht hW⟩, hS.F ht⟩) hS.2.2 d_8_4_38
    · skip
      have tc_4 : z_1.toInt = 10 := congrArg Int32.toInt c_4
      refine lv_iload_n hx hb d_8_4_19 rfl (lv_at hl 4 rfl) ?_
      refine lv_iconst (v := 1) hx hb d_8_4_20 (by decide +kernel) ?_
      refine lv_iadd hx hb d_8_4_21 ?_
      refine lv_topi (fun y_43 ey_43 => ?_)
      have ty_43 : y_43.toInt = p3.toInt + 1 := by rw [ey_43]; exact zaddc (by decide +kernel) (by omega) (by omega)
      have hP9 := hP.sub (ws' := [(h2, .inr (0, [.ref h9, .ref h10, .ref h11, .ref h12, .int tc, .int ta, .int td, .int tf])), (h9, .inl (kI, 3001, .inl f9)), (h10, .inl (kI, 3001, .inl f10)), (h11, .inl (kJ, 3001, .inr (.inl f11))), (h12, .inl (kJ, 27, .inr (.inl f12))), (h1, .inl (kB, 3000, .inl f1))]) [0, 1, 2, 3, 4, 5] rfl
      have hD9 := hD.sub (ws' := [(h2, .inr (0, [.ref h9, .ref h10, .ref h11, .ref h12, .int tc, .int ta, .int td, .int tf])), (h9, .inl (kI, 3001, .inl f9)), (h10, .inl (kI, 3001, .inl f10)), (h11, .inl (kJ, 3001, .inr (.inl f11))), (h12, .inl (kJ, 27, .inr (.inl f12))), (h1, .inl (kB, 3000, .inl f1))]) [0, 1, 2, 3, 4, 5] (by decide) rfl
      have hz_3 : tSt (tB f1) p2.toInt p3.toInt tc f9 f10 f11 tc f9 f10 f11 y_43.toInt := (P_fr0 (by rw [tB_z ez_1]; show (_ = 32 ∨ _ = 10); omega) (by omega))
      have hrp : 0 ≤ y_43.toInt := by first |  omega | assumption | exact pk_nc _ | exact Or.inl ⟨by omega, by omega, by assumption⟩ | exact Or.inr ⟨by omega, by decide +kernel⟩ | exact fun h9 => absurd h9 (by omega) | exact fun _ => isH_no1 (by omega) | exact fun _ => isH_no2 (by assumption) (by assumption) (by omega) | (intro h9; omega) | (intro h8 h9; omega)
      exact W.iret (v := y_43) hx hb hr (fun t ht hW => ⟨⟨y_43, y_43, rfl, ⟨rfl, hrp⟩, tc, f9, f10, f11, hf_C1, hf_C2, hf_T6, hz_3, xEnd hK hP9 hD9 ht hW⟩, hS.F ht⟩) hS.2.2 d_8_4_22
set_option maxHeartbeats 8000000 in
set_option maxRecDepth 100000 in
theorem g_Tokens_rewind_s (l : Launch) (D : va_G) (kI kJ kB kZ : ClassId) (sz : Nat) (h2 : Nat) (h9 : Nat) (h10 : Nat) (h11 : Nat) (h12 : Nat) (tc : Int32) (ta : Int32) (td : Int32) (tf : Int32) (f9 : Nat → Int32) (f10 : Nat → Int32) (f11 : Nat → Int64) (f12 : Nat → Int64)  : Met l (⟨"AlgolJudge$Tokens", "rewind", "()V"⟩ : MethodName) (Cond.code (⟨"AlgolJudge$Tokens", "rewind", "()V"⟩ : MethodName) prog_8_method_15_code 1 (none) :: gT) ({ frames := 0, cells := 0, slots := 0, locals := 0 }) (va_Pc [.ref h2] (xP D (xT kI kJ kB kZ) xN [(h2, .inr (0, [.ref h9, .ref h10, .ref h11, .ref h12, .int tc, .int ta, .int td, .int tf])), (h9, .inl (kI, 3001, .inl f9)), (h10, .inl (kI, 3001, .inl f10)), (h11, .inl (kJ, 3001, .inr (.inl f11))), (h12, .inl (kJ, 27, .inr (.inl f12)))] sz)) (va_Qv (fun _ : Unit => True) (fun _ t => xQ D (xT kI kJ kB kZ) (va_A [(h2, .inr (0, [.ref h9, .ref h10, .ref h11, .ref h12, .int tc, .int ta, .int td, .int tf])), (h9, .inl (kI, 3001, .inl f9)), (h10, .inl (kI, 3001, .inl f10)), (h11, .inl (kJ, 3001, .inr (.inl f11))), (h12, .inl (kJ, 27, .inr (.inl f12)))] sz) [(h2, .inr (0, [.ref h9, .ref h10, .ref h11, .ref h12, .int tc, .int 0, .int 0, .int tf])), (h9, .inl (kI, 3001, .inl f9)), (h10, .inl (kI, 3001, .inl f10)), (h11, .inl (kJ, 3001, .inr (.inl f11))), (h12, .inl (kJ, 27, .inr (.inl f12)))] t) (va_A [(h2, .inr (0, [.ref h9, .ref h10, .ref h11, .ref h12, .int tc, .int ta, .int td, .int tf])), (h9, .inl (kI, 3001, .inl f9)), (h10, .inl (kI, 3001, .inl f10)), (h11, .inl (kJ, 3001, .inr (.inl f11))), (h12, .inl (kJ, 27, .inr (.inl f12)))] sz)) 0 0 (va_A [(h2, .inr (0, [.ref h9, .ref h10, .ref h11, .ref h12, .int tc, .int ta, .int td, .int tf])), (h9, .inl (kI, 3001, .inl f9)), (h10, .inl (kI, 3001, .inl f10)), (h11, .inl (kJ, 3001, .inr (.inl f11))), (h12, .inl (kJ, 27, .inr (.inl f12)))] sz) := by
  refine Met.ofW (cc := prog_8_method_15_code) (maxL := 1) (ret := none) (by decide +kernel) rfl ?_
  intro p e s m args below meth c s₁ B hml hv
  obtain ⟨rfl, hsz, hP, hK, hD0, hE⟩ := hv
  have hx := B.exec
  have hb := B.bytes
  have hr := B.returns
  have hts : ∀ w ∈ gT, w.before _ s = true := fun w h => atoms_spec (ws := Cond.code (⟨"AlgolJudge$Tokens", "rewind", "()V"⟩ : MethodName) prog_8_method_15_code 1 (none) :: gT) B.pre w (List.mem_cons_of_mem _ h)
  have hown : s.vm.findClass "AlgolJudge$Tokens" = some m.cls := findClass_of_methodNamed B.named
  have hlocks := B.notSynchronized
  subst hsz
  have hD := hD0.self (sz := s.heap.size)
  generalize hAe : va_A [(h2, .inr (0, [.ref h9, .ref h10, .ref h11, .ref h12, .int tc, .int ta, .int td, .int tf])), (h9, .inl (kI, 3001, .inl f9)), (h10, .inl (kI, 3001, .inl f10)), (h11, .inl (kJ, 3001, .inr (.inl f11))), (h12, .inl (kJ, 27, .inr (.inl f12)))] s.heap.size = A at hD hE ⊢
  have hA : ∀ q : Nat, s.heap.size ≤ q → A q := fun q h => by rw [← hAe]; exact Or.inr h
  have hS : va_S A s.heap s.heap [] := va_S.rf
  have hP : va_P D cls9 [(h2, .inr (0, [.ref h9, .ref h10, .ref h11, .ref h12, .int tc, .int ta, .int td, .int tf])), (h9, .inl (kI, 3001, .inl f9)), (h10, .inl (kI, 3001, .inl f10)), (h11, .inl (kJ, 3001, .inr (.inl f11))), (h12, .inl (kJ, 27, .inr (.inl f12)))] s.heap := hP
  have hl := lv_entry ([.ref h2]) (n := 1) (Nat.le_of_ble_eq_true rfl)
  rw [lg_entry_eq]
  generalize (lg_sl ([.ref h2]) ++ List.replicate (1 - (lg_sl ([.ref h2])).length) Slot.unset).toArray = ls at hl ⊢
  have hl : lv_has ls 1 [(0, .ref h2)] := hl
  refine lv_aload_n hx hb d_8_15_0 rfl (lv_at hl 0 rfl) ?_
  refine lv_iconst (v := 0) hx hb d_8_15_1 (by decide +kernel) ?_
  refine va_put (D := D) (ci := 0) (v := .int 0) (ty := .int) (C := "AlgolJudge$Tokens") (T := T_Tokens) (N := 8) hx hb hts i_Tokens t_Tokens t_Tokens_ok n_Tokens hown hK hP hD hS 0 rfl rfl 5 (by decide +kernel) (hts _ m_215) (fun _ h9 => h9) rfl (by decide +kernel) rfl rfl (Nat.le_of_ble_eq_true rfl) d_8_15_2 (fun H locs hP1 hD1 hS1 => ?_)
  replace hP : va_P D cls9 [(h2, .inr (0, [.ref h9, .ref h10, .ref h11, .ref h12, .int tc, .int 0, .int td, .int tf])), (h9, .inl (kI, 3001, .inl f9)), (h10, .inl (kI, 3001, .inl f10)), (h11, .inl (kJ, 3001, .inr (.inl f11))), (h12, .inl (kJ, 27, .inr (.inl f12)))] H := hP1
  replace hD : va_D A [(h2, .inr (0, [.ref h9, .ref h10, .ref h11, .ref h12, .int tc, .int 0, .int td, .int tf])), (h9, .inl (kI, 3001, .inl f9)), (h10, .inl (kI, 3001, .inl f10)), (h11, .inl (kJ, 3001, .inr (.inl f11))), (h12, .inl (kJ, 27, .inr (.inl f12)))] := hD1
  replace hS := hS1
  clear hP1 hD1 hS1
  refine lv_aload_n hx hb d_8_15_5 rfl (lv_at hl 0 rfl) ?_
  refine lv_iconst (v := 0) hx hb d_8_15_6 (by decide +kernel) ?_
  refine va_put (D := D) (ci := 0) (v := .int 0) (ty := .int) (C := "AlgolJudge$Tokens") (T := T_Tokens) (N := 8) hx hb hts i_Tokens t_Tokens t_Tokens_ok n_Tokens hown hK hP hD hS 0 rfl rfl 6 (by decide +kernel) (hts _ m_216) (fun _ h9 => h9) rfl (by decide +kernel) rfl rfl (Nat.le_of_ble_eq_true rfl) d_8_15_7 (fun H locs hP1 hD1 hS1 => ?_)
  replace hP : va_P D cls9 [(h2, .inr (0, [.ref h9, .ref h10, .ref h11, .ref h12, .int tc, .int 0, .int 0, .int tf])), (h9, .inl (kI, 3001, .inl f9)), (h10, .inl (kI, 3001, .inl f10)), (h11, .inl (kJ, 3001, .inr (.inl f11))), (h12, .inl (kJ, 27, .inr (.inl f12)))] H := hP1
  replace hD : va_D A [(h2, .inr (0, [.ref h9, .ref h10, .ref h11, .ref h12, .int tc, .int 0, .int 0, .int tf])), (h9, .inl (kI, 3001, .inl f9)), (h10, .inl (kI, 3001, .inl f10)), (h11, .inl (kJ, 3001, .inr (.inl f11))), (h12, .inl (kJ, 27, .inr (.inl f12)))] := hD1
  replace hS := hS1
  clear hP1 hD1 hS1
  have hP9 := hP.sub (ws' := [(h2, .inr (0, [.ref h9, .ref h10, .ref h11, .ref h12, .int tc, .int 0, .int 0, .int tf])), (h9, .inl (kI, 3001, .inl f9)), (h10, .inl (kI, 3001, .inl f10)), (h11, .inl (kJ, 3001, .inr (.inl f11))), (h12, .inl (kJ, 27, .inr (.inl f12)))]) [0, 1, 2, 3, 4] rfl
  have hD9 := hD.sub (ws' := [(h2, .inr (0, [.ref h9, .ref h10, .ref h11, .ref h12, .int tc, .int 0, .int 0, .int tf])), (h9, .inl (kI, 3001, .inl f9)), (h10, .inl (kI, 3001, .inl f10)), (h11, .inl (kJ, 3001, .inr (.inl f11))), (h12, .inl (kJ, 27, .inr (.inl f12)))]) [0, 1, 2, 3, 4] (by decide) rfl
  exact W.vret hx hb hr (fun t ht hW => ⟨⟨(), rfl, trivial, xEnd hK hP9 hD9 ht hW⟩, hS.F ht⟩) hS.2.2 d_8_15_10
