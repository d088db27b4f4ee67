set_option maxHeartbeats 8000000 in
set_option maxRecDepth 100000 in
theorem g_Tokens_scanWord (l : Launch) (D : va_G) (kI kJ kB kZ : ClassId) (sz : Nat) (h1 : Nat) (h2 : Nat) (h9 : Nat) (h10 : Nat) (h11 : Nat) (h12 : Nat) (tc : Int32) (ta : Int32) (td : Int32) (tf : Int32) (f9 : Nat → Int32) (f10 : Nat → Int32) (f11 : Nat → Int64) (f12 : Nat → Int64) (f1 : Nat → Int32) (p2 : Int32) (p3 : Int32) (hf_C1 : 0 ≤ tc.toInt) (hf_C2 : tc.toInt ≤ 3001) (hf_T6 : ∀ j : Nat, 0 ≤ (f10 j).toInt) (hq_0 : 0 ≤ p3.toInt) (hq_1 : p3.toInt < p2.toInt) (hq_2 : p2.toInt ≤ 3000) : Met l (⟨"AlgolJudge$Tokens", "scanWord", "([BII)I"⟩ : MethodName) (Cond.code (⟨"AlgolJudge$Tokens", "scanWord", "([BII)I"⟩ : MethodName) prog_8_method_5_code 7 (some .int) :: gT) ({ frames := 2, cells := 0, slots := 0, locals := 42 }) (va_Pc [.ref h2, .ref h1, .int p2, .int p3] (xP D (xT kI kJ kB kZ) xN [(h2, .inr (0, [.ref h9, .ref h10, .ref h11, .ref h12, .int tc, .int ta, .int td, .int tf])), (h9, .inl (kI, 3001, .inl f9)), (h10, .inl (kI, 3001, .inl f10)), (h11, .inl (kJ, 3001, .inr (.inl f11))), (h12, .inl (kJ, 27, .inr (.inl f12))), (h1, .inl (kB, 3000, .inl f1))] sz)) (va_Qi (fun (r : Int32) (_ : Unit) => 0 ≤ r.toInt) (fun _ t => ∃ tc' : Int32, ∃ f9' : Nat → Int32, ∃ f10' : Nat → Int32, ∃ f11' : Nat → Int64, (0 ≤ tc'.toInt) ∧ (tc'.toInt ≤ 3001) ∧ (∀ j : Nat, 0 ≤ (f10' j).toInt) ∧ xQ D (xT kI kJ kB kZ) (va_A [(h2, .inr (0, [.ref h9, .ref h10, .ref h11, .ref h12, .int tc, .int ta, .int td, .int tf])), (h9, .inl (kI, 3001, .inl f9)), (h10, .inl (kI, 3001, .inl f10)), (h11, .inl (kJ, 3001, .inr (.inl f11))), (h12, .inl (kJ, 27, .inr (.inl f12))), (h1, .inl (kB, 3000, .inl f1))] sz) [(h2, .inr (0, [.ref h9, .ref h10, .ref h11, .ref h12, .int tc', .int ta, .int td, .int tf])), (h9, .inl (kI, 3001, .inl f9')), (h10, .inl (kI, 3001, .inl f10')), (h11, .inl (kJ, 3001, .inr (.inl f11'))), (h12, .inl (kJ, 27, .inr (.inl f12))), (h1, .inl (kB, 3000, .inl f1))] t) (va_A [(h2, .inr (0, [.ref h9, .ref h10, .ref h11, .ref h12, .int tc, .int ta, .int td, .int tf])), (h9, .inl (kI, 3001, .inl f9)), (h10, .inl (kI, 3001, .inl f10)), (h11, .inl (kJ, 3001, .inr (.inl f11))), (h12, .inl (kJ, 27, .inr (.inl f12))), (h1, .inl (kB, 3000, .inl f1))] sz)) 0 0 (va_A [(h2, .inr (0, [.ref h9, .ref h10, .ref h11, .ref h12, .int tc, .int ta, .int td, .int tf])), (h9, .inl (kI, 3001, .inl f9)), (h10, .inl (kI, 3001, .inl f10)), (h11, .inl (kJ, 3001, .inr (.inl f11))), (h12, .inl (kJ, 27, .inr (.inl f12))), (h1, .inl (kB, 3000, .inl f1))] sz) := by
  refine Met.ofW (cc := prog_8_method_5_code) (maxL := 7) (ret := some .int) (by decide +kernel) rfl ?_
  intro p e s m args below meth c s₁ B hml hv
  obtain ⟨rfl, hsz, hP, hK, hD0, hE⟩ := hv
  have hx := B.exec
  have hb := B.bytes
  have hr := B.returns
  have hts : ∀ w ∈ gT, w.before _ s = true := fun w h => atoms_spec (ws := Cond.code (⟨"AlgolJudge$Tokens", "scanWord", "([BII)I"⟩ : MethodName) prog_8_method_5_code 7 (some .int) :: gT) B.pre w (List.mem_cons_of_mem _ h)
  have hown : s.vm.findClass "AlgolJudge$Tokens" = some m.cls := findClass_of_methodNamed B.named
  have hlocks := B.notSynchronized
  subst hsz
  have hD := hD0.self (sz := s.heap.size)
  generalize hAe : va_A [(h2, .inr (0, [.ref h9, .ref h10, .ref h11, .ref h12, .int tc, .int ta, .int td, .int tf])), (h9, .inl (kI, 3001, .inl f9)), (h10, .inl (kI, 3001, .inl f10)), (h11, .inl (kJ, 3001, .inr (.inl f11))), (h12, .inl (kJ, 27, .inr (.inl f12))), (h1, .inl (kB, 3000, .inl f1))] s.heap.size = A at hD hE ⊢
  have hA : ∀ q : Nat, s.heap.size ≤ q → A q := fun q h => by rw [← hAe]; exact Or.inr h
  have hS : va_S A s.heap s.heap [] := va_S.rf
  have hP : va_P D cls9 [(h2, .inr (0, [.ref h9, .ref h10, .ref h11, .ref h12, .int tc, .int ta, .int td, .int tf])), (h9, .inl (kI, 3001, .inl f9)), (h10, .inl (kI, 3001, .inl f10)), (h11, .inl (kJ, 3001, .inr (.inl f11))), (h12, .inl (kJ, 27, .inr (.inl f12))), (h1, .inl (kB, 3000, .inl f1))] s.heap := hP
  have hl := lv_entry ([.ref h2, .ref h1, .int p2, .int p3]) (n := 7) (Nat.le_of_ble_eq_true rfl)
  rw [lg_entry_eq]
  generalize (lg_sl ([.ref h2, .ref h1, .int p2, .int p3]) ++ List.replicate (7 - (lg_sl ([.ref h2, .ref h1, .int p2, .int p3])).length) Slot.unset).toArray = ls at hl ⊢
  have hl : lv_has ls 7 [(0, .ref h2), (1, .ref h1), (2, .int p2), (3, .int p3)] := hl
  refine lv_lconst (v := 0) hx hb d_8_5_0 (by decide +kernel) ?_
  refine lv_lstore (lv' := [(4, .long 0), (0, .ref h2), (1, .ref h1), (2, .int p2), (3, .int p3)]) hx hb d_8_5_1 hl (by decide +kernel) rfl (fun ls hl => ?_)
  refine lv_iload_n hx hb d_8_5_3 rfl (lv_at hl 4 rfl) ?_
  refine lv_istore (lv' := [(6, .int p3), (4, .long 0), (0, .ref h2), (1, .ref h1), (2, .int p2), (3, .int p3)]) hx hb d_8_5_4 hl (by decide +kernel) rfl (fun ls hl => ?_)
  refine xLoop (I := fun n H locs ls => ∃ v6_6 : Int32, ∃ v6_4 : Int64, (p3.toInt ≤ v6_6.toInt) ∧ (v6_6.toInt ≤ p2.toInt) ∧ n = (p2.toInt - v6_6.toInt).toNat ∧ va_P D cls9 [(h2, .inr (0, [.ref h9, .ref h10, .ref h11, .ref h12, .int tc, .int ta, .int td, .int tf])), (h9, .inl (kI, 3001, .inl f9)), (h10, .inl (kI, 3001, .inl f10)), (h11, .inl (kJ, 3001, .inr (.inl f11))), (h12, .inl (kJ, 27, .inr (.inl f12))), (h1, .inl (kB, 3000, .inl f1))] H ∧ va_D A [(h2, .inr (0, [.ref h9, .ref h10, .ref h11, .ref h12, .int tc, .int ta, .int td, .int tf])), (h9, .inl (kI, 3001, .inl f9)), (h10, .inl (kI, 3001, .inl f10)), (h11, .inl (kJ, 3001, .inr (.inl f11))), (h12, .inl (kJ, 27, .inr (.inl f12))), (h1, .inl (kB, 3000, .inl f1))] ∧ va_S A s.heap H locs ∧ lv_has ls 7 [(6, .int v6_6), (4, .long v6_4), (0, .ref h2), (1, .ref h1), (2, .int p2), (3, .int p3)]) ?_ _ _ _ _ ⟨p3, 0, (show p3.toInt ≤ p3.toInt from (by first | assumption | omega)), (show p3.toInt ≤ p2.toInt from (by first | assumption | omega)), rfl, hP.sub (ws' := [(h2, .inr (0, [.ref h9, .ref h10, .ref h11, .ref h12, .int tc, .int ta, .int td, .int tf])), (h9, .inl (kI, 3001, .inl f9)), (h10, .inl (kI, 3001, .inl f10)), (h11, .inl (kJ, 3001, .inr (.inl f11))), (h12, .inl (kJ, 27, .inr (.inl f12))), (h1, .inl (kB, 3000, .inl f1))]) [0, 1, 2, 3, 4, 5] rfl, hD.sub (ws' := [(h2, .inr (0, [.ref h9, .ref h10, .ref h11, .ref h12, .int tc, .int ta, .int td, .int tf])), (h9, .inl (kI, 3001, .inl f9)), (h10, .inl (kI, 3001, .inl f10)), (h11, .inl (kJ, 3001, .inr (.inl f11))), (h12, .inl (kJ, 27, .inr (.inl f12))), (h1, .inl (kB, 3000, .inl f1))]) [0, 1, 2, 3, 4, 5] (by decide) rfl, hS, lv_sub hl [0, 1, 2, 3, 4, 5] rfl⟩
  intro n_3 H locs ls hI9 ih_4
  revert hI9
  refine exI fun v6_6 => exI fun v6_4 => anI fun hl_1 => anI fun hl_2 => anI fun hn_3 => anI fun hP => anI fun hD => anI fun hS => fun hl => ?_
  refine lv_iload hx hb d_8_5_6 (lv_at hl 0 rfl) ?_
  refine lv_iload_n hx hb d_8_5_8 rfl (lv_at hl 4 rfl) ?_
  refine lv_icmp_ge (tgt := 48) hx hb d_8_5_9 (by decide +kernel) (fun c_5 => ?_) (fun c_5 => ?_)
  · skip
    have tc_5 : p2.toInt ≤ v6_6.toInt := Int32.le_iff_toInt_le.mp c_5
    refine lv_aload_n hx hb d_8_5_48 rfl (lv_at hl 2 rfl) ?_
    refine lv_aload_n hx hb d_8_5_49 rfl (lv_at hl 2 rfl) ?_
    refine lv_lload hx hb d_8_5_50 (lv_at hl 1 rfl) ?_
    refine lv_iload hx hb d_8_5_52 (lv_at hl 0 rfl) ?_
    refine lv_iload_n hx hb d_8_5_54 rfl (lv_at hl 5 rfl) ?_
    refine lv_isub hx hb d_8_5_55 ?_
    refine lv_topi (fun y_6 ey_6 => ?_)
    have ty_6 : y_6.toInt = v6_6.toInt - p3.toInt := by rw [ey_6]; exact zsub (by omega) (by omega)
    have hPc := hP.sub (ws' := [(h2, .inr (0, [.ref h9, .ref h10, .ref h11, .ref h12, .int tc, .int ta, .int td, .int tf])), (h9, .inl (kI, 3001, .inl f9)), (h10, .inl (kI, 3001, .inl f10)), (h11, .inl (kJ, 3001, .inr (.inl f11))), (h12, .inl (kJ, 27, .inr (.inl f12)))]) [0, 1, 2, 3, 4] rfl
    have hDc := hD.sub (ws' := [(h2, .inr (0, [.ref h9, .ref h10, .ref h11, .ref h12, .int tc, .int ta, .int td, .int tf])), (h9, .inl (kI, 3001, .inl f9)), (h10, .inl (kI, 3001, .inl f10)), (h11, .inl (kJ, 3001, .inr (.inl f11))), (h12, .inl (kJ, 27, .inr (.inl f12)))]) [0, 1, 2, 3, 4] (by decide) rfl
    have hFc := va_free (wc := [(h2, .inr (0, [.ref h9, .ref h10, .ref h11, .ref h12, .int tc, .int ta, .int td, .int tf])), (h9, .inl (kI, 3001, .inl f9)), (h10, .inl (kI, 3001, .inl f10)), (h11, .inl (kJ, 3001, .inr (.inl f11))), (h12, .inl (kJ, 27, .inr (.inl f12)))]) hD hS hA [0, 1, 2, 3, 4] rfl
    refine va_calli (va_runV (As := [.long v6_4, .int y_6]) (rest := [.ref h2]) ⟨hx, hb, hml, hown, hts⟩ (g_Tokens_kindOfWord l D kI kJ kB kZ _ (h2) (h9) (h10) (h11) (h12) (tc) (ta) (td) (tf) (f9) (f10) (f11) (f12) (v6_4) (y_6) hf_C1 hf_C2 hf_T6) (cwV 2 hts (gT_V m_466 m_468 m_4 m_121 (gT_ws m_469)) rfl rfl rfl (by decide +kernel) ⟨(Nat.le_of_ble_eq_true rfl), (Nat.le_of_ble_eq_true rfl)⟩) ⟨xBlind xOk_N, va_recv hK hP (ci := 0) (q0 := 0) rfl rfl, xAtN hK hPc hDc⟩ rfl rfl hl.1 rfl (lv_room (Nat.le_of_ble_eq_true rfl)) d_8_5_56 ⟨(Nat.le_of_ble_eq_true rfl), (Nat.le_of_ble_eq_true rfl)⟩) hS (fun q _ h => hFc q h) hFc (fun r_7 u t H locs ht hvm hw_8 hB hz1 hk1 hS => ?_)
    clear hz1
    have hPD := xJoin (wr := [(h1, .inl (kB, 3000, .inl f1))]) (w1 := [(h2, .inr (0, [.ref h9, .ref h10, .ref h11, .ref h12, .int tc, .int ta, .int td, .int tf])), (h9, .inl (kI, 3001, .inl f9)), (h10, .inl (kI, 3001, .inl f10)), (h11, .inl (kJ, 3001, .inr (.inl f11))), (h12, .inl (kJ, 27, .inr (.inl f12)))]) hP hD [0, 1, 2, 3, 4] [5] rfl rfl (by decide) (by decide) hk1 hFc ht hB
    replace hP : va_P D cls9 [(h1, .inl (kB, 3000, .inl f1)), (h2, .inr (0, [.ref h9, .ref h10, .ref h11, .ref h12, .int tc, .int ta, .int td, .int tf])), (h9, .inl (kI, 3001, .inl f9)), (h10, .inl (kI, 3001, .inl f10)), (h11, .inl (kJ, 3001, .inr (.inl f11))), (h12, .inl (kJ, 27, .inr (.inl f12)))] H := hPD.1
    replace hD : va_D A [(h1, .inl (kB, 3000, .inl f1)), (h2, .inr (0, [.ref h9, .ref h10, .ref h11, .ref h12, .int tc, .int ta, .int td, .int tf])), (h9, .inl (kI, 3001, .inl f9)), (h10, .inl (kI, 3001, .inl f10)), (h11, .inl (kJ, 3001, .inr (.inl f11))), (h12, .inl (kJ, 27, .inr (.inl f12)))] := hPD.2
    clear hPD hB hk1 hPc hDc hFc
    refine lv_iload_n hx hb d_8_5_59 rfl (lv_at hl 5 rfl) ?_
    refine lv_lload hx hb d_8_5_60 (lv_at hl 1 rfl) ?_
    have hPc := hP.sub (ws' := [(h2, .inr (0, [.ref h9, .ref h10, .ref h11, .ref h12, .int tc, .int ta, .int td, .int tf])), (h9, .inl (kI, 3001, .inl f9)), (h10, .inl (kI, 3001, .inl f10)), (h11, .inl (kJ, 3001, .inr (.inl f11))), (h12, .inl (kJ, 27, .inr (.inl f12)))]) [1, 2, 3, 4, 5] rfl
    have hDc := hD.sub (ws' := [(h2, .inr (0, [.ref h9, .ref h10, .ref h11, .ref h12, .int tc, .int ta, .int td, .int tf])), (h9, .inl (kI, 3001, .inl f9)), (h10, .inl (kI, 3001, .inl f10)), (h11, .inl (kJ, 3001, .inr (.inl f11))), (h12, .inl (kJ, 27, .inr (.inl f12)))]) [1, 2, 3, 4, 5] (by decide) rfl
    have hFc := va_free (wc := [(h2, .inr (0, [.ref h9, .ref h10, .ref h11, .ref h12, .int tc, .int ta, .int td, .int tf])), (h9, .inl (kI, 3001, .inl f9)), (h10, .inl (kI, 3001, .inl f10)), (h11, .inl (kJ, 3001, .inr (.inl f11))), (h12, .inl (kJ, 27, .inr (.inl f12)))]) hD hS hA [1, 2, 3, 4, 5] rfl
    refine va_callv (va_runV (As := [.int r_7, .int p3, .long v6_4]) (rest := []) ⟨hx, hb, hml, hown, hts⟩ (g_Tokens_add l D kI kJ kB kZ _ (h2) (h9) (h10) (h11) (h12) (tc) (ta) (td) (tf) (f9) (f10) (f11) (f12) (r_7) (p3) (v6_4) hf_C1 hf_C2 hf_T6 hq_0) (cwV 3 hts (gT_V m_470 m_472 m_5 m_121 (gT_ws m_473)) rfl rfl rfl (by decide +kernel) ⟨(Nat.le_of_ble_eq_true rfl), (Nat.le_of_ble_eq_true rfl)⟩) ⟨xBlind xOk_N, va_recv hK hP (ci := 0) (q0 := 1) rfl rfl, xAtN hK hPc hDc⟩ rfl rfl hl.1 rfl (lv_room (Nat.le_of_ble_eq_true rfl)) d_8_5_62 ⟨(Nat.le_of_ble_eq_true rfl), (Nat.le_of_ble_eq_true rfl)⟩) hS (fun q _ h => hFc q h) hFc (fun u t H locs ht hvm hw_10 hB hz1 hk1 hS => ?_)
    clear hz1
    revert hB
    refine exI fun x_11 => exI fun x_12 => exI fun x_13 => exI fun x_14 => anI fun hb_15 => anI fun hb_16 => anI fun hb_17 => anI fun hb_18 => fun hB => ?_
    have hPD := xJoin (wr := [(h1, .inl (kB, 3000, .inl f1))]) (w1 := [(h2, .inr (0, [.ref h9, .ref h10, .ref h11, .ref h12, .int x_11, .int ta, .int td, .int tf])), (h9, .inl (kI, 3001, .inl x_12)), (h10, .inl (kI, 3001, .inl x_13)), (h11, .inl (kJ, 3001, .inr (.inl x_14))), (h12, .inl (kJ, 27, .inr (.inl f12)))]) hP hD [1, 2, 3, 4, 5] [0] rfl rfl (by decide) (by decide) hk1 hFc ht hB
    replace hP : va_P D cls9 [(h1, .inl (kB, 3000, .inl f1)), (h2, .inr (0, [.ref h9, .ref h10, .ref h11, .ref h12, .int x_11, .int ta, .int td, .int tf])), (h9, .inl (kI, 3001, .inl x_12)), (h10, .inl (kI, 3001, .inl x_13)), (h11, .inl (kJ, 3001, .inr (.inl x_14))), (h12, .inl (kJ, 27, .inr (.inl f12)))] H := hPD.1
    replace hD : va_D A [(h1, .inl (kB, 3000, .inl f1)), (h2, .inr (0, [.ref h9, .ref h10, .ref h11, .ref h12, .int x_11, .int ta, .int td, .int tf])), (h9, .inl (kI, 3001, .inl x_12)), (h10, .inl (kI, 3001, .inl x_13)), (h11, .inl (kJ, 3001, .inr (.inl x_14))), (h12, .inl (kJ, 27, .inr (.inl f12)))] := hPD.2
    clear hPD hB hk1 hPc hDc hFc
    refine lv_iload hx hb d_8_5_65 (lv_at hl 0 rfl) ?_
    have hP9 := hP.sub (ws' := [(h2, .inr (0, [.ref h9, .ref h10, .ref h11, .ref h12, .int x_11, .int ta, .int td, .int tf])), (h9, .inl (kI, 3001, .inl x_12)), (h10, .inl (kI, 3001, .inl x_13)), (h11, .inl (kJ, 3001, .inr (.inl x_14))), (h12, .inl (kJ, 27, .inr (.inl f12))), (h1, .inl (kB, 3000, .inl f1))]) [1, 2, 3, 4, 5, 0] rfl
    have hD9 := hD.sub (ws' := [(h2, .inr (0, [.ref h9, .ref h10, .ref h11, .ref h12, .int x_11, .int ta, .int td, .int tf])), (h9, .inl (kI, 3001, .inl x_12)), (h10, .inl (kI, 3001, .inl x_13)), (h11, .inl (kJ, 3001, .inr (.inl x_14))), (h12, .inl (kJ, 27, .inr (.inl f12))), (h1, .inl (kB, 3000, .inl f1))]) [1, 2, 3, 4, 5, 0] (by decide) rfl
    have hrp : 0 ≤ v6_6.toInt := by first |  omega | assumption | exact pk_nc _ | exact Or.inl ⟨by omega, by omega, by assumption⟩ | exact Or.inr ⟨by omega, by decide +kernel⟩ | exact fun h9 => absurd h9 (by omega) | exact fun _ => isH_no1 (by omega) | exact fun _ => isH_no2 (by assumption) (by assumption) (by omega) | (intro h9; omega) | (intro h8 h9; omega)
    exact W.iret (v := v6_6) hx hb hr (fun t ht hW => ⟨⟨v6_6, (), rfl, hrp, x_11, x_12, x_13, x_14, hb_15, hb_16, hb_17, xEnd hK hP9 hD9 ht hW⟩, hS.F ht⟩) hS.2.2 d_8_5_67
  · skip
    have tc_5 : ¬ p2.toInt ≤ v6_6.toInt := fun h9 => c_5 (Int32.le_iff_toInt_le.mpr h9)
    refine lv_aload_n hx hb d_8_5_12 rfl (lv_at hl 3 rfl) ?_
    refine lv_iload hx hb d_8_5_13 (lv_at hl 0 rfl) ?_
    refine va_bald hx hb hK hP 5 2 rfl rfl (vp_in_iff.mpr ⟨by omega, by omega⟩) d_8_5_15 ?_
    refine lv_topi (fun z_19 ez_19 => ?_)
    have hPc := hP.sub (ws' := []) [] rfl
    have hDc := hD.sub (ws' := []) [] (by decide) rfl
    have hFc := va_free (wc := []) hD hS hA [] rfl
    refine va_calli (va_runS (As := [.int z_19]) (rest := []) ⟨hx, hb, hml, hown, hts⟩ (g_Tokens_isLetterOrDigit l D kI kJ kB kZ _ (z_19) ) (va_cwS 1 hts (gT_S m_460 m_461 m_121 (gT_ws m_462)) rfl rfl rfl (by decide +kernel) ⟨(Nat.le_of_ble_eq_true rfl), (Nat.le_of_ble_eq_true rfl)⟩) ⟨xBlind xOk_N, xAtN hK hPc hDc⟩ rfl rfl hl.1 rfl (lv_room (Nat.le_of_ble_eq_true rfl)) d_8_5_16 ⟨(Nat.le_of_ble_eq_true rfl), (Nat.le_of_ble_eq_true rfl)⟩) hS (fun q _ h => hFc q h) hFc (fun r_20 u t H locs ht hvm hw_21 hB hz1 hk1 hS => ?_)
    clear hz1
    have hPD := xJoin (wr := [(h2, .inr (0, [.ref h9, .ref h10, .ref h11, .ref h12, .int tc, .int ta, .int td, .int tf])), (h9, .inl (kI, 3001, .inl f9)), (h10, .inl (kI, 3001, .inl f10)), (h11, .inl (kJ, 3001, .inr (.inl f11))), (h12, .inl (kJ, 27, .inr (.inl f12))), (h1, .inl (kB, 3000, .inl f1))]) (w1 := []) hP hD [] [0, 1, 2, 3, 4, 5] rfl rfl (by decide) (by decide) hk1 hFc ht hB
    replace hP : va_P D cls9 [(h2, .inr (0, [.ref h9, .ref h10, .ref h11, .ref h12, .int tc, .int ta, .int td, .int tf])), (h9, .inl (kI, 3001, .inl f9)), (h10, .inl (kI, 3001, .inl f10)), (h11, .inl (kJ, 3001, .inr (.inl f11))), (h12, .inl (kJ, 27, .inr (.inl f12))), (h1, .inl (kB, 3000, .inl f1))] H := hPD.1
    replace hD : va_D A [(h2, .inr (0, [.ref h9, .ref h10, .ref h11, .ref h12, .int tc, .int ta, .int td, .int tf])), (h9, .inl (kI, 3001, .inl f9)), (h10, .inl (kI, 3001, .inl f10)), (h11, .inl (kJ, 3001, .inr (.inl f11))), (h12, .inl (kJ, 27, .inr (.inl f12))), (h1, .inl (kB, 3000, .inl f1))] := hPD.2
    clear hPD hB hk1 hPc hDc hFc
    refine lv_if_eq (tgt := 48) hx hb d_8_5_19 (by decide +kernel) (fun c_22 => ?_) (fun c_22 => ?_)
    · skip
      have tc_22 : r_20.toInt = 0 := congrArg Int32.toInt c_22
      refine lv_aload_n hx hb d_8_5_48 rfl (lv_at hl 2 rfl) ?_
      refine lv_aload_n hx hb d_8_5_49 rfl (lv_at hl 2 rfl) ?_
      refine lv_lload hx hb d_8_5_50 (lv_at hl 1 rfl) ?_
      refine lv_iload hx hb d_8_5_52 (lv_at hl 0 rfl) ?_
      refine lv_iload_n hx hb d_8_5_54 rfl (lv_at hl 5 rfl) ?_
      refine lv_isub hx hb d_8_5_55 ?_
      refine lv_topi (fun y_23 ey_23 => ?_)
      have ty_23 : y_23.toInt = v6_6.toInt - p3.toInt := by rw [ey_23]; exact zsub (by omega) (by omega)
      have hPc := hP.sub (ws' := [(h2, .inr (0, [.ref h9, .ref h10, .ref h11, .ref h12, .int tc, .int ta, .int td, .int tf])), (h9, .inl (kI, 3001, .inl f9)), (h10, .inl (kI, 3001, .inl f10)), (h11, .inl (kJ, 3001, .inr (.inl f11))), (h12, .inl (kJ, 27, .inr (.inl f12)))]) [0, 1, 2, 3, 4] rfl
      have hDc := hD.sub (ws' := [(h2, .inr (0, [.ref h9, .ref h10, .ref h11, .ref h12, .int tc, .int ta, .int td, .int tf])), (h9, .inl (kI, 3001, .inl f9)), (h10, .inl (kI, 3001, .inl f10)), (h11, .inl (kJ, 3001, .inr (.inl f11))), (h12, .inl (kJ, 27, .inr (.inl f12)))]) [0, 1, 2, 3, 4] (by decide) rfl
      have hFc := va_free (wc := [(h2, .inr (0, [.ref h9, .ref h10, .ref h11, .ref h12, .int tc, .int ta, .int td, .int tf])), (h9, .inl (kI, 3001, .inl f9)), (h10, .inl (kI, 3001, .inl f10)), (h11, .inl (kJ, 3001, .inr (.inl f11))), (h12, .inl (kJ, 27, .inr (.inl f12)))]) hD hS hA [0, 1, 2, 3, 4] rfl
      refine va_calli (va_runV (As := [.long v6_4, .int y_23]) (rest := [.ref h2]) ⟨hx, hb, hml, hown, hts⟩ (g_Tokens_kindOfWord l D kI kJ kB kZ _ (h2) (h9) (h10) (h11) (h12) (tc) (ta) (td) (tf) (f9) (f10) (f11) (f12) (v6_4) (y_23) hf_C1 hf_C2 hf_T6) (cwV 2 hts (gT_V m_466 m_468 m_4 m_121 (gT_ws m_469)) rfl rfl rfl (by decide +kernel) ⟨(Nat.le_of_ble_eq_true rfl), (Nat.le_of_ble_eq_true rfl)⟩) ⟨xBlind xOk_N, va_recv hK hP (ci := 0) (q0 := 0) rfl rfl, xAtN hK hPc hDc⟩ rfl rfl hl.1 rfl (lv_room (Nat.le_of_ble_eq_true rfl)) d_8_5_56 ⟨(Nat.le_of_ble_eq_true rfl), (Nat.le_of_ble_eq_true rfl)⟩) hS (fun q _ h => hFc q h) hFc (fun r_24 u t H locs ht hvm hw_25 hB hz1 hk1 hS => ?_)
      clear hz1
      have hPD := xJoin (wr := [(h1, .inl (kB, 3000, .inl f1))]) (w1 := [(h2, .inr (0, [.ref h9, .ref h10, .ref h11, .ref h12, .int tc, .int ta, .int td, .int tf])), (h9, .inl (kI, 3001, .inl f9)), (h10, .inl (kI, 3001, .inl f10)), (h11, .inl (kJ, 3001, .inr (.inl f11))), (h12, .inl (kJ, 27, .inr (.inl f12)))]) hP hD [0, 1, 2, 3, 4] [5] rfl rfl (by decide) (by decide) hk1 hFc ht hB
      replace hP : va_P D cls9 [(h1, .inl (kB, 3000, .inl f1)), (h2, .inr (0, [.ref h9, .ref h10, .ref h11, .ref h12, .int tc, .int ta, .int td, .int tf])), (h9, .inl (kI, 3001, .inl f9)), (h10, .inl (kI, 3001, .inl f10)), (h11, .inl (kJ, 3001, .inr (.inl f11))), (h12, .inl (kJ, 27, .inr (.inl f12)))] H := hPD.1
      replace hD : va_D A [(h1, .inl (kB, 3000, .inl f1)), (h2, .inr (0, [.ref h9, .ref h10, .ref h11, .ref h12, .int tc, .int ta, .int td, .int tf])), (h9, .inl (kI, 3001, .inl f9)), (h10, .inl (kI, 3001, .inl f10)), (h11, .inl (kJ, 3001, .inr (.inl f11))), (h12, .inl (kJ, 27, .inr (.inl f12)))] := hPD.2
      clear hPD hB hk1 hPc hDc hFc
      refine lv_iload_n hx hb d_8_5_59 rfl (lv_at hl 5 rfl) ?_
      refine lv_lload hx hb d_8_5_60 (lv_at hl 1 rfl) ?_
      have hPc := hP.sub (ws' := [(h2, .inr (0, [.ref h9, .ref h10, .ref h11, .ref h12, .int tc, .int ta, .int td, .int tf])), (h9, .inl (kI, 3001, .inl f9)), (h10, .inl (kI, 3001, .inl f10)), (h11, .inl (kJ, 3001, .inr (.inl f11))), (h12, .inl (kJ, 27, .inr (.inl f12)))]) [1, 2, 3, 4, 5] rfl
      have hDc := hD.sub (ws' := [(h2, .inr (0, [.ref h9, .ref h10, .ref h11, .ref h12, .int tc, .int ta, .int td, .int tf])), (h9, .inl (kI, 3001, .inl f9)), (h10, .inl (kI, 3001, .inl f10)), (h11, .inl (kJ, 3001, .inr (.inl f11))), (h12, .inl (kJ, 27, .inr (.inl f12)))]) [1, 2, 3, 4, 5] (by decide) rfl
      have hFc := va_free (wc := [(h2, .inr (0, [.ref h9, .ref h10, .ref h11, .ref h12, .int tc, .int ta, .int td, .int tf])), (h9, .inl (kI, 3001, .inl f9)), (h10, .inl (kI, 3001, .inl f10)), (h11, .inl (kJ, 3001, .inr (.inl f11))), (h12, .inl (kJ, 27, .inr (.inl f12)))]) hD hS hA [1, 2, 3, 4, 5] rfl
      refine va_callv (va_runV (As := [.int r_24, .int p3, .long v6_4]) (rest := []) ⟨hx, hb, hml, hown, hts⟩ (g_Tokens_add l D kI kJ kB kZ _ (h2) (h9) (h10) (h11) (h12) (tc) (ta) (td) (tf) (f9) (f10) (f11) (f12) (r_24) (p3) (v6_4) hf_C1 hf_C2 hf_T6 hq_0) (cwV 3 hts (gT_V m_470 m_472 m_5 m_121 (gT_ws m_473)) rfl rfl rfl (by decide +kernel) ⟨(Nat.le_of_ble_eq_true rfl), (Nat.le_of_ble_eq_true rfl)⟩) ⟨xBlind xOk_N, va_recv hK hP (ci := 0) (q0 := 1) rfl rfl, xAtN hK hPc hDc⟩ rfl rfl hl.1 rfl (lv_room (Nat.le_of_ble_eq_true rfl)) d_8_5_62 ⟨(Nat.le_of_ble_eq_true rfl), (Nat.le_of_ble_eq_true rfl)⟩) hS (fun q _ h => hFc q h) hFc (fun u t H locs ht hvm hw_27 hB hz1 hk1 hS => ?_)
      clear hz1
      revert hB
      refine exI fun x_28 => exI fun x_29 => exI fun x_30 => exI fun x_31 => anI fun hb_32 => anI fun hb_33 => anI fun hb_34 => anI fun hb_35 => fun hB => ?_
      have hPD := xJoin (wr := [(h1, .inl (kB, 3000, .inl f1))]) (w1 := [(h2, .inr (0, [.ref h9, .ref h10, .ref h11, .ref h12, .int x_28, .int ta, .int td, .int tf])), (h9, .inl (kI, 3001, .inl x_29)), (h10, .inl (kI, 3001, .inl x_30)), (h11, .inl (kJ, 3001, .inr (.inl x_31))), (h12, .inl (kJ, 27, .inr (.inl f12)))]) hP hD [1, 2, 3, 4, 5] [0] rfl rfl (by decide) (by decide) hk1 hFc ht hB
      replace hP : va_P D cls9 [(h1, .inl (kB, 3000, .inl f1)), (h2, .inr (0, [.ref h9, .ref h10, .ref h11, .ref h12, .int x_28, .int ta, .int td, .int tf])), (h9, .inl (kI, 3001, .inl x_29)), (h10, .inl (kI, 3001, .inl x_30)), (h11, .inl (kJ, 3001, .inr (.inl x_31))), (h12, .inl (kJ, 27, .inr (.inl f12)))] H := hPD.1
      replace hD : va_D A [(h1, .inl (kB, 3000, .inl f1)), (h2, .inr (0, [.ref h9, .ref h10, .ref h11, .ref h12, .int x_28, .int ta, .int td, .int tf])), (h9, .inl (kI, 3001, .inl x_29)), (h10, .inl (kI, 3001, .inl x_30)), (h11, .inl (kJ, 3001, .inr (.inl x_31))), (h12, .inl (kJ, 27, .inr (.inl f12)))] := hPD.2
      clear hPD hB hk1 hPc hDc hFc
      refine lv_iload hx hb d_8_5_65 (lv_at hl 0 rfl) ?_
      have hP9 := hP.sub (ws' := [(h2, .inr (0, [.ref h9, .ref h10, .ref h11, .ref h12, .int x_28, .int ta, .int td, .int tf])), (h9, .inl (kI, 3001, .inl x_29)), (h10, .inl (kI, 3001, .inl x_30)), (h11, .inl (kJ, 3001, .inr (.inl x_31))), (h12, .inl (kJ, 27, .inr (.inl f12))), (h1, .inl (kB, 3000, .inl f1))]) [1, 2, 3, 4, 5, 0] rfl
      have hD9 := hD.sub (ws' := [(h2, .inr (0, [.ref h9, .ref h10, .ref h11, .ref h12, .int x_28, .int ta, .int td, .int tf])), (h9, .inl (kI, 3001, .inl x_29)), (h10, .inl (kI, 3001, .inl x_30)), (h11, .inl (kJ, 3001, .inr (.inl x_31))), (h12, .inl (kJ, 27, .inr (.inl f12))), (h1, .inl (kB, 3000, .inl f1))]) [1, 2, 3, 4, 5, 0] (by decide) rfl
      have hrp : 0 ≤ v6_6.toInt := by first |  omega | assumption | exact pk_nc _ | exact Or.inl ⟨by omega, by omega, by assumption⟩ | exact Or.inr ⟨by omega, by decide +kernel⟩ | exact fun h9 => absurd h9 (by omega) | exact fun _ => isH_no1 (by omega) | exact fun _ => isH_no2 (by assumption) (by assumption) (by omega) | (intro h9; omega) | (intro h8 h9; omega)
      exact W.iret (v := v6_6) hx hb hr (fun t ht hW => ⟨⟨v6_6, (), rfl, hrp, x_28, x_29, x_30, x_31, hb_32, hb_33, hb_34, xEnd hK hP9 hD9 ht hW⟩, hS.F ht⟩) hS.2.2 d_8_5_67
    · skip
      have tc_22 : ¬ r_20.toInt = 0 := fun h9 => c_22 (Int32.toInt_inj.mp h9)
      refine lv_iload hx hb d_8_5_22 (lv_at hl 0 rfl) ?_
      refine lv_iload_n hx hb d_8_5_24 rfl (lv_at hl 5 rfl) ?_
      refine lv_isub hx hb d_8_5_25 ?_
      refine lv_topi (fun y_36 ey_36 => ?_)
      have ty_36 : y_36.toInt = v6_6.toInt - p3.toInt := by rw [ey_36]; exact zsub (by omega) (by omega)
      refine lv_bipush (v := 9) hx hb d_8_5_26 (by decide +kernel) ?_
      refine lv_icmp_ge (tgt := 42) hx hb d_8_5_28 (by decide +kernel) (fun c_37 => ?_) (fun c_37 => ?_)
      · skip
        have tc_37 : 9 ≤ y_36.toInt := Int32.le_iff_toInt_le.mp c_37
        obtain ⟨y_38, ey_38⟩ : ∃ y : Int32, y = v6_6 + 1 := ⟨_, rfl⟩
        have ty_38 : y_38.toInt = v6_6.toInt + 1 := by rw [ey_38]; exact zaddc (by decide +kernel) (by omega) (by omega)
        refine lv_iinc (v := y_38) (lv' := [(6, .int y_38), (4, .long v6_4), (0, .ref h2), (1, .ref h1), (2, .int p2), (3, .int p3)]) hx hb d_8_5_42 hl (k := 0) rfl (by rw [ey_38]; rfl) (by decide +kernel) rfl (fun ls hl => ?_)
        refine lv_goto (tgt := 6) hx hb d_8_5_45 (by decide +kernel) ?_
        exact ih_4 _ _ _ _ (by omega) ⟨y_38, v6_4, (show p3.toInt ≤ y_38.toInt from (by first | assumption | omega)), (show y_38.toInt ≤ p2.toInt from (by first | assumption | omega)), rfl, hP.sub (ws' := [(h2, .inr (0, [.ref h9, .ref h10, .ref h11, .ref h12, .int tc, .int ta, .int td, .int tf])), (h9, .inl (kI, 3001, .inl f9)), (h10, .inl (kI, 3001, .inl f10)), (h11, .inl (kJ, 3001, .inr (.inl f11))), (h12, .inl (kJ, 27, .inr (.inl f12))), (h1, .inl (kB, 3000, .inl f1))]) [0, 1, 2, 3, 4, 5] rfl, hD.sub (ws' := [(h2, .inr (0, [.ref h9, .ref h10, .ref h11, .ref h12, .int tc, .int ta, .int td, .int tf])), (h9, .inl (kI, 3001, .inl f9)), (h10, .inl (kI, 3001, .inl f10)), (h11, .inl (kJ, 3001, .inr (.inl f11))), (h12, .inl (kJ, 27, .inr (.inl f12))), (h1, .inl (kB, 3000, .inl f1))]) [0, 1, 2, 3, 4, 5] (by decide) rfl, hS, lv_sub hl [0, 1, 2, 3, 4, 5] rfl⟩
      · skip
        have tc_37 : ¬ 9 ≤ y_36.toInt := fun h9 => c_37 (Int32.le_iff_toInt_le.mpr h9)
        refine lv_lload hx hb d_8_5_31 (lv_at hl 1 rfl) ?_
        refine lv_aload_n hx hb d_8_5_33 rfl (lv_at hl 3 rfl) ?_
        refine lv_iload hx hb d_8_5_34 (lv_at hl 0 rfl) ?_
        refine va_bald hx hb hK hP 5 2 rfl rfl (vp_in_iff.mpr ⟨by omega, by omega⟩) d_8_5_36 ?_
        refine lv_topi (fun z_39 ez_39 => ?_)
        have hPc := hP.sub (ws' := []) [] rfl
        have hDc := hD.sub (ws' := []) [] (by decide) rfl
        have hFc := va_free (wc := []) hD hS hA [] rfl
        refine va_calll (va_runS (As := [.long v6_4, .int z_39]) (rest := []) ⟨hx, hb, hml, hown, hts⟩ (g_Tokens_longer l D kI kJ kB kZ _ (v6_4) (z_39) ) (va_cwS 2 hts (gT_S m_203 m_204 m_121 (gT_ws m_205)) rfl rfl rfl (by decide +kernel) ⟨(Nat.le_of_ble_eq_true rfl), (Nat.le_of_ble_eq_true rfl)⟩) ⟨xBlind xOk_N, xAtN hK hPc hDc⟩ rfl rfl hl.1 rfl (lv_room (Nat.le_of_ble_eq_true rfl)) d_8_5_37 ⟨(Nat.le_of_ble_eq_true rfl), (Nat.le_of_ble_eq_true rfl)⟩) hS (fun q _ h => hFc q h) hFc (fun r_40 u t H locs ht hvm hw_41 hB hz1 hk1 hS => ?_)
        clear hz1
        have hPD := xJoin (wr := [(h2, .inr (0, [.ref h9, .ref h10, .ref h11, .ref h12, .int tc, .int ta, .int td, .int tf])), (h9, .inl (kI, 3001, .inl f9)), (h10, .inl (kI, 3001, .inl f10)), (h11, .inl (kJ, 3001, .inr (.inl f11))), (h12, .inl (kJ, 27, .inr (.inl f12))), (h1, .inl (kB, 3000, .inl f1))]) (w1 := []) hP hD [] [0, 1, 2, 3, 4, 5] rfl rfl (by decide) (by decide) hk1 hFc ht hB
        replace hP : va_P D cls9 [(h2, .inr (0, [.ref h9, .ref h10, .ref h11, .ref h12, .int tc, .int ta, .int td, .int tf])), (h9, .inl (kI, 3001, .inl f9)), (h10, .inl (kI, 3001, .inl f10)), (h11, .inl (kJ, 3001, .inr (.inl f11))), (h12, .inl (kJ, 27, .inr (.inl f12))), (h1, .inl (kB, 3000, .inl f1))] H := hPD.1
        replace hD : va_D A [(h2, .inr (0, [.ref h9, .ref h10, .ref h11, .ref h12, .int tc, .int ta, .int td, .int tf])), (h9, .inl (kI, 3001, .inl f9)), (h10, .inl (kI, 3001, .inl f10)), (h11, .inl (kJ, 3001, .inr (.inl f11))), (h12, .inl (kJ, 27, .inr (.inl f12))), (h1, .inl (kB, 3000, .inl f1))] := hPD.2
        clear hPD hB hk1 hPc hDc hFc
        refine lv_lstore (lv' := [(4, .long r_40), (6, .int v6_6), (0, .ref h2), (1, .ref h1), (2, .int p2), (3, .int p3)]) hx hb d_8_5_40 hl (by decide +kernel) rfl (fun ls hl => ?_)
        obtain ⟨y_42, ey_42⟩ : ∃ y : Int32, y = v6_6 + 1 := ⟨_, rfl⟩
        have ty_42 : y_42.toInt = v6_6.toInt + 1 := by rw [ey_42]; exact zaddc (by decide +kernel) (by omega) (by omega)
        refine lv_iinc (v := y_42) (lv' := [(6, .int y_42), (4, .long r_40), (0, .ref h2), (1, .ref h1), (2, .int p2), (3, .int p3)]) hx hb d_8_5_42 hl (k := 1) rfl (by rw [ey_42]; rfl) (by decide +kernel) rfl (fun ls hl => ?_)
        refine lv_goto (tgt := 6) hx hb d_8_5_45 (by decide +kernel) ?_
        exact ih_4 _ _ _ _ (by omega) ⟨y_42, r_40, (show p3.toInt ≤ y_42.toInt from (by first | assumption | omega)), (show y_42.toInt ≤ p2.toInt from (by first | assumption | omega)), rfl, hP.sub (ws' := [(h2, .inr (0, [.ref h9, .ref h10, .ref h11, .ref h12, .int tc, .int ta, .int td, .int tf])), (h9, .inl (kI, 3001, .inl f9)), (h10, .inl (kI, 3001, .inl f10)), (h11, .inl (kJ, 3001, .inr (.inl f11))), (h12, .inl (kJ, 27, .inr (.inl f12))), (h1, .inl (kB, 3000, .inl f1))]) [0, 1, 2, 3, 4, 5] rfl, hD.sub (ws' := [(h2, .inr (0, [.ref h9, .ref h10, .ref h11, .ref h12, .int tc, .int ta, .int td, .int tf])), (h9, .inl (kI, 3001, .inl f9)), (h10, .inl (kI, 3001, .inl f10)), (h11, .inl (kJ, 3001, .inr (.inl f11))), (h12, .inl (kJ, 27, .inr (.inl f12))), (h1, .inl (kB, 3000, .inl f1))]) [0, 1, 2, 3, 4, 5] (by decide) rfl, hS, lv_sub hl [0, 1, 2, 3, 4, 5] rfl⟩
set_option maxHeartbeats 8000000 in
set_option maxRecDepth 100000 in
theorem g_Tokens_scanNumber (l : Launch) (D : va_G) (kI kJ kB kZ : ClassId) (sz : Nat) (h1 : Nat) (h2 : Nat) (h9 : Nat) (h10 : Nat) (h11 : Nat) (h12 : Nat) (tc : Int32) (ta : Int32) (td : Int32) (tf : Int32) (f9 : Nat → Int32) (f10 : Nat → Int32) (f11 : Nat → Int64) (f12 : Nat → Int64) (f1 : Nat → Int32) (p2 : Int32) (p3 : Int32) (hf_C1 : 0 ≤ tc.toInt) (hf_C2 : tc.toInt ≤ 3001) (hf_T6 : ∀ j : Nat, 0 ≤ (f10 j).toInt) (hq_0 : 0 ≤ p3.toInt) (hq_1 : p3.toInt < p2.toInt) (hq_2 : p2.toInt ≤ 3000) : Met l (⟨"AlgolJudge$Tokens", "scanNumber", "([BII)I"⟩ : MethodName) (Cond.code (⟨"AlgolJudge$Tokens", "scanNumber", "([BII)I"⟩ : MethodName) prog_8_method_7_code 7 (some .int) :: gT) ({ frames := 1, cells := 0, slots := 0, locals := 24 }) (va_Pc [.ref h2, .ref h1, .int p2, .int p3] (xP D (xT kI kJ kB kZ) xN [(h2, .inr (0, [.ref h9, .ref h10, .ref h11, .ref h12, .int tc, .int ta, .int td, .int tf])), (h9, .inl (kI, 3001, .inl f9)), (h10, .inl (kI, 3001, .inl f10)), (h11, .inl (kJ, 3001, .inr (.inl f11))), (h12, .inl (kJ, 27, .inr (.inl f12))), (h1, .inl (kB, 3000, .inl f1))] sz)) (va_Qi (fun (r : Int32) (_ : Unit) => 0 ≤ r.toInt) (fun _ t => ∃ tc' : Int32, ∃ f9' : Nat → Int32, ∃ f10' : Nat → Int32, ∃ f11' : Nat → Int64, (0 ≤ tc'.toInt) ∧ (tc'.toInt ≤ 3001) ∧ (∀ j : Nat, 0 ≤ (f10' j).toInt) ∧ xQ D (xT kI kJ kB kZ) (va_A [(h2, .inr (0, [.ref h9, .ref h10, .ref h11, .ref h12, .int tc, .int ta, .int td, .int tf])), (h9, .inl (kI, 3001, .inl f9)), (h10, .inl (kI, 3001, .inl f10)), (h11, .inl (kJ, 3001, .inr (.inl f11))), (h12, .inl (kJ, 27, .inr (.inl f12))), (h1, .inl (kB, 3000, .inl f1))] sz) [(h2, .inr (0, [.ref h9, .ref h10, .ref h11, .ref h12, .int tc', .int ta, .int td, .int tf])), (h9, .inl (kI, 3001, .inl f9')), (h10, .inl (kI, 3001, .inl f10')), (h11, .inl (kJ, 3001, .inr (.inl f11'))), (h12, .inl (kJ, 27, .inr (.inl f12))), (h1, .inl (kB, 3000, .inl f1))] t) (va_A [(h2, .inr (0, [.ref h9, .ref h10, .ref h11, .ref h12, .int tc, .int ta, .int td, .int tf])), (h9, .inl (kI, 3001, .inl f9)), (h10, .inl (kI, 3001, .inl f10)), (h11, .inl (kJ, 3001, .inr (.inl f11))), (h12, .inl (kJ, 27, .inr (.inl f12))), (h1, .inl (kB, 3000, .inl f1))] sz)) 0 0 (va_A [(h2, .inr (0, [.ref h9, .ref h10, .ref h11, .ref h12, .int tc, .int ta, .int td, .int tf])), (h9, .inl (kI, 3001, .inl f9)), (h10, .inl (kI, 3001, .inl f10)), (h11, .inl (kJ, 3001, .inr (.inl f11))), (h12, .inl (kJ, 27, .inr (.inl f12))), (h1, .inl (kB, 3000, .inl f1))] sz) := by
  refine Met.ofW (cc := prog_8_method_7_code) (maxL := 7) (ret := some .int) (by decide +kernel) rfl ?_
  intro p e s m args below meth c s₁ B hml hv
  obtain ⟨rfl, hsz, hP, hK, hD0, hE⟩ := hv
  have hx := B.exec
  have hb := B.bytes
  have hr := B.returns
  have hts : ∀ w ∈ gT, w.before _ s = true := fun w h => atoms_spec (ws := Cond.code (⟨"AlgolJudge$Tokens", "scanNumber", "([BII)I"⟩ : MethodName) prog_8_method_7_code 7 (some .int) :: gT) B.pre w (List.mem_cons_of_mem _ h)
  have hown : s.vm.findClass "AlgolJudge$Tokens" = some m.cls := findClass_of_methodNamed B.named
  have hlocks := B.notSynchronized
  subst hsz
  have hD := hD0.self (sz := s.heap.size)
  generalize hAe : va_A [(h2, .inr (0, [.ref h9, .ref h10, .ref h11, .ref h12, .int tc, .int ta, .int td, .int tf])), (h9, .inl (kI, 3001, .inl f9)), (h10, .inl (kI, 3001, .inl f10)), (h11, .inl (kJ, 3001, .inr (.inl f11))), (h12, .inl (kJ, 27, .inr (.inl f12))), (h1, .inl (kB, 3000, .inl f1))] s.heap.size = A at hD hE ⊢
  have hA : ∀ q : Nat, s.heap.size ≤ q → A q := fun q h => by rw [← hAe]; exact Or.inr h
  have hS : va_S A s.heap s.heap [] := va_S.rf
  have hP : va_P D cls9 [(h2, .inr (0, [.ref h9, .ref h10, .ref h11, .ref h12, .int tc, .int ta, .int td, .int tf])), (h9, .inl (kI, 3001, .inl f9)), (h10, .inl (kI, 3001, .inl f10)), (h11, .inl (kJ, 3001, .inr (.inl f11))), (h12, .inl (kJ, 27, .inr (.inl f12))), (h1, .inl (kB, 3000, .inl f1))] s.heap := hP
  have hl := lv_entry ([.ref h2, .ref h1, .int p2, .int p3]) (n := 7) (Nat.le_of_ble_eq_true rfl)
  rw [lg_entry_eq]
  generalize (lg_sl ([.ref h2, .ref h1, .int p2, .int p3]) ++ List.replicate (7 - (lg_sl ([.ref h2, .ref h1, .int p2, .int p3])).length) Slot.unset).toArray = ls at hl ⊢
  have hl : lv_has ls 7 [(0, .ref h2), (1, .ref h1), (2, .int p2), (3, .int p3)] := hl
  refine lv_lconst (v := 0) hx hb d_8_7_0 (by decide +kernel) ?_
  refine lv_lstore (lv' := [(4, .long 0), (0, .ref h2), (1, .ref h1), (2, .int p2), (3, .int p3)]) hx hb d_8_7_1 hl (by decide +kernel) rfl (fun ls hl => ?_)
  refine lv_iload_n hx hb d_8_7_3 rfl (lv_at hl 4 rfl) ?_
  refine lv_istore (lv' := [(6, .int p3), (4, .long 0), (0, .ref h2), (1, .ref h1), (2, .int p2), (3, .int p3)]) hx hb d_8_7_4 hl (by decide +kernel) rfl (fun ls hl => ?_)
  refine xLoop (I := fun n H locs ls => ∃ v6_6 : Int32, ∃ v6_4 : Int64, (p3.toInt ≤ v6_6.toInt) ∧ (v6_6.toInt ≤ p2.toInt) ∧ n = (p2.toInt - v6_6.toInt).toNat ∧ va_P D cls9 [(h2, .inr (0, [.ref h9, .ref h10, .ref h11, .ref h12, .int tc, .int ta, .int td, .int tf])), (h9, .inl (kI, 3001, .inl f9)), (h10, .inl (kI, 3001, .inl f10)), (h11, .inl (kJ, 3001, .inr (.inl f11))), (h12, .inl (kJ, 27, .inr (.inl f12))), (h1, .inl (kB, 3000, .inl f1))] H ∧ va_D A [(h2, .inr (0, [.ref h9, .ref h10, .ref h11, .ref h12, .int tc, .int ta, .int td, .int tf])), (h9, .inl (kI, 3001, .inl f9)), (h10, .inl (kI, 3001, .inl f10)), (h11, .inl (kJ, 3001, .inr (.inl f11))), (h12, .inl (kJ, 27, .inr (.inl f12))), (h1, .inl (kB, 3000, .inl f1))] ∧ va_S A s.heap H locs ∧ lv_has ls 7 [(6, .int v6_6), (4, .long v6_4), (0, .ref h2), (1, .ref h1), (2, .int p2), (3, .int p3)]) ?_ _ _ _ _ ⟨p3, 0, (show p3.toInt ≤ p3.toInt from (by first | assumption | omega)), (show p3.toInt ≤ p2.toInt from (by first | assumption | omega)), rfl, hP.sub (ws' := [(h2, .inr (0, [.ref h9, .ref h10, .ref h11, .ref h12, .int tc, .int ta, .int td, .int tf])), (h9, .inl (kI, 3001, .inl f9)), (h10, .inl (kI, 3001, .inl f10)), (h11, .inl (kJ, 3001, .inr (.inl f11))), (h12, .inl (kJ, 27, .inr (.inl f12))), (h1, .inl (kB, 3000, .inl f1))]) [0, 1, 2, 3, 4, 5] rfl, hD.sub (ws' := [(h2, .inr (0, [.ref h9, .ref h10, .ref h11, .ref h12, .int tc, .int ta, .int td, .int tf])), (h9, .inl (kI, 3001, .inl f9)), (h10, .inl (kI, 3001, .inl f10)), (h11, .inl (kJ, 3001, .inr (.inl f11))), (h12, .inl (kJ, 27, .inr (.inl f12))), (h1, .inl (kB, 3000, .inl f1))]) [0, 1, 2, 3, 4, 5] (by decide) rfl, hS, lv_sub hl [0, 1, 2, 3, 4, 5] rfl⟩
  intro n_3 H locs ls hI9 ih_4
  revert hI9
  refine exI fun v6_6 => exI fun v6_4 => anI fun hl_1 => anI fun hl_2 => anI fun hn_3 => anI fun hP => anI fun hD => anI fun hS => fun hl => ?_
  refine lv_iload hx hb d_8_7_6 (lv_at hl 0 rfl) ?_
  refine lv_iload_n hx hb d_8_7_8 rfl (lv_at hl 4 rfl) ?_
  refine lv_icmp_ge (tgt := 54) hx hb d_8_7_9 (by decide +kernel) (fun c_5 => ?_) (fun c_5 => ?_)
  · skip
    have tc_5 : p2.toInt ≤ v6_6.toInt := Int32.le_iff_toInt_le.mp c_5
    refine lv_aload_n hx hb d_8_7_54 rfl (lv_at hl 2 rfl) ?_
    refine lv_lload hx hb d_8_7_55 (lv_at hl 1 rfl) ?_
    refine lv_ldc2 (v := 34359738367) hx hb hown (hts _ m_478) d_8_7_57 ?_
    refine W.lcmp hx hb d_8_7_60 ?_
    refine lv_if_gt (tgt := 69) hx hb d_8_7_61 (by decide +kernel) (fun c_6 => ?_) (fun c_6 => ?_)
    · skip
      have tc_6 : 0 < (lg_cmp v6_4 34359738367).toInt := Int32.lt_iff_toInt_lt.mp c_6
      refine lv_iconst (v := (-1)) hx hb d_8_7_69 (by decide +kernel) ?_
      refine lv_iload_n hx hb d_8_7_70 rfl (lv_at hl 5 rfl) ?_
      refine lv_lconst (v := 0) hx hb d_8_7_71 (by decide +kernel) ?_
      have hPc := hP.sub (ws' := [(h2, .inr (0, [.ref h9, .ref h10, .ref h11, .ref h12, .int tc, .int ta, .int td, .int tf])), (h9, .inl (kI, 3001, .inl f9)), (h10, .inl (kI, 3001, .inl f10)), (h11, .inl (kJ, 3001, .inr (.inl f11))), (h12, .inl (kJ, 27, .inr (.inl f12)))]) [0, 1, 2, 3, 4] rfl
      have hDc := hD.sub (ws' := [(h2, .inr (0, [.ref h9, .ref h10, .ref h11, .ref h12, .int tc, .int ta, .int td, .int tf])), (h9, .inl (kI, 3001, .inl f9)), (h10, .inl (kI, 3001, .inl f10)), (h11, .inl (kJ, 3001, .inr (.inl f11))), (h12, .inl (kJ, 27, .inr (.inl f12)))]) [0, 1, 2, 3, 4] (by decide) rfl
      have hFc := va_free (wc := [(h2, .inr (0, [.ref h9, .ref h10, .ref h11, .ref h12, .int tc, .int ta, .int td, .int tf])), (h9, .inl (kI, 3001, .inl f9)), (h10, .inl (kI, 3001, .inl f10)), (h11, .inl (kJ, 3001, .inr (.inl f11))), (h12, .inl (kJ, 27, .inr (.inl f12)))]) hD hS hA [0, 1, 2, 3, 4] rfl
      refine va_callv (va_runV (As := [.int (-1), .int p3, .long 0]) (rest := []) ⟨hx, hb, hml, hown, hts⟩ (g_Tokens_add l D kI kJ kB kZ _ (h2) (h9) (h10) (h11) (h12) (tc) (ta) (td) (tf) (f9) (f10) (f11) (f12) (((-1) : Int32)) (p3) ((0 : Int64)) hf_C1 hf_C2 hf_T6 hq_0) (cwV 3 hts (gT_V m_470 m_472 m_5 m_121 (gT_ws m_473)) rfl rfl rfl (by decide +kernel) ⟨(Nat.le_of_ble_eq_true rfl), (Nat.le_of_ble_eq_true rfl)⟩) ⟨xBlind xOk_N, va_recv hK hP (ci := 0) (q0 := 0) rfl rfl, xAtN hK hPc hDc⟩ rfl rfl hl.1 rfl (lv_room (Nat.le_of_ble_eq_true rfl)) d_8_7_72 ⟨(Nat.le_of_ble_eq_true rfl), (Nat.le_of_ble_eq_true rfl)⟩) hS (fun q _ h => hFc q h) hFc (fun u t H locs ht hvm hw_8 hB hz1 hk1 hS => ?_)
      clear hz1
      revert hB
      refine exI fun x_9 => exI fun x_10 => exI fun x_11 => exI fun x_12 => anI fun hb_13 => anI fun hb_14 => anI fun hb_15 => anI fun hb_16 => fun hB => ?_
      have hPD := xJoin (wr := [(h1, .inl (kB, 3000, .inl f1))]) (w1 := [(h2, .inr (0, [.ref h9, .ref h10, .ref h11, .ref h12, .int x_9, .int ta, .int td, .int tf])), (h9, .inl (kI, 3001, .inl x_10)), (h10, .inl (kI, 3001, .inl x_11)), (h11, .inl (kJ, 3001, .inr (.inl x_12))), (h12, .inl (kJ, 27, .inr (.inl f12)))]) hP hD [0, 1, 2, 3, 4] [5] rfl rfl (by decide) (by decide) hk1 hFc ht hB
      replace hP : va_P D cls9 [(h1, .inl (kB, 3000, .inl f1)), (h2, .inr (0, [.ref h9, .ref h10, .ref h11, .ref h12, .int x_9, .int ta, .int td, .int tf])), (h9, .inl (kI, 3001, .inl x_10)), (h10, .inl (kI, 3001, .inl x_11)), (h11, .inl (kJ, 3001, .inr (.inl x_12))), (h12, .inl (kJ, 27, .inr (.inl f12)))] H := hPD.1
      replace hD : va_D A [(h1, .inl (kB, 3000, .inl f1)), (h2, .inr (0, [.ref h9, .ref h10, .ref h11, .ref h12, .int x_9, .int ta, .int td, .int tf])), (h9, .inl (kI, 3001, .inl x_10)), (h10, .inl (kI, 3001, .inl x_11)), (h11, .inl (kJ, 3001, .inr (.inl x_12))), (h12, .inl (kJ, 27, .inr (.inl f12)))] := hPD.2
      clear hPD hB hk1 hPc hDc hFc
      refine lv_iload hx hb d_8_7_75 (lv_at hl 0 rfl) ?_
      have hP9 := hP.sub (ws' := [(h2, .inr (0, [.ref h9, .ref h10, .ref h11, .ref h12, .int x_9, .int ta, .int td, .int tf])), (h9, .inl (kI, 3001, .inl x_10)), (h10, .inl (kI, 3001, .inl x_11)), (h11, .inl (kJ, 3001, .inr (.inl x_12))), (h12, .inl (kJ, 27, .inr (.inl f12))), (h1, .inl (kB, 3000, .inl f1))]) [1, 2, 3, 4, 5, 0] rfl
      have hD9 := hD.sub (ws' := [(h2, .inr (0, [.ref h9, .ref h10, .ref h11, .ref h12, .int x_9, .int ta, .int td, .int tf])), (h9, .inl (kI, 3001, .inl x_10)), (h10, .inl (kI, 3001, .inl x_11)), (h11, .inl (kJ, 3001, .inr (.inl x_12))), (h12, .inl (kJ, 27, .inr (.inl f12))), (h1, .inl (kB, 3000, .inl f1))]) [1, 2, 3, 4, 5, 0] (by decide) rfl
      have hrp : 0 ≤ v6_6.toInt := by first |  omega | assumption | exact pk_nc _ | exact Or.inl ⟨by omega, by omega, by assumption⟩ | exact Or.inr ⟨by omega, by decide +kernel⟩ | exact fun h9 => absurd h9 (by omega) | exact fun _ => isH_no1 (by omega) | exact fun _ => isH_no2 (by assumption) (by assumption) (by omega) | (intro h9; omega) | (intro h8 h9; omega)
      exact W.iret (v := v6_6) hx hb hr (fun t ht hW => ⟨⟨v6_6, (), rfl, hrp, x_9, x_10, x_11, x_12, hb_13, hb_14, hb_15, xEnd hK hP9 hD9 ht hW⟩, hS.F ht⟩) hS.2.2 d_8_7_77
    · skip
      have tc_6 : ¬ 0 < (lg_cmp v6_4 34359738367).toInt := fun h9 => c_6 (Int32.lt_iff_toInt_lt.mpr h9)
      refine lv_bipush (v := 28) hx hb d_8_7_64 (by decide +kernel) ?_
      refine lv_goto (tgt := 70) hx hb d_8_7_66 (by decide +kernel) ?_
      refine lv_iload_n hx hb d_8_7_70 rfl (lv_at hl 5 rfl) ?_
      refine lv_lconst (v := 0) hx hb d_8_7_71 (by decide +kernel) ?_
      have hPc := hP.sub (ws' := [(h2, .inr (0, [.ref h9, .ref h10, .ref h11, .ref h12, .int tc, .int ta, .int td, .int tf])), (h9, .inl (kI, 3001, .inl f9)), (h10, .inl (kI, 3001, .inl f10)), (h11, .inl (kJ, 3001, .inr (.inl f11))), (h12, .inl (kJ, 27, .inr (.inl f12)))]) [0, 1, 2, 3, 4] rfl
      have hDc := hD.sub (ws' := [(h2, .inr (0, [.ref h9, .ref h10, .ref h11, .ref h12, .int tc, .int ta, .int td, .int tf])), (h9, .inl (kI, 3001, .inl f9)), (h10, .inl (kI, 3001, .inl f10)), (h11, .inl (kJ, 3001, .inr (.inl f11))), (h12, .inl (kJ, 27, .inr (.inl f12)))]) [0, 1, 2, 3, 4] (by decide) rfl
      have hFc := va_free (wc := [(h2, .inr (0, [.ref h9, .ref h10, .ref h11, .ref h12, .int tc, .int ta, .int td, .int tf])), (h9, .inl (kI, 3001, .inl f9)), (h10, .inl (kI, 3001, .inl f10)), (h11, .inl (kJ, 3001, .inr (.inl f11))), (h12, .inl (kJ, 27, .inr (.inl f12)))]) hD hS hA [0, 1, 2, 3, 4] rfl
      refine va_callv (va_runV (As := [.int 28, .int p3, .long 0]) (rest := []) ⟨hx, hb, hml, hown, hts⟩ (g_Tokens_add l D kI kJ kB kZ _ (h2) (h9) (h10) (h11) (h12) (tc) (ta) (td) (tf) (f9) (f10) (f11) (f12) ((28 : Int32)) (p3) ((0 : Int64)) hf_C1 hf_C2 hf_T6 hq_0) (cwV 3 hts (gT_V m_470 m_472 m_5 m_121 (gT_ws m_473)) rfl rfl rfl (by decide +kernel) ⟨(Nat.le_of_ble_eq_true rfl), (Nat.le_of_ble_eq_true rfl)⟩) ⟨xBlind xOk_N, va_recv hK hP (ci := 0) (q0 := 0) rfl rfl, xAtN hK hPc hDc⟩ rfl rfl hl.1 rfl (lv_room (Nat.le_of_ble_eq_true rfl)) d_8_7_72 ⟨(Nat.le_of_ble_eq_true rfl), (Nat.le_of_ble_eq_true rfl)⟩) hS (fun q _ h => hFc q h) hFc (fun u t H locs ht hvm hw_18 hB hz1 hk1 hS => ?_)
      clear hz1
      revert hB
      refine exI fun x_19 => exI fun x_20 => exI fun x_21 => exI fun x_22 => anI fun hb_23 => anI fun hb_24 => anI fun hb_25 => anI fun hb_26 => fun hB => ?_
      have hPD := xJoin (wr := [(h1, .inl (kB, 3000, .inl f1))]) (w1 := [(h2, .inr (0, [.ref h9, .ref h10, .ref h11, .ref h12, .int x_19, .int ta, .int td, .int tf])), (h9, .inl (kI, 3001, .inl x_20)), (h10, .inl (kI, 3001, .inl x_21)), (h11, .inl (kJ, 3001, .inr (.inl x_22))), (h12, .inl (kJ, 27, .inr (.inl f12)))]) hP hD [0, 1, 2, 3, 4] [5] rfl rfl (by decide) (by decide) hk1 hFc ht hB
      replace hP : va_P D cls9 [(h1, .inl (kB, 3000, .inl f1)), (h2, .inr (0, [.ref h9, .ref h10, .ref h11, .ref h12, .int x_19, .int ta, .int td, .int tf])), (h9, .inl (kI, 3001, .inl x_20)), (h10, .inl (kI, 3001, .inl x_21)), (h11, .inl (kJ, 3001, .inr (.inl x_22))), (h12, .inl (kJ, 27, .inr (.inl f12)))] H := hPD.1
      replace hD : va_D A [(h1, .inl (kB, 3000, .inl f1)), (h2, .inr (0, [.ref h9, .ref h10, .ref h11, .ref h12, .int x_19, .int ta, .int td, .int tf])), (h9, .inl (kI, 3001, .inl x_20)), (h10, .inl (kI, 3001, .inl x_21)), (h11, .inl (kJ, 3001, .inr (.inl x_22))), (h12, .inl (kJ, 27, .inr (.inl f12)))] := hPD.2
      clear hPD hB hk1 hPc hDc hFc
      refine lv_iload hx hb d_8_7_75 (lv_at hl 0 rfl) ?_
      have hP9 := hP.sub (ws' := [(h2, .inr (0, [.ref h9, .ref h10, .ref h11, .ref h12, .int x_19, .int ta, .int td, .int tf])), (h9, .inl (kI, 3001, .inl x_20)), (h10, .inl (kI, 3001, .inl x_21)), (h11, .inl (kJ, 3001, .inr (.inl x_22))), (h12, .inl (kJ, 27, .inr (.inl f12))), (h1, .inl (kB, 3000, .inl f1))]) [1, 2, 3, 4, 5, 0] rfl
      have hD9 := hD.sub (ws' := [(h2, .inr (0, [.ref h9, .ref h10, .ref h11, .ref h12, .int x_19, .int ta, .int td, .int tf])), (h9, .inl (kI, 3001, .inl x_20)), (h10, .inl (kI, 3001, .inl x_21)), (h11, .inl (kJ, 3001, .inr (.inl x_22))), (h12, .inl (kJ, 27, .inr (.inl f12))), (h1, .inl (kB, 3000, .inl f1))]) [1, 2, 3, 4, 5, 0] (by decide) rfl
      have hrp : 0 ≤ v6_6.toInt := by first |  omega | assumption | exact pk_nc _ | exact Or.inl ⟨by omega, by omega, by assumption⟩ | exact Or.inr ⟨by omega, by decide +kernel⟩ | exact fun h9 => absurd h9 (by omega) | exact fun _ => isH_no1 (by omega) | exact fun _ => isH_no2 (by assumption) (by assumption) (by omega) | (intro h9; omega) | (intro h8 h9; omega)
      exact W.iret (v := v6_6) hx hb hr (fun t ht hW => ⟨⟨v6_6, (), rfl, hrp, x_19, x_20, x_21, x_22, hb_23, hb_24, hb_25, xEnd hK hP9 hD9 ht hW⟩, hS.F ht⟩) hS.2.2 d_8_7_77
  · skip
    have tc_5 : ¬ p2.toInt ≤ v6_6.toInt := fun h9 => c_5 (Int32.le_iff_toInt_le.mpr h9)
    refine lv_aload_n hx hb d_8_7_12 rfl (lv_at hl 3 rfl) ?_
    refine lv_iload hx hb d_8_7_13 (lv_at hl 0 rfl) ?_
    refine va_bald hx hb hK hP 5 2 rfl rfl (vp_in_iff.mpr ⟨by omega, by omega⟩) d_8_7_15 ?_
    refine lv_topi (fun z_27 ez_27 => ?_)
    have hPc := hP.sub (ws' := []) [] rfl
    have hDc := hD.sub (ws' := []) [] (by decide) rfl
    have hFc := va_free (wc := []) hD hS hA [] rfl
    refine va_calli (va_runS (As := [.int z_27]) (rest := []) ⟨hx, hb, hml, hown, hts⟩ (g_Tokens_isDigit l D kI kJ kB kZ _ (z_27) ) (va_cwS 1 hts (gT_S m_463 m_464 m_121 (gT_ws m_465)) rfl rfl rfl (by decide +kernel) ⟨(Nat.le_of_ble_eq_true rfl), (Nat.le_of_ble_eq_true rfl)⟩) ⟨xBlind xOk_N, xAtN hK hPc hDc⟩ rfl rfl hl.1 rfl (lv_room (Nat.le_of_ble_eq_true rfl)) d_8_7_16 ⟨(Nat.le_of_ble_eq_true rfl), (Nat.le_of_ble_eq_true rfl)⟩) hS (fun q _ h => hFc q h) hFc (fun r_28 u t H locs ht hvm hw_29 hB hz1 hk1 hS => ?_)
    clear hz1
    have hPD := xJoin (wr := [(h2, .inr (0, [.ref h9, .ref h10, .ref h11, .ref h12, .int tc, .int ta, .int td, .int tf])), (h9, .inl (kI, 3001, .inl f9)), (h10, .inl (kI, 3001, .inl f10)), (h11, .inl (kJ, 3001, .inr (.inl f11))), (h12, .inl (kJ, 27, .inr (.inl f12))), (h1, .inl (kB, 3000, .inl f1))]) (w1 := []) hP hD [] [0, 1, 2, 3, 4, 5] rfl rfl (by decide) (by decide) hk1 hFc ht hB
    replace hP : va_P D cls9 [(h2, .inr (0, [.ref h9, .ref h10, .ref h11, .ref h12, .int tc, .int ta, .int td, .int tf])), (h9, .inl (kI, 3001, .inl f9)), (h10, .inl (kI, 3001, .inl f10)), (h11, .inl (kJ, 3001, .inr (.inl f11))), (h12, .inl (kJ, 27, .inr (.inl f12))), (h1, .inl (kB, 3000, .inl f1))] H := hPD.1
    replace hD : va_D A [(h2, .inr (0, [.ref h9, .ref h10, .ref h11, .ref h12, .int tc, .int ta, .int td, .int tf])), (h9, .inl (kI, 3001, .inl f9)), (h10, .inl (kI, 3001, .inl f10)), (h11, .inl (kJ, 3001, .inr (.inl f11))), (h12, .inl (kJ, 27, .inr (.inl f12))), (h1, .inl (kB, 3000, .inl f1))] := hPD.2
    clear hPD hB hk1 hPc hDc hFc
    refine lv_if_eq (tgt := 54) hx hb d_8_7_19 (by decide +kernel) (fun c_30 => ?_) (fun c_30 => ?_)
    · skip
      have tc_30 : r_28.toInt = 0 := congrArg Int32.toInt c_30
      refine lv_aload_n hx hb d_8_7_54 rfl (lv_at hl 2 rfl) ?_
      refine lv_lload hx hb d_8_7_55 (lv_at hl 1 rfl) ?_
      refine lv_ldc2 (v := 34359738367) hx hb hown (hts _ m_478) d_8_7_57 ?_
      refine W.lcmp hx hb d_8_7_60 ?_
      refine lv_if_gt (tgt := 69) hx hb d_8_7_61 (by decide +kernel) (fun c_31 => ?_) (fun c_31 => ?_)
      · skip
        have tc_31 : 0 < (lg_cmp v6_4 34359738367).toInt := Int32.lt_iff_toInt_lt.mp c_31
        refine lv_iconst (v := (-1)) hx hb d_8_7_69 (by decide +kernel) ?_
        refine lv_iload_n hx hb d_8_7_70 rfl (lv_at hl 5 rfl) ?_
        refine lv_lconst (v := 0) hx hb d_8_7_71 (by decide +kernel) ?_
        have hPc := hP.sub (ws' := [(h2, .inr (0, [.ref h9, .ref h10, .ref h11, .ref h12, .int tc, .int ta, .int td, .int tf])), (h9, .inl (kI, 3001, .inl f9)), (h10, .inl (kI, 3001, .inl f10)), (h11, .inl (kJ, 3001, .inr (.inl f11))), (h12, .inl (kJ, 27, .inr (.inl f12)))]) [0, 1, 2, 3, 4] rfl
        have hDc := hD.sub (ws' := [(h2, .inr (0, [.ref h9, .ref h10, .ref h11, .ref h12, .int tc, .int ta, .int td, .int tf])), (h9, .inl (kI, 3001, .inl f9)), (h10, .inl (kI, 3001, .inl f10)), (h11, .inl (kJ, 3001, .inr (.inl f11))), (h12, .inl (kJ, 27, .inr (.inl f12)))]) [0, 1, 2, 3, 4] (by decide) rfl
        have hFc := va_free (wc := [(h2, .inr (0, [.ref h9, .ref h10, .ref h11, .ref h12, .int tc, .int ta, .int td, .int tf])), (h9, .inl (kI, 3001, .inl f9)), (h10, .inl (kI, 3001, .inl f10)), (h11, .inl (kJ, 3001, .inr (.inl f11))), (h12, .inl (kJ, 27, .inr (.inl f12)))]) hD hS hA [0, 1, 2, 3, 4] rfl
        refine va_callv (va_runV (As := [.int (-1), .int p3, .long 0]) (rest := []) ⟨hx, hb, hml, hown, hts⟩ (g_Tokens_add l D kI kJ kB kZ _ (h2) (h9) (h10) (h11) (h12) (tc) (ta) (td) (tf) (f9) (f10) (f11) (f12) (((-1) : Int32)) (p3) ((0 : Int64)) hf_C1 hf_C2 hf_T6 hq_0) (cwV 3 hts (gT_V m_470 m_472 m_5 m_121 (gT_ws m_473)) rfl rfl rfl (by decide +kernel) ⟨(Nat.le_of_ble_eq_true rfl), (Nat.le_of_ble_eq_true rfl)⟩) ⟨xBlind xOk_N, va_recv hK hP (ci := 0) (q0 := 0) rfl rfl, xAtN hK hPc hDc⟩ rfl rfl hl.1 rfl (lv_room (Nat.le_of_ble_eq_true rfl)) d_8_7_72 ⟨(Nat.le_of_ble_eq_true rfl), (Nat.le_of_ble_eq_true rfl)⟩) hS (fun q _ h => hFc q h) hFc (fun u t H locs ht hvm hw_33 hB hz1 hk1 hS => ?_)
        clear hz1
        revert hB
        refine exI fun x_34 => exI fun x_35 => exI fun x_36 => exI fun x_37 => anI fun hb_38 => anI fun hb_39 => anI fun hb_40 => anI fun hb_41 => fun hB => ?_
        have hPD := xJoin (wr := [(h1, .inl (kB, 3000, .inl f1))]) (w1 := [(h2, .inr (0, [.ref h9, .ref h10, .ref h11, .ref h12, .int x_34, .int ta, .int td, .int tf])), (h9, .inl (kI, 3001, .inl x_35)), (h10, .inl (kI, 3001, .inl x_36)), (h11, .inl (kJ, 3001, .inr (.inl x_37))), (h12, .inl (kJ, 27, .inr (.inl f12)))]) hP hD [0, 1, 2, 3, 4] [5] rfl rfl (by decide) (by decide) hk1 hFc ht hB
        replace hP : va_P D cls9 [(h1, .inl (kB, 3000, .inl f1)), (h2, .inr (0, [.ref h9, .ref h10, .ref h11, .ref h12, .int x_34, .int ta, .int td, .int tf])), (h9, .inl (kI, 3001, .inl x_35)), (h10, .inl (kI, 3001, .inl x_36)), (h11, .inl (kJ, 3001, .inr (.inl x_37))), (h12, .inl (kJ, 27, .inr (.inl f12)))] H := hPD.1
        replace hD : va_D A [(h1, .inl (kB, 3000, .inl f1)), (h2, .inr (0, [.ref h9, .ref h10, .ref h11, .ref h12, .int x_34, .int ta, .int td, .int tf])), (h9, .inl (kI, 3001, .inl x_35)), (h10, .inl (kI, 3001, .inl x_36)), (h11, .inl (kJ, 3001, .inr (.inl x_37))), (h12, .inl (kJ, 27, .inr (.inl f12)))] := hPD.2
        clear hPD hB hk1 hPc hDc hFc
        refine lv_iload hx hb d_8_7_75 (lv_at hl 0 rfl) ?_
        have hP9 := hP.sub (ws' := [(h2, .inr (0, [.ref h9, .ref h10, .ref h11, .ref h12, .int x_34, .int ta, .int td, .int tf])), (h9, .inl (kI, 3001, .inl x_35)), (h10, .inl (kI, 3001, .inl x_36)), (h11, .inl (kJ, 3001, .inr (.inl x_37))), (h12, .inl (kJ, 27, .inr (.inl f12))), (h1, .inl (kB, 3000, .inl f1))]) [1, 2, 3, 4, 5, 0] rfl
        have hD9 := hD.sub (ws' := [(h2, .inr (0, [.ref h9, .ref h10, .ref h11, .ref h12, .int x_34, .int ta, .int td, .int tf])), (h9, .inl (kI, 3001, .inl x_35)), (h10, .inl (kI, 3001, .inl x_36)), (h11, .inl (kJ, 3001, .inr (.inl x_37))), (h12, .inl (kJ, 27, .inr (.inl f12))), (h1, .inl (kB, 3000, .inl f1))]) [1, 2, 3, 4, 5, 0] (by decide) rfl
        have hrp : 0 ≤ v6_6.toInt := by first |  omega | assumption | exact pk_nc _ | exact Or.inl ⟨by omega, by omega, by assumption⟩ | exact Or.inr ⟨by omega, by decide +kernel⟩ | exact fun h9 => absurd h9 (by omega) | exact fun _ => isH_no1 (by omega) | exact fun _ => isH_no2 (by assumption) (by assumption) (by omega) | (intro h9; omega) | (intro h8 h9; omega)
        exact W.iret (v := v6_6) hx hb hr (fun t ht hW => ⟨⟨v6_6, (), rfl, hrp, x_34, x_35, x_36, x_37, hb_38, hb_39, hb_40, xEnd hK hP9 hD9 ht hW⟩, hS.F ht⟩) hS.2.2 d_8_7_77
      · skip
        have tc_31 : ¬ 0 < (lg_cmp v6_4 34359738367).toInt := fun h9 => c_31 (Int32.lt_iff_toInt_lt.mpr h9)
        refine lv_bipush (v := 28) hx hb d_8_7_64 (by decide +kernel) ?_
        refine lv_goto (tgt := 70) hx hb d_8_7_66 (by decide +kernel) ?_
        refine lv_iload_n hx hb d_8_7_70 rfl (lv_at hl 5 rfl) ?_
        refine lv_lconst (v := 0) hx hb d_8_7_71 (by decide +kernel) ?_
        have hPc := hP.sub (ws' := [(h2, .inr (0, [.ref h9, .ref h10, .ref h11, .ref h12, .int tc, .int ta, .int td, .int tf])), (h9, .inl (kI, 3001, .inl f9)), (h10, .inl (kI, 3001, .inl f10)), (h11, .inl (kJ, 3001, .inr (.inl f11))), (h12, .inl (kJ, 27, .inr (.inl f12)))]) [0, 1, 2, 3, 4] rfl
        have hDc := hD.sub (ws' := [(h2, .inr (0, [.ref h9, .ref h10, .ref h11, .ref h12, .int tc, .int ta, .int td, .int tf])), (h9, .inl (kI, 3001, .inl f9)), (h10, .inl (kI, 3001, .inl f10)), (h11, .inl (kJ, 3001, .inr (.inl f11))), (h12, .inl (kJ, 27, .inr (.inl f12)))]) [0, 1, 2, 3, 4] (by decide) rfl
        have hFc := va_free (wc := [(h2, .inr (0, [.ref h9, .ref h10, .ref h11, .ref h12, .int tc, .int ta, .int td, .int tf])), (h9, .inl (kI, 3001, .inl f9)), (h10, .inl (kI, 3001, .inl f10)), (h11, .inl (kJ, 3001, .inr (.inl f11))), (h12, .inl (kJ, 27, .inr (.inl f12)))]) hD hS hA [0, 1, 2, 3, 4] rfl
        refine va_callv (va_runV (As := [.int 28, .int p3, .long 0]) (rest := []) ⟨hx, hb, hml, hown, hts⟩ (g_Tokens_add l D kI kJ kB kZ _ (h2) (h9) (h10) (h11) (h12) (tc) (ta) (td) (tf) (f9) (f10) (f11) (f12) ((28 : Int32)) (p3) ((0 : Int64)) hf_C1 hf_C2 hf_T6 hq_0) (cwV 3 hts (gT_V m_470 m_472 m_5 m_121 (gT_ws m_473)) rfl rfl rfl (by decide +kernel) ⟨(Nat.le_of_ble_eq_true rfl), (Nat.le_of_ble_eq_true rfl)⟩) ⟨xBlind xOk_N, va_recv hK hP (ci := 0) (q0 := 0) rfl rfl, xAtN hK hPc hDc⟩ rfl rfl hl.1 rfl (lv_room (Nat.le_of_ble_eq_true rfl)) d_8_7_72 ⟨(Nat.le_of_ble_eq_true rfl), (Nat.le_of_ble_eq_true rfl)⟩) hS (fun q _ h => hFc q h) hFc (fun u t H locs ht hvm hw_43 hB hz1 hk1 hS => ?_)
        clear hz1
        revert hB
        refine exI fun x_44 => exI fun x_45 => exI fun x_46 => exI fun x_47 => anI fun hb_48 => anI fun hb_49 => anI fun hb_50 => anI fun hb_51 => fun hB => ?_
        have hPD := xJoin (wr := [(h1, .inl (kB, 3000, .inl f1))]) (w1 := [(h2, .inr (0, [.ref h9, .ref h10, .ref h11, .ref h12, .int x_44, .int ta, .int td, .int tf])), (h9, .inl (kI, 3001, .inl x_45)), (h10, .inl (kI, 3001, .inl x_46)), (h11, .inl (kJ, 3001, .inr (.inl x_47))), (h12, .inl (kJ, 27, .inr (.inl f12)))]) hP hD [0, 1, 2, 3, 4] [5] rfl rfl (by decide) (by decide) hk1 hFc ht hB
        replace hP : va_P D cls9 [(h1, .inl (kB, 3000, .inl f1)), (h2, .inr (0, [.ref h9, .ref h10, .ref h11, .ref h12, .int x_44, .int ta, .int td, .int tf])), (h9, .inl (kI, 3001, .inl x_45)), (h10, .inl (kI, 3001, .inl x_46)), (h11, .inl (kJ, 3001, .inr (.inl x_47))), (h12, .inl (kJ, 27, .inr (.inl f12)))] H := hPD.1
        replace hD : va_D A [(h1, .inl (kB, 3000, .inl f1)), (h2, .inr (0, [.ref h9, .ref h10, .ref h11, .ref h12, .int x_44, .int ta, .int td, .int tf])), (h9, .inl (kI, 3001, .inl x_45)), (h10, .inl (kI, 3001, .inl x_46)), (h11, .inl (kJ, 3001, .inr (.inl x_47))), (h12, .inl (kJ, 27, .inr (.inl f12)))] := hPD.2
        clear hPD hB hk1 hPc hDc hFc
        refine lv_iload hx hb d_8_7_75 (lv_at hl 0 rfl) ?_
        have hP9 := hP.sub (ws' := [(h2, .inr (0, [.ref h9, .ref h10, .ref h11, .ref h12, .int x_44, .int ta, .int td, .int tf])), (h9, .inl (kI, 3001, .inl x_45)), (h10, .inl (kI, 3001, .inl x_46)), (h11, .inl (kJ, 3001, .inr (.inl x_47))), (h12, .inl (kJ, 27, .inr (.inl f12))), (h1, .inl (kB, 3000, .inl f1))]) [1, 2, 3, 4, 5, 0] rfl
        have hD9 := hD.sub (ws' := [(h2, .inr (0, [.ref h9, .ref h10, .ref h11, .ref h12, .int x_44, .int ta, .int td, .int tf])), (h9, .inl (kI, 3001, .inl x_45)), (h10, .inl (kI, 3001, .inl x_46)), (h11, .inl (kJ, 3001, .inr (.inl x_47))), (h12, .inl (kJ, 27, .inr (.inl f12))), (h1, .inl (kB, 3000, .inl f1))]) [1, 2, 3, 4, 5, 0] (by decide) rfl
        have hrp : 0 ≤ v6_6.toInt := by first |  omega | assumption | exact pk_nc _ | exact Or.inl ⟨by omega, by omega, by assumption⟩ | exact Or.inr ⟨by omega, by decide +kernel⟩ | exact fun h9 => absurd h9 (by omega) | exact fun _ => isH_no1 (by omega) | exact fun _ => isH_no2 (by assumption) (by assumption) (by omega) | (intro h9; omega) | (intro h8 h9; omega)
        exact W.iret (v := v6_6) hx hb hr (fun t ht hW => ⟨⟨v6_6, (), rfl, hrp, x_44, x_45, x_46, x_47, hb_48, hb_49, hb_50, xEnd hK hP9 hD9 ht hW⟩, hS.F ht⟩) hS.2.2 d_8_7_77
    · skip
      have tc_30 : ¬ r_28.toInt = 0 := fun h9 => c_30 (Int32.toInt_inj.mp h9)
      refine lv_lload hx hb d_8_7_22 (lv_at hl 1 rfl) ?_
      refine lv_ldc2 (v := 34359738367) hx hb hown (hts _ m_478) d_8_7_24 ?_
      refine W.lcmp hx hb d_8_7_27 ?_
      refine lv_if_gt (tgt := 48) hx hb d_8_7_28 (by decide +kernel) (fun c_52 => ?_) (fun c_52 => ?_)
      · skip
        have tc_52 : 0 < (lg_cmp v6_4 34359738367).toInt := Int32.lt_iff_toInt_lt.mp c_52
        obtain ⟨y_53, ey_53⟩ : ∃ y : Int32, y = v6_6 + 1 := ⟨_, rfl⟩
        have ty_53 : y_53.toInt = v6_6.toInt + 1 := by rw [ey_53]; exact zaddc (by decide +kernel) (by omega) (by omega)
        refine lv_iinc (v := y_53) (lv' := [(6, .int y_53), (4, .long v6_4), (0, .ref h2), (1, .ref h1), (2, .int p2), (3, .int p3)]) hx hb d_8_7_48 hl (k := 0) rfl (by rw [ey_53]; rfl) (by decide +kernel) rfl (fun ls hl => ?_)
        refine lv_goto (tgt := 6) hx hb d_8_7_51 (by decide +kernel) ?_
        exact ih_4 _ _ _ _ (by omega) ⟨y_53, v6_4, (show p3.toInt ≤ y_53.toInt from (by first | assumption | omega)), (show y_53.toInt ≤ p2.toInt from (by first | assumption | omega)), rfl, hP.sub (ws' := [(h2, .inr (0, [.ref h9, .ref h10, .ref h11, .ref h12, .int tc, .int ta, .int td, .int tf])), (h9, .inl (kI, 3001, .inl f9)), (h10, .inl (kI, 3001, .inl f10)), (h11, .inl (kJ, 3001, .inr (.inl f11))), (h12, .inl (kJ, 27, .inr (.inl f12))), (h1, .inl (kB, 3000, .inl f1))]) [0, 1, 2, 3, 4, 5] rfl, hD.sub (ws' := [(h2, .inr (0, [.ref h9, .ref h10, .ref h11, .ref h12, .int tc, .int ta, .int td, .int tf])), (h9, .inl (kI, 3001, .inl f9)), (h10, .inl (kI, 3001, .inl f10)), (h11, .inl (kJ, 3001, .inr (.inl f11))), (h12, .inl (kJ, 27, .inr (.inl f12))), (h1, .inl (kB, 3000, .inl f1))]) [0, 1, 2, 3, 4, 5] (by decide) rfl, hS, lv_sub hl [0, 1, 2, 3, 4, 5] rfl⟩
      · skip
        have tc_52 : ¬ 0 < (lg_cmp v6_4 34359738367).toInt := fun h9 => c_52 (Int32.lt_iff_toInt_lt.mpr h9)
        refine lv_lload hx hb d_8_7_31 (lv_at hl 1 rfl) ?_
        refine lv_ldc2 (v := 10) hx hb hown (hts _ m_479) d_8_7_33 ?_
        refine lv_lmul hx hb d_8_7_36 ?_
        refine lv_aload_n hx hb d_8_7_37 rfl (lv_at hl 3 rfl) ?_
        refine lv_iload hx hb d_8_7_38 (lv_at hl 0 rfl) ?_
        refine va_bald hx hb hK hP 5 2 rfl rfl (vp_in_iff.mpr ⟨by omega, by omega⟩) d_8_7_40 ?_
        refine lv_topi (fun z_54 ez_54 => ?_)
        refine lv_bipush (v := 48) hx hb d_8_7_41 (by decide +kernel) ?_
        refine lv_isub hx hb d_8_7_43 ?_
        refine lv_topi (fun y_55 ey_55 => ?_)
        refine lv_i2l (v := (y_55.toInt64)) hx hb d_8_7_44 rfl ?_
        refine lv_ladd hx hb d_8_7_45 ?_
        refine lv_lstore (lv' := [(4, .long ((v6_4 * 10) + (y_55.toInt64))), (6, .int v6_6), (0, .ref h2), (1, .ref h1), (2, .int p2), (3, .int p3)]) hx hb d_8_7_46 hl (by decide +kernel) rfl (fun ls hl => ?_)
        obtain ⟨y_56, ey_56⟩ : ∃ y : Int32, y = v6_6 + 1 := ⟨_, rfl⟩
        have ty_56 : y_56.toInt = v6_6.toInt + 1 := by rw [ey_56]; exact zaddc (by decide +kernel) (by omega) (by omega)
        refine lv_iinc (v := y_56) (lv' := [(6, .int y_56), (4, .long ((v6_4 * 10) + (y_55.toInt64))), (0, .ref h2), (1, .ref h1), (2, .int p2), (3, .int p3)]) hx hb d_8_7_48 hl (k := 1) rfl (by rw [ey_56]; rfl) (by decide +kernel) rfl (fun ls hl => ?_)
        refine lv_goto (tgt := 6) hx hb d_8_7_51 (by decide +kernel) ?_
        exact ih_4 _ _ _ _ (by omega) ⟨y_56, ((v6_4 * 10) + (y_55.toInt64)), (show p3.toInt ≤ y_56.toInt from (by first | assumption | omega)), (show y_56.toInt ≤ p2.toInt from (by first | assumption | omega)), rfl, hP.sub (ws' := [(h2, .inr (0, [.ref h9, .ref h10, .ref h11, .ref h12, .int tc, .int ta, .int td, .int tf])), (h9, .inl (kI, 3001, .inl f9)), (h10, .inl (kI, 3001, .inl f10)), (h11, .inl (kJ, 3001, .inr (.inl f11))), (h12, .inl (kJ, 27, .inr (.inl f12))), (h1, .inl (kB, 3000, .inl f1))]) [0, 1, 2, 3, 4, 5] rfl, hD.sub (ws' := [(h2, .inr (0, [.ref h9, .ref h10, .ref h11, .ref h12, .int tc, .int ta, .int td, .int tf])), (h9, .inl (kI, 3001, .inl f9)), (h10, .inl (kI, 3001, .inl f10)), (h11, .inl (kJ, 3001, .inr (.inl f11))), (h12, .inl (kJ, 27, .inr (.inl f12))), (h1, .inl (kB, 3000, .inl f1))]) [0, 1, 2, 3, 4, 5] (by decide) rfl, hS, lv_sub hl [0, 1, 2, 3, 4, 5] rfl⟩
set_option maxHeartbeats 8000000 in
set_option maxRecDepth 100000 in
theorem g_Tokens_scanSign (l : Launch) (D : va_G) (kI kJ kB kZ : ClassId) (sz : Nat) (h1 : Nat) (h2 : Nat) (h9 : Nat) (h10 : Nat) (h11 : Nat) (h12 : Nat) (tc : Int32) (ta : Int32) (td : Int32) (tf : Int32) (f9 : Nat → Int32) (f10 : Nat → Int32) (f11 : Nat → Int64) (f12 : Nat → Int64) (f1 : Nat → Int32) (p2 : Int32) (p3 : Int32) (sA : Nat → Nat) (sV : Nat → Nat) (hf_C1 : 0 ≤ tc.toInt) (hf_C2 : tc.toInt ≤ 3001) (hf_T6 : ∀ j : Nat, 0 ≤ (f10 j).toInt) (hq_0 : 0 ≤ p3.toInt) (hq_1 : p3.toInt < p2.toInt) (hq_2 : p2.toInt ≤ 3000) : Met l (⟨"AlgolJudge$Tokens", "scanSign", "([BII)I"⟩ : MethodName) (Cond.code (⟨"AlgolJudge$Tokens", "scanSign", "([BII)I"⟩ : MethodName) prog_8_method_8_code 7 (some .int) :: gT) ({ frames := 4, cells := 0, slots := 0, locals := 91 }) (va_Pc [.ref h2, .ref h1, .int p2, .int p3] (xP D (xT kI kJ kB kZ) (xE sA sV) [(h2, .inr (0, [.ref h9, .ref h10, .ref h11, .ref h12, .int tc, .int ta, .int td, .int tf])), (h9, .inl (kI, 3001, .inl f9)), (h10, .inl (kI, 3001, .inl f10)), (h11, .inl (kJ, 3001, .inr (.inl f11))), (h12, .inl (kJ, 27, .inr (.inl f12))), (h1, .inl (kB, 3000, .inl f1))] sz)) (va_Qi (fun (r : Int32) (_ : Unit) => 0 ≤ r.toInt) (fun _ t => ∃ tc' : Int32, ∃ f9' : Nat → Int32, ∃ f10' : Nat → Int32, ∃ f11' : Nat → Int64, (0 ≤ tc'.toInt) ∧ (tc'.toInt ≤ 3001) ∧ (∀ j : Nat, 0 ≤ (f10' j).toInt) ∧ xQ D (xT kI kJ kB kZ) (va_A [(h2, .inr (0, [.ref h9, .ref h10, .ref h11, .ref h12, .int tc, .int ta, .int td, .int tf])), (h9, .inl (kI, 3001, .inl f9)), (h10, .inl (kI, 3001, .inl f10)), (h11, .inl (kJ, 3001, .inr (.inl f11))), (h12, .inl (kJ, 27, .inr (.inl f12))), (h1, .inl (kB, 3000, .inl f1))] sz) [(h2, .inr (0, [.ref h9, .ref h10, .ref h11, .ref h12, .int tc', .int ta, .int td, .int tf])), (h9, .inl (kI, 3001, .inl f9')), (h10, .inl (kI, 3001, .inl f10')), (h11, .inl (kJ, 3001, .inr (.inl f11'))), (h12, .inl (kJ, 27, .inr (.inl f12))), (h1, .inl (kB, 3000, .inl f1))] t) (va_A [(h2, .inr (0, [.ref h9, .ref h10, .ref h11, .ref h12, .int tc, .int ta, .int td, .int tf])), (h9, .inl (kI, 3001, .inl f9)), (h10, .inl (kI, 3001, .inl f10)), (h11, .inl (kJ, 3001, .inr (.inl f11))), (h12, .inl (kJ, 27, .inr (.inl f12))), (h1, .inl (kB, 3000, .inl f1))] sz)) 0 0 (va_A [(h2, .inr (0, [.ref h9, .ref h10, .ref h11, .ref h12, .int tc, .int ta, .int td, .int tf])), (h9, .inl (kI, 3001, .inl f9)), (h10, .inl (kI, 3001, .inl f10)), (h11, .inl (kJ, 3001, .inr (.inl f11))), (h12, .inl (kJ, 27, .inr (.inl f12))), (h1, .inl (kB, 3000, .inl f1))] sz) := by
  refine Met.ofW (cc := prog_8_method_8_code) (maxL := 7) (ret := some .int) (by decide +kernel) rfl ?_
  intro p e s m args below meth c s₁ B hml hv
  obtain ⟨rfl, hsz, hP, hK, hD0, hE⟩ := hv
  have hx := B.exec
  have hb := B.bytes
  have hr := B.returns
  have hts : ∀ w ∈ gT, w.before _ s = true := fun w h => atoms_spec (ws := Cond.code (⟨"AlgolJudge$Tokens", "scanSign", "([BII)I"⟩ : MethodName) prog_8_method_8_code 7 (some .int) :: gT) B.pre w (List.mem_cons_of_mem _ h)
  have hown : s.vm.findClass "AlgolJudge$Tokens" = some m.cls := findClass_of_methodNamed B.named
  have hlocks := B.notSynchronized
  subst hsz
  have hD := hD0.self (sz := s.heap.size)
  generalize hAe : va_A [(h2, .inr (0, [.ref h9, .ref h10, .ref h11, .ref h12, .int tc, .int ta, .int td, .int tf])), (h9, .inl (kI, 3001, .inl f9)), (h10, .inl (kI, 3001, .inl f10)), (h11, .inl (kJ, 3001, .inr (.inl f11))), (h12, .inl (kJ, 27, .inr (.inl f12))), (h1, .inl (kB, 3000, .inl f1))] s.heap.size = A at hD hE ⊢
  have hA : ∀ q : Nat, s.heap.size ≤ q → A q := fun q h => by rw [← hAe]; exact Or.inr h
  have hS : va_S A s.heap s.heap [] := va_S.rf
  have hP : va_P D cls9 [(h2, .inr (0, [.ref h9, .ref h10, .ref h11, .ref h12, .int tc, .int ta, .int td, .int tf])), (h9, .inl (kI, 3001, .inl f9)), (h10, .inl (kI, 3001, .inl f10)), (h11, .inl (kJ, 3001, .inr (.inl f11))), (h12, .inl (kJ, 27, .inr (.inl f12))), (h1, .inl (kB, 3000, .inl f1))] s.heap := hP
  have hl := lv_entry ([.ref h2, .ref h1, .int p2, .int p3]) (n := 7) (Nat.le_of_ble_eq_true rfl)
  rw [lg_entry_eq]
  generalize (lg_sl ([.ref h2, .ref h1, .int p2, .int p3]) ++ List.replicate (7 - (lg_sl ([.ref h2, .ref h1, .int p2, .int p3])).length) Slot.unset).toArray = ls at hl ⊢
  have hl : lv_has ls 7 [(0, .ref h2), (1, .ref h1), (2, .int p2), (3, .int p3)] := hl
  refine va_ldcS hx hb hown (xE_r1 hE) d_8_8_0 ?_
  refine lv_aload_n hx hb d_8_8_2 rfl (lv_at hl 1 rfl) ?_
  refine lv_iload_n hx hb d_8_8_3 rfl (lv_at hl 3 rfl) ?_
  refine va_bald hx hb hK hP 5 2 rfl rfl (vp_in_iff.mpr ⟨by omega, by omega⟩) d_8_8_4 ?_
  refine lv_topi (fun z_1 ez_1 => ?_)
  refine lv_sipush (v := 255) hx hb d_8_8_5 (by decide +kernel) ?_
  refine lv_iand hx hb d_8_8_8 ?_
  refine lv_topi (fun y_2 ey_2 => ?_)
  refine lv_i2c (v := ((y_2.toUInt32 % 65536).toInt32)) hx hb d_8_8_9 rfl ?_
  have hPc := hP.sub (ws' := []) [] rfl
  have hDc := hD.sub (ws' := []) [] (by decide) rfl
  have hFc := va_free (wc := []) hD hS hA [] rfl
  refine va_calli (va_runV (As := [.int ((y_2.toUInt32 % 65536).toInt32)]) (rest := []) ⟨hx, hb, hml, hown, hts⟩ (g_String_indexOf_1 l D kI kJ kB kZ _ (((y_2.toUInt32 % 65536).toInt32)) (sA) (sV) (1) (by first | assumption | omega)) (cwV 1 hts (gT_V m_485 m_486 m_487 m_122 (gT_ws m_488)) rfl rfl rfl (by decide +kernel) ⟨(Nat.le_of_ble_eq_true rfl), (Nat.le_of_ble_eq_true rfl)⟩) ⟨xBlind (xOk_E sA sV), (xE_O hE 1 (by decide) hS), xAt (xOk_E sA sV) hK hPc hDc hS hFc hE⟩ rfl rfl hl.1 rfl (lv_room (Nat.le_of_ble_eq_true rfl)) d_8_8_10 ⟨(Nat.le_of_ble_eq_true rfl), (Nat.le_of_ble_eq_true rfl)⟩) hS (fun q _ h => hFc q h) hFc (fun r_3 u t H locs ht hvm hw_4 hB hz1 hk1 hS => ?_)
  clear hz1
  have hPD := xJoin (wr := [(h2, .inr (0, [.ref h9, .ref h10, .ref h11, .ref h12, .int tc, .int ta, .int td, .int tf])), (h9, .inl (kI, 3001, .inl f9)), (h10, .inl (kI, 3001, .inl f10)), (h11, .inl (kJ, 3001, .inr (.inl f11))), (h12, .inl (kJ, 27, .inr (.inl f12))), (h1, .inl (kB, 3000, .inl f1))]) (w1 := []) hP hD [] [0, 1, 2, 3, 4, 5] rfl rfl (by decide) (by decide) hk1 hFc ht hB
  replace hP : va_P D cls9 [(h2, .inr (0, [.ref h9, .ref h10, .ref h11, .ref h12, .int tc, .int ta, .int td, .int tf])), (h9, .inl (kI, 3001, .inl f9)), (h10, .inl (kI, 3001, .inl f10)), (h11, .inl (kJ, 3001, .inr (.inl f11))), (h12, .inl (kJ, 27, .inr (.inl f12))), (h1, .inl (kB, 3000, .inl f1))] H := hPD.1
  replace hD : va_D A [(h2, .inr (0, [.ref h9, .ref h10, .ref h11, .ref h12, .int tc, .int ta, .int td, .int tf])), (h9, .inl (kI, 3001, .inl f9)), (h10, .inl (kI, 3001, .inl f10)), (h11, .inl (kJ, 3001, .inr (.inl f11))), (h12, .inl (kJ, 27, .inr (.inl f12))), (h1, .inl (kB, 3000, .inl f1))] := hPD.2
  clear hPD hB hk1 hPc hDc hFc
  refine lv_istore (lv' := [(4, .int r_3), (0, .ref h2), (1, .ref h1), (2, .int p2), (3, .int p3)]) hx hb d_8_8_13 hl (by decide +kernel) rfl (fun ls hl => ?_)
  refine lv_iload hx hb d_8_8_15 (lv_at hl 0 rfl) ?_
  refine lv_if_ge (tgt := 24) hx hb d_8_8_17 (by decide +kernel) (fun c_5 => ?_) (fun c_5 => ?_)
  · skip
    have tc_5 : 0 ≤ r_3.toInt := Int32.le_iff_toInt_le.mp c_5
    refine lv_bipush (v := 30) hx hb d_8_8_24 (by decide +kernel) ?_
    refine lv_iload hx hb d_8_8_26 (lv_at hl 0 rfl) ?_
    refine lv_iadd hx hb d_8_8_28 ?_
    refine lv_topi (fun y_6 ey_6 => ?_)
    refine lv_istore (lv' := [(5, .int y_6), (4, .int r_3), (0, .ref h2), (1, .ref h1), (2, .int p2), (3, .int p3)]) hx hb d_8_8_29 hl (by decide +kernel) rfl (fun ls hl => ?_)
    refine lv_iload_n hx hb d_8_8_31 rfl (lv_at hl 5 rfl) ?_
    refine lv_iconst (v := 1) hx hb d_8_8_32 (by decide +kernel) ?_
    refine lv_iadd hx hb d_8_8_33 ?_
    refine lv_topi (fun y_7 ey_7 => ?_)
    have ty_7 : y_7.toInt = p3.toInt + 1 := by rw [ey_7]; exact zaddc (by decide +kernel) (by omega) (by omega)
    refine lv_iload_n hx hb d_8_8_34 rfl (lv_at hl 4 rfl) ?_
    refine lv_icmp_ge (tgt := 56) hx hb d_8_8_35 (by decide +kernel) (fun c_8 => ?_) (fun c_8 => ?_)
    · skip
      have tc_8 : p2.toInt ≤ y_7.toInt := Int32.le_iff_toInt_le.mp c_8
      refine lv_iconst (v := (-1)) hx hb d_8_8_56 (by decide +kernel) ?_
      refine lv_istore (lv' := [(6, .int (-1)), (5, .int y_6), (4, .int r_3), (0, .ref h2), (1, .ref h1), (2, .int p2), (3, .int p3)]) hx hb d_8_8_57 hl (by decide +kernel) rfl (fun ls hl => ?_)
      refine lv_aload_n hx hb d_8_8_59 rfl (lv_at hl 3 rfl) ?_
      refine lv_iload hx hb d_8_8_60 (lv_at hl 0 rfl) ?_
      refine lv_iconst (v := (-1)) hx hb d_8_8_62 (by decide +kernel) ?_
      refine lv_icmp_ne (tgt := 71) hx hb d_8_8_63 (by decide +kernel) (fun c_9 => ?_) (fun c_9 => ?_)
      · exact absurd c_9 (by decide +kernel)
      refine lv_iload hx hb d_8_8_66 (lv_at hl 1 rfl) ?_
      refine lv_goto (tgt := 73) hx hb d_8_8_68 (by decide +kernel) ?_
      refine lv_iload_n hx hb d_8_8_73 rfl (lv_at hl 6 rfl) ?_
      refine lv_lconst (v := 0) hx hb d_8_8_74 (by decide +kernel) ?_
      have hPc := hP.sub (ws' := [(h2, .inr (0, [.ref h9, .ref h10, .ref h11, .ref h12, .int tc, .int ta, .int td, .int tf])), (h9, .inl (kI, 3001, .inl f9)), (h10, .inl (kI, 3001, .inl f10)), (h11, .inl (kJ, 3001, .inr (.inl f11))), (h12, .inl (kJ, 27, .inr (.inl f12)))]) [0, 1, 2, 3, 4] rfl
      have hDc := hD.sub (ws' := [(h2, .inr (0, [.ref h9, .ref h10, .ref h11, .ref h12, .int tc, .int ta, .int td, .int tf])), (h9, .inl (kI, 3001, .inl f9)), (h10, .inl (kI, 3001, .inl f10)), (h11, .inl (kJ, 3001, .inr (.inl f11))), (h12, .inl (kJ, 27, .inr (.inl f12)))]) [0, 1, 2, 3, 4] (by decide) rfl
      have hFc := va_free (wc := [(h2, .inr (0, [.ref h9, .ref h10, .ref h11, .ref h12, .int tc, .int ta, .int td, .int tf])), (h9, .inl (kI, 3001, .inl f9)), (h10, .inl (kI, 3001, .inl f10)), (h11, .inl (kJ, 3001, .inr (.inl f11))), (h12, .inl (kJ, 27, .inr (.inl f12)))]) hD hS hA [0, 1, 2, 3, 4] rfl
      refine va_callv (va_runV (As := [.int y_6, .int p3, .long 0]) (rest := []) ⟨hx, hb, hml, hown, hts⟩ (g_Tokens_add l D kI kJ kB kZ _ (h2) (h9) (h10) (h11) (h12) (tc) (ta) (td) (tf) (f9) (f10) (f11) (f12) (y_6) (p3) ((0 : Int64)) hf_C1 hf_C2 hf_T6 hq_0) (cwV 3 hts (gT_V m_470 m_472 m_5 m_121 (gT_ws m_473)) rfl rfl rfl (by decide +kernel) ⟨(Nat.le_of_ble_eq_true rfl), (Nat.le_of_ble_eq_true rfl)⟩) ⟨xBlind xOk_N, va_recv hK hP (ci := 0) (q0 := 0) rfl rfl, xAtN hK hPc hDc⟩ rfl rfl hl.1 rfl (lv_room (Nat.le_of_ble_eq_true rfl)) d_8_8_75 ⟨(Nat.le_of_ble_eq_true rfl), (Nat.le_of_ble_eq_true rfl)⟩) hS (fun q _ h => hFc q h) hFc (fun u t H locs ht hvm hw_11 hB hz1 hk1 hS => ?_)
      clear hz1
      revert hB
      refine exI fun x_12 => exI fun x_13 => exI fun x_14 => exI fun x_15 => anI fun hb_16 => anI fun hb_17 => anI fun hb_18 => anI fun hb_19 => fun hB => ?_
      have hPD := xJoin (wr := [(h1, .inl (kB, 3000, .inl f1))]) (w1 := [(h2, .inr (0, [.ref h9, .ref h10, .ref h11, .ref h12, .int x_12, .int ta, .int td, .int tf])), (h9, .inl (kI, 3001, .inl x_13)), (h10, .inl (kI, 3001, .inl x_14)), (h11, .inl (kJ, 3001, .inr (.inl x_15))), (h12, .inl (kJ, 27, .inr (.inl f12)))]) hP hD [0, 1, 2, 3, 4] [5] rfl rfl (by decide) (by decide) hk1 hFc ht hB
      replace hP : va_P D cls9 [(h1, .inl (kB, 3000, .inl f1)), (h2, .inr (0, [.ref h9, .ref h10, .ref h11, .ref h12, .int x_12, .int ta, .int td, .int tf])), (h9, .inl (kI, 3001, .inl x_13)), (h10, .inl (kI, 3001, .inl x_14)), (h11, .inl (kJ, 3001, .inr (.inl x_15))), (h12, .inl (kJ, 27, .inr (.inl f12)))] H := hPD.1
      replace hD : va_D A [(h1, .inl (kB, 3000, .inl f1)), (h2, .inr (0, [.ref h9, .ref h10, .ref h11, .ref h12, .int x_12, .int ta, .int td, .int tf])), (h9, .inl (kI, 3001, .inl x_13)), (h10, .inl (kI, 3001, .inl x_14)), (h11, .inl (kJ, 3001, .inr (.inl x_15))), (h12, .inl (kJ, 27, .inr (.inl f12)))] := hPD.2
      clear hPD hB hk1 hPc hDc hFc
      refine lv_iload hx hb d_8_8_78 (lv_at hl 0 rfl) ?_
      refine lv_iconst (v := (-1)) hx hb d_8_8_80 (by decide +kernel) ?_
      refine lv_icmp_ne (tgt := 90) hx hb d_8_8_81 (by decide +kernel) (fun c_20 => ?_) (fun c_20 => ?_)
      · exact absurd c_20 (by decide +kernel)
      refine lv_iload_n hx hb d_8_8_84 rfl (lv_at hl 6 rfl) ?_
      refine lv_iconst (v := 1) hx hb d_8_8_85 (by decide +kernel) ?_
      refine lv_iadd hx hb d_8_8_86 ?_
      refine lv_topi (fun y_21 ey_21 => ?_)
      have ty_21 : y_21.toInt = p3.toInt + 1 := by rw [ey_21]; exact zaddc (by decide +kernel) (by omega) (by omega)
      refine lv_goto (tgt := 93) hx hb d_8_8_87 (by decide +kernel) ?_
      have hP9 := hP.sub (ws' := [(h2, .inr (0, [.ref h9, .ref h10, .ref h11, .ref h12, .int x_12, .int ta, .int td, .int tf])), (h9, .inl (kI, 3001, .inl x_13)), (h10, .inl (kI, 3001, .inl x_14)), (h11, .inl (kJ, 3001, .inr (.inl x_15))), (h12, .inl (kJ, 27, .inr (.inl f12))), (h1, .inl (kB, 3000, .inl f1))]) [1, 2, 3, 4, 5, 0] rfl
      have hD9 := hD.sub (ws' := [(h2, .inr (0, [.ref h9, .ref h10, .ref h11, .ref h12, .int x_12, .int ta, .int td, .int tf])), (h9, .inl (kI, 3001, .inl x_13)), (h10, .inl (kI, 3001, .inl x_14)), (h11, .inl (kJ, 3001, .inr (.inl x_15))), (h12, .inl (kJ, 27, .inr (.inl f12))), (h1, .inl (kB, 3000, .inl f1))]) [1, 2, 3, 4, 5, 0] (by decide) rfl
      have hrp : 0 ≤ y_21.toInt := by first |  omega | assumption | exact pk_nc _ | exact Or.inl ⟨by omega, by omega, by assumption⟩ | exact Or.inr ⟨by omega, by decide +kernel⟩ | exact fun h9 => absurd h9 (by omega) | exact fun _ => isH_no1 (by omega) | exact fun _ => isH_no2 (by assumption) (by assumption) (by omega) | (intro h9; omega) | (intro h8 h9; omega)
      exact W.iret (v := y_21) hx hb hr (fun t ht hW => ⟨⟨y_21, (), rfl, hrp, x_12, x_13, x_14, x_15, hb_16, hb_17, hb_18, xEnd hK hP9 hD9 ht hW⟩, hS.F ht⟩) hS.2.2 d_8_8_93
    · skip
      have tc_8 : ¬ p2.toInt ≤ y_7.toInt := fun h9 => c_8 (Int32.le_iff_toInt_le.mpr h9)
      refine lv_aload_n hx hb d_8_8_38 rfl (lv_at hl 3 rfl) ?_
      refine lv_iload_n hx hb d_8_8_39 rfl (lv_at hl 5 rfl) ?_
      refine lv_iconst (v := 1) hx hb d_8_8_40 (by decide +kernel) ?_
      refine lv_iadd hx hb d_8_8_41 ?_
      refine lv_topi (fun y_22 ey_22 => ?_)
      have ty_22 : y_22.toInt = p3.toInt + 1 := by rw [ey_22]; exact zaddc (by decide +kernel) (by omega) (by omega)
      refine va_bald hx hb hK hP 5 2 rfl rfl (vp_in_iff.mpr ⟨by omega, by omega⟩) d_8_8_42 ?_
      refine lv_topi (fun z_23 ez_23 => ?_)
      refine lv_bipush (v := 61) hx hb d_8_8_43 (by decide +kernel) ?_
      refine lv_icmp_ne (tgt := 56) hx hb d_8_8_45 (by decide +kernel) (fun c_24 => ?_) (fun c_24 => ?_)
      · skip
        have tc_24 : ¬ z_23.toInt = 61 := fun h9 => c_24 (Int32.toInt_inj.mp h9)
        refine lv_iconst (v := (-1)) hx hb d_8_8_56 (by decide +kernel) ?_
        refine lv_istore (lv' := [(6, .int (-1)), (5, .int y_6), (4, .int r_3), (0, .ref h2), (1, .ref h1), (2, .int p2), (3, .int p3)]) hx hb d_8_8_57 hl (by decide +kernel) rfl (fun ls hl => ?_)
        refine lv_aload_n hx hb d_8_8_59 rfl (lv_at hl 3 rfl) ?_
        refine lv_iload hx hb d_8_8_60 (lv_at hl 0 rfl) ?_
        refine lv_iconst (v := (-1)) hx hb d_8_8_62 (by decide +kernel) ?_
        refine lv_icmp_ne (tgt := 71) hx hb d_8_8_63 (by decide +kernel) (fun c_25 => ?_) (fun c_25 => ?_)
        · exact absurd c_25 (by decide +kernel)
        refine lv_iload hx hb d_8_8_66 (lv_at hl 1 rfl) ?_
        refine lv_goto (tgt := 73) hx hb d_8_8_68 (by decide +kernel) ?_
        refine lv_iload_n hx hb d_8_8_73 rfl (lv_at hl 6 rfl) ?_
        refine lv_lconst (v := 0) hx hb d_8_8_74 (by decide +kernel) ?_
        have hPc := hP.sub (ws' := [(h2, .inr (0, [.ref h9, .ref h10, .ref h11, .ref h12, .int tc, .int ta, .int td, .int tf])), (h9, .inl (kI, 3001, .inl f9)), (h10, .inl (kI, 3001, .inl f10)), (h11, .inl (kJ, 3001, .inr (.inl f11))), (h12, .inl (kJ, 27, .inr (.inl f12)))]) [0, 1, 2, 3, 4] rfl
        have hDc := hD.sub (ws' := [(h2, .inr (0, [.ref h9, .ref h10, .ref h11, .ref h12, .int tc, .int ta, .int td, .int tf])), (h9, .inl (kI, 3001, .inl f9)), (h10, .inl (kI, 3001, .inl f10)), (h11, .inl (kJ, 3001, .inr (.inl f11))), (h12, .inl (kJ, 27, .inr (.inl f12)))]) [0, 1, 2, 3, 4] (by decide) rfl
        have hFc := va_free (wc := [(h2, .inr (0, [.ref h9, .ref h10, .ref h11, .ref h12, .int tc, .int ta, .int td, .int tf])), (h9, .inl (kI, 3001, .inl f9)), (h10, .inl (kI, 3001, .inl f10)), (h11, .inl (kJ, 3001, .inr (.inl f11))), (h12, .inl (kJ, 27, .inr (.inl f12)))]) hD hS hA [0, 1, 2, 3, 4] rfl
        refine va_callv (va_runV (As := [.int y_6, .int p3, .long 0]) (rest := []) ⟨hx, hb, hml, hown, hts⟩ (g_Tokens_add l D kI kJ kB kZ _ (h2) (h9) (h10) (h11) (h12) (tc) (ta) (td) (tf) (f9) (f10) (f11) (f12) (y_6) (p3) ((0 : Int64)) hf_C1 hf_C2 hf_T6 hq_0) (cwV 3 hts (gT_V m_470 m_472 m_5 m_121 (gT_ws m_473)) rfl rfl rfl (by decide +kernel) ⟨(Nat.le_of_ble_eq_true rfl), (Nat.le_of_ble_eq_true rfl)⟩) ⟨xBlind xOk_N, va_recv hK hP (ci := 0) (q0 := 0) rfl rfl, xAtN hK hPc hDc⟩ rfl rfl hl.1 rfl (lv_room (Nat.le_of_ble_eq_true rfl)) d_8_8_75 ⟨(Nat.le_of_ble_eq_true rfl), (Nat.le_of_ble_eq_true rfl)⟩) hS (fun q _ h => hFc q h) hFc (fun u t H locs ht hvm hw_27 hB hz1 hk1 hS => ?_)
        clear hz1
        revert hB
        refine exI fun x_28 => exI fun x_29 => exI fun x_30 => exI fun x_31 => anI fun hb_32 => anI fun hb_33 => anI fun hb_34 => anI fun hb_35 => fun hB => ?_
        have hPD := xJoin (wr := [(h1, .inl (kB, 3000, .inl f1))]) (w1 := [(h2, .inr (0, [.ref h9, .ref h10, .ref h11, .ref h12, .int x_28, .int ta, .int td, .int tf])), (h9, .inl (kI, 3001, .inl x_29)), (h10, .inl (kI, 3001, .inl x_30)), (h11, .inl (kJ, 3001, .inr (.inl x_31))), (h12, .inl (kJ, 27, .inr (.inl f12)))]) hP hD [0, 1, 2, 3, 4] [5] rfl rfl (by decide) (by decide) hk1 hFc ht hB
        replace hP : va_P D cls9 [(h1, .inl (kB, 3000, .inl f1)), (h2, .inr (0, [.ref h9, .ref h10, .ref h11, .ref h12, .int x_28, .int ta, .int td, .int tf])), (h9, .inl (kI, 3001, .inl x_29)), (h10, .inl (kI, 3001, .inl x_30)), (h11, .inl (kJ, 3001, .inr (.inl x_31))), (h12, .inl (kJ, 27, .inr (.inl f12)))] H := hPD.1
        replace hD : va_D A [(h1, .inl (kB, 3000, .inl f1)), (h2, .inr (0, [.ref h9, .ref h10, .ref h11, .ref h12, .int x_28, .int ta, .int td, .int tf])), (h9, .inl (kI, 3001, .inl x_29)), (h10, .inl (kI, 3001, .inl x_30)), (h11, .inl (kJ, 3001, .inr (.inl x_31))), (h12, .inl (kJ, 27, .inr (.inl f12)))] := hPD.2
        clear hPD hB hk1 hPc hDc hFc
        refine lv_iload hx hb d_8_8_78 (lv_at hl 0 rfl) ?_
        refine lv_iconst (v := (-1)) hx hb d_8_8_80 (by decide +kernel) ?_
        refine lv_icmp_ne (tgt := 90) hx hb d_8_8_81 (by decide +kernel) (fun c_36 => ?_) (fun c_36 => ?_)
        · exact absurd c_36 (by decide +kernel)
        refine lv_iload_n hx hb d_8_8_84 rfl (lv_at hl 6 rfl) ?_
        refine lv_iconst (v := 1) hx hb d_8_8_85 (by decide +kernel) ?_
        refine lv_iadd hx hb d_8_8_86 ?_
        refine lv_topi (fun y_37 ey_37 => ?_)
        have ty_37 : y_37.toInt = p3.toInt + 1 := by rw [ey_37]; exact zaddc (by decide +kernel) (by omega) (by omega)
        refine lv_goto (tgt := 93) hx hb d_8_8_87 (by decide +kernel) ?_
        have hP9 := hP.sub (ws' := [(h2, .inr (0, [.ref h9, .ref h10, .ref h11, .ref h12, .int x_28, .int ta, .int td, .int tf])), (h9, .inl (kI, 3001, .inl x_29)), (h10, .inl (kI, 3001, .inl x_30)), (h11, .inl (kJ, 3001, .inr (.inl x_31))), (h12, .inl (kJ, 27, .inr (.inl f12))), (h1, .inl (kB, 3000, .inl f1))]) [1, 2, 3, 4, 5, 0] rfl
        have hD9 := hD.sub (ws' := [(h2, .inr (0, [.ref h9, .ref h10, .ref h11, .ref h12, .int x_28, .int ta, .int td, .int tf])), (h9, .inl (kI, 3001, .inl x_29)), (h10, .inl (kI, 3001, .inl x_30)), (h11, .inl (kJ, 3001, .inr (.inl x_31))), (h12, .inl (kJ, 27, .inr (.inl f12))), (h1, .inl (kB, 3000, .inl f1))]) [1, 2, 3, 4, 5, 0] (by decide) rfl
        have hrp : 0 ≤ y_37.toInt := by first |  omega | assumption | exact pk_nc _ | exact Or.inl ⟨by omega, by omega, by assumption⟩ | exact Or.inr ⟨by omega, by decide +kernel⟩ | exact fun h9 => absurd h9 (by omega) | exact fun _ => isH_no1 (by omega) | exact fun _ => isH_no2 (by assumption) (by assumption) (by omega) | (intro h9; omega) | (intro h8 h9; omega)
        exact W.iret (v := y_37) hx hb hr (fun t ht hW => ⟨⟨y_37, (), rfl, hrp, x_28, x_29, x_30, x_31, hb_32, hb_33, hb_34, xEnd hK hP9 hD9 ht hW⟩, hS.F ht⟩) hS.2.2 d_8_8_93
      · skip
        have tc_24 : z_23.toInt = 61 := congrArg Int32.toInt c_24
        refine lv_iload hx hb d_8_8_48 (lv_at hl 0 rfl) ?_
        have hPc := hP.sub (ws' := []) [] rfl
        have hDc := hD.sub (ws' := []) [] (by decide) rfl
        have hFc := va_free (wc := []) hD hS hA [] rfl
        refine va_calli (va_runS (As := [.int y_6]) (rest := []) ⟨hx, hb, hml, hown, hts⟩ (g_Tokens_withEqual l D kI kJ kB kZ _ (y_6) ) (va_cwS 1 hts (gT_S m_544 m_545 m_121 (gT_ws m_546)) rfl rfl rfl (by decide +kernel) ⟨(Nat.le_of_ble_eq_true rfl), (Nat.le_of_ble_eq_true rfl)⟩) ⟨xBlind xOk_N, xAtN hK hPc hDc⟩ rfl rfl hl.1 rfl (lv_room (Nat.le_of_ble_eq_true rfl)) d_8_8_50 ⟨(Nat.le_of_ble_eq_true rfl), (Nat.le_of_ble_eq_true rfl)⟩) hS (fun q _ h => hFc q h) hFc (fun r_38 u t H locs ht hvm hw_39 hB hz1 hk1 hS => ?_)
        clear hz1
        have hPD := xJoin (wr := [(h2, .inr (0, [.ref h9, .ref h10, .ref h11, .ref h12, .int tc, .int ta, .int td, .int tf])), (h9, .inl (kI, 3001, .inl f9)), (h10, .inl (kI, 3001, .inl f10)), (h11, .inl (kJ, 3001, .inr (.inl f11))), (h12, .inl (kJ, 27, .inr (.inl f12))), (h1, .inl (kB, 3000, .inl f1))]) (w1 := []) hP hD [] [0, 1, 2, 3, 4, 5] rfl rfl (by decide) (by decide) hk1 hFc ht hB
        replace hP : va_P D cls9 [(h2, .inr (0, [.ref h9, .ref h10, .ref h11, .ref h12, .int tc, .int ta, .int td, .int tf])), (h9, .inl (kI, 3001, .inl f9)), (h10, .inl (kI, 3001, .inl f10)), (h11, .inl (kJ, 3001, .inr (.inl f11))), (h12, .inl (kJ, 27, .inr (.inl f12))), (h1, .inl (kB, 3000, .inl f1))] H := hPD.1
        replace hD : va_D A [(h2, .inr (0, [.ref h9, .ref h10, .ref h11, .ref h12, .int tc, .int ta, .int td, .int tf])), (h9, .inl (kI, 3001, .inl f9)), (h10, .inl (kI, 3001, .inl f10)), (h11, .inl (kJ, 3001, .inr (.inl f11))), (h12, .inl (kJ, 27, .inr (.inl f12))), (h1, .inl (kB, 3000, .inl f1))] := hPD.2
        clear hPD hB hk1 hPc hDc hFc
        refine lv_goto (tgt := 57) hx hb d_8_8_53 (by decide +kernel) ?_
        refine lv_istore (lv' := [(6, .int r_38), (5, .int y_6), (4, .int r_3), (0, .ref h2), (1, .ref h1), (2, .int p2), (3, .int p3)]) hx hb d_8_8_57 hl (by decide +kernel) rfl (fun ls hl => ?_)
        refine lv_aload_n hx hb d_8_8_59 rfl (lv_at hl 3 rfl) ?_
        refine lv_iload hx hb d_8_8_60 (lv_at hl 0 rfl) ?_
        refine lv_iconst (v := (-1)) hx hb d_8_8_62 (by decide +kernel) ?_
        refine lv_icmp_ne (tgt := 71) hx hb d_8_8_63 (by decide +kernel) (fun c_40 => ?_) (fun c_40 => ?_)
        · skip
          have tc_40 : ¬ r_38.toInt = (-1) := fun h9 => c_40 (Int32.toInt_inj.mp h9)
          refine lv_iload hx hb d_8_8_71 (lv_at hl 0 rfl) ?_
          refine lv_iload_n hx hb d_8_8_73 rfl (lv_at hl 6 rfl) ?_
          refine lv_lconst (v := 0) hx hb d_8_8_74 (by decide +kernel) ?_
          have hPc := hP.sub (ws' := [(h2, .inr (0, [.ref h9, .ref h10, .ref h11, .ref h12, .int tc, .int ta, .int td, .int tf])), (h9, .inl (kI, 3001, .inl f9)), (h10, .inl (kI, 3001, .inl f10)), (h11, .inl (kJ, 3001, .inr (.inl f11))), (h12, .inl (kJ, 27, .inr (.inl f12)))]) [0, 1, 2, 3, 4] rfl
          have hDc := hD.sub (ws' := [(h2, .inr (0, [.ref h9, .ref h10, .ref h11, .ref h12, .int tc, .int ta, .int td, .int tf])), (h9, .inl (kI, 3001, .inl f9)), (h10, .inl (kI, 3001, .inl f10)), (h11, .inl (kJ, 3001, .inr (.inl f11))), (h12, .inl (kJ, 27, .inr (.inl f12)))]) [0, 1, 2, 3, 4] (by decide) rfl
          have hFc := va_free (wc := [(h2, .inr (0, [.ref h9, .ref h10, .ref h11, .ref h12, .int tc, .int ta, .int td, .int tf])), (h9, .inl (kI, 3001, .inl f9)), (h10, .inl (kI, 3001, .inl f10)), (h11, .inl (kJ, 3001, .inr (.inl f11))), (h12, .inl (kJ, 27, .inr (.inl f12)))]) hD hS hA [0, 1, 2, 3, 4] rfl
          refine va_callv (va_runV (As := [.int r_38, .int p3, .long 0]) (rest := []) ⟨hx, hb, hml, hown, hts⟩ (g_Tokens_add l D kI kJ kB kZ _ (h2) (h9) (h10) (h11) (h12) (tc) (ta) (td) (tf) (f9) (f10) (f11) (f12) (r_38) (p3) ((0 : Int64)) hf_C1 hf_C2 hf_T6 hq_0) (cwV 3 hts (gT_V m_470 m_472 m_5 m_121 (gT_ws m_473)) rfl rfl rfl (by decide +kernel) ⟨(Nat.le_of_ble_eq_true rfl), (Nat.le_of_ble_eq_true rfl)⟩) ⟨xBlind xOk_N, va_recv hK hP (ci := 0) (q0 := 0) rfl rfl, xAtN hK hPc hDc⟩ rfl rfl hl.1 rfl (lv_room (Nat.le_of_ble_eq_true rfl)) d_8_8_75 ⟨(Nat.le_of_ble_eq_true rfl), (Nat.le_of_ble_eq_true rfl)⟩) hS (fun q _ h => hFc q h) hFc (fun u t H locs ht hvm hw_42 hB hz1 hk1 hS => ?_)
          clear hz1
          revert hB
          refine exI fun x_43 => exI fun x_44 => exI fun x_45 => exI fun x_46 => anI fun hb_47 => anI fun hb_48 => anI fun hb_49 => anI fun hb_50 => fun hB => ?_
          have hPD := xJoin (wr := [(h1, .inl (kB, 3000, .inl f1))]) (w1 := [(h2, .inr (0, [.ref h9, .ref h10, .ref h11, .ref h12, .int x_43, .int ta, .int td, .int tf])), (h9, .inl (kI, 3001, .inl x_44)), (h10, .inl (kI, 3001, .inl x_45)), (h11, .inl (kJ, 3001, .inr (.inl x_46))), (h12, .inl (kJ, 27, .inr (.inl f12)))]) hP hD [0, 1, 2, 3, 4] [5] rfl rfl (by decide) (by decide) hk1 hFc ht hB
          replace hP : va_P D cls9 [(h1, .inl (kB, 3000, .inl f1)), (h2, .inr (0, [.ref h9, .ref h10, .ref h11, .ref h12, .int x_43, .int ta, .int td, .int tf])), (h9, .inl (kI, 3001, .inl x_44)), (h10, .inl (kI, 3001, .inl x_45)), (h11, .inl (kJ, 3001, .inr (.inl x_46))), (h12, .inl (kJ, 27, .inr (.inl f12)))] H := hPD.1
          replace hD : va_D A [(h1, .inl (kB, 3000, .inl f1)), (h2, .inr (0, [.ref h9, .ref h10, .ref h11, .ref h12, .int x_43, .int ta, .int td, .int tf])), (h9, .inl (kI, 3001, .inl x_44)), (h10, .inl (kI, 3001, .inl x_45)), (h11, .inl (kJ, 3001, .inr (.inl x_46))), (h12, .inl (kJ, 27, .inr (.inl f12)))] := hPD.2
          clear hPD hB hk1 hPc hDc hFc
          refine lv_iload hx hb d_8_8_78 (lv_at hl 0 rfl) ?_
          refine lv_iconst (v := (-1)) hx hb d_8_8_80 (by decide +kernel) ?_
          refine lv_icmp_ne (tgt := 90) hx hb d_8_8_81 (by decide +kernel) (fun c_51 => ?_) (fun c_51 => ?_)
          · skip
            have tc_51 : ¬ r_38.toInt = (-1) := fun h9 => c_51 (Int32.toInt_inj.mp h9)
            refine lv_iload_n hx hb d_8_8_90 rfl (lv_at hl 6 rfl) ?_
            refine lv_iconst (v := 2) hx hb d_8_8_91 (by decide +kernel) ?_
            refine lv_iadd hx hb d_8_8_92 ?_
            refine lv_topi (fun y_52 ey_52 => ?_)
            have ty_52 : y_52.toInt = p3.toInt + 2 := by rw [ey_52]; exact zaddc (by decide +kernel) (by omega) (by omega)
            have hP9 := hP.sub (ws' := [(h2, .inr (0, [.ref h9, .ref h10, .ref h11, .ref h12, .int x_43, .int ta, .int td, .int tf])), (h9, .inl (kI, 3001, .inl x_44)), (h10, .inl (kI, 3001, .inl x_45)), (h11, .inl (kJ, 3001, .inr (.inl x_46))), (h12, .inl (kJ, 27, .inr (.inl f12))), (h1, .inl (kB, 3000, .inl f1))]) [1, 2, 3, 4, 5, 0] rfl
            have hD9 := hD.sub (ws' := [(h2, .inr (0, [.ref h9, .ref h10, .ref h11, .ref h12, .int x_43, .int ta, .int td, .int tf])), (h9, .inl (kI, 3001, .inl x_44)), (h10, .inl (kI, 3001, .inl x_45)), (h11, .inl (kJ, 3001, .inr (.inl x_46))), (h12, .inl (kJ, 27, .inr (.inl f12))), (h1, .inl (kB, 3000, .inl f1))]) [1, 2, 3, 4, 5, 0] (by decide) rfl
            have hrp : 0 ≤ y_52.toInt := by first |  omega | assumption | exact pk_nc _ | exact Or.inl ⟨by omega, by omega, by assumption⟩ | exact Or.inr ⟨by omega, by decide +kernel⟩ | exact fun h9 => absurd h9 (by omega) | exact fun _ => isH_no1 (by omega) | exact fun _ => isH_no2 (by assumption) (by assumption) (by omega) | (intro h9; omega) | (intro h8 h9; omega)
            exact W.iret (v := y_52) hx hb hr (fun t ht hW => ⟨⟨y_52, (), rfl, hrp, x_43, x_44, x_45, x_46, hb_47, hb_48, hb_49, xEnd hK hP9 hD9 ht hW⟩, hS.F ht⟩) hS.2.2 d_8_8_93
          · skip
            have tc_51 : r_38.toInt = (-1) := congrArg Int32.toInt c_51
            refine lv_iload_n hx hb d_8_8_84 rfl (lv_at hl 6 rfl) ?_
            refine lv_iconst (v := 1) hx hb d_8_8_85 (by decide +kernel) ?_
            refine lv_iadd hx hb d_8_8_86 ?_
            refine lv_topi (fun y_53 ey_53 => ?_)
            have ty_53 : y_53.toInt = p3.toInt + 1 := by rw [ey_53]; exact zaddc (by decide +kernel) (by omega) (by omega)
            refine lv_goto (tgt := 93) hx hb d_8_8_87 (by decide +kernel) ?_
            have hP9 := hP.sub (ws' := [(h2, .inr (0, [.ref h9, .ref h10, .ref h11, .ref h12, .int x_43, .int ta, .int td, .int tf])), (h9, .inl (kI, 3001, .inl x_44)), (h10, .inl (kI, 3001, .inl x_45)), (h11, .inl (kJ, 3001, .inr (.inl x_46))), (h12, .inl (kJ, 27, .inr (.inl f12))), (h1, .inl (kB, 3000, .inl f1))]) [1, 2, 3, 4, 5, 0] rfl
            have hD9 := hD.sub (ws' := [(h2, .inr (0, [.ref h9, .ref h10, .ref h11, .ref h12, .int x_43, .int ta, .int td, .int tf])), (h9, .inl (kI, 3001, .inl x_44)), (h10, .inl (kI, 3001, .inl x_45)), (h11, .inl (kJ, 3001, .inr (.inl x_46))), (h12, .inl (kJ, 27, .inr (.inl f12))), (h1, .inl (kB, 3000, .inl f1))]) [1, 2, 3, 4, 5, 0] (by decide) rfl
            have hrp : 0 ≤ y_53.toInt := by first |  omega | assumption | exact pk_nc _ | exact Or.inl ⟨by omega, by omega, by assumption⟩ | exact Or.inr ⟨by omega, by decide +kernel⟩ | exact fun h9 => absurd h9 (by omega) | exact fun _ => isH_no1 (by omega) | exact fun _ => isH_no2 (by assumption) (by assumption) (by omega) | (intro h9; omega) | (intro h8 h9; omega)
            exact W.iret (v := y_53) hx hb hr (fun t ht hW => ⟨⟨y_53, (), rfl, hrp, x_43, x_44, x_45, x_46, hb_47, hb_48, hb_49, xEnd hK hP9 hD9 ht hW⟩, hS.F ht⟩) hS.2.2 d_8_8_93
        · skip
          have tc_40 : r_38.toInt = (-1) := congrArg Int32.toInt c_40
          refine lv_iload hx hb d_8_8_66 (lv_at hl 1 rfl) ?_
          refine lv_goto (tgt := 73) hx hb d_8_8_68 (by decide +kernel) ?_
          refine lv_iload_n hx hb d_8_8_73 rfl (lv_at hl 6 rfl) ?_
          refine lv_lconst (v := 0) hx hb d_8_8_74 (by decide +kernel) ?_
          have hPc := hP.sub (ws' := [(h2, .inr (0, [.ref h9, .ref h10, .ref h11, .ref h12, .int tc, .int ta, .int td, .int tf])), (h9, .inl (kI, 3001, .inl f9)), (h10, .inl (kI, 3001, .inl f10)), (h11, .inl (kJ, 3001, .inr (.inl f11))), (h12, .inl (kJ, 27, .inr (.inl f12)))]) [0, 1, 2, 3, 4] rfl
          have hDc := hD.sub (ws' := [(h2, .inr (0, [.ref h9, .ref h10, .ref h11, .ref h12, .int tc, .int ta, .int td, .int tf])), (h9, .inl (kI, 3001, .inl f9)), (h10, .inl (kI, 3001, .inl f10)), (h11, .inl (kJ, 3001, .inr (.inl f11))), (h12, .inl (kJ, 27, .inr (.inl f12)))]) [0, 1, 2, 3, 4] (by decide) rfl
          have hFc := va_free (wc := [(h2, .inr (0, [.ref h9, .ref h10, .ref h11, .ref h12, .int tc, .int ta, .int td, .int tf])), (h9, .inl (kI, 3001, .inl f9)), (h10, .inl (kI, 3001, .inl f10)), (h11, .inl (kJ, 3001, .inr (.inl f11))), (h12, .inl (kJ, 27, .inr (.inl f12)))]) hD hS hA [0, 1, 2, 3, 4] rfl
          refine va_callv (va_runV (As := [.int y_6, .int p3, .long 0]) (rest := []) ⟨hx, hb, hml, hown, hts⟩ (g_Tokens_add l D kI kJ kB kZ _ (h2) (h9) (h10) (h11) (h12) (tc) (ta) (td) (tf) (f9) (f10) (f11) (f12) (y_6) (p3) ((0 : Int64)) hf_C1 hf_C2 hf_T6 hq_0) (cwV 3 hts (gT_V m_470 m_472 m_5 m_121 (gT_ws m_473)) rfl rfl rfl (by decide +kernel) ⟨(Nat.le_of_ble_eq_true rfl), (Nat.le_of_ble_eq_true rfl)⟩) ⟨xBlind xOk_N, va_recv hK hP (ci := 0) (q0 := 0) rfl rfl, xAtN hK hPc hDc⟩ rfl rfl hl.1 rfl (lv_room (Nat.le_of_ble_eq_true rfl)) d_8_8_75 ⟨(Nat.le_of_ble_eq_true rfl), (Nat.le_of_ble_eq_true rfl)⟩) hS (fun q _ h => hFc q h) hFc (fun u t H locs ht hvm hw_55 hB hz1 hk1 hS => ?_)
          clear hz1
          revert hB
          refine exI fun x_56 => exI fun x_57 => exI fun x_58 => exI fun x_59 => anI fun hb_60 => anI fun hb_61 => anI fun hb_62 => anI fun hb_63 => fun hB => ?_
          have hPD := xJoin (wr := [(h1, .inl (kB, 3000, .inl f1))]) (w1 := [(h2, .inr (0, [.ref h9, .ref h10, .ref h11, .ref h12, .int x_56, .int ta, .int td, .int tf])), (h9, .inl (kI, 3001, .inl x_57)), (h10, .inl (kI, 3001, .inl x_58)), (h11, .inl (kJ, 3001, .inr (.inl x_59))), (h12, .inl (kJ, 27, .inr (.inl f12)))]) hP hD [0, 1, 2, 3, 4] [5] rfl rfl (by decide) (by decide) hk1 hFc ht hB
          replace hP : va_P D cls9 [(h1, .inl (kB, 3000, .inl f1)), (h2, .inr (0, [.ref h9, .ref h10, .ref h11, .ref h12, .int x_56, .int ta, .int td, .int tf])), (h9, .inl (kI, 3001, .inl x_57)), (h10, .inl (kI, 3001, .inl x_58)), (h11, .inl (kJ, 3001, .inr (.inl x_59))), (h12, .inl (kJ, 27, .inr (.inl f12)))] H := hPD.1
          replace hD : va_D A [(h1, .inl (kB, 3000, .inl f1)), (h2, .inr (0, [.ref h9, .ref h10, .ref h11, .ref h12, .int x_56, .int ta, .int td, .int tf])), (h9, .inl (kI, 3001, .inl x_57)), (h10, .inl (kI, 3001, .inl x_58)), (h11, .inl (kJ, 3001, .inr (.inl x_59))), (h12, .inl (kJ, 27, .inr (.inl f12)))] := hPD.2
          clear hPD hB hk1 hPc hDc hFc
          refine lv_iload hx hb d_8_8_78 (lv_at hl 0 rfl) ?_
          refine lv_iconst (v := (-1)) hx hb d_8_8_80 (by decide +kernel) ?_
          refine lv_icmp_ne (tgt := 90) hx hb d_8_8_81 (by decide +kernel) (fun c_64 => ?_) (fun c_64 => ?_)
          · skip
            have tc_64 : ¬ r_38.toInt = (-1) := fun h9 => c_64 (Int32.toInt_inj.mp h9)
            refine lv_iload_n hx hb d_8_8_90 rfl (lv_at hl 6 rfl) ?_
            refine lv_iconst (v := 2) hx hb d_8_8_91 (by decide +kernel) ?_
            refine lv_iadd hx hb d_8_8_92 ?_
            refine lv_topi (fun y_65 ey_65 => ?_)
            have ty_65 : y_65.toInt = p3.toInt + 2 := by rw [ey_65]; exact zaddc (by decide +kernel) (by omega) (by omega)
            have hP9 := hP.sub (ws' := [(h2, .inr (0, [.ref h9, .ref h10, .ref h11, .ref h12, .int x_56, .int ta, .int td, .int tf])), (h9, .inl (kI, 3001, .inl x_57)), (h10, .inl (kI, 3001, .inl x_58)), (h11, .inl (kJ, 3001, .inr (.inl x_59))), (h12, .inl (kJ, 27, .inr (.inl f12))), (h1, .inl (kB, 3000, .inl f1))]) [1, 2, 3, 4, 5, 0] rfl
            have hD9 := hD.sub (ws' := [(h2, .inr (0, [.ref h9, .ref h10, .ref h11, .ref h12, .int x_56, .int ta, .int td, .int tf])), (h9, .inl (kI, 3001, .inl x_57)), (h10, .inl (kI, 3001, .inl x_58)), (h11, .inl (kJ, 3001, .inr (.inl x_59))), (h12, .inl (kJ, 27, .inr (.inl f12))), (h1, .inl (kB, 3000, .inl f1))]) [1, 2, 3, 4, 5, 0] (by decide) rfl
            have hrp : 0 ≤ y_65.toInt := by first |  omega | assumption | exact pk_nc _ | exact Or.inl ⟨by omega, by omega, by assumption⟩ | exact Or.inr ⟨by omega, by decide +kernel⟩ | exact fun h9 => absurd h9 (by omega) | exact fun _ => isH_no1 (by omega) | exact fun _ => isH_no2 (by assumption) (by assumption) (by omega) | (intro h9; omega) | (intro h8 h9; omega)
            exact W.iret (v := y_65) hx hb hr (fun t ht hW => ⟨⟨y_65, (), rfl, hrp, x_56, x_57, x_58, x_59, hb_60, hb_61, hb_62, xEnd hK hP9 hD9 ht hW⟩, hS.F ht⟩) hS.2.2 d_8_8_93
          · skip
            have tc_64 : r_38.toInt = (-1) := congrArg Int32.toInt c_64
            refine lv_iload_n hx hb d_8_8_84 rfl (lv_at hl 6 rfl) ?_
            refine lv_iconst (v := 1) hx hb d_8_8_85 (by decide +kernel) ?_
            refine lv_iadd hx hb d_8_8_86 ?_
            refine lv_topi (fun y_66 ey_66 => ?_)
            have ty_66 : y_66.toInt = p3.toInt + 1 := by rw [ey_66]; exact zaddc (by decide +kernel) (by omega) (by omega)
            refine lv_goto (tgt := 93) hx hb d_8_8_87 (by decide +kernel) ?_
            have hP9 := hP.sub (ws' := [(h2, .inr (0, [.ref h9, .ref h10, .ref h11, .ref h12, .int x_56, .int ta, .int td, .int tf])), (h9, .inl (kI, 3001, .inl x_57)), (h10, .inl (kI, 3001, .inl x_58)), (h11, .inl (kJ, 3001, .inr (.inl x_59))), (h12, .inl (kJ, 27, .inr (.inl f12))), (h1, .inl (kB, 3000, .inl f1))]) [1, 2, 3, 4, 5, 0] rfl
            have hD9 := hD.sub (ws' := [(h2, .inr (0, [.ref h9, .ref h10, .ref h11, .ref h12, .int x_56, .int ta, .int td, .int tf])), (h9, .inl (kI, 3001, .inl x_57)), (h10, .inl (kI, 3001, .inl x_58)), (h11, .inl (kJ, 3001, .inr (.inl x_59))), (h12, .inl (kJ, 27, .inr (.inl f12))), (h1, .inl (kB, 3000, .inl f1))]) [1, 2, 3, 4, 5, 0] (by decide) rfl
            have hrp : 0 ≤ y_66.toInt := by first |  omega | assumption | exact pk_nc _ | exact Or.inl ⟨by omega, by omega, by assumption⟩ | exact Or.inr ⟨by omega, by decide +kernel⟩ | exact fun h9 => absurd h9 (by omega) | exact fun _ => isH_no1 (by omega) | exact fun _ => isH_no2 (by assumption) (by assumption) (by omega) | (intro h9; omega) | (intro h8 h9; omega)
            exact W.iret (v := y_66) hx hb hr (fun t ht hW => ⟨⟨y_66, (), rfl, hrp, x_56, x_57, x_58, x_59, hb_60, hb_61, hb_62, xEnd hK hP9 hD9 ht hW⟩, hS.F ht⟩) hS.2.2 d_8_8_93
  · skip
    have tc_5 : ¬ 0 ≤ r_3.toInt := fun h9 => c_5 (Int32.le_iff_toInt_le.mpr h9)
    refine lv_iconst (v := (-1)) hx hb d_8_8_20 (by decide +kernel) ?_
    refine lv_goto (tgt := 29) hx hb d_8_8_21 (by decide +kernel) ?_
    refine lv_istore (lv' := [(5, .int (-1)), (4, .int r_3), (0, .ref h2), (1, .ref h1), (2, .int p2), (3, .int p3)]) hx hb d_8_8_29 hl (by decide +kernel) rfl (fun ls hl => ?_)
    refine lv_iload_n hx hb d_8_8_31 rfl (lv_at hl 5 rfl) ?_
    refine lv_iconst (v := 1) hx hb d_8_8_32 (by decide +kernel) ?_
    refine lv_iadd hx hb d_8_8_33 ?_
    refine lv_topi (fun y_67 ey_67 => ?_)
    have ty_67 : y_67.toInt = p3.toInt + 1 := by rw [ey_67]; exact zaddc (by decide +kernel) (by omega) (by omega)
    refine lv_iload_n hx hb d_8_8_34 rfl (lv_at hl 4 rfl) ?_
    refine lv_icmp_ge (tgt := 56) hx hb d_8_8_35 (by decide +kernel) (fun c_68 => ?_) (fun c_68 => ?_)
    · skip
      have tc_68 : p2.toInt ≤ y_67.toInt := Int32.le_iff_toInt_le.mp c_68
      refine lv_iconst (v := (-1)) hx hb d_8_8_56 (by decide +kernel) ?_
      refine lv_istore (lv' := [(6, .int (-1)), (5, .int (-1)), (4, .int r_3), (0, .ref h2), (1, .ref h1), (2, .int p2), (3, .int p3)]) hx hb d_8_8_57 hl (by decide +kernel) rfl (fun ls hl => ?_)
      refine lv_aload_n hx hb d_8_8_59 rfl (lv_at hl 3 rfl) ?_
      refine lv_iload hx hb d_8_8_60 (lv_at hl 0 rfl) ?_
      refine lv_iconst (v := (-1)) hx hb d_8_8_62 (by decide +kernel) ?_
      refine lv_icmp_ne (tgt := 71) hx hb d_8_8_63 (by decide +kernel) (fun c_69 => ?_) (fun c_69 => ?_)
      · exact absurd c_69 (by decide +kernel)
      refine lv_iload hx hb d_8_8_66 (lv_at hl 1 rfl) ?_
      refine lv_goto (tgt := 73) hx hb d_8_8_68 (by decide +kernel) ?_
      refine lv_iload_n hx hb d_8_8_73 rfl (lv_at hl 6 rfl) ?_
      refine lv_lconst (v := 0) hx hb d_8_8_74 (by decide +kernel) ?_
      have hPc := hP.sub (ws' := [(h2, .inr (0, [.ref h9, .ref h10, .ref h11, .ref h12, .int tc, .int ta, .int td, .int tf])), (h9, .inl (kI, 3001, .inl f9)), (h10, .inl (kI, 3001, .inl f10)), (h11, .inl (kJ, 3001, .inr (.inl f11))), (h12, .inl (kJ, 27, .inr (.inl f12)))]) [0, 1, 2, 3, 4] rfl
      have hDc := hD.sub (ws' := [(h2, .inr (0, [.ref h9, .ref h10, .ref h11, .ref h12, .int tc, .int ta, .int td, .int tf])), (h9, .inl (kI, 3001, .inl f9)), (h10, .inl (kI, 3001, .inl f10)), (h11, .inl (kJ, 3001, .inr (.inl f11))), (h12, .inl (kJ, 27, .inr (.inl f12)))]) [0, 1, 2, 3, 4] (by decide) rfl
      have hFc := va_free (wc := [(h2, .inr (0, [.ref h9, .ref h10, .ref h11, .ref h12, .int tc, .int ta, .int td, .int tf])), (h9, .inl (kI, 3001, .inl f9)), (h10, .inl (kI, 3001, .inl f10)), (h11, .inl (kJ, 3001, .inr (.inl f11))), (h12, .inl (kJ, 27, .inr (.inl f12)))]) hD hS hA [0, 1, 2, 3, 4] rfl
      refine va_callv (va_runV (As := [.int (-1), .int p3, .long 0]) (rest := []) ⟨hx, hb, hml, hown, hts⟩ (g_Tokens_add l D kI kJ kB kZ _ (h2) (h9) (h10) (h11) (h12) (tc) (ta) (td) (tf) (f9) (f10) (f11) (f12) (((-1) : Int32)) (p3) ((0 : Int64)) hf_C1 hf_C2 hf_T6 hq_0) (cwV 3 hts (gT_V m_470 m_472 m_5 m_121 (gT_ws m_473)) rfl rfl rfl (by decide +kernel) ⟨(Nat.le_of_ble_eq_true rfl), (Nat.le_of_ble_eq_true rfl)⟩) ⟨xBlind xOk_N, va_recv hK hP (ci := 0) (q0 := 0) rfl rfl, xAtN hK hPc hDc⟩ rfl rfl hl.1 rfl (lv_room (Nat.le_of_ble_eq_true rfl)) d_8_8_75 ⟨(Nat.le_of_ble_eq_true rfl), (Nat.le_of_ble_eq_true rfl)⟩) hS (fun q _ h => hFc q h) hFc (fun u t H locs ht hvm hw_71 hB hz1 hk1 hS => ?_)
      clear hz1
      revert hB
      refine exI fun x_72 => exI fun x_73 => exI fun x_74 => exI fun x_75 => anI fun hb_76 => anI fun hb_77 => anI fun hb_78 => anI fun hb_79 => fun hB => ?_
      have hPD := xJoin (wr := [(h1, .inl (kB, 3000, .inl f1))]) (w1 := [(h2, .inr (0, [.ref h9, .ref h10, .ref h11, .ref h12, .int x_72, .int ta, .int td, .int tf])), (h9, .inl (kI, 3001, .inl x_73)), (h10, .inl (kI, 3001, .inl x_74)), (h11, .inl (kJ, 3001, .inr (.inl x_75))), (h12, .inl (kJ, 27, .inr (.inl f12)))]) hP hD [0, 1, 2, 3, 4] [5] rfl rfl (by decide) (by decide) hk1 hFc ht hB
      replace hP : va_P D cls9 [(h1, .inl (kB, 3000, .inl f1)), (h2, .inr (0, [.ref h9, .ref h10, .ref h11, .ref h12, .int x_72, .int ta, .int td, .int tf])), (h9, .inl (kI, 3001, .inl x_73)), (h10, .inl (kI, 3001, .inl x_74)), (h11, .inl (kJ, 3001, .inr (.inl x_75))), (h12, .inl (kJ, 27, .inr (.inl f12)))] H := hPD.1
      replace hD : va_D A [(h1, .inl (kB, 3000, .inl f1)), (h2, .inr (0, [.ref h9, .ref h10, .ref h11, .ref h12, .int x_72, .int ta, .int td, .int tf])), (h9, .inl (kI, 3001, .inl x_73)), (h10, .inl (kI, 3001, .inl x_74)), (h11, .inl (kJ, 3001, .inr (.inl x_75))), (h12, .inl (kJ, 27, .inr (.inl f12)))] := hPD.2
      clear hPD hB hk1 hPc hDc hFc
      refine lv_iload hx hb d_8_8_78 (lv_at hl 0 rfl) ?_
      refine lv_iconst (v := (-1)) hx hb d_8_8_80 (by decide +kernel) ?_
      refine lv_icmp_ne (tgt := 90) hx hb d_8_8_81 (by decide +kernel) (fun c_80 => ?_) (fun c_80 => ?_)
      · exact absurd c_80 (by decide +kernel)
      refine lv_iload_n hx hb d_8_8_84 rfl (lv_at hl 6 rfl) ?_
      refine lv_iconst (v := 1) hx hb d_8_8_85 (by decide +kernel) ?_
      refine lv_iadd hx hb d_8_8_86 ?_
      refine lv_topi (fun y_81 ey_81 => ?_)
      have ty_81 : y_81.toInt = p3.toInt + 1 := by rw [ey_81]; exact zaddc (by decide +kernel) (by omega) (by omega)
      refine lv_goto (tgt := 93) hx hb d_8_8_87 (by decide +kernel) ?_
      have hP9 := hP.sub (ws' := [(h2, .inr (0, [.ref h9, .ref h10, .ref h11, .ref h12, .int x_72, .int ta, .int td, .int tf])), (h9, .inl (kI, 3001, .inl x_73)), (h10, .inl (kI, 3001, .inl x_74)), (h11, .inl (kJ, 3001, .inr (.inl x_75))), (h12, .inl (kJ, 27, .inr (.inl f12))), (h1, .inl (kB, 3000, .inl f1))]) [1, 2, 3, 4, 5, 0] rfl
      have hD9 := hD.sub (ws' := [(h2, .inr (0, [.ref h9, .ref h10, .ref h11, .ref h12, .int x_72, .int ta, .int td, .int tf])), (h9, .inl (kI, 3001, .inl x_73)), (h10, .inl (kI, 3001, .inl x_74)), (h11, .inl (kJ, 3001, .inr (.inl x_75))), (h12, .inl (kJ, 27, .inr (.inl f12))), (h1, .inl (kB, 3000, .inl f1))]) [1, 2, 3, 4, 5, 0] (by decide) rfl
      have hrp : 0 ≤ y_81.toInt := by first |  omega | assumption | exact pk_nc _ | exact Or.inl ⟨by omega, by omega, by assumption⟩ | exact Or.inr ⟨by omega, by decide +kernel⟩ | exact fun h9 => absurd h9 (by omega) | exact fun _ => isH_no1 (by omega) | exact fun _ => isH_no2 (by assumption) (by assumption) (by omega) | (intro h9; omega) | (intro h8 h9; omega)
      exact W.iret (v := y_81) hx hb hr (fun t ht hW => ⟨⟨y_81, (), rfl, hrp, x_72, x_73, x_74, x_75, hb_76, hb_77, hb_78, xEnd hK hP9 hD9 ht hW⟩, hS.F ht⟩) hS.2.2 d_8_8_93
    · skip
      have tc_68 : ¬ p2.toInt ≤ y_67.toInt := fun h9 => c_68 (Int32.le_iff_toInt_le.mpr h9)
      refine lv_aload_n hx hb d_8_8_38 rfl (lv_at hl 3 rfl) ?_
      refine lv_iload_n hx hb d_8_8_39 rfl (lv_at hl 5 rfl) ?_
      refine lv_iconst (v := 1) hx hb d_8_8_40 (by decide +kernel) ?_
      refine lv_iadd hx hb d_8_8_41 ?_
      refine lv_topi (fun y_82 ey_82 => ?_)
      have ty_82 : y_82.toInt = p3.toInt + 1 := by rw [ey_82]; exact zaddc (by decide +kernel) (by omega) (by omega)
      refine va_bald hx hb hK hP 5 2 rfl rfl (vp_in_iff.mpr ⟨by omega, by omega⟩) d_8_8_42 ?_
      refine lv_topi (fun z_83 ez_83 => ?_)
      refine lv_bipush (v := 61) hx hb d_8_8_43 (by decide +kernel) ?_
      refine lv_icmp_ne (tgt := 56) hx hb d_8_8_45 (by decide +kernel) (fun c_84 => ?_) (fun c_84 => ?_)
      · skip
        have tc_84 : ¬ z_83.toInt = 61 := fun h9 => c_84 (Int32.toInt_inj.mp h9)
        refine lv_iconst (v := (-1)) hx hb d_8_8_56 (by decide +kernel) ?_
        refine lv_istore (lv' := [(6, .int (-1)), (5, .int (-1)), (4, .int r_3), (0, .ref h2), (1, .ref h1), (2, .int p2), (3, .int p3)]) hx hb d_8_8_57 hl (by decide +kernel) rfl (fun ls hl => ?_)
        refine lv_aload_n hx hb d_8_8_59 rfl (lv_at hl 3 rfl) ?_
        refine lv_iload hx hb d_8_8_60 (lv_at hl 0 rfl) ?_
        refine lv_iconst (v := (-1)) hx hb d_8_8_62 (by decide +kernel) ?_
        refine lv_icmp_ne (tgt := 71) hx hb d_8_8_63 (by decide +kernel) (fun c_85 => ?_) (fun c_85 => ?_)
        · exact absurd c_85 (by decide +kernel)
        refine lv_iload hx hb d_8_8_66 (lv_at hl 1 rfl) ?_
        refine lv_goto (tgt := 73) hx hb d_8_8_68 (by decide +kernel) ?_
        refine lv_iload_n hx hb d_8_8_73 rfl (lv_at hl 6 rfl) ?_
        refine lv_lconst (v := 0) hx hb d_8_8_74 (by decide +kernel) ?_
        have hPc := hP.sub (ws' := [(h2, .inr (0, [.ref h9, .ref h10, .ref h11, .ref h12, .int tc, .int ta, .int td, .int tf])), (h9, .inl (kI, 3001, .inl f9)), (h10, .inl (kI, 3001, .inl f10)), (h11, .inl (kJ, 3001, .inr (.inl f11))), (h12, .inl (kJ, 27, .inr (.inl f12)))]) [0, 1, 2, 3, 4] rfl
        have hDc := hD.sub (ws' := [(h2, .inr (0, [.ref h9, .ref h10, .ref h11, .ref h12, .int tc, .int ta, .int td, .int tf])), (h9, .inl (kI, 3001, .inl f9)), (h10, .inl (kI, 3001, .inl f10)), (h11, .inl (kJ, 3001, .inr (.inl f11))), (h12, .inl (kJ, 27, .inr (.inl f12)))]) [0, 1, 2, 3, 4] (by decide) rfl
        have hFc := va_free (wc := [(h2, .inr (0, [.ref h9, .ref h10, .ref h11, .ref h12, .int tc, .int ta, .int td, .int tf])), (h9, .inl (kI, 3001, .inl f9)), (h10, .inl (kI, 3001, .inl f10)), (h11, .inl (kJ, 3001, .inr (.inl f11))), (h12, .inl (kJ, 27, .inr (.inl f12)))]) hD hS hA [0, 1, 2, 3, 4] rfl
        refine va_callv (va_runV (As := [.int (-1), .int p3, .long 0]) (rest := []) ⟨hx, hb, hml, hown, hts⟩ (g_Tokens_add l D kI kJ kB kZ _ (h2) (h9) (h10) (h11) (h12) (tc) (ta) (td) (tf) (f9) (f10) (f11) (f12) (((-1) : Int32)) (p3) ((0 : Int64)) hf_C1 hf_C2 hf_T6 hq_0) (cwV 3 hts (gT_V m_470 m_472 m_5 m_121 (gT_ws m_473)) rfl rfl rfl (by decide +kernel) ⟨(Nat.le_of_ble_eq_true rfl), (Nat.le_of_ble_eq_true rfl)⟩) ⟨xBlind xOk_N, va_recv hK hP (ci := 0) (q0 := 0) rfl rfl, xAtN hK hPc hDc⟩ rfl rfl hl.1 rfl (lv_room (Nat.le_of_ble_eq_true rfl)) d_8_8_75 ⟨(Nat.le_of_ble_eq_true rfl), (Nat.le_of_ble_eq_true rfl)⟩) hS (fun q _ h => hFc q h) hFc (fun u t H locs ht hvm hw_87 hB hz1 hk1 hS => ?_)
        clear hz1
        revert hB
        refine exI fun x_88 => exI fun x_89 => exI fun x_90 => exI fun x_91 => anI fun hb_92 => anI fun hb_93 => anI fun hb_94 => anI fun hb_95 => fun hB => ?_
        have hPD := xJoin (wr := [(h1, .inl (kB, 3000, .inl f1))]) (w1 := [(h2, .inr (0, [.ref h9, .ref h10, .ref h11, .ref h12, .int x_88, .int ta, .int td, .int tf])), (h9, .inl (kI, 3001, .inl x_89)), (h10, .inl (kI, 3001, .inl x_90)), (h11, .inl (kJ, 3001, .inr (.inl x_91))), (h12, .inl (kJ, 27, .inr (.inl f12)))]) hP hD [0, 1, 2, 3, 4] [5] rfl rfl (by decide) (by decide) hk1 hFc ht hB
        replace hP : va_P D cls9 [(h1, .inl (kB, 3000, .inl f1)), (h2, .inr (0, [.ref h9, .ref h10, .ref h11, .ref h12, .int x_88, .int ta, .int td, .int tf])), (h9, .inl (kI, 3001, .inl x_89)), (h10, .inl (kI, 3001, .inl x_90)), (h11, .inl (kJ, 3001, .inr (.inl x_91))), (h12, .inl (kJ, 27, .inr (.inl f12)))] H := hPD.1
        replace hD : va_D A [(h1, .inl (kB, 3000, .inl f1)), (h2, .inr (0, [.ref h9, .ref h10, .ref h11, .ref h12, .int x_88, .int ta, .int td, .int tf])), (h9, .inl (kI, 3001, .inl x_89)), (h10, .inl (kI, 3001, .inl x_90)), (h11, .inl (kJ, 3001, .inr (.inl x_91))), (h12, .inl (kJ, 27, .inr (.inl f12)))] := hPD.2
        clear hPD hB hk1 hPc hDc hFc
        refine lv_iload hx hb d_8_8_78 (lv_at hl 0 rfl) ?_
        refine lv_iconst (v := (-1)) hx hb d_8_8_80 (by decide +kernel) ?_
        refine lv_icmp_ne (tgt := 90) hx hb d_8_8_81 (by decide +kernel) (fun c_96 => ?_) (fun c_96 => ?_)
        · exact absurd c_96 (by decide +kernel)
        refine lv_iload_n hx hb d_8_8_84 rfl (lv_at hl 6 rfl) ?_
        refine lv_iconst (v := 1) hx hb d_8_8_85 (by decide +kernel) ?_
        refine lv_iadd hx hb d_8_8_86 ?_
        refine lv_topi (fun y_97 ey_97 => ?_)
        have ty_97 : y_97.toInt = p3.toInt + 1 := by rw [ey_97]; exact zaddc (by decide +kernel) (by omega) (by omega)
        refine lv_goto (tgt := 93) hx hb d_8_8_87 (by decide +kernel) ?_
        have hP9 := hP.sub (ws' := [(h2, .inr (0, [.ref h9, .ref h10, .ref h11, .ref h12, .int x_88, .int ta, .int td, .int tf])), (h9, .inl (kI, 3001, .inl x_89)), (h10, .inl (kI, 3001, .inl x_90)), (h11, .inl (kJ, 3001, .inr (.inl x_91))), (h12, .inl (kJ, 27, .inr (.inl f12))), (h1, .inl (kB, 3000, .inl f1))]) [1, 2, 3, 4, 5, 0] rfl
        have hD9 := hD.sub (ws' := [(h2, .inr (0, [.ref h9, .ref h10, .ref h11, .ref h12, .int x_88, .int ta, .int td, .int tf])), (h9, .inl (kI, 3001, .inl x_89)), (h10, .inl (kI, 3001, .inl x_90)), (h11, .inl (kJ, 3001, .inr (.inl x_91))), (h12, .inl (kJ, 27, .inr (.inl f12))), (h1, .inl (kB, 3000, .inl f1))]) [1, 2, 3, 4, 5, 0] (by decide) rfl
        have hrp : 0 ≤ y_97.toInt := by first |  omega | assumption | exact pk_nc _ | exact Or.inl ⟨by omega, by omega, by assumption⟩ | exact Or.inr ⟨by omega, by decide +kernel⟩ | exact fun h9 => absurd h9 (by omega) | exact fun _ => isH_no1 (by omega) | exact fun _ => isH_no2 (by assumption) (by assumption) (by omega) | (intro h9; omega) | (intro h8 h9; omega)
        exact W.iret (v := y_97) hx hb hr (fun t ht hW => ⟨⟨y_97, (), rfl, hrp, x_88, x_89, x_90, x_91, hb_92, hb_93, hb_94, xEnd hK hP9 hD9 ht hW⟩, hS.F ht⟩) hS.2.2 d_8_8_93
      · skip
        have tc_84 : z_83.toInt = 61 := congrArg Int32.toInt c_84
        refine lv_iload hx hb d_8_8_48 (lv_at hl 0 rfl) ?_
        have hPc := hP.sub (ws' := []) [] rfl
        have hDc := hD.sub (ws' := []) [] (by decide) rfl
        have hFc := va_free (wc := []) hD hS hA [] rfl
        refine va_calli (va_runS (As := [.int (-1)]) (rest := []) ⟨hx, hb, hml, hown, hts⟩ (g_Tokens_withEqual l D kI kJ kB kZ _ (((-1) : Int32)) ) (va_cwS 1 hts (gT_S m_544 m_545 m_121 (gT_ws m_546)) rfl rfl rfl (by decide +kernel) ⟨(Nat.le_of_ble_eq_true rfl), (Nat.le_of_ble_eq_true rfl)⟩) ⟨xBlind xOk_N, xAtN hK hPc hDc⟩ rfl rfl hl.1 rfl (lv_room (Nat.le_of_ble_eq_true rfl)) d_8_8_50 ⟨(Nat.le_of_ble_eq_true rfl), (Nat.le_of_ble_eq_true rfl)⟩) hS (fun q _ h => hFc q h) hFc (fun r_98 u t H locs ht hvm hw_99 hB hz1 hk1 hS => ?_)
        clear hz1
        have hPD := xJoin (wr := [(h2, .inr (0, [.ref h9, .ref h10, .ref h11, .ref h12, .int tc, .int ta, .int td, .int tf])), (h9, .inl (kI, 3001, .inl f9)), (h10, .inl (kI, 3001, .inl f10)), (h11, .inl (kJ, 3001, .inr (.inl f11))), (h12, .inl (kJ, 27, .inr (.inl f12))), (h1, .inl (kB, 3000, .inl f1))]) (w1 := []) hP hD [] [0, 1, 2, 3, 4, 5] rfl rfl (by decide) (by decide) hk1 hFc ht hB
        replace hP : va_P D cls9 [(h2, .inr (0, [.ref h9, .ref h10, .ref h11, .ref h12, .int tc, .int ta, .int td, .int tf])), (h9, .inl (kI, 3001, .inl f9)), (h10, .inl (kI, 3001, .inl f10)), (h11, .inl (kJ, 3001, .inr (.inl f11))), (h12, .inl (kJ, 27, .inr (.inl f12))), (h1, .inl (kB, 3000, .inl f1))] H := hPD.1
        replace hD : va_D A [(h2, .inr (0, [.ref h9, .ref h10, .ref h11, .ref h12, .int tc, .int ta, .int td, .int tf])), (h9, .inl (kI, 3001, .inl f9)), (h10, .inl (kI, 3001, .inl f10)), (h11, .inl (kJ, 3001, .inr (.inl f11))), (h12, .inl (kJ, 27, .inr (.inl f12))), (h1, .inl (kB, 3000, .inl f1))] := hPD.2
        clear hPD hB hk1 hPc hDc hFc
        refine lv_goto (tgt := 57) hx hb d_8_8_53 (by decide +kernel) ?_
        refine lv_istore (lv' := [(6, .int r_98), (5, .int (-1)), (4, .int r_3), (0, .ref h2), (1, .ref h1), (2, .int p2), (3, .int p3)]) hx hb d_8_8_57 hl (by decide +kernel) rfl (fun ls hl => ?_)
        refine lv_aload_n hx hb d_8_8_59 rfl (lv_at hl 3 rfl) ?_
        refine lv_iload hx hb d_8_8_60 (lv_at hl 0 rfl) ?_
        refine lv_iconst (v := (-1)) hx hb d_8_8_62 (by decide +kernel) ?_
        refine lv_icmp_ne (tgt := 71) hx hb d_8_8_63 (by decide +kernel) (fun c_100 => ?_) (fun c_100 => ?_)
        · skip
          have tc_100 : ¬ r_98.toInt = (-1) := fun h9 => c_100 (Int32.toInt_inj.mp h9)
          refine lv_iload hx hb d_8_8_71 (lv_at hl 0 rfl) ?_
          refine lv_iload_n hx hb d_8_8_73 rfl (lv_at hl 6 rfl) ?_
          refine lv_lconst (v := 0) hx hb d_8_8_74 (by decide +kernel) ?_
          have hPc := hP.sub (ws' := [(h2, .inr (0, [.ref h9, .ref h10, .ref h11, .ref h12, .int tc, .int ta, .int td, .int tf])), (h9, .inl (kI, 3001, .inl f9)), (h10, .inl (kI, 3001, .inl f10)), (h11, .inl (kJ, 3001, .inr (.inl f11))), (h12, .inl (kJ, 27, .inr (.inl f12)))]) [0, 1, 2, 3, 4] rfl
          have hDc := hD.sub (ws' := [(h2, .inr (0, [.ref h9, .ref h10, .ref h11, .ref h12, .int tc, .int ta, .int td, .int tf])), (h9, .inl (kI, 3001, .inl f9)), (h10, .inl (kI, 3001, .inl f10)), (h11, .inl (kJ, 3001, .inr (.inl f11))), (h12, .inl (kJ, 27, .inr (.inl f12)))]) [0, 1, 2, 3, 4] (by decide) rfl
          have hFc := va_free (wc := [(h2, .inr (0, [.ref h9, .ref h10, .ref h11, .ref h12, .int tc, .int ta, .int td, .int tf])), (h9, .inl (kI, 3001, .inl f9)), (h10, .inl (kI, 3001, .inl f10)), (h11, .inl (kJ, 3001, .inr (.inl f11))), (h12, .inl (kJ, 27, .inr (.inl f12)))]) hD hS hA [0, 1, 2, 3, 4] rfl
          refine va_callv (va_runV (As := [.int r_98, .int p3, .long 0]) (rest := []) ⟨hx, hb, hml, hown, hts⟩ (g_Tokens_add l D kI kJ kB kZ _ (h2) (h9) (h10) (h11) (h12) (tc) (ta) (td) (tf) (f9) (f10) (f11) (f12) (r_98) (p3) ((0 : Int64)) hf_C1 hf_C2 hf_T6 hq_0) (cwV 3 hts (gT_V m_470 m_472 m_5 m_121 (gT_ws m_473)) rfl rfl rfl (by decide +kernel) ⟨(Nat.le_of_ble_eq_true rfl), (Nat.le_of_ble_eq_true rfl)⟩) ⟨xBlind xOk_N, va_recv hK hP (ci := 0) (q0 := 0) rfl rfl, xAtN hK hPc hDc⟩ rfl rfl hl.1 rfl (lv_room (Nat.le_of_ble_eq_true rfl)) d_8_8_75 ⟨(Nat.le_of_ble_eq_true rfl), (Nat.le_of_ble_eq_true rfl)⟩) hS (fun q _ h => hFc q h) hFc (fun u t H locs ht hvm hw_102 hB hz1 hk1 hS => ?_)
          clear hz1
          revert hB
          refine exI fun x_103 => exI fun x_104 => exI fun x_105 => exI fun x_106 => anI fun hb_107 => anI fun hb_108 => anI fun hb_109 => anI fun hb_110 => fun hB => ?_
          have hPD := xJoin (wr := [(h1, .inl (kB, 3000, .inl f1))]) (w1 := [(h2, .inr (0, [.ref h9, .ref h10, .ref h11, .ref h12, .int x_103, .int ta, .int td, .int tf])), (h9, .inl (kI, 3001, .inl x_104)), (h10, .inl (kI, 3001, .inl x_105)), (h11, .inl (kJ, 3001, .inr (.inl x_106))), (h12, .inl (kJ, 27, .inr (.inl f12)))]) hP hD [0, 1, 2, 3, 4] [5] rfl rfl (by decide) (by decide) hk1 hFc ht hB
          replace hP : va_P D cls9 [(h1, .inl (kB, 3000, .inl f1)), (h2, .inr (0, [.ref h9, .ref h10, .ref h11, .ref h12, .int x_103, .int ta, .int td, .int tf])), (h9, .inl (kI, 3001, .inl x_104)), (h10, .inl (kI, 3001, .inl x_105)), (h11, .inl (kJ, 3001, .inr (.inl x_106))), (h12, .inl (kJ, 27, .inr (.inl f12)))] H := hPD.1
          replace hD : va_D A [(h1, .inl (kB, 3000, .inl f1)), (h2, .inr (0, [.ref h9, .ref h10, .ref h11, .ref h12, .int x_103, .int ta, .int td, .int tf])), (h9, .inl (kI, 3001, .inl x_104)), (h10, .inl (kI, 3001, .inl x_105)), (h11, .inl (kJ, 3001, .inr (.inl x_106))), (h12, .inl (kJ, 27, .inr (.inl f12)))] := hPD.2
          clear hPD hB hk1 hPc hDc hFc
          refine lv_iload hx hb d_8_8_78 (lv_at hl 0 rfl) ?_
          refine lv_iconst (v := (-1)) hx hb d_8_8_80 (by decide +kernel) ?_
          refine lv_icmp_ne (tgt := 90) hx hb d_8_8_81 (by decide +kernel) (fun c_111 => ?_) (fun c_111 => ?_)
          · skip
            have tc_111 : ¬ r_98.toInt = (-1) := fun h9 => c_111 (Int32.toInt_inj.mp h9)
            refine lv_iload_n hx hb d_8_8_90 rfl (lv_at hl 6 rfl) ?_
            refine lv_iconst (v := 2) hx hb d_8_8_91 (by decide +kernel) ?_
            refine lv_iadd hx hb d_8_8_92 ?_
            refine lv_topi (fun y_112 ey_112 => ?_)
            have ty_112 : y_112.toInt = p3.toInt + 2 := by rw [ey_112]; exact zaddc (by decide +kernel) (by omega) (by omega)
            have hP9 := hP.sub (ws' := [(h2, .inr (0, [.ref h9, .ref h10, .ref h11, .ref h12, .int x_103, .int ta, .int td, .int tf])), (h9, .inl (kI, 3001, .inl x_104)), (h10, .inl (kI, 3001, .inl x_105)), (h11, .inl (kJ, 3001, .inr (.inl x_106))), (h12, .inl (kJ, 27, .inr (.inl f12))), (h1, .inl (kB, 3000, .inl f1))]) [1, 2, 3, 4, 5, 0] rfl
            have hD9 := hD.sub (ws' := [(h2, .inr (0, [.ref h9, .ref h10, .ref h11, .ref h12, .int x_103, .int ta, .int td, .int tf])), (h9, .inl (kI, 3001, .inl x_104)), (h10, .inl (kI, 3001, .inl x_105)), (h11, .inl (kJ, 3001, .inr (.inl x_106))), (h12, .inl (kJ, 27, .inr (.inl f12))), (h1, .inl (kB, 3000, .inl f1))]) [1, 2, 3, 4, 5, 0] (by decide) rfl
            have hrp : 0 ≤ y_112.toInt := by first |  omega | assumption | exact pk_nc _ | exact Or.inl ⟨by omega, by omega, by assumption⟩ | exact Or.inr ⟨by omega, by decide +kernel⟩ | exact fun h9 => absurd h9 (by omega) | exact fun _ => isH_no1 (by omega) | exact fun _ => isH_no2 (by assumption) (by assumption) (by omega) | (intro h9; omega) | (intro h8 h9; omega)
            exact W.iret (v := y_112) hx hb hr (fun t ht hW => ⟨⟨y_112, (), rfl, hrp, x_103, x_104, x_105, x_106, hb_107, hb_108, hb_109, xEnd hK hP9 hD9 ht hW⟩, hS.F ht⟩) hS.2.2 d_8_8_93
          · skip
            have tc_111 : r_98.toInt = (-1) := congrArg Int32.toInt c_111
            refine lv_iload_n hx hb d_8_8_84 rfl (lv_at hl 6 rfl) ?_
            refine lv_iconst (v := 1) hx hb d_8_8_85 (by decide +kernel) ?_
            refine lv_iadd hx hb d_8_8_86 ?_
            refine lv_topi (fun y_113 ey_113 => ?_)
            have ty_113 : y_113.toInt = p3.toInt + 1 := by rw [ey_113]; exact zaddc (by decide +kernel) (by omega) (by omega)
            refine lv_goto (tgt := 93) hx hb d_8_8_87 (by decide +kernel) ?_
            have hP9 := hP.sub (ws' := [(h2, .inr (0, [.ref h9, .ref h10, .ref h11, .ref h12, .int x_103, .int ta, .int td, .int tf])), (h9, .inl (kI, 3001, .inl x_104)), (h10, .inl (kI, 3001, .inl x_105)), (h11, .inl (kJ, 3001, .inr (.inl x_106))), (h12, .inl (kJ, 27, .inr (.inl f12))), (h1, .inl (kB, 3000, .inl f1))]) [1, 2, 3, 4, 5, 0] rfl
            have hD9 := hD.sub (ws' := [(h2, .inr (0, [.ref h9, .ref h10, .ref h11, .ref h12, .int x_103, .int ta, .int td, .int tf])), (h9, .inl (kI, 3001, .inl x_104)), (h10, .inl (kI, 3001, .inl x_105)), (h11, .inl (kJ, 3001, .inr (.inl x_106))), (h12, .inl (kJ, 27, .inr (.inl f12))), (h1, .inl (kB, 3000, .inl f1))]) [1, 2, 3, 4, 5, 0] (by decide) rfl
            have hrp : 0 ≤ y_113.toInt := by first |  omega | assumption | exact pk_nc _ | exact Or.inl ⟨by omega, by omega, by assumption⟩ | exact Or.inr ⟨by omega, by decide +kernel⟩ | exact fun h9 => absurd h9 (by omega) | exact fun _ => isH_no1 (by omega) | exact fun _ => isH_no2 (by assumption) (by assumption) (by omega) | (intro h9; omega) | (intro h8 h9; omega)
            exact W.iret (v := y_113) hx hb hr (fun t ht hW => ⟨⟨y_113, (), rfl, hrp, x_103, x_104, x_105, x_106, hb_107, hb_108, hb_109, xEnd hK hP9 hD9 ht hW⟩, hS.F ht⟩) hS.2.2 d_8_8_93
        · skip
          have tc_100 : r_98.toInt = (-1) := congrArg Int32.toInt c_100
          refine lv_iload hx hb d_8_8_66 (lv_at hl 1 rfl) ?_
          refine lv_goto (tgt := 73) hx hb d_8_8_68 (by decide +kernel) ?_
          refine lv_iload_n hx hb d_8_8_73 rfl (lv_at hl 6 rfl) ?_
          refine lv_lconst (v := 0) hx hb d_8_8_74 (by decide +kernel) ?_
          have hPc := hP.sub (ws' := [(h2, .inr (0, [.ref h9, .ref h10, .ref h11, .ref h12, .int tc, .int ta, .int td, .int tf])), (h9, .inl (kI, 3001, .inl f9)), (h10, .inl (kI, 3001, .inl f10)), (h11, .inl (kJ, 3001, .inr (.inl f11))), (h12, .inl (kJ, 27, .inr (.inl f12)))]) [0, 1, 2, 3, 4] rfl
          have hDc := hD.sub (ws' := [(h2, .inr (0, [.ref h9, .ref h10, .ref h11, .ref h12, .int tc, .int ta, .int td, .int tf])), (h9, .inl (kI, 3001, .inl f9)), (h10, .inl (kI, 3001, .inl f10)), (h11, .inl (kJ, 3001, .inr (.inl f11))), (h12, .inl (kJ, 27, .inr (.inl f12)))]) [0, 1, 2, 3, 4] (by decide) rfl
          have hFc := va_free (wc := [(h2, .inr (0, [.ref h9, .ref h10, .ref h11, .ref h12, .int tc, .int ta, .int td, .int tf])), (h9, .inl (kI, 3001, .inl f9)), (h10, .inl (kI, 3001, .inl f10)), (h11, .inl (kJ, 3001, .inr (.inl f11))), (h12, .inl (kJ, 27, .inr (.inl f12)))]) hD hS hA [0, 1, 2, 3, 4] rfl
          refine va_callv (va_runV (As := [.int (-1), .int p3, .long 0]) (rest := []) ⟨hx, hb, hml, hown, hts⟩ (g_Tokens_add l D kI kJ kB kZ _ (h2) (h9) (h10) (h11) (h12) (tc) (ta) (td) (tf) (f9) (f10) (f11) (f12) (((-1) : Int32)) (p3) ((0 : Int64)) hf_C1 hf_C2 hf_T6 hq_0) (cwV 3 hts (gT_V m_470 m_472 m_5 m_121 (gT_ws m_473)) rfl rfl rfl (by decide +kernel) ⟨(Nat.le_of_ble_eq_true rfl), (Nat.le_of_ble_eq_true rfl)⟩) ⟨xBlind xOk_N, va_recv hK hP (ci := 0) (q0 := 0) rfl rfl, xAtN hK hPc hDc⟩ rfl rfl hl.1 rfl (lv_room (Nat.le_of_ble_eq_true rfl)) d_8_8_75 ⟨(Nat.le_of_ble_eq_true rfl), (Nat.le_of_ble_eq_true rfl)⟩) hS (fun q _ h => hFc q h) hFc (fun u t H locs ht hvm hw_115 hB hz1 hk1 hS => ?_)
          clear hz1
          revert hB
          refine exI fun x_116 => exI fun x_117 => exI fun x_118 => exI fun x_119 => anI fun hb_120 => anI fun hb_121 => anI fun hb_122 => anI fun hb_123 => fun hB => ?_
          have hPD := xJoin (wr := [(h1, .inl (kB, 3000, .inl f1))]) (w1 := [(h2, .inr (0, [.ref h9, .ref h10, .ref h11, .ref h12, .int x_116, .int ta, .int td, .int tf])), (h9, .inl (kI, 3001, .inl x_117)), (h10, .inl (kI, 3001, .inl x_118)), (h11, .inl (kJ, 3001, .inr (.inl x_119))), (h12, .inl (kJ, 27, .inr (.inl f12)))]) hP hD [0, 1, 2, 3, 4] [5] rfl rfl (by decide) (by decide) hk1 hFc ht hB
          replace hP : va_P D cls9 [(h1, .inl (kB, 3000, .inl f1)), (h2, .inr (0, [.ref h9, .ref h10, .ref h11, .ref h12, .int x_116, .int ta, .int td, .int tf])), (h9, .inl (kI, 3001, .inl x_117)), (h10, .inl (kI, 3001, .inl x_118)), (h11, .inl (kJ, 3001, .inr (.inl x_119))), (h12, .inl (kJ, 27, .inr (.inl f12)))] H := hPD.1
          replace hD : va_D A [(h1, .inl (kB, 3000, .inl f1)), (h2, .inr (0, [.ref h9, .ref h10, .ref h11, .ref h12, .int x_116, .int ta, .int td, .int tf])), (h9, .inl (kI, 3001, .inl x_117)), (h10, .inl (kI, 3001, .inl x_118)), (h11, .inl (kJ, 3001, .inr (.inl x_119))), (h12, .inl (kJ, 27, .inr (.inl f12)))] := hPD.2
          clear hPD hB hk1 hPc hDc hFc
          refine lv_iload hx hb d_8_8_78 (lv_at hl 0 rfl) ?_
          refine lv_iconst (v := (-1)) hx hb d_8_8_80 (by decide +kernel) ?_
          refine lv_icmp_ne (tgt := 90) hx hb d_8_8_81 (by decide +kernel) (fun c_124 => ?_) (fun c_124 => ?_)
          · skip
            have tc_124 : ¬ r_98.toInt = (-1) := fun h9 => c_124 (Int32.toInt_inj.mp h9)
            refine lv_iload_n hx hb d_8_8_90 rfl (lv_at hl 6 rfl) ?_
            refine lv_iconst (v := 2) hx hb d_8_8_91 (by decide +kernel) ?_
            refine lv_iadd hx hb d_8_8_92 ?_
            refine lv_topi (fun y_125 ey_125 => ?_)
            have ty_125 : y_125.toInt = p3.toInt + 2 := by rw [ey_125]; exact zaddc (by decide +kernel) (by omega) (by omega)
            have hP9 := hP.sub (ws' := [(h2, .inr (0, [.ref h9, .ref h10, .ref h11, .ref h12, .int x_116, .int ta, .int td, .int tf])), (h9, .inl (kI, 3001, .inl x_117)), (h10, .inl (kI, 3001, .inl x_118)), (h11, .inl (kJ, 3001, .inr (.inl x_119))), (h12, .inl (kJ, 27, .inr (.inl f12))), (h1, .inl (kB, 3000, .inl f1))]) [1, 2, 3, 4, 5, 0] rfl
            have hD9 := hD.sub (ws' := [(h2, .inr (0, [.ref h9, .ref h10, .ref h11, .ref h12, .int x_116, .int ta, .int td, .int tf])), (h9, .inl (kI, 3001, .inl x_117)), (h10, .inl (kI, 3001, .inl x_118)), (h11, .inl (kJ, 3001, .inr (.inl x_119))), (h12, .inl (kJ, 27, .inr (.inl f12))), (h1, .inl (kB, 3000, .inl f1))]) [1, 2, 3, 4, 5, 0] (by decide) rfl
            have hrp : 0 ≤ y_125.toInt := by first |  omega | assumption | exact pk_nc _ | exact Or.inl ⟨by omega, by omega, by assumption⟩ | exact Or.inr ⟨by omega, by decide +kernel⟩ | exact fun h9 => absurd h9 (by omega) | exact fun _ => isH_no1 (by omega) | exact fun _ => isH_no2 (by assumption) (by assumption) (by omega) | (intro h9; omega) | (intro h8 h9; omega)
            exact W.iret (v := y_125) hx hb hr (fun t ht hW => ⟨⟨y_125, (), rfl, hrp, x_116, x_117, x_118, x_119, hb_120, hb_121, hb_122, xEnd hK hP9 hD9 ht hW⟩, hS.F ht⟩) hS.2.2 d_8_8_93
          · skip
            have tc_124 : r_98.toInt = (-1) := congrArg Int32.toInt c_124
            refine lv_iload_n hx hb d_8_8_84 rfl (lv_at hl 6 rfl) ?_
            refine lv_iconst (v := 1) hx hb d_8_8_85 (by decide +kernel) ?_
            refine lv_iadd hx hb d_8_8_86 ?_
            refine lv_topi (fun y_126 ey_126 => ?_)
            have ty_126 : y_126.toInt = p3.toInt + 1 := by rw [ey_126]; exact zaddc (by decide +kernel) (by omega) (by omega)
            refine lv_goto (tgt := 93) hx hb d_8_8_87 (by decide +kernel) ?_
            have hP9 := hP.sub (ws' := [(h2, .inr (0, [.ref h9, .ref h10, .ref h11, .ref h12, .int x_116, .int ta, .int td, .int tf])), (h9, .inl (kI, 3001, .inl x_117)), (h10, .inl (kI, 3001, .inl x_118)), (h11, .inl (kJ, 3001, .inr (.inl x_119))), (h12, .inl (kJ, 27, .inr (.inl f12))), (h1, .inl (kB, 3000, .inl f1))]) [1, 2, 3, 4, 5, 0] rfl
            have hD9 := hD.sub (ws' := [(h2, .inr (0, [.ref h9, .ref h10, .ref h11, .ref h12, .int x_116, .int ta, .int td, .int tf])), (h9, .inl (kI, 3001, .inl x_117)), (h10, .inl (kI, 3001, .inl x_118)), (h11, .inl (kJ, 3001, .inr (.inl x_119))), (h12, .inl (kJ, 27, .inr (.inl f12))), (h1, .inl (kB, 3000, .inl f1))]) [1, 2, 3, 4, 5, 0] (by decide) rfl
            have hrp : 0 ≤ y_126.toInt := by first |  omega | assumption | exact pk_nc _ | exact Or.inl ⟨by omega, by omega, by assumption⟩ | exact Or.inr ⟨by omega, by decide +kernel⟩ | exact fun h9 => absurd h9 (by omega) | exact fun _ => isH_no1 (by omega) | exact fun _ => isH_no2 (by assumption) (by assumption) (by omega) | (intro h9; omega) | (intro h8 h9; omega)
            exact W.iret (v := y_126) hx hb hr (fun t ht hW => ⟨⟨y_126, (), rfl, hrp, x_116, x_117, x_118, x_119, hb_120, hb_121, hb_122, xEnd hK hP9 hD9 ht hW⟩, hS.F ht⟩) hS.2.2 d_8_8_93
