set_option maxHeartbeats 4000000 in
set_option maxRecDepth 100000 in
theorem c_Tokens_listWords_0 (l : Launch) (D : va_G) (kI kJ kB kZ : ClassId) (sz : Nat) (h0 : Nat) (h1 : Nat) (h2 : Nat) (h3 : Nat) (h4 : Nat) (wA wV bA : Nat) : Met l (⟨"AlgolJudge$Tokens", "listWords", "()V"⟩ : MethodName) (Cond.code (⟨"AlgolJudge$Tokens", "listWords", "()V"⟩ : MethodName) prog_8_method_2_code 4 (none) :: gT) ({ frames := 4, cells := 0, slots := 0, locals := 85 }) (va_Pc [.ref h0] (xP D (xT kI kJ kB kZ) (xE wA wV bA) [(h0, .inr (0, [.ref h1, .ref h2, .ref h3, .ref h4, .int 0, .int 0, .int 0, .int (-2)])), (h4, .inl (kJ, 27, .inr (.inl (fun _ => 0))))] sz)) (va_Qv (fun _ : Unit => True) (fun _ t => ∃ g0 : Nat → Int64, xQ D (xT kI kJ kB kZ) (va_A [(h0, .inr (0, [.ref h1, .ref h2, .ref h3, .ref h4, .int 0, .int 0, .int 0, .int (-2)])), (h4, .inl (kJ, 27, .inr (.inl (fun _ => 0))))] sz) [(h0, .inr (0, [.ref h1, .ref h2, .ref h3, .ref h4, .int 0, .int 0, .int 0, .int (-2)])), (h4, .inl (kJ, 27, .inr (.inl g0)))] t) (va_A [(h0, .inr (0, [.ref h1, .ref h2, .ref h3, .ref h4, .int 0, .int 0, .int 0, .int (-2)])), (h4, .inl (kJ, 27, .inr (.inl (fun _ => 0))))] sz)) 0 0 (va_A [(h0, .inr (0, [.ref h1, .ref h2, .ref h3, .ref h4, .int 0, .int 0, .int 0, .int (-2)])), (h4, .inl (kJ, 27, .inr (.inl (fun _ => 0))))] sz) := by
  refine Met.ofW (cc := prog_8_method_2_code) (maxL := 4) (ret := none) (by decide +kernel) rfl ?_
  intro p e s m args below meth c s₁ B hml hv
  obtain ⟨rfl, hsz, hP, hK, hD0, hE⟩ := hv
  have hx := B.exec
  have hb := B.bytes
  have hr := B.returns
  have hts : ∀ w ∈ gT, w.before _ s = true := fun w h => atoms_spec (ws := Cond.code (⟨"AlgolJudge$Tokens", "listWords", "()V"⟩ : MethodName) prog_8_method_2_code 4 (none) :: gT) B.pre w (List.mem_cons_of_mem _ h)
  have hown : s.vm.findClass "AlgolJudge$Tokens" = some m.cls := findClass_of_methodNamed B.named
  have hlocks := B.notSynchronized
  subst hsz
  have hD := hD0.self (sz := s.heap.size)
  generalize hAe : va_A [(h0, .inr (0, [.ref h1, .ref h2, .ref h3, .ref h4, .int 0, .int 0, .int 0, .int (-2)])), (h4, .inl (kJ, 27, .inr (.inl (fun _ => 0))))] s.heap.size = A at hD hE ⊢
  have hA : ∀ q : Nat, s.heap.size ≤ q → A q := fun q h => by rw [← hAe]; exact Or.inr h
  have hS : va_S A s.heap s.heap [] := va_S.rf
  have hP : va_P D cls9 [(h0, .inr (0, [.ref h1, .ref h2, .ref h3, .ref h4, .int 0, .int 0, .int 0, .int (-2)])), (h4, .inl (kJ, 27, .inr (.inl (fun _ => 0))))] s.heap := hP
  have hl := lv_entry ([.ref h0]) (n := 4) (Nat.le_of_ble_eq_true rfl)
  rw [lg_entry_eq]
  generalize (lg_sl ([.ref h0]) ++ List.replicate (4 - (lg_sl ([.ref h0])).length) Slot.unset).toArray = ls at hl ⊢
  have hl : lv_has ls 4 [(0, .ref h0)] := hl
  refine lv_iconst (v := 1) hx hb d_8_2_0 (by decide +kernel) ?_
  refine lv_istore_n (lv' := [(1, .int 1), (0, .ref h0)]) hx hb d_8_2_1 rfl hl (by decide +kernel) rfl (fun ls hl => ?_)
  refine lv_iconst (v := 0) hx hb d_8_2_2 (by decide +kernel) ?_
  refine lv_istore_n (lv' := [(2, .int 0), (1, .int 1), (0, .ref h0)]) hx hb d_8_2_3 rfl hl (by decide +kernel) rfl (fun ls hl => ?_)
  refine xLoop (I := fun n H locs ls => ∃ i : Nat, ∃ k : Nat, ∃ g : Nat → Int64, i ≤ 138 ∧ k ≤ i + 1 ∧ n = 138 - i ∧ va_P D cls9 [(h0, .inr (0, [.ref h1, .ref h2, .ref h3, .ref h4, .int 0, .int 0, .int 0, .int (-2)])), (h4, .inl (kJ, 27, .inr (.inl g)))] H ∧ va_D A [(h0, .inr (0, [.ref h1, .ref h2, .ref h3, .ref h4, .int 0, .int 0, .int 0, .int (-2)])), (h4, .inl (kJ, 27, .inr (.inl g)))] ∧ va_S A s.heap H locs ∧ lv_has ls 4 [(0, .ref h0), (1, .int (nI k)), (2, .int (nI i))]) ?_ _ _ _ _ ⟨0, 1, (fun _ => 0), (Nat.zero_le _), (by omega), rfl, hP.sub (ws' := [(h0, .inr (0, [.ref h1, .ref h2, .ref h3, .ref h4, .int 0, .int 0, .int 0, .int (-2)])), (h4, .inl (kJ, 27, .inr (.inl (fun _ => 0))))]) [0, 1] rfl, hD.sub (ws' := [(h0, .inr (0, [.ref h1, .ref h2, .ref h3, .ref h4, .int 0, .int 0, .int 0, .int (-2)])), (h4, .inl (kJ, 27, .inr (.inl (fun _ => 0))))]) [0, 1] (by decide) rfl, hS, lv_sub hl [2, 1, 0] rfl⟩
  intro n H locs ls hI ih
  obtain ⟨i, k, g, hi0, hk0, hn, hP, hD, hS, hl⟩ := hI
  refine lv_iload_n hx hb d_8_2_4 rfl (lv_at hl 2 rfl) ?_
  refine va_ldcS hx hb hown (xE_1 hE) d_8_2_5 ?_
  have hPc := hP.sub (ws' := []) [] rfl
  have hDc := hD.sub (ws' := []) [] (by decide +kernel) rfl
  have hFc := va_free (wc := []) hD hS hA [] rfl
  refine va_calli (va_runV (As := []) (rest := [.int (nI i)]) ⟨hx, hb, hml, hown, hts⟩ (c_String_length_0 l D kI kJ kB kZ _  wA wV bA ) (cwV 0 hts (gT_V m_155 m_156 m_157 m_122 (gT_ws m_158)) rfl rfl rfl (by decide +kernel) ⟨(Nat.le_of_ble_eq_true rfl), (Nat.le_of_ble_eq_true rfl)⟩) ⟨xBlind (xOk_E wA wV bA), (xE_O hE hS), xAt (xOk_E wA wV bA) hK hPc hDc hS hFc hE⟩ rfl rfl hl.1 rfl (lv_room (Nat.le_of_ble_eq_true rfl)) d_8_2_7 ⟨(Nat.le_of_ble_eq_true rfl), (Nat.le_of_ble_eq_true rfl)⟩) hS (fun q _ h => hFc q h) hFc (fun r_1 u t H1 locs ht hvm hw hB hz1 hk1 hS => ?_)
  obtain ⟨hP, hD⟩ := xJoin (wr := [(h0, .inr (0, [.ref h1, .ref h2, .ref h3, .ref h4, .int 0, .int 0, .int 0, .int (-2)])), (h4, .inl (kJ, 27, .inr (.inl g)))]) (w1 := []) hP hD [] [0, 1] rfl rfl (by decide +kernel) (by decide +kernel) hk1 hFc ht hB
  generalize H1 = H at hP hS ⊢
  have hP : va_P D cls9 [(h0, .inr (0, [.ref h1, .ref h2, .ref h3, .ref h4, .int 0, .int 0, .int 0, .int (-2)])), (h4, .inl (kJ, 27, .inr (.inl g)))] H := hP
  have hD : va_D A [(h0, .inr (0, [.ref h1, .ref h2, .ref h3, .ref h4, .int 0, .int 0, .int 0, .int (-2)])), (h4, .inl (kJ, 27, .inr (.inl g)))] := hD
  obtain rfl : r_1 = 138 := hw
  refine lv_icmp_ge (tgt := 60) hx hb d_8_2_10 (by decide +kernel) (fun c_2 => ?_) (fun c_2 => ?_)
  · skip
    have hP9 := hP.sub (ws' := [(h0, .inr (0, [.ref h1, .ref h2, .ref h3, .ref h4, .int 0, .int 0, .int 0, .int (-2)])), (h4, .inl (kJ, 27, .inr (.inl g)))]) [0, 1] rfl
    have hD9 := hD.sub (ws' := [(h0, .inr (0, [.ref h1, .ref h2, .ref h3, .ref h4, .int 0, .int 0, .int 0, .int (-2)])), (h4, .inl (kJ, 27, .inr (.inl g)))]) [0, 1] (by decide +kernel) rfl
    exact W.vret hx hb hr (fun t ht hW => ⟨⟨(), rfl, trivial, _, xEnd hK hP9 hD9 ht hW⟩, hS.F ht⟩) hS.2.2 d_8_2_60
  · skip
    have hi : i < 138 := by
      rcases Nat.lt_or_ge i 138 with q | q
      · exact q
      · exact absurd (nI_le (a := 138) (b := i) q (by omega)) c_2
    refine va_ldcS hx hb hown (xE_1 hE) d_8_2_13 ?_
    refine lv_iload_n hx hb d_8_2_15 rfl (lv_at hl 2 rfl) ?_
    have hPc := hP.sub (ws' := []) [] rfl
    have hDc := hD.sub (ws' := []) [] (by decide +kernel) rfl
    have hFc := va_free (wc := []) hD hS hA [] rfl
    refine va_calli (va_runV (As := [.int (nI i)]) (rest := []) ⟨hx, hb, hml, hown, hts⟩ (c_String_charAt_0 l D kI kJ kB kZ _ (i) wA wV bA hi) (cwV 1 hts (gT_V m_165 m_166 m_167 m_122 (gT_ws m_168)) rfl rfl rfl (by decide +kernel) ⟨(Nat.le_of_ble_eq_true rfl), (Nat.le_of_ble_eq_true rfl)⟩) ⟨xBlind (xOk_E wA wV bA), (xE_O hE hS), xAt (xOk_E wA wV bA) hK hPc hDc hS hFc hE⟩ rfl rfl hl.1 rfl (lv_room (Nat.le_of_ble_eq_true rfl)) d_8_2_16 ⟨(Nat.le_of_ble_eq_true rfl), (Nat.le_of_ble_eq_true rfl)⟩) hS (fun q _ h => hFc q h) hFc (fun r_3 u t H1 locs ht hvm hw hB hz1 hk1 hS => ?_)
    obtain ⟨hP, hD⟩ := xJoin (wr := [(h0, .inr (0, [.ref h1, .ref h2, .ref h3, .ref h4, .int 0, .int 0, .int 0, .int (-2)])), (h4, .inl (kJ, 27, .inr (.inl g)))]) (w1 := []) hP hD [] [0, 1] rfl rfl (by decide +kernel) (by decide +kernel) hk1 hFc ht hB
    generalize H1 = H at hP hS ⊢
    have hP : va_P D cls9 [(h0, .inr (0, [.ref h1, .ref h2, .ref h3, .ref h4, .int 0, .int 0, .int 0, .int (-2)])), (h4, .inl (kJ, 27, .inr (.inl g)))] H := hP
    have hD : va_D A [(h0, .inr (0, [.ref h1, .ref h2, .ref h3, .ref h4, .int 0, .int 0, .int 0, .int (-2)])), (h4, .inl (kJ, 27, .inr (.inl g)))] := hD
    have hw9 := hw
    refine lv_istore_n (lv' := [(3, .int r_3), (0, .ref h0), (1, .int (nI k)), (2, .int (nI i))]) hx hb d_8_2_19 rfl hl (by decide +kernel) rfl (fun ls hl => ?_)
    refine lv_iload_n hx hb d_8_2_20 rfl (lv_at hl 0 rfl) ?_
    refine lv_bipush (v := 32) hx hb d_8_2_21 (by decide +kernel) ?_
    refine lv_icmp_ne (tgt := 32) hx hb d_8_2_23 (by decide +kernel) (fun c_4 => ?_) (fun c_4 => ?_)
    · skip
      refine lv_iload_n hx hb d_8_2_32 rfl (lv_at hl 2 rfl) ?_
      refine lv_bipush (v := 26) hx hb d_8_2_33 (by decide +kernel) ?_
      refine lv_icmp_gt (tgt := 54) hx hb d_8_2_35 (by decide +kernel) (fun c_5 => ?_) (fun c_5 => ?_)
      · skip
        refine lv_iinc (v := ((nI i) + 1)) (lv' := [(2, .int ((nI i) + 1)), (3, .int r_3), (0, .ref h0), (1, .int (nI k))]) hx hb d_8_2_54 hl (k := 3) rfl rfl (by decide +kernel) rfl (fun ls hl => ?_)
        refine lv_goto (tgt := 4) hx hb d_8_2_57 (by decide +kernel) ?_
        rw [nI_1 i] at hl
        exact ih _ _ _ _ (by omega) ⟨(i + 1), k, g, (by omega), (by omega), rfl, hP.sub (ws' := [(h0, .inr (0, [.ref h1, .ref h2, .ref h3, .ref h4, .int 0, .int 0, .int 0, .int (-2)])), (h4, .inl (kJ, 27, .inr (.inl g)))]) [0, 1] rfl, hD.sub (ws' := [(h0, .inr (0, [.ref h1, .ref h2, .ref h3, .ref h4, .int 0, .int 0, .int 0, .int (-2)])), (h4, .inl (kJ, 27, .inr (.inl g)))]) [0, 1] (by decide) rfl, hS, lv_sub hl [2, 3, 0] rfl⟩
      · skip
        have hk : k < 27 := by
          rcases Nat.lt_or_ge k 27 with q | q
          · exact q
          · exact absurd (nI_lt (a := 26) (b := k) q (by omega)) c_5
        refine lv_aload_n hx hb d_8_2_38 rfl (lv_at hl 1 rfl) ?_
        refine va_get (D := D) (ci := 0) (v := .ref h4) (C := "AlgolJudge$Tokens") (T := T_Tokens) (N := 8) hx hb hts i_Tokens hown hK hP 0 rfl rfl 3 (by decide +kernel) (hts _ m_213) (fun _ h9 => h9) rfl d_8_2_39 ?_
        refine lv_iload_n hx hb d_8_2_42 rfl (lv_at hl 2 rfl) ?_
        refine lv_aload_n hx hb d_8_2_43 rfl (lv_at hl 1 rfl) ?_
        refine va_get (D := D) (ci := 0) (v := .ref h4) (C := "AlgolJudge$Tokens") (T := T_Tokens) (N := 8) hx hb hts i_Tokens hown hK hP 0 rfl rfl 3 (by decide +kernel) (hts _ m_213) (fun _ h9 => h9) rfl d_8_2_44 ?_
        refine lv_iload_n hx hb d_8_2_47 rfl (lv_at hl 2 rfl) ?_
        refine va_lald hx hb hK hP 1 1 rfl rfl (vp_in_nI hk (by decide)) d_8_2_48 ?_
        refine lv_topl (fun z_6 ez_6 => ?_)
        refine lv_iload_n hx hb d_8_2_49 rfl (lv_at hl 0 rfl) ?_
        have hPc := hP.sub (ws' := []) [] rfl
        have hDc := hD.sub (ws' := []) [] (by decide +kernel) rfl
        have hFc := va_free (wc := []) hD hS hA [] rfl
        refine va_calll (va_runS (As := [.long z_6, .int r_3]) (rest := [.int (nI k), .ref h4]) ⟨hx, hb, hml, hown, hts⟩ (c_Tokens_longer_0 l D kI kJ kB kZ _ (z_6) (r_3) ) (va_cwS 2 hts (gT_S m_203 m_204 m_121 (gT_ws m_205)) rfl rfl rfl (by decide +kernel) ⟨(Nat.le_of_ble_eq_true rfl), (Nat.le_of_ble_eq_true rfl)⟩) ⟨xBlind xOk_N, xAtN hK hPc hDc⟩ rfl rfl hl.1 rfl (lv_room (Nat.le_of_ble_eq_true rfl)) d_8_2_50 ⟨(Nat.le_of_ble_eq_true rfl), (Nat.le_of_ble_eq_true rfl)⟩) hS (fun q _ h => hFc q h) hFc (fun r_7 u t H1 locs ht hvm hw hB hz1 hk1 hS => ?_)
        obtain ⟨hP, hD⟩ := xJoin (wr := [(h0, .inr (0, [.ref h1, .ref h2, .ref h3, .ref h4, .int 0, .int 0, .int 0, .int (-2)])), (h4, .inl (kJ, 27, .inr (.inl g)))]) (w1 := []) hP hD [] [0, 1] rfl rfl (by decide +kernel) (by decide +kernel) hk1 hFc ht hB
        generalize H1 = H at hP hS ⊢
        have hP : va_P D cls9 [(h0, .inr (0, [.ref h1, .ref h2, .ref h3, .ref h4, .int 0, .int 0, .int 0, .int (-2)])), (h4, .inl (kJ, 27, .inr (.inl g)))] H := hP
        have hD : va_D A [(h0, .inr (0, [.ref h1, .ref h2, .ref h3, .ref h4, .int 0, .int 0, .int 0, .int (-2)])), (h4, .inl (kJ, 27, .inr (.inl g)))] := hD
        refine va_last hx hb hK hP hD hS 1 1 rfl rfl (vp_in_nI hk (by decide)) d_8_2_53 (fun H locs hP hD hS => ?_)
        have hP : va_P D cls9 [(h0, .inr (0, [.ref h1, .ref h2, .ref h3, .ref h4, .int 0, .int 0, .int 0, .int (-2)])), (h4, .inl (kJ, 27, .inr (.inl (vp_updL g (Int32.toNatClampNeg (nI k)) r_7))))] H := hP
        have hD : va_D A [(h0, .inr (0, [.ref h1, .ref h2, .ref h3, .ref h4, .int 0, .int 0, .int 0, .int (-2)])), (h4, .inl (kJ, 27, .inr (.inl (vp_updL g (Int32.toNatClampNeg (nI k)) r_7))))] := hD
        refine lv_iinc (v := ((nI i) + 1)) (lv' := [(2, .int ((nI i) + 1)), (3, .int r_3), (0, .ref h0), (1, .int (nI k))]) hx hb d_8_2_54 hl (k := 3) rfl rfl (by decide +kernel) rfl (fun ls hl => ?_)
        refine lv_goto (tgt := 4) hx hb d_8_2_57 (by decide +kernel) ?_
        rw [nI_1 i] at hl
        exact ih _ _ _ _ (by omega) ⟨(i + 1), k, (vp_updL g (Int32.toNatClampNeg (nI k)) r_7), (by omega), (by omega), rfl, hP.sub (ws' := [(h0, .inr (0, [.ref h1, .ref h2, .ref h3, .ref h4, .int 0, .int 0, .int 0, .int (-2)])), (h4, .inl (kJ, 27, .inr (.inl (vp_updL g (Int32.toNatClampNeg (nI k)) r_7))))]) [0, 1] rfl, hD.sub (ws' := [(h0, .inr (0, [.ref h1, .ref h2, .ref h3, .ref h4, .int 0, .int 0, .int 0, .int (-2)])), (h4, .inl (kJ, 27, .inr (.inl (vp_updL g (Int32.toNatClampNeg (nI k)) r_7))))]) [0, 1] (by decide) rfl, hS, lv_sub hl [2, 3, 0] rfl⟩
    · skip
      refine lv_iinc (v := ((nI k) + 1)) (lv' := [(1, .int ((nI k) + 1)), (3, .int r_3), (0, .ref h0), (2, .int (nI i))]) hx hb d_8_2_26 hl (k := 2) rfl rfl (by decide +kernel) rfl (fun ls hl => ?_)
      refine lv_goto (tgt := 54) hx hb d_8_2_29 (by decide +kernel) ?_
      refine lv_iinc (v := ((nI i) + 1)) (lv' := [(2, .int ((nI i) + 1)), (1, .int ((nI k) + 1)), (3, .int r_3), (0, .ref h0)]) hx hb d_8_2_54 hl (k := 3) rfl rfl (by decide +kernel) rfl (fun ls hl => ?_)
      refine lv_goto (tgt := 4) hx hb d_8_2_57 (by decide +kernel) ?_
      rw [nI_1 k] at hl
      rw [nI_1 i] at hl
      exact ih _ _ _ _ (by omega) ⟨(i + 1), (k + 1), g, (by omega), (by omega), rfl, hP.sub (ws' := [(h0, .inr (0, [.ref h1, .ref h2, .ref h3, .ref h4, .int 0, .int 0, .int 0, .int (-2)])), (h4, .inl (kJ, 27, .inr (.inl g)))]) [0, 1] rfl, hD.sub (ws' := [(h0, .inr (0, [.ref h1, .ref h2, .ref h3, .ref h4, .int 0, .int 0, .int 0, .int (-2)])), (h4, .inl (kJ, 27, .inr (.inl g)))]) [0, 1] (by decide) rfl, hS, lv_sub hl [3, 1, 0] rfl⟩
