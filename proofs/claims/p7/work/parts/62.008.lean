set_option maxHeartbeats 4000000 in
set_option maxRecDepth 100000 in
theorem c_Tokens_isLetter_0 (l : Launch) (D : va_G) (kI kJ kB kZ : ClassId) (sz : Nat) (i0 : Int32) : Met l (⟨"AlgolJudge$Tokens", "isLetter", "(I)Z"⟩ : MethodName) (Cond.code (⟨"AlgolJudge$Tokens", "isLetter", "(I)Z"⟩ : MethodName) prog_8_method_10_code 1 (some .boolean) :: gT) ({ frames := 0, cells := 0, slots := 0, locals := 0 }) (va_Pc [.int i0] (xP D (xT kI kJ kB kZ) xN [] sz)) (va_Qi (fun (r : Int32) (_ : Unit) => r = (if (97 : Int32) ≤ i0 ∧ i0 ≤ 122 then 1 else 0)) (fun _ t => xQ D (xT kI kJ kB kZ) (va_A [] sz) [] t) (va_A [] sz)) 0 0 (va_A [] sz) := by
  refine Met.ofW (cc := prog_8_method_10_code) (maxL := 1) (ret := some .boolean) (by decide +kernel) rfl ?_
  intro p e s m args below meth c s₁ B hml hv
  obtain ⟨rfl, hsz, hP, hK, hD0, hE⟩ := hv
  have hx := B.exec
  have hb := B.bytes
  have hr := B.returns
  have hts : ∀ w ∈ gT, w.before _ s = true := fun w h => atoms_spec (ws := Cond.code (⟨"AlgolJudge$Tokens", "isLetter", "(I)Z"⟩ : MethodName) prog_8_method_10_code 1 (some .boolean) :: gT) B.pre w (List.mem_cons_of_mem _ h)
  have hown : s.vm.findClass "AlgolJudge$Tokens" = some m.cls := findClass_of_methodNamed B.named
  have hlocks := B.notSynchronized
  subst hsz
  have hD := hD0.self (sz := s.heap.size)
  generalize hAe : va_A [] s.heap.size = A at hD hE ⊢
  have hA : ∀ q : Nat, s.heap.size ≤ q → A q := fun q h => by rw [← hAe]; exact Or.inr h
  have hS : va_S A s.heap s.heap [] := va_S.rf
  have hP : va_P D cls9 [] s.heap := hP
  have hl := lv_entry ([.int i0]) (n := 1) (Nat.le_of_ble_eq_true rfl)
  rw [lg_entry_eq]
  generalize (lg_sl ([.int i0]) ++ List.replicate (1 - (lg_sl ([.int i0])).length) Slot.unset).toArray = ls at hl ⊢
  have hl : lv_has ls 1 [(0, .int i0)] := hl
  refine lv_iload_n hx hb d_8_10_0 rfl (lv_at hl 0 rfl) ?_
  refine lv_bipush (v := 97) hx hb d_8_10_1 (by decide +kernel) ?_
  refine lv_icmp_lt (tgt := 16) hx hb d_8_10_3 (by decide +kernel) (fun c_1 => ?_) (fun c_1 => ?_)
  · skip
    refine lv_iconst (v := 0) hx hb d_8_10_16 (by decide +kernel) ?_
    have hP9 := hP.sub (ws' := []) [] rfl
    have hD9 := hD.sub (ws' := []) [] (by decide +kernel) rfl
    exact W.zret (v := 0) (ty := .boolean) hx hb hr (by decide +kernel) (fun t ht hW => ⟨⟨0, (), rfl, (by first | (rw [if_neg (fun q => absurd q.1 (Int32.not_le.mpr (by assumption)))]; done) | (rw [if_neg (fun q => absurd q.2 (Int32.not_le.mpr (by assumption)))]; done) | (rw [if_pos ⟨Int32.not_lt.mp (by assumption), Int32.not_lt.mp (by assumption)⟩]; done)), xEnd hK hP9 hD9 ht hW⟩, hS.F ht⟩) hS.2.2 d_8_10_17
  · skip
    refine lv_iload_n hx hb d_8_10_6 rfl (lv_at hl 0 rfl) ?_
    refine lv_bipush (v := 122) hx hb d_8_10_7 (by decide +kernel) ?_
    refine lv_icmp_gt (tgt := 16) hx hb d_8_10_9 (by decide +kernel) (fun c_2 => ?_) (fun c_2 => ?_)
    · skip
      refine lv_iconst (v := 0) hx hb d_8_10_16 (by decide +kernel) ?_
      have hP9 := hP.sub (ws' := []) [] rfl
      have hD9 := hD.sub (ws' := []) [] (by decide +kernel) rfl
      exact W.zret (v := 0) (ty := .boolean) hx hb hr (by decide +kernel) (fun t ht hW => ⟨⟨0, (), rfl, (by first | (rw [if_neg (fun q => absurd q.1 (Int32.not_le.mpr (by assumption)))]; done) | (rw [if_neg (fun q => absurd q.2 (Int32.not_le.mpr (by assumption)))]; done) | (rw [if_pos ⟨Int32.not_lt.mp (by assumption), Int32.not_lt.mp (by assumption)⟩]; done)), xEnd hK hP9 hD9 ht hW⟩, hS.F ht⟩) hS.2.2 d_8_10_17
    · skip
      refine lv_iconst (v := 1) hx hb d_8_10_12 (by decide +kernel) ?_
      refine lv_goto (tgt := 17) hx hb d_8_10_13 (by decide +kernel) ?_
      have hP9 := hP.sub (ws' := []) [] rfl
      have hD9 := hD.sub (ws' := []) [] (by decide +kernel) rfl
      exact W.zret (v := 1) (ty := .boolean) hx hb hr (by decide +kernel) (fun t ht hW => ⟨⟨1, (), rfl, (by first | (rw [if_neg (fun q => absurd q.1 (Int32.not_le.mpr (by assumption)))]; done) | (rw [if_neg (fun q => absurd q.2 (Int32.not_le.mpr (by assumption)))]; done) | (rw [if_pos ⟨Int32.not_lt.mp (by assumption), Int32.not_lt.mp (by assumption)⟩]; done)), xEnd hK hP9 hD9 ht hW⟩, hS.F ht⟩) hS.2.2 d_8_10_17
set_option maxHeartbeats 4000000 in
set_option maxRecDepth 100000 in
theorem c_Tokens_longer_0 (l : Launch) (D : va_G) (kI kJ kB kZ : ClassId) (sz : Nat) (i0 : Int64) (i1 : Int32) : Met l (⟨"AlgolJudge$Tokens", "longer", "(JI)J"⟩ : MethodName) (Cond.code (⟨"AlgolJudge$Tokens", "longer", "(JI)J"⟩ : MethodName) prog_8_method_13_code 3 (some .long) :: gT) ({ frames := 1, cells := 0, slots := 0, locals := 20 }) (va_Pc [.long i0, .int i1] (xP D (xT kI kJ kB kZ) xN [] sz)) (va_Ql (fun (r : Int64) (_ : Unit) => r = lln i0 i1) (fun _ t => xQ D (xT kI kJ kB kZ) (va_A [] sz) [] t) (va_A [] sz)) 0 0 (va_A [] sz) := by
  refine Met.ofW (cc := prog_8_method_13_code) (maxL := 3) (ret := some .long) (by decide +kernel) rfl ?_
  intro p e s m args below meth c s₁ B hml hv
  obtain ⟨rfl, hsz, hP, hK, hD0, hE⟩ := hv
  have hx := B.exec
  have hb := B.bytes
  have hr := B.returns
  have hts : ∀ w ∈ gT, w.before _ s = true := fun w h => atoms_spec (ws := Cond.code (⟨"AlgolJudge$Tokens", "longer", "(JI)J"⟩ : MethodName) prog_8_method_13_code 3 (some .long) :: gT) B.pre w (List.mem_cons_of_mem _ h)
  have hown : s.vm.findClass "AlgolJudge$Tokens" = some m.cls := findClass_of_methodNamed B.named
  have hlocks := B.notSynchronized
  subst hsz
  have hD := hD0.self (sz := s.heap.size)
  generalize hAe : va_A [] s.heap.size = A at hD hE ⊢
  have hA : ∀ q : Nat, s.heap.size ≤ q → A q := fun q h => by rw [← hAe]; exact Or.inr h
  have hS : va_S A s.heap s.heap [] := va_S.rf
  have hP : va_P D cls9 [] s.heap := hP
  have hl := lv_entry ([.long i0, .int i1]) (n := 3) (Nat.le_of_ble_eq_true rfl)
  rw [lg_entry_eq]
  generalize (lg_sl ([.long i0, .int i1]) ++ List.replicate (3 - (lg_sl ([.long i0, .int i1])).length) Slot.unset).toArray = ls at hl ⊢
  have hl : lv_has ls 3 [(0, .long i0), (2, .int i1)] := hl
  refine lv_lload_n hx hb d_8_13_0 rfl (lv_at hl 0 rfl) ?_
  refine lv_ldc2 (v := 37) hx hb hown (hts _ m_206) d_8_13_1 ?_
  refine lv_lmul hx hb d_8_13_4 ?_
  refine lv_iload_n hx hb d_8_13_5 rfl (lv_at hl 1 rfl) ?_
  have hPc := hP.sub (ws' := []) [] rfl
  have hDc := hD.sub (ws' := []) [] (by decide +kernel) rfl
  have hFc := va_free (wc := []) hD hS hA [] rfl
  refine va_calli (va_runS (As := [.int i1]) (rest := [.long (i0 * 37)]) ⟨hx, hb, hml, hown, hts⟩ (c_Tokens_isLetter_0 l D kI kJ kB kZ _ (i1) ) (va_cwS 1 hts (gT_S m_207 m_208 m_121 (gT_ws m_209)) rfl rfl rfl (by decide +kernel) ⟨(Nat.le_of_ble_eq_true rfl), (Nat.le_of_ble_eq_true rfl)⟩) ⟨xBlind xOk_N, xAtN hK hPc hDc⟩ rfl rfl hl.1 rfl (lv_room (Nat.le_of_ble_eq_true rfl)) d_8_13_6 ⟨(Nat.le_of_ble_eq_true rfl), (Nat.le_of_ble_eq_true rfl)⟩) hS (fun q _ h => hFc q h) hFc (fun r_1 u t H1 locs ht hvm hw hB hz1 hk1 hS => ?_)
  obtain ⟨hP, hD⟩ := xJoin (wr := []) (w1 := []) hP hD [] [] rfl rfl (by decide +kernel) (by decide +kernel) hk1 hFc ht hB
  generalize H1 = H at hP hS ⊢
  replace hP : va_P D cls9 [] H := hP
  replace hD : va_D A [] := hD
  have hw9 := hw
  refine lv_if_eq (tgt := 21) hx hb d_8_13_9 (by decide +kernel) (fun c_2 => ?_) (fun c_2 => ?_)
  · skip
    refine lv_iload_n hx hb d_8_13_21 rfl (lv_at hl 1 rfl) ?_
    refine lv_bipush (v := 48) hx hb d_8_13_22 (by decide +kernel) ?_
    refine lv_isub hx hb d_8_13_24 ?_
    refine lv_bipush (v := 27) hx hb d_8_13_25 (by decide +kernel) ?_
    refine lv_iadd hx hb d_8_13_27 ?_
    refine lv_i2l (v := (((i1 - 48) + 27).toInt64)) hx hb d_8_13_28 rfl ?_
    refine lv_ladd hx hb d_8_13_29 ?_
    have hP9 := hP.sub (ws' := []) [] rfl
    have hD9 := hD.sub (ws' := []) [] (by decide +kernel) rfl
    exact W.lret (v := ((i0 * 37) + (((i1 - 48) + 27).toInt64))) hx hb hr (fun t ht hW => ⟨⟨((i0 * 37) + (((i1 - 48) + 27).toInt64)), (), rfl, (by first | (have q9 : r_1 = 0 := (by assumption); exact lln_n hw9 q9) | (have q9 : ¬ r_1 = 0 := (by assumption); exact lln_y hw9 q9)), xEnd hK hP9 hD9 ht hW⟩, hS.F ht⟩) hS.2.2 d_8_13_30
  · skip
    refine lv_iload_n hx hb d_8_13_12 rfl (lv_at hl 1 rfl) ?_
    refine lv_bipush (v := 97) hx hb d_8_13_13 (by decide +kernel) ?_
    refine lv_isub hx hb d_8_13_15 ?_
    refine lv_iconst (v := 1) hx hb d_8_13_16 (by decide +kernel) ?_
    refine lv_iadd hx hb d_8_13_17 ?_
    refine lv_goto (tgt := 28) hx hb d_8_13_18 (by decide +kernel) ?_
    refine lv_i2l (v := (((i1 - 97) + 1).toInt64)) hx hb d_8_13_28 rfl ?_
    refine lv_ladd hx hb d_8_13_29 ?_
    have hP9 := hP.sub (ws' := []) [] rfl
    have hD9 := hD.sub (ws' := []) [] (by decide +kernel) rfl
    exact W.lret (v := ((i0 * 37) + (((i1 - 97) + 1).toInt64))) hx hb hr (fun t ht hW => ⟨⟨((i0 * 37) + (((i1 - 97) + 1).toInt64)), (), rfl, (by first | (have q9 : r_1 = 0 := (by assumption); exact lln_n hw9 q9) | (have q9 : ¬ r_1 = 0 := (by assumption); exact lln_y hw9 q9)), xEnd hK hP9 hD9 ht hW⟩, hS.F ht⟩) hS.2.2 d_8_13_30
set_option maxHeartbeats 4000000 in
set_option maxRecDepth 100000 in
theorem c_Tokens_listWords_0 (l : Launch) (D : va_G) (kI kJ kB kZ : ClassId) (sz : Nat) (h0 : Nat) (h1 : Nat) (h2 : Nat) (h3 : Nat) (h4 : Nat) (sA sV : Nat → Nat) : Met l (⟨"AlgolJudge$Tokens", "listWords", "()V"⟩ : MethodName) (Cond.code (⟨"AlgolJudge$Tokens", "listWords", "()V"⟩ : MethodName) prog_8_method_2_code 4 (none) :: gT) ({ frames := 4, cells := 0, slots := 0, locals := 85 }) (va_Pc [.ref h0] (xP D (xT kI kJ kB kZ) (xE sA sV) [(h0, .inr (0, [.ref h1, .ref h2, .ref h3, .ref h4, .int 0, .int 0, .int 0, .int (-2)])), (h4, .inl (kJ, 27, .inr (.inl (fun _ => 0))))] sz)) (va_Qv (fun _ : Unit => True) (fun _ t => xQ D (xT kI kJ kB kZ) (va_A [(h0, .inr (0, [.ref h1, .ref h2, .ref h3, .ref h4, .int 0, .int 0, .int 0, .int (-2)])), (h4, .inl (kJ, 27, .inr (.inl (fun _ => 0))))] sz) [(h0, .inr (0, [.ref h1, .ref h2, .ref h3, .ref h4, .int 0, .int 0, .int 0, .int (-2)])), (h4, .inl (kJ, 27, .inr (.inl wLw)))] t) (va_A [(h0, .inr (0, [.ref h1, .ref h2, .ref h3, .ref h4, .int 0, .int 0, .int 0, .int (-2)])), (h4, .inl (kJ, 27, .inr (.inl (fun _ => 0))))] sz)) 0 0 (va_A [(h0, .inr (0, [.ref h1, .ref h2, .ref h3, .ref h4, .int 0, .int 0, .int 0, .int (-2)])), (h4, .inl (kJ, 27, .inr (.inl (fun _ => 0))))] sz) := by
  refine Met.ofW (cc := prog_8_method_2_code) (maxL := 4) (ret := none) (by decide +kernel) rfl ?_
  intro p e s m args below meth c s₁ B hml hv
  obtain ⟨rfl, hsz, hP, hK, hD0, hE⟩ := hv
  have hx := B.exec
  have hb := B.bytes
  have hr := B.returns
  have hts : ∀ w ∈ gT, w.before _ s = true := fun w h => atoms_spec (ws := Cond.code (⟨"AlgolJudge$Tokens", "listWords", "()V"⟩ : MethodName) prog_8_method_2_code 4 (none) :: gT) B.pre w (List.mem_cons_of_mem _ h)
  have hown : s.vm.findClass "AlgolJudge$Tokens" = some m.cls := findClass_of_methodNamed B.named
  have hlocks := B.notSynchronized
  subst hsz
  have hD := hD0.self (sz := s.heap.size)
  generalize hAe : va_A [(h0, .inr (0, [.ref h1, .ref h2, .ref h3, .ref h4, .int 0, .int 0, .int 0, .int (-2)])), (h4, .inl (kJ, 27, .inr (.inl (fun _ => 0))))] s.heap.size = A at hD hE ⊢
  have hA : ∀ q : Nat, s.heap.size ≤ q → A q := fun q h => by rw [← hAe]; exact Or.inr h
  have hS : va_S A s.heap s.heap [] := va_S.rf
  have hP : va_P D cls9 [(h0, .inr (0, [.ref h1, .ref h2, .ref h3, .ref h4, .int 0, .int 0, .int 0, .int (-2)])), (h4, .inl (kJ, 27, .inr (.inl (fun _ => 0))))] s.heap := hP
  have hl := lv_entry ([.ref h0]) (n := 4) (Nat.le_of_ble_eq_true rfl)
  rw [lg_entry_eq]
  generalize (lg_sl ([.ref h0]) ++ List.replicate (4 - (lg_sl ([.ref h0])).length) Slot.unset).toArray = ls at hl ⊢
  have hl : lv_has ls 4 [(0, .ref h0)] := hl
  refine lv_iconst (v := 1) hx hb d_8_2_0 (by decide +kernel) ?_
  refine lv_istore_n (lv' := [(1, .int 1), (0, .ref h0)]) hx hb d_8_2_1 rfl hl (by decide +kernel) rfl (fun ls hl => ?_)
  refine lv_iconst (v := 0) hx hb d_8_2_2 (by decide +kernel) ?_
  refine lv_istore_n (lv' := [(2, .int 0), (1, .int 1), (0, .ref h0)]) hx hb d_8_2_3 rfl hl (by decide +kernel) rfl (fun ls hl => ?_)
  refine xLoop (I := fun n H locs ls => ∃ i : Nat, ∃ k : Nat, ∃ g : Nat → Int64, i ≤ 138 ∧ k ≤ i + 1 ∧ g = lwG i ∧ k = lwk i ∧ n = 138 - i ∧ va_P D cls9 [(h0, .inr (0, [.ref h1, .ref h2, .ref h3, .ref h4, .int 0, .int 0, .int 0, .int (-2)])), (h4, .inl (kJ, 27, .inr (.inl g)))] H ∧ va_D A [(h0, .inr (0, [.ref h1, .ref h2, .ref h3, .ref h4, .int 0, .int 0, .int 0, .int (-2)])), (h4, .inl (kJ, 27, .inr (.inl g)))] ∧ va_S A s.heap H locs ∧ lv_has ls 4 [(0, .ref h0), (1, .int (nI k)), (2, .int (nI i))]) ?_ _ _ _ _ ⟨0, 1, (fun _ => 0), (Nat.zero_le _), (by omega), lw_0, rfl, rfl, hP.sub (ws' := [(h0, .inr (0, [.ref h1, .ref h2, .ref h3, .ref h4, .int 0, .int 0, .int 0, .int (-2)])), (h4, .inl (kJ, 27, .inr (.inl (fun _ => 0))))]) [0, 1] rfl, hD.sub (ws' := [(h0, .inr (0, [.ref h1, .ref h2, .ref h3, .ref h4, .int 0, .int 0, .int 0, .int (-2)])), (h4, .inl (kJ, 27, .inr (.inl (fun _ => 0))))]) [0, 1] (by decide) rfl, hS, lv_sub hl [2, 1, 0] rfl⟩
  intro n H locs ls hI ih
  obtain ⟨i, k, g, hi0, hk0, hg, hk9, hn, hP, hD, hS, hl⟩ := hI
  refine lv_iload_n hx hb d_8_2_4 rfl (lv_at hl 2 rfl) ?_
  refine va_ldcS hx hb hown (xE_r0 hE) d_8_2_5 ?_
  have hPc := hP.sub (ws' := []) [] rfl
  have hDc := hD.sub (ws' := []) [] (by decide +kernel) rfl
  have hFc := va_free (wc := []) hD hS hA [] rfl
  refine va_calli (va_runV (As := []) (rest := [.int (nI i)]) ⟨hx, hb, hml, hown, hts⟩ (c_String_length_0 l D kI kJ kB kZ _  sA sV ) (cwV 0 hts (gT_V m_155 m_156 m_157 m_122 (gT_ws m_158)) rfl rfl rfl (by decide +kernel) ⟨(Nat.le_of_ble_eq_true rfl), (Nat.le_of_ble_eq_true rfl)⟩) ⟨xBlind (xOk_E sA sV), (xE_O hE 0 (by decide) hS), xAt (xOk_E sA sV) hK hPc hDc hS hFc hE⟩ rfl rfl hl.1 rfl (lv_room (Nat.le_of_ble_eq_true rfl)) d_8_2_7 ⟨(Nat.le_of_ble_eq_true rfl), (Nat.le_of_ble_eq_true rfl)⟩) hS (fun q _ h => hFc q h) hFc (fun r_1 u t H1 locs ht hvm hw hB hz1 hk1 hS => ?_)
  obtain ⟨hP, hD⟩ := xJoin (wr := [(h0, .inr (0, [.ref h1, .ref h2, .ref h3, .ref h4, .int 0, .int 0, .int 0, .int (-2)])), (h4, .inl (kJ, 27, .inr (.inl g)))]) (w1 := []) hP hD [] [0, 1] rfl rfl (by decide +kernel) (by decide +kernel) hk1 hFc ht hB
  generalize H1 = H at hP hS ⊢
  replace hP : va_P D cls9 [(h0, .inr (0, [.ref h1, .ref h2, .ref h3, .ref h4, .int 0, .int 0, .int 0, .int (-2)])), (h4, .inl (kJ, 27, .inr (.inl g)))] H := hP
  replace hD : va_D A [(h0, .inr (0, [.ref h1, .ref h2, .ref h3, .ref h4, .int 0, .int 0, .int 0, .int (-2)])), (h4, .inl (kJ, 27, .inr (.inl g)))] := hD
  obtain rfl : r_1 = 138 := hw
  refine lv_icmp_ge (tgt := 60) hx hb d_8_2_10 (by decide +kernel) (fun c_2 => ?_) (fun c_2 => ?_)
  · skip
    obtain rfl : g = wLw := lw_f (fun q => absurd (nI_lt (a := i) (b := 138) q (by decide)) (Int32.not_lt.mpr c_2)) hi0 hg
    have hP9 := hP.sub (ws' := [(h0, .inr (0, [.ref h1, .ref h2, .ref h3, .ref h4, .int 0, .int 0, .int 0, .int (-2)])), (h4, .inl (kJ, 27, .inr (.inl wLw)))]) [0, 1] rfl
    have hD9 := hD.sub (ws' := [(h0, .inr (0, [.ref h1, .ref h2, .ref h3, .ref h4, .int 0, .int 0, .int 0, .int (-2)])), (h4, .inl (kJ, 27, .inr (.inl wLw)))]) [0, 1] (by decide +kernel) rfl
    exact W.vret hx hb hr (fun t ht hW => ⟨⟨(), rfl, trivial, xEnd hK hP9 hD9 ht hW⟩, hS.F ht⟩) hS.2.2 d_8_2_60
  · skip
    have hi : i < 138 := by
      rcases Nat.lt_or_ge i 138 with q | q
      · exact q
      · exact absurd (nI_le (a := 138) (b := i) q (by omega)) c_2
    refine va_ldcS hx hb hown (xE_r0 hE) d_8_2_13 ?_
    refine lv_iload_n hx hb d_8_2_15 rfl (lv_at hl 2 rfl) ?_
    have hPc := hP.sub (ws' := []) [] rfl
    have hDc := hD.sub (ws' := []) [] (by decide +kernel) rfl
    have hFc := va_free (wc := []) hD hS hA [] rfl
    refine va_calli (va_runV (As := [.int (nI i)]) (rest := []) ⟨hx, hb, hml, hown, hts⟩ (c_String_charAt_0 l D kI kJ kB kZ _ (i) sA sV hi) (cwV 1 hts (gT_V m_165 m_166 m_167 m_122 (gT_ws m_168)) rfl rfl rfl (by decide +kernel) ⟨(Nat.le_of_ble_eq_true rfl), (Nat.le_of_ble_eq_true rfl)⟩) ⟨xBlind (xOk_E sA sV), (xE_O hE 0 (by decide) hS), xAt (xOk_E sA sV) hK hPc hDc hS hFc hE⟩ rfl rfl hl.1 rfl (lv_room (Nat.le_of_ble_eq_true rfl)) d_8_2_16 ⟨(Nat.le_of_ble_eq_true rfl), (Nat.le_of_ble_eq_true rfl)⟩) hS (fun q _ h => hFc q h) hFc (fun r_3 u t H1 locs ht hvm hw hB hz1 hk1 hS => ?_)
    obtain ⟨hP, hD⟩ := xJoin (wr := [(h0, .inr (0, [.ref h1, .ref h2, .ref h3, .ref h4, .int 0, .int 0, .int 0, .int (-2)])), (h4, .inl (kJ, 27, .inr (.inl g)))]) (w1 := []) hP hD [] [0, 1] rfl rfl (by decide +kernel) (by decide +kernel) hk1 hFc ht hB
    generalize H1 = H at hP hS ⊢
    replace hP : va_P D cls9 [(h0, .inr (0, [.ref h1, .ref h2, .ref h3, .ref h4, .int 0, .int 0, .int 0, .int (-2)])), (h4, .inl (kJ, 27, .inr (.inl g)))] H := hP
    replace hD : va_D A [(h0, .inr (0, [.ref h1, .ref h2, .ref h3, .ref h4, .int 0, .int 0, .int 0, .int (-2)])), (h4, .inl (kJ, 27, .inr (.inl g)))] := hD
    have hw9 := hw
    have hlc := hw9.2
    refine lv_istore_n (lv' := [(3, .int r_3), (0, .ref h0), (1, .int (nI k)), (2, .int (nI i))]) hx hb d_8_2_19 rfl hl (by decide +kernel) rfl (fun ls hl => ?_)
    refine lv_iload_n hx hb d_8_2_20 rfl (lv_at hl 0 rfl) ?_
    refine lv_bipush (v := 32) hx hb d_8_2_21 (by decide +kernel) ?_
    refine lv_icmp_ne (tgt := 32) hx hb d_8_2_23 (by decide +kernel) (fun c_4 => ?_) (fun c_4 => ?_)
    · skip
      refine lv_iload_n hx hb d_8_2_32 rfl (lv_at hl 2 rfl) ?_
      refine lv_bipush (v := 26) hx hb d_8_2_33 (by decide +kernel) ?_
      refine lv_icmp_gt (tgt := 54) hx hb d_8_2_35 (by decide +kernel) (fun c_5 => ?_) (fun c_5 => ?_)
      · skip
        exact absurd c_5 (Int32.not_lt.mpr (nI_le (a := k) (b := 26) (by have q9 := lw_b i hi; omega) (by decide)))
      · skip
        have hk : k < 27 := by
          rcases Nat.lt_or_ge k 27 with q | q
          · exact q
          · exact absurd (nI_lt (a := 26) (b := k) q (by omega)) c_5
        refine lv_aload_n hx hb d_8_2_38 rfl (lv_at hl 1 rfl) ?_
        refine va_get (D := D) (ci := 0) (v := .ref h4) (C := "AlgolJudge$Tokens") (T := T_Tokens) (N := 8) hx hb hts i_Tokens hown hK hP 0 rfl rfl 3 (by decide +kernel) (hts _ m_213) (fun _ h9 => h9) rfl d_8_2_39 ?_
        refine lv_iload_n hx hb d_8_2_42 rfl (lv_at hl 2 rfl) ?_
        refine lv_aload_n hx hb d_8_2_43 rfl (lv_at hl 1 rfl) ?_
        refine va_get (D := D) (ci := 0) (v := .ref h4) (C := "AlgolJudge$Tokens") (T := T_Tokens) (N := 8) hx hb hts i_Tokens hown hK hP 0 rfl rfl 3 (by decide +kernel) (hts _ m_213) (fun _ h9 => h9) rfl d_8_2_44 ?_
        refine lv_iload_n hx hb d_8_2_47 rfl (lv_at hl 2 rfl) ?_
        refine va_lald hx hb hK hP 1 1 rfl rfl (vp_in_nI hk (by decide)) d_8_2_48 ?_
        refine lv_topl (fun z_6 ez_6 => ?_)
        refine lv_iload_n hx hb d_8_2_49 rfl (lv_at hl 0 rfl) ?_
        have hPc := hP.sub (ws' := []) [] rfl
        have hDc := hD.sub (ws' := []) [] (by decide +kernel) rfl
        have hFc := va_free (wc := []) hD hS hA [] rfl
        refine va_calll (va_runS (As := [.long z_6, .int r_3]) (rest := [.int (nI k), .ref h4]) ⟨hx, hb, hml, hown, hts⟩ (c_Tokens_longer_0 l D kI kJ kB kZ _ (z_6) (r_3) ) (va_cwS 2 hts (gT_S m_203 m_204 m_121 (gT_ws m_205)) rfl rfl rfl (by decide +kernel) ⟨(Nat.le_of_ble_eq_true rfl), (Nat.le_of_ble_eq_true rfl)⟩) ⟨xBlind xOk_N, xAtN hK hPc hDc⟩ rfl rfl hl.1 rfl (lv_room (Nat.le_of_ble_eq_true rfl)) d_8_2_50 ⟨(Nat.le_of_ble_eq_true rfl), (Nat.le_of_ble_eq_true rfl)⟩) hS (fun q _ h => hFc q h) hFc (fun r_7 u t H1 locs ht hvm hw hB hz1 hk1 hS => ?_)
        obtain ⟨hP, hD⟩ := xJoin (wr := [(h0, .inr (0, [.ref h1, .ref h2, .ref h3, .ref h4, .int 0, .int 0, .int 0, .int (-2)])), (h4, .inl (kJ, 27, .inr (.inl g)))]) (w1 := []) hP hD [] [0, 1] rfl rfl (by decide +kernel) (by decide +kernel) hk1 hFc ht hB
        generalize H1 = H at hP hS ⊢
        replace hP : va_P D cls9 [(h0, .inr (0, [.ref h1, .ref h2, .ref h3, .ref h4, .int 0, .int 0, .int 0, .int (-2)])), (h4, .inl (kJ, 27, .inr (.inl g)))] H := hP
        replace hD : va_D A [(h0, .inr (0, [.ref h1, .ref h2, .ref h3, .ref h4, .int 0, .int 0, .int 0, .int (-2)])), (h4, .inl (kJ, 27, .inr (.inl g)))] := hD
        have hw9 := hw
        refine va_last hx hb hK hP hD hS 1 1 rfl rfl (vp_in_nI hk (by decide)) d_8_2_53 (fun H locs hP1 hD1 hS1 => ?_)
        replace hP : va_P D cls9 [(h0, .inr (0, [.ref h1, .ref h2, .ref h3, .ref h4, .int 0, .int 0, .int 0, .int (-2)])), (h4, .inl (kJ, 27, .inr (.inl (vp_updL g (Int32.toNatClampNeg (nI k)) r_7))))] H := hP1
        replace hD : va_D A [(h0, .inr (0, [.ref h1, .ref h2, .ref h3, .ref h4, .int 0, .int 0, .int 0, .int (-2)])), (h4, .inl (kJ, 27, .inr (.inl (vp_updL g (Int32.toNatClampNeg (nI k)) r_7))))] := hD1
        replace hS := hS1
        clear hP1 hD1 hS1
        refine lv_iinc (v := ((nI i) + 1)) (lv' := [(2, .int ((nI i) + 1)), (3, .int r_3), (0, .ref h0), (1, .int (nI k))]) hx hb d_8_2_54 hl (k := 3) rfl rfl (by decide +kernel) rfl (fun ls hl => ?_)
        refine lv_goto (tgt := 4) hx hb d_8_2_57 (by decide +kernel) ?_
        rw [nI_1 i] at hl
        exact ih _ _ _ _ (by omega) ⟨(i + 1), k, (vp_updL g (Int32.toNatClampNeg (nI k)) r_7), (by omega), (by omega), (lw_x hi hg hk9 ez_6 hlc c_4 hw9), (lw_y hi hk9 hlc c_4), rfl, hP.sub (ws' := [(h0, .inr (0, [.ref h1, .ref h2, .ref h3, .ref h4, .int 0, .int 0, .int 0, .int (-2)])), (h4, .inl (kJ, 27, .inr (.inl (vp_updL g (Int32.toNatClampNeg (nI k)) r_7))))]) [0, 1] rfl, hD.sub (ws' := [(h0, .inr (0, [.ref h1, .ref h2, .ref h3, .ref h4, .int 0, .int 0, .int 0, .int (-2)])), (h4, .inl (kJ, 27, .inr (.inl (vp_updL g (Int32.toNatClampNeg (nI k)) r_7))))]) [0, 1] (by decide) rfl, hS, lv_sub hl [2, 3, 0] rfl⟩
    · skip
      refine lv_iinc (v := ((nI k) + 1)) (lv' := [(1, .int ((nI k) + 1)), (3, .int r_3), (0, .ref h0), (2, .int (nI i))]) hx hb d_8_2_26 hl (k := 2) rfl rfl (by decide +kernel) rfl (fun ls hl => ?_)
      refine lv_goto (tgt := 54) hx hb d_8_2_29 (by decide +kernel) ?_
      refine lv_iinc (v := ((nI i) + 1)) (lv' := [(2, .int ((nI i) + 1)), (1, .int ((nI k) + 1)), (3, .int r_3), (0, .ref h0)]) hx hb d_8_2_54 hl (k := 3) rfl rfl (by decide +kernel) rfl (fun ls hl => ?_)
      refine lv_goto (tgt := 4) hx hb d_8_2_57 (by decide +kernel) ?_
      rw [nI_1 k] at hl
      rw [nI_1 i] at hl
      exact ih _ _ _ _ (by omega) ⟨(i + 1), (k + 1), g, (by omega), (by omega), (lw_z hi hk9 hg hlc c_4).2, (lw_z hi hk9 hg hlc c_4).1, rfl, hP.sub (ws' := [(h0, .inr (0, [.ref h1, .ref h2, .ref h3, .ref h4, .int 0, .int 0, .int 0, .int (-2)])), (h4, .inl (kJ, 27, .inr (.inl g)))]) [0, 1] rfl, hD.sub (ws' := [(h0, .inr (0, [.ref h1, .ref h2, .ref h3, .ref h4, .int 0, .int 0, .int 0, .int (-2)])), (h4, .inl (kJ, 27, .inr (.inl g)))]) [0, 1] (by decide) rfl, hS, lv_sub hl [3, 1, 0] rfl⟩
set_option maxHeartbeats 4000000 in
set_option maxRecDepth 100000 in
theorem c_Tokens_init_0 (l : Launch) (D : va_G) (kI kJ kB kZ : ClassId) (sz : Nat) (h0 : Nat) (sA sV : Nat → Nat) : Met l (⟨"AlgolJudge$Tokens", "<init>", "()V"⟩ : MethodName) (Cond.code (⟨"AlgolJudge$Tokens", "<init>", "()V"⟩ : MethodName) prog_8_method_1_code 1 (none) :: gT) ({ frames := 5, cells := 4, slots := 9030, locals := 108 }) (va_Pc [.ref h0] (xP D (xT kI kJ kB kZ) (xE sA sV) [(h0, .inr (0, [.null, .null, .null, .null, .int 0, .int 0, .int 0, .int 0]))] sz)) (va_Qv (fun _ : Unit => True) (fun _ t => ∃ a0 : Nat, ∃ a1 : Nat, ∃ a2 : Nat, ∃ a3 : Nat, xQ D (xT kI kJ kB kZ) (va_A [(h0, .inr (0, [.null, .null, .null, .null, .int 0, .int 0, .int 0, .int 0]))] sz) [(a0, .inl (kI, 3001, .inl (fun _ => 0))), (a1, .inl (kI, 3001, .inl (fun _ => 0))), (a2, .inl (kJ, 3001, .inr (.inl (fun _ => 0)))), (h0, .inr (0, [.ref a0, .ref a1, .ref a2, .ref a3, .int 0, .int 0, .int 0, .int (-2)])), (a3, .inl (kJ, 27, .inr (.inl wLw)))] t) (va_A [(h0, .inr (0, [.null, .null, .null, .null, .int 0, .int 0, .int 0, .int 0]))] sz)) 4 9030 (va_A [(h0, .inr (0, [.null, .null, .null, .null, .int 0, .int 0, .int 0, .int 0]))] sz) := by
  refine Met.ofW (cc := prog_8_method_1_code) (maxL := 1) (ret := none) (by decide +kernel) rfl ?_
  intro p e s m args below meth c s₁ B hml hv
  obtain ⟨rfl, hsz, hP, hK, hD0, hE⟩ := hv
  have hx := B.exec
  have hb := B.bytes
  have hr := B.returns
  have hts : ∀ w ∈ gT, w.before _ s = true := fun w h => atoms_spec (ws := Cond.code (⟨"AlgolJudge$Tokens", "<init>", "()V"⟩ : MethodName) prog_8_method_1_code 1 (none) :: gT) B.pre w (List.mem_cons_of_mem _ h)
  have hown : s.vm.findClass "AlgolJudge$Tokens" = some m.cls := findClass_of_methodNamed B.named
  have hlocks := B.notSynchronized
  have hin : meth.name = "<init>" := (name_of_methodNamed B.named B.method).1
  subst hsz
  have hD := hD0.self (sz := s.heap.size)
  generalize hAe : va_A [(h0, .inr (0, [.null, .null, .null, .null, .int 0, .int 0, .int 0, .int 0]))] s.heap.size = A at hD hE ⊢
  have hA : ∀ q : Nat, s.heap.size ≤ q → A q := fun q h => by rw [← hAe]; exact Or.inr h
  have hS : va_S A s.heap s.heap [] := va_S.rf
  have hP : va_P D cls9 [(h0, .inr (0, [.null, .null, .null, .null, .int 0, .int 0, .int 0, .int 0]))] s.heap := hP
  have hl := lv_entry ([.ref h0]) (n := 1) (Nat.le_of_ble_eq_true rfl)
  rw [lg_entry_eq]
  generalize (lg_sl ([.ref h0]) ++ List.replicate (1 - (lg_sl ([.ref h0])).length) Slot.unset).toArray = ls at hl ⊢
  have hl : lv_has ls 1 [(0, .ref h0)] := hl
  refine lv_aload_n hx hb d_8_1_0 rfl (lv_at hl 0 rfl) ?_
  refine W.objInit hx hb hown (hts _ m_149) (hts _ m_142) (hts _ m_obj) rfl (by rw [hml]; exact hl.1) rfl d_8_1_1 (Nat.le_of_ble_eq_true rfl) (Nat.le_of_ble_eq_true rfl) ?_
  refine W.eq (g2 := F0 m 4 ls []) rfl ?_
  refine lv_aload_n hx hb d_8_1_4 rfl (lv_at hl 0 rfl) ?_
  refine lv_sipush (v := 3001) hx hb d_8_1_5 (by decide +kernel) ?_
  refine xa_newa (atype := .int) (a0 := (3001, .inl (fun _ => 0))) (N' := 3001) hx hb (hts _ m_235) rfl (fun _ h9 => h9) hK 0 rfl hP hD hS hA (fun _ => rfl) (by decide +kernel) (by decide +kernel) (by decide +kernel) (Nat.le_of_ble_eq_true rfl) (Nat.le_of_ble_eq_true rfl) d_8_1_8 (fun q_1 H hP1 hD1 hS1 => ?_)
  replace hP : va_P D cls9 [(h0, .inr (0, [.null, .null, .null, .null, .int 0, .int 0, .int 0, .int 0])), (q_1, .inl (kI, 3001, .inl (fun _ => 0)))] H := hP1
  replace hD : va_D A [(h0, .inr (0, [.null, .null, .null, .null, .int 0, .int 0, .int 0, .int 0])), (q_1, .inl (kI, 3001, .inl (fun _ => 0)))] := hD1
  replace hS := hS1
  clear hP1 hD1 hS1
  refine W.widen (k := 1) (n := 3001) (Nat.le_of_ble_eq_true rfl) (Nat.le_of_ble_eq_true rfl) ?_
  refine va_putF (D := D) (ci := 0) (v := .ref q_1) (ty := .array .int) (C := "AlgolJudge$Tokens") (T := T_Tokens) (N := 8) hx hb hts i_Tokens t_Tokens t_Tokens_ok n_Tokens hown hK hP hD hS 0 rfl rfl 0 (by decide +kernel) (hts _ m_210) (fun _ h9 => h9) rfl hin rfl (by decide +kernel) rfl rfl (Nat.le_of_ble_eq_true rfl) d_8_1_10 (fun H locs hP1 hD1 hS1 => ?_)
  replace hP : va_P D cls9 [(h0, .inr (0, [.ref q_1, .null, .null, .null, .int 0, .int 0, .int 0, .int 0])), (q_1, .inl (kI, 3001, .inl (fun _ => 0)))] H := hP1
  replace hD : va_D A [(h0, .inr (0, [.ref q_1, .null, .null, .null, .int 0, .int 0, .int 0, .int 0])), (q_1, .inl (kI, 3001, .inl (fun _ => 0)))] := hD1
  replace hS := hS1
  clear hP1 hD1 hS1
  refine lv_aload_n hx hb d_8_1_13 rfl (lv_at hl 0 rfl) ?_
  refine lv_sipush (v := 3001) hx hb d_8_1_14 (by decide +kernel) ?_
  refine xa_newa (atype := .int) (a0 := (3001, .inl (fun _ => 0))) (N' := 3001) hx hb (hts _ m_235) rfl (fun _ h9 => h9) hK 0 rfl hP hD hS hA (fun _ => rfl) (by decide +kernel) (by decide +kernel) (by decide +kernel) (Nat.le_of_ble_eq_true rfl) (Nat.le_of_ble_eq_true rfl) d_8_1_17 (fun q_2 H hP1 hD1 hS1 => ?_)
  replace hP : va_P D cls9 [(h0, .inr (0, [.ref q_1, .null, .null, .null, .int 0, .int 0, .int 0, .int 0])), (q_1, .inl (kI, 3001, .inl (fun _ => 0))), (q_2, .inl (kI, 3001, .inl (fun _ => 0)))] H := hP1
  replace hD : va_D A [(h0, .inr (0, [.ref q_1, .null, .null, .null, .int 0, .int 0, .int 0, .int 0])), (q_1, .inl (kI, 3001, .inl (fun _ => 0))), (q_2, .inl (kI, 3001, .inl (fun _ => 0)))] := hD1
  replace hS := hS1
  clear hP1 hD1 hS1
  refine W.widen (k := 2) (n := 6002) (Nat.le_of_ble_eq_true rfl) (Nat.le_of_ble_eq_true rfl) ?_
  refine va_putF (D := D) (ci := 0) (v := .ref q_2) (ty := .array .int) (C := "AlgolJudge$Tokens") (T := T_Tokens) (N := 8) hx hb hts i_Tokens t_Tokens t_Tokens_ok n_Tokens hown hK hP hD hS 0 rfl rfl 1 (by decide +kernel) (hts _ m_211) (fun _ h9 => h9) rfl hin rfl (by decide +kernel) rfl rfl (Nat.le_of_ble_eq_true rfl) d_8_1_19 (fun H locs hP1 hD1 hS1 => ?_)
  replace hP : va_P D cls9 [(h0, .inr (0, [.ref q_1, .ref q_2, .null, .null, .int 0, .int 0, .int 0, .int 0])), (q_1, .inl (kI, 3001, .inl (fun _ => 0))), (q_2, .inl (kI, 3001, .inl (fun _ => 0)))] H := hP1
  replace hD : va_D A [(h0, .inr (0, [.ref q_1, .ref q_2, .null, .null, .int 0, .int 0, .int 0, .int 0])), (q_1, .inl (kI, 3001, .inl (fun _ => 0))), (q_2, .inl (kI, 3001, .inl (fun _ => 0)))] := hD1
  replace hS := hS1
  clear hP1 hD1 hS1
  refine lv_aload_n hx hb d_8_1_22 rfl (lv_at hl 0 rfl) ?_
  refine lv_sipush (v := 3001) hx hb d_8_1_23 (by decide +kernel) ?_
  refine xa_newa (atype := .long) (a0 := (3001, .inr (.inl (fun _ => 0)))) (N' := 3001) hx hb (hts _ m_236) rfl (fun _ h9 => h9) hK 1 rfl hP hD hS hA (fun _ => rfl) (by decide +kernel) (by decide +kernel) (by decide +kernel) (Nat.le_of_ble_eq_true rfl) (Nat.le_of_ble_eq_true rfl) d_8_1_26 (fun q_3 H hP1 hD1 hS1 => ?_)
  replace hP : va_P D cls9 [(h0, .inr (0, [.ref q_1, .ref q_2, .null, .null, .int 0, .int 0, .int 0, .int 0])), (q_1, .inl (kI, 3001, .inl (fun _ => 0))), (q_2, .inl (kI, 3001, .inl (fun _ => 0))), (q_3, .inl (kJ, 3001, .inr (.inl (fun _ => 0))))] H := hP1
  replace hD : va_D A [(h0, .inr (0, [.ref q_1, .ref q_2, .null, .null, .int 0, .int 0, .int 0, .int 0])), (q_1, .inl (kI, 3001, .inl (fun _ => 0))), (q_2, .inl (kI, 3001, .inl (fun _ => 0))), (q_3, .inl (kJ, 3001, .inr (.inl (fun _ => 0))))] := hD1
  replace hS := hS1
  clear hP1 hD1 hS1
  refine W.widen (k := 3) (n := 9003) (Nat.le_of_ble_eq_true rfl) (Nat.le_of_ble_eq_true rfl) ?_
  refine va_putF (D := D) (ci := 0) (v := .ref q_3) (ty := .array .long) (C := "AlgolJudge$Tokens") (T := T_Tokens) (N := 8) hx hb hts i_Tokens t_Tokens t_Tokens_ok n_Tokens hown hK hP hD hS 0 rfl rfl 2 (by decide +kernel) (hts _ m_212) (fun _ h9 => h9) rfl hin rfl (by decide +kernel) rfl rfl (Nat.le_of_ble_eq_true rfl) d_8_1_28 (fun H locs hP1 hD1 hS1 => ?_)
  replace hP : va_P D cls9 [(h0, .inr (0, [.ref q_1, .ref q_2, .ref q_3, .null, .int 0, .int 0, .int 0, .int 0])), (q_1, .inl (kI, 3001, .inl (fun _ => 0))), (q_2, .inl (kI, 3001, .inl (fun _ => 0))), (q_3, .inl (kJ, 3001, .inr (.inl (fun _ => 0))))] H := hP1
  replace hD : va_D A [(h0, .inr (0, [.ref q_1, .ref q_2, .ref q_3, .null, .int 0, .int 0, .int 0, .int 0])), (q_1, .inl (kI, 3001, .inl (fun _ => 0))), (q_2, .inl (kI, 3001, .inl (fun _ => 0))), (q_3, .inl (kJ, 3001, .inr (.inl (fun _ => 0))))] := hD1
  replace hS := hS1
  clear hP1 hD1 hS1
  refine lv_aload_n hx hb d_8_1_31 rfl (lv_at hl 0 rfl) ?_
  refine lv_bipush (v := 27) hx hb d_8_1_32 (by decide +kernel) ?_
  refine xa_newa (atype := .long) (a0 := (27, .inr (.inl (fun _ => 0)))) (N' := 27) hx hb (hts _ m_236) rfl (fun _ h9 => h9) hK 1 rfl hP hD hS hA (fun _ => rfl) (by decide +kernel) (by decide +kernel) (by decide +kernel) (Nat.le_of_ble_eq_true rfl) (Nat.le_of_ble_eq_true rfl) d_8_1_34 (fun q_4 H hP1 hD1 hS1 => ?_)
  replace hP : va_P D cls9 [(h0, .inr (0, [.ref q_1, .ref q_2, .ref q_3, .null, .int 0, .int 0, .int 0, .int 0])), (q_1, .inl (kI, 3001, .inl (fun _ => 0))), (q_2, .inl (kI, 3001, .inl (fun _ => 0))), (q_3, .inl (kJ, 3001, .inr (.inl (fun _ => 0)))), (q_4, .inl (kJ, 27, .inr (.inl (fun _ => 0))))] H := hP1
  replace hD : va_D A [(h0, .inr (0, [.ref q_1, .ref q_2, .ref q_3, .null, .int 0, .int 0, .int 0, .int 0])), (q_1, .inl (kI, 3001, .inl (fun _ => 0))), (q_2, .inl (kI, 3001, .inl (fun _ => 0))), (q_3, .inl (kJ, 3001, .inr (.inl (fun _ => 0)))), (q_4, .inl (kJ, 27, .inr (.inl (fun _ => 0))))] := hD1
  replace hS := hS1
  clear hP1 hD1 hS1
  refine W.widen (k := 4) (n := 9030) (Nat.le_of_ble_eq_true rfl) (Nat.le_of_ble_eq_true rfl) ?_
  refine va_putF (D := D) (ci := 0) (v := .ref q_4) (ty := .array .long) (C := "AlgolJudge$Tokens") (T := T_Tokens) (N := 8) hx hb hts i_Tokens t_Tokens t_Tokens_ok n_Tokens hown hK hP hD hS 0 rfl rfl 3 (by decide +kernel) (hts _ m_213) (fun _ h9 => h9) rfl hin rfl (by decide +kernel) rfl rfl (Nat.le_of_ble_eq_true rfl) d_8_1_36 (fun H locs hP1 hD1 hS1 => ?_)
  replace hP : va_P D cls9 [(h0, .inr (0, [.ref q_1, .ref q_2, .ref q_3, .ref q_4, .int 0, .int 0, .int 0, .int 0])), (q_1, .inl (kI, 3001, .inl (fun _ => 0))), (q_2, .inl (kI, 3001, .inl (fun _ => 0))), (q_3, .inl (kJ, 3001, .inr (.inl (fun _ => 0)))), (q_4, .inl (kJ, 27, .inr (.inl (fun _ => 0))))] H := hP1
  replace hD : va_D A [(h0, .inr (0, [.ref q_1, .ref q_2, .ref q_3, .ref q_4, .int 0, .int 0, .int 0, .int 0])), (q_1, .inl (kI, 3001, .inl (fun _ => 0))), (q_2, .inl (kI, 3001, .inl (fun _ => 0))), (q_3, .inl (kJ, 3001, .inr (.inl (fun _ => 0)))), (q_4, .inl (kJ, 27, .inr (.inl (fun _ => 0))))] := hD1
  replace hS := hS1
  clear hP1 hD1 hS1
  refine lv_aload_n hx hb d_8_1_39 rfl (lv_at hl 0 rfl) ?_
  refine lv_iconst (v := 0) hx hb d_8_1_40 (by decide +kernel) ?_
  refine va_put (D := D) (ci := 0) (v := .int 0) (ty := .int) (C := "AlgolJudge$Tokens") (T := T_Tokens) (N := 8) hx hb hts i_Tokens t_Tokens t_Tokens_ok n_Tokens hown hK hP hD hS 0 rfl rfl 4 (by decide +kernel) (hts _ m_214) (fun _ h9 => h9) rfl (by decide +kernel) rfl rfl (Nat.le_of_ble_eq_true rfl) d_8_1_41 (fun H locs hP1 hD1 hS1 => ?_)
  replace hP : va_P D cls9 [(h0, .inr (0, [.ref q_1, .ref q_2, .ref q_3, .ref q_4, .int 0, .int 0, .int 0, .int 0])), (q_1, .inl (kI, 3001, .inl (fun _ => 0))), (q_2, .inl (kI, 3001, .inl (fun _ => 0))), (q_3, .inl (kJ, 3001, .inr (.inl (fun _ => 0)))), (q_4, .inl (kJ, 27, .inr (.inl (fun _ => 0))))] H := hP1
  replace hD : va_D A [(h0, .inr (0, [.ref q_1, .ref q_2, .ref q_3, .ref q_4, .int 0, .int 0, .int 0, .int 0])), (q_1, .inl (kI, 3001, .inl (fun _ => 0))), (q_2, .inl (kI, 3001, .inl (fun _ => 0))), (q_3, .inl (kJ, 3001, .inr (.inl (fun _ => 0)))), (q_4, .inl (kJ, 27, .inr (.inl (fun _ => 0))))] := hD1
  replace hS := hS1
  clear hP1 hD1 hS1
  refine lv_aload_n hx hb d_8_1_44 rfl (lv_at hl 0 rfl) ?_
  refine lv_iconst (v := 0) hx hb d_8_1_45 (by decide +kernel) ?_
  refine va_put (D := D) (ci := 0) (v := .int 0) (ty := .int) (C := "AlgolJudge$Tokens") (T := T_Tokens) (N := 8) hx hb hts i_Tokens t_Tokens t_Tokens_ok n_Tokens hown hK hP hD hS 0 rfl rfl 5 (by decide +kernel) (hts _ m_215) (fun _ h9 => h9) rfl (by decide +kernel) rfl rfl (Nat.le_of_ble_eq_true rfl) d_8_1_46 (fun H locs hP1 hD1 hS1 => ?_)
  replace hP : va_P D cls9 [(h0, .inr (0, [.ref q_1, .ref q_2, .ref q_3, .ref q_4, .int 0, .int 0, .int 0, .int 0])), (q_1, .inl (kI, 3001, .inl (fun _ => 0))), (q_2, .inl (kI, 3001, .inl (fun _ => 0))), (q_3, .inl (kJ, 3001, .inr (.inl (fun _ => 0)))), (q_4, .inl (kJ, 27, .inr (.inl (fun _ => 0))))] H := hP1
  replace hD : va_D A [(h0, .inr (0, [.ref q_1, .ref q_2, .ref q_3, .ref q_4, .int 0, .int 0, .int 0, .int 0])), (q_1, .inl (kI, 3001, .inl (fun _ => 0))), (q_2, .inl (kI, 3001, .inl (fun _ => 0))), (q_3, .inl (kJ, 3001, .inr (.inl (fun _ => 0)))), (q_4, .inl (kJ, 27, .inr (.inl (fun _ => 0))))] := hD1
  replace hS := hS1
  clear hP1 hD1 hS1
  refine lv_aload_n hx hb d_8_1_49 rfl (lv_at hl 0 rfl) ?_
  refine lv_iconst (v := 0) hx hb d_8_1_50 (by decide +kernel) ?_
  refine va_put (D := D) (ci := 0) (v := .int 0) (ty := .int) (C := "AlgolJudge$Tokens") (T := T_Tokens) (N := 8) hx hb hts i_Tokens t_Tokens t_Tokens_ok n_Tokens hown hK hP hD hS 0 rfl rfl 6 (by decide +kernel) (hts _ m_216) (fun _ h9 => h9) rfl (by decide +kernel) rfl rfl (Nat.le_of_ble_eq_true rfl) d_8_1_51 (fun H locs hP1 hD1 hS1 => ?_)
  replace hP : va_P D cls9 [(h0, .inr (0, [.ref q_1, .ref q_2, .ref q_3, .ref q_4, .int 0, .int 0, .int 0, .int 0])), (q_1, .inl (kI, 3001, .inl (fun _ => 0))), (q_2, .inl (kI, 3001, .inl (fun _ => 0))), (q_3, .inl (kJ, 3001, .inr (.inl (fun _ => 0)))), (q_4, .inl (kJ, 27, .inr (.inl (fun _ => 0))))] H := hP1
  replace hD : va_D A [(h0, .inr (0, [.ref q_1, .ref q_2, .ref q_3, .ref q_4, .int 0, .int 0, .int 0, .int 0])), (q_1, .inl (kI, 3001, .inl (fun _ => 0))), (q_2, .inl (kI, 3001, .inl (fun _ => 0))), (q_3, .inl (kJ, 3001, .inr (.inl (fun _ => 0)))), (q_4, .inl (kJ, 27, .inr (.inl (fun _ => 0))))] := hD1
  replace hS := hS1
  clear hP1 hD1 hS1
  refine lv_aload_n hx hb d_8_1_54 rfl (lv_at hl 0 rfl) ?_
  refine lv_bipush (v := (-2)) hx hb d_8_1_55 (by decide +kernel) ?_
  refine va_put (D := D) (ci := 0) (v := .int (-2)) (ty := .int) (C := "AlgolJudge$Tokens") (T := T_Tokens) (N := 8) hx hb hts i_Tokens t_Tokens t_Tokens_ok n_Tokens hown hK hP hD hS 0 rfl rfl 7 (by decide +kernel) (hts _ m_217) (fun _ h9 => h9) rfl (by decide +kernel) rfl rfl (Nat.le_of_ble_eq_true rfl) d_8_1_57 (fun H locs hP1 hD1 hS1 => ?_)
  replace hP : va_P D cls9 [(h0, .inr (0, [.ref q_1, .ref q_2, .ref q_3, .ref q_4, .int 0, .int 0, .int 0, .int (-2)])), (q_1, .inl (kI, 3001, .inl (fun _ => 0))), (q_2, .inl (kI, 3001, .inl (fun _ => 0))), (q_3, .inl (kJ, 3001, .inr (.inl (fun _ => 0)))), (q_4, .inl (kJ, 27, .inr (.inl (fun _ => 0))))] H := hP1
  replace hD : va_D A [(h0, .inr (0, [.ref q_1, .ref q_2, .ref q_3, .ref q_4, .int 0, .int 0, .int 0, .int (-2)])), (q_1, .inl (kI, 3001, .inl (fun _ => 0))), (q_2, .inl (kI, 3001, .inl (fun _ => 0))), (q_3, .inl (kJ, 3001, .inr (.inl (fun _ => 0)))), (q_4, .inl (kJ, 27, .inr (.inl (fun _ => 0))))] := hD1
  replace hS := hS1
  clear hP1 hD1 hS1
  refine lv_aload_n hx hb d_8_1_60 rfl (lv_at hl 0 rfl) ?_
  have hPc := hP.sub (ws' := [(h0, .inr (0, [.ref q_1, .ref q_2, .ref q_3, .ref q_4, .int 0, .int 0, .int 0, .int (-2)])), (q_4, .inl (kJ, 27, .inr (.inl (fun _ => 0))))]) [0, 4] rfl
  have hDc := hD.sub (ws' := [(h0, .inr (0, [.ref q_1, .ref q_2, .ref q_3, .ref q_4, .int 0, .int 0, .int 0, .int (-2)])), (q_4, .inl (kJ, 27, .inr (.inl (fun _ => 0))))]) [0, 4] (by decide +kernel) rfl
  have hFc := va_free (wc := [(h0, .inr (0, [.ref q_1, .ref q_2, .ref q_3, .ref q_4, .int 0, .int 0, .int 0, .int (-2)])), (q_4, .inl (kJ, 27, .inr (.inl (fun _ => 0))))]) hD hS hA [0, 4] rfl
  refine va_callv (va_runV (As := []) (rest := []) ⟨hx, hb, hml, hown, hts⟩ (c_Tokens_listWords_0 l D kI kJ kB kZ _ (h0) (q_1) (q_2) (q_3) (q_4) sA sV ) (cwV 0 hts (gT_V m_150 m_152 m_0 m_121 (gT_ws m_153)) rfl rfl rfl (by decide +kernel) ⟨(Nat.le_of_ble_eq_true rfl), (Nat.le_of_ble_eq_true rfl)⟩) ⟨xBlind (xOk_E sA sV), va_recv hK hP (ci := 0) (q0 := 0) rfl rfl, xAt (xOk_E sA sV) hK hPc hDc hS hFc hE⟩ rfl rfl hl.1 rfl (lv_room (Nat.le_of_ble_eq_true rfl)) d_8_1_61 ⟨(Nat.le_of_ble_eq_true rfl), (Nat.le_of_ble_eq_true rfl)⟩) hS (fun q _ h => hFc q h) hFc (fun u t H1 locs ht hvm hw hB hz1 hk1 hS => ?_)
  obtain ⟨hP, hD⟩ := xJoin (wr := [(q_1, .inl (kI, 3001, .inl (fun _ => 0))), (q_2, .inl (kI, 3001, .inl (fun _ => 0))), (q_3, .inl (kJ, 3001, .inr (.inl (fun _ => 0))))]) (w1 := [(h0, .inr (0, [.ref q_1, .ref q_2, .ref q_3, .ref q_4, .int 0, .int 0, .int 0, .int (-2)])), (q_4, .inl (kJ, 27, .inr (.inl wLw)))]) hP hD [0, 4] [1, 2, 3] rfl rfl (by decide +kernel) (by decide +kernel) hk1 hFc ht hB
  generalize H1 = H at hP hS ⊢
  replace hP : va_P D cls9 [(q_1, .inl (kI, 3001, .inl (fun _ => 0))), (q_2, .inl (kI, 3001, .inl (fun _ => 0))), (q_3, .inl (kJ, 3001, .inr (.inl (fun _ => 0)))), (h0, .inr (0, [.ref q_1, .ref q_2, .ref q_3, .ref q_4, .int 0, .int 0, .int 0, .int (-2)])), (q_4, .inl (kJ, 27, .inr (.inl wLw)))] H := hP
  replace hD : va_D A [(q_1, .inl (kI, 3001, .inl (fun _ => 0))), (q_2, .inl (kI, 3001, .inl (fun _ => 0))), (q_3, .inl (kJ, 3001, .inr (.inl (fun _ => 0)))), (h0, .inr (0, [.ref q_1, .ref q_2, .ref q_3, .ref q_4, .int 0, .int 0, .int 0, .int (-2)])), (q_4, .inl (kJ, 27, .inr (.inl wLw)))] := hD
  have hP9 := hP.sub (ws' := [(q_1, .inl (kI, 3001, .inl (fun _ => 0))), (q_2, .inl (kI, 3001, .inl (fun _ => 0))), (q_3, .inl (kJ, 3001, .inr (.inl (fun _ => 0)))), (h0, .inr (0, [.ref q_1, .ref q_2, .ref q_3, .ref q_4, .int 0, .int 0, .int 0, .int (-2)])), (q_4, .inl (kJ, 27, .inr (.inl wLw)))]) [0, 1, 2, 3, 4] rfl
  have hD9 := hD.sub (ws' := [(q_1, .inl (kI, 3001, .inl (fun _ => 0))), (q_2, .inl (kI, 3001, .inl (fun _ => 0))), (q_3, .inl (kJ, 3001, .inr (.inl (fun _ => 0)))), (h0, .inr (0, [.ref q_1, .ref q_2, .ref q_3, .ref q_4, .int 0, .int 0, .int 0, .int (-2)])), (q_4, .inl (kJ, 27, .inr (.inl wLw)))]) [0, 1, 2, 3, 4] (by decide +kernel) rfl
  exact W.vret hx hb hr (fun t ht hW => ⟨⟨(), rfl, trivial, q_1, q_2, q_3, q_4, xEnd hK hP9 hD9 ht hW⟩, hS.F ht⟩) hS.2.2 d_8_1_64
set_option maxHeartbeats 4000000 in
set_option maxRecDepth 100000 in
theorem c_Table_init_0 (l : Launch) (D : va_G) (kI kJ kB kZ : ClassId) (sz : Nat) (h0 : Nat) : Met l (⟨"AlgolJudge$Table", "<init>", "()V"⟩ : MethodName) (Cond.code (⟨"AlgolJudge$Table", "<init>", "()V"⟩ : MethodName) prog_7_method_1_code 1 (none) :: gT) ({ frames := 1, cells := 10, slots := 15010, locals := 12 }) (va_Pc [.ref h0] (xP D (xT kI kJ kB kZ) xN [(h0, .inr (1, [.null, .null, .null, .null, .null, .null, .null, .null, .null, .null, .int 0]))] sz)) (va_Qv (fun _ : Unit => True) (fun _ t => ∃ a0 : Nat, ∃ a1 : Nat, ∃ a2 : Nat, ∃ a3 : Nat, ∃ a4 : Nat, ∃ a5 : Nat, ∃ a6 : Nat, ∃ a7 : Nat, ∃ a8 : Nat, ∃ a9 : Nat, xQ D (xT kI kJ kB kZ) (va_A [(h0, .inr (1, [.null, .null, .null, .null, .null, .null, .null, .null, .null, .null, .int 0]))] sz) [(h0, .inr (1, [.ref a0, .ref a1, .ref a2, .ref a3, .ref a4, .ref a5, .ref a6, .ref a7, .ref a8, .ref a9, .int 0])), (a0, .inl (kJ, 1501, .inr (.inl (fun _ => 0)))), (a1, .inl (kI, 1501, .inl (fun _ => 0))), (a2, .inl (kI, 1501, .inl (fun _ => 0))), (a3, .inl (kI, 1501, .inl (fun _ => 0))), (a4, .inl (kI, 1501, .inl (fun _ => 0))), (a5, .inl (kI, 1501, .inl (fun _ => 0))), (a6, .inl (kI, 1501, .inl (fun _ => 0))), (a7, .inl (kI, 1501, .inl (fun _ => 0))), (a8, .inl (kI, 1501, .inl (fun _ => 0))), (a9, .inl (kZ, 1501, .inl (fun _ => 0)))] t) (va_A [(h0, .inr (1, [.null, .null, .null, .null, .null, .null, .null, .null, .null, .null, .int 0]))] sz)) 10 15010 (va_A [(h0, .inr (1, [.null, .null, .null, .null, .null, .null, .null, .null, .null, .null, .int 0]))] sz) := by
  refine Met.ofW (cc := prog_7_method_1_code) (maxL := 1) (ret := none) (by decide +kernel) rfl ?_
  intro p e s m args below meth c s₁ B hml hv
  obtain ⟨rfl, hsz, hP, hK, hD0, hE⟩ := hv
  have hx := B.exec
  have hb := B.bytes
  have hr := B.returns
  have hts : ∀ w ∈ gT, w.before _ s = true := fun w h => atoms_spec (ws := Cond.code (⟨"AlgolJudge$Table", "<init>", "()V"⟩ : MethodName) prog_7_method_1_code 1 (none) :: gT) B.pre w (List.mem_cons_of_mem _ h)
  have hown : s.vm.findClass "AlgolJudge$Table" = some m.cls := findClass_of_methodNamed B.named
  have hlocks := B.notSynchronized
  have hin : meth.name = "<init>" := (name_of_methodNamed B.named B.method).1
  subst hsz
  have hD := hD0.self (sz := s.heap.size)
  generalize hAe : va_A [(h0, .inr (1, [.null, .null, .null, .null, .null, .null, .null, .null, .null, .null, .int 0]))] s.heap.size = A at hD hE ⊢
  have hA : ∀ q : Nat, s.heap.size ≤ q → A q := fun q h => by rw [← hAe]; exact Or.inr h
  have hS : va_S A s.heap s.heap [] := va_S.rf
  have hP : va_P D cls9 [(h0, .inr (1, [.null, .null, .null, .null, .null, .null, .null, .null, .null, .null, .int 0]))] s.heap := hP
  have hl := lv_entry ([.ref h0]) (n := 1) (Nat.le_of_ble_eq_true rfl)
  rw [lg_entry_eq]
  generalize (lg_sl ([.ref h0]) ++ List.replicate (1 - (lg_sl ([.ref h0])).length) Slot.unset).toArray = ls at hl ⊢
  have hl : lv_has ls 1 [(0, .ref h0)] := hl
  refine lv_aload_n hx hb d_7_1_0 rfl (lv_at hl 0 rfl) ?_
  refine W.objInit hx hb hown (hts _ m_243) (hts _ m_142) (hts _ m_obj) rfl (by rw [hml]; exact hl.1) rfl d_7_1_1 (Nat.le_of_ble_eq_true rfl) (Nat.le_of_ble_eq_true rfl) ?_
  refine W.eq (g2 := F0 m 4 ls []) rfl ?_
  refine lv_aload_n hx hb d_7_1_4 rfl (lv_at hl 0 rfl) ?_
  refine lv_sipush (v := 1501) hx hb d_7_1_5 (by decide +kernel) ?_
  refine xa_newa (atype := .long) (a0 := (1501, .inr (.inl (fun _ => 0)))) (N' := 1501) hx hb (hts _ m_236) rfl (fun _ h9 => h9) hK 1 rfl hP hD hS hA (fun _ => rfl) (by decide +kernel) (by decide +kernel) (by decide +kernel) (Nat.le_of_ble_eq_true rfl) (Nat.le_of_ble_eq_true rfl) d_7_1_8 (fun q_1 H hP1 hD1 hS1 => ?_)
  replace hP : va_P D cls9 [(h0, .inr (1, [.null, .null, .null, .null, .null, .null, .null, .null, .null, .null, .int 0])), (q_1, .inl (kJ, 1501, .inr (.inl (fun _ => 0))))] H := hP1
  replace hD : va_D A [(h0, .inr (1, [.null, .null, .null, .null, .null, .null, .null, .null, .null, .null, .int 0])), (q_1, .inl (kJ, 1501, .inr (.inl (fun _ => 0))))] := hD1
  replace hS := hS1
  clear hP1 hD1 hS1
  refine W.widen (k := 1) (n := 1501) (Nat.le_of_ble_eq_true rfl) (Nat.le_of_ble_eq_true rfl) ?_
  refine va_putF (D := D) (ci := 1) (v := .ref q_1) (ty := .array .long) (C := "AlgolJudge$Table") (T := T_Table) (N := 11) hx hb hts i_Table t_Table t_Table_ok n_Table hown hK hP hD hS 0 rfl rfl 0 (by decide +kernel) (hts _ m_244) (fun _ h9 => h9) rfl hin rfl (by decide +kernel) rfl rfl (Nat.le_of_ble_eq_true rfl) d_7_1_10 (fun H locs hP1 hD1 hS1 => ?_)
  replace hP : va_P D cls9 [(h0, .inr (1, [.ref q_1, .null, .null, .null, .null, .null, .null, .null, .null, .null, .int 0])), (q_1, .inl (kJ, 1501, .inr (.inl (fun _ => 0))))] H := hP1
  replace hD : va_D A [(h0, .inr (1, [.ref q_1, .null, .null, .null, .null, .null, .null, .null, .null, .null, .int 0])), (q_1, .inl (kJ, 1501, .inr (.inl (fun _ => 0))))] := hD1
  replace hS := hS1
  clear hP1 hD1 hS1
  refine lv_aload_n hx hb d_7_1_13 rfl (lv_at hl 0 rfl) ?_
  refine lv_sipush (v := 1501) hx hb d_7_1_14 (by decide +kernel) ?_
  refine xa_newa (atype := .int) (a0 := (1501, .inl (fun _ => 0))) (N' := 1501) hx hb (hts _ m_235) rfl (fun _ h9 => h9) hK 0 rfl hP hD hS hA (fun _ => rfl) (by decide +kernel) (by decide +kernel) (by decide +kernel) (Nat.le_of_ble_eq_true rfl) (Nat.le_of_ble_eq_true rfl) d_7_1_17 (fun q_2 H hP1 hD1 hS1 => ?_)
  replace hP : va_P D cls9 [(h0, .inr (1, [.ref q_1, .null, .null, .null, .null, .null, .null, .null, .null, .null, .int 0])), (q_1, .inl (kJ, 1501, .inr (.inl (fun _ => 0)))), (q_2, .inl (kI, 1501, .inl (fun _ => 0)))] H := hP1
  replace hD : va_D A [(h0, .inr (1, [.ref q_1, .null, .null, .null, .null, .null, .null, .null, .null, .null, .int 0])), (q_1, .inl (kJ, 1501, .inr (.inl (fun _ => 0)))), (q_2, .inl (kI, 1501, .inl (fun _ => 0)))] := hD1
  replace hS := hS1
  clear hP1 hD1 hS1
  refine W.widen (k := 2) (n := 3002) (Nat.le_of_ble_eq_true rfl) (Nat.le_of_ble_eq_true rfl) ?_
  refine va_putF (D := D) (ci := 1) (v := .ref q_2) (ty := .array .int) (C := "AlgolJudge$Table") (T := T_Table) (N := 11) hx hb hts i_Table t_Table t_Table_ok n_Table hown hK hP hD hS 0 rfl rfl 1 (by decide +kernel) (hts _ m_245) (fun _ h9 => h9) rfl hin rfl (by decide +kernel) rfl rfl (Nat.le_of_ble_eq_true rfl) d_7_1_19 (fun H locs hP1 hD1 hS1 => ?_)
  replace hP : va_P D cls9 [(h0, .inr (1, [.ref q_1, .ref q_2, .null, .null, .null, .null, .null, .null, .null, .null, .int 0])), (q_1, .inl (kJ, 1501, .inr (.inl (fun _ => 0)))), (q_2, .inl (kI, 1501, .inl (fun _ => 0)))] H := hP1
  replace hD : va_D A [(h0, .inr (1, [.ref q_1, .ref q_2, .null, .null, .null, .null, .null, .null, .null, .null, .int 0])), (q_1, .inl (kJ, 1501, .inr (.inl (fun _ => 0)))), (q_2, .inl (kI, 1501, .inl (fun _ => 0)))] := hD1
  replace hS := hS1
  clear hP1 hD1 hS1
  refine lv_aload_n hx hb d_7_1_22 rfl (lv_at hl 0 rfl) ?_
  refine lv_sipush (v := 1501) hx hb d_7_1_23 (by decide +kernel) ?_
  refine xa_newa (atype := .int) (a0 := (1501, .inl (fun _ => 0))) (N' := 1501) hx hb (hts _ m_235) rfl (fun _ h9 => h9) hK 0 rfl hP hD hS hA (fun _ => rfl) (by decide +kernel) (by decide +kernel) (by decide +kernel) (Nat.le_of_ble_eq_true rfl) (Nat.le_of_ble_eq_true rfl) d_7_1_26 (fun q_3 H hP1 hD1 hS1 => ?_)
  replace hP : va_P D cls9 [(h0, .inr (1, [.ref q_1, .ref q_2, .null, .null, .null, .null, .null, .null, .null, .null, .int 0])), (q_1, .inl (kJ, 1501, .inr (.inl (fun _ => 0)))), (q_2, .inl (kI, 1501, .inl (fun _ => 0))), (q_3, .inl (kI, 1501, .inl (fun _ => 0)))] H := hP1
  replace hD : va_D A [(h0, .inr (1, [.ref q_1, .ref q_2, .null, .null, .null, .null, .null, .null, .null, .null, .int 0])), (q_1, .inl (kJ, 1501, .inr (.inl (fun _ => 0)))), (q_2, .inl (kI, 1501, .inl (fun _ => 0))), (q_3, .inl (kI, 1501, .inl (fun _ => 0)))] := hD1
  replace hS := hS1
  clear hP1 hD1 hS1
  refine W.widen (k := 3) (n := 4503) (Nat.le_of_ble_eq_true rfl) (Nat.le_of_ble_eq_true rfl) ?_
  refine va_putF (D := D) (ci := 1) (v := .ref q_3) (ty := .array .int) (C := "AlgolJudge$Table") (T := T_Table) (N := 11) hx hb hts i_Table t_Table t_Table_ok n_Table hown hK hP hD hS 0 rfl rfl 2 (by decide +kernel) (hts _ m_246) (fun _ h9 => h9) rfl hin rfl (by decide +kernel) rfl rfl (Nat.le_of_ble_eq_true rfl) d_7_1_28 (fun H locs hP1 hD1 hS1 => ?_)
  replace hP : va_P D cls9 [(h0, .inr (1, [.ref q_1, .ref q_2, .ref q_3, .null, .null, .null, .null, .null, .null, .null, .int 0])), (q_1, .inl (kJ, 1501, .inr (.inl (fun _ => 0)))), (q_2, .inl (kI, 1501, .inl (fun _ => 0))), (q_3, .inl (kI, 1501, .inl (fun _ => 0)))] H := hP1
  replace hD : va_D A [(h0, .inr (1, [.ref q_1, .ref q_2, .ref q_3, .null, .null, .null, .null, .null, .null, .null, .int 0])), (q_1, .inl (kJ, 1501, .inr (.inl (fun _ => 0)))), (q_2, .inl (kI, 1501, .inl (fun _ => 0))), (q_3, .inl (kI, 1501, .inl (fun _ => 0)))] := hD1
  replace hS := hS1
  clear hP1 hD1 hS1
  refine lv_aload_n hx hb d_7_1_31 rfl (lv_at hl 0 rfl) ?_
  refine lv_sipush (v := 1501) hx hb d_7_1_32 (by decide +kernel) ?_
  refine xa_newa (atype := .int) (a0 := (1501, .inl (fun _ => 0))) (N' := 1501) hx hb (hts _ m_235) rfl (fun _ h9 => h9) hK 0 rfl hP hD hS hA (fun _ => rfl) (by decide +kernel) (by decide +kernel) (by decide +kernel) (Nat.le_of_ble_eq_true rfl) (Nat.le_of_ble_eq_true rfl) d_7_1_35 (fun q_4 H hP1 hD1 hS1 => ?_)
  replace hP : va_P D cls9 [(h0, .inr (1, [.ref q_1, .ref q_2, .ref q_3, .null, .null, .null, .null, .null, .null, .null, .int 0])), (q_1, .inl (kJ, 1501, .inr (.inl (fun _ => 0)))), (q_2, .inl (kI, 1501, .inl (fun _ => 0))), (q_3, .inl (kI, 1501, .inl (fun _ => 0))), (q_4, .inl (kI, 1501, .inl (fun _ => 0)))] H := hP1
  replace hD : va_D A [(h0, .inr (1, [.ref q_1, .ref q_2, .ref q_3, .null, .null, .null, .null, .null, .null, .null, .int 0])), (q_1, .inl (kJ, 1501, .inr (.inl (fun _ => 0)))), (q_2, .inl (kI, 1501, .inl (fun _ => 0))), (q_3, .inl (kI, 1501, .inl (fun _ => 0))), (q_4, .inl (kI, 1501, .inl (fun _ => 0)))] := hD1
  replace hS := hS1
  clear hP1 hD1 hS1
  refine W.widen (k := 4) (n := 6004) (Nat.le_of_ble_eq_true rfl) (Nat.le_of_ble_eq_true rfl) ?_
  refine va_putF (D := D) (ci := 1) (v := .ref q_4) (ty := .array .int) (C := "AlgolJudge$Table") (T := T_Table) (N := 11) hx hb hts i_Table t_Table t_Table_ok n_Table hown hK hP hD hS 0 rfl rfl 3 (by decide +kernel) (hts _ m_247) (fun _ h9 => h9) rfl hin rfl (by decide +kernel) rfl rfl (Nat.le_of_ble_eq_true rfl) d_7_1_37 (fun H locs hP1 hD1 hS1 => ?_)
  replace hP : va_P D cls9 [(h0, .inr (1, [.ref q_1, .ref q_2, .ref q_3, .ref q_4, .null, .null, .null, .null, .null, .null, .int 0])), (q_1, .inl (kJ, 1501, .inr (.inl (fun _ => 0)))), (q_2, .inl (kI, 1501, .inl (fun _ => 0))), (q_3, .inl (kI, 1501, .inl (fun _ => 0))), (q_4, .inl (kI, 1501, .inl (fun _ => 0)))] H := hP1
  replace hD : va_D A [(h0, .inr (1, [.ref q_1, .ref q_2, .ref q_3, .ref q_4, .null, .null, .null, .null, .null, .null, .int 0])), (q_1, .inl (kJ, 1501, .inr (.inl (fun _ => 0)))), (q_2, .inl (kI, 1501, .inl (fun _ => 0))), (q_3, .inl (kI, 1501, .inl (fun _ => 0))), (q_4, .inl (kI, 1501, .inl (fun _ => 0)))] := hD1
  replace hS := hS1
  clear hP1 hD1 hS1
  refine lv_aload_n hx hb d_7_1_40 rfl (lv_at hl 0 rfl) ?_
  refine lv_sipush (v := 1501) hx hb d_7_1_41 (by decide +kernel) ?_
  refine xa_newa (atype := .int) (a0 := (1501, .inl (fun _ => 0))) (N' := 1501) hx hb (hts _ m_235) rfl (fun _ h9 => h9) hK 0 rfl hP hD hS hA (fun _ => rfl) (by decide +kernel) (by decide +kernel) (by decide +kernel) (Nat.le_of_ble_eq_true rfl) (Nat.le_of_ble_eq_true rfl) d_7_1_44 (fun q_5 H hP1 hD1 hS1 => ?_)
  replace hP : va_P D cls9 [(h0, .inr (1, [.ref q_1, .ref q_2, .ref q_3, .ref q_4, .null, .null, .null, .null, .null, .null, .int 0])), (q_1, .inl (kJ, 1501, .inr (.inl (fun _ => 0)))), (q_2, .inl (kI, 1501, .inl (fun _ => 0))), (q_3, .inl (kI, 1501, .inl (fun _ => 0))), (q_4, .inl (kI, 1501, .inl (fun _ => 0))), (q_5, .inl (kI, 1501, .inl (fun _ => 0)))] H := hP1
  replace hD : va_D A [(h0, .inr (1, [.ref q_1, .ref q_2, .ref q_3, .ref q_4, .null, .null, .null, .null, .null, .null, .int 0])), (q_1, .inl (kJ, 1501, .inr (.inl (fun _ => 0)))), (q_2, .inl (kI, 1501, .inl (fun _ => 0))), (q_3, .inl (kI, 1501, .inl (fun _ => 0))), (q_4, .inl (kI, 1501, .inl (fun _ => 0))), (q_5, .inl (kI, 1501, .inl (fun _ => 0)))] := hD1
  replace hS := hS1
  clear hP1 hD1 hS1
  refine W.widen (k := 5) (n := 7505) (Nat.le_of_ble_eq_true rfl) (Nat.le_of_ble_eq_true rfl) ?_
  refine va_putF (D := D) (ci := 1) (v := .ref q_5) (ty := .array .int) (C := "AlgolJudge$Table") (T := T_Table) (N := 11) hx hb hts i_Table t_Table t_Table_ok n_Table hown hK hP hD hS 0 rfl rfl 4 (by decide +kernel) (hts _ m_248) (fun _ h9 => h9) rfl hin rfl (by decide +kernel) rfl rfl (Nat.le_of_ble_eq_true rfl) d_7_1_46 (fun H locs hP1 hD1 hS1 => ?_)
  replace hP : va_P D cls9 [(h0, .inr (1, [.ref q_1, .ref q_2, .ref q_3, .ref q_4, .ref q_5, .null, .null, .null, .null, .null, .int 0])), (q_1, .inl (kJ, 1501, .inr (.inl (fun _ => 0)))), (q_2, .inl (kI, 1501, .inl (fun _ => 0))), (q_3, .inl (kI, 1501, .inl (fun _ => 0))), (q_4, .inl (kI, 1501, .inl (fun _ => 0))), (q_5, .inl (kI, 1501, .inl (fun _ => 0)))] H := hP1
  replace hD : va_D A [(h0, .inr (1, [.ref q_1, .ref q_2, .ref q_3, .ref q_4, .ref q_5, .null, .null, .null, .null, .null, .int 0])), (q_1, .inl (kJ, 1501, .inr (.inl (fun _ => 0)))), (q_2, .inl (kI, 1501, .inl (fun _ => 0))), (q_3, .inl (kI, 1501, .inl (fun _ => 0))), (q_4, .inl (kI, 1501, .inl (fun _ => 0))), (q_5, .inl (kI, 1501, .inl (fun _ => 0)))] := hD1
  replace hS := hS1
  clear hP1 hD1 hS1
  refine lv_aload_n hx hb d_7_1_49 rfl (lv_at hl 0 rfl) ?_
  refine lv_sipush (v := 1501) hx hb d_7_1_50 (by decide +kernel) ?_
  refine xa_newa (atype := .int) (a0 := (1501, .inl (fun _ => 0))) (N' := 1501) hx hb (hts _ m_235) rfl (fun _ h9 => h9) hK 0 rfl hP hD hS hA (fun _ => rfl) (by decide +kernel) (by decide +kernel) (by decide +kernel) (Nat.le_of_ble_eq_true rfl) (Nat.le_of_ble_eq_true rfl) d_7_1_53 (fun q_6 H hP1 hD1 hS1 => ?_)
  replace hP : va_P D cls9 [(h0, .inr (1, [.ref q_1, .ref q_2, .ref q_3, .ref q_4, .ref q_5, .null, .null, .null, .null, .null, .int 0])), (q_1, .inl (kJ, 1501, .inr (.inl (fun _ => 0)))), (q_2, .inl (kI, 1501, .inl (fun _ => 0))), (q_3, .inl (kI, 1501, .inl (fun _ => 0))), (q_4, .inl (kI, 1501, .inl (fun _ => 0))), (q_5, .inl (kI, 1501, .inl (fun _ => 0))), (q_6, .inl (kI, 1501, .inl (fun _ => 0)))] H := hP1
  replace hD : va_D A [(h0, .inr (1, [.ref q_1, .ref q_2, .ref q_3, .ref q_4, .ref q_5, .null, .null, .null, .null, .null, .int 0])), (q_1, .inl (kJ, 1501, .inr (.inl (fun _ => 0)))), (q_2, .inl (kI, 1501, .inl (fun _ => 0))), (q_3, .inl (kI, 1501, .inl (fun _ => 0))), (q_4, .inl (kI, 1501, .inl (fun _ => 0))), (q_5, .inl (kI, 1501, .inl (fun _ => 0))), (q_6, .inl (kI, 1501, .inl (fun _ => 0)))] := hD1
  replace hS := hS1
  clear hP1 hD1 hS1
  refine W.widen (k := 6) (n := 9006) (Nat.le_of_ble_eq_true rfl) (Nat.le_of_ble_eq_true rfl) ?_
  refine va_putF (D := D) (ci := 1) (v := .ref q_6) (ty := .array .int) (C := "AlgolJudge$Table") (T := T_Table) (N := 11) hx hb hts i_Table t_Table t_Table_ok n_Table hown hK hP hD hS 0 rfl rfl 5 (by decide +kernel) (hts _ m_249) (fun _ h9 => h9) rfl hin rfl (by decide +kernel) rfl rfl (Nat.le_of_ble_eq_true rfl) d_7_1_55 (fun H locs hP1 hD1 hS1 => ?_)
  replace hP : va_P D cls9 [(h0, .inr (1, [.ref q_1, .ref q_2, .ref q_3, .ref q_4, .ref q_5, .ref q_6, .null, .null, .null, .null, .int 0])), (q_1, .inl (kJ, 1501, .inr (.inl (fun _ => 0)))), (q_2, .inl (kI, 1501, .inl (fun _ => 0))), (q_3, .inl (kI, 1501, .inl (fun _ => 0))), (q_4, .inl (kI, 1501, .inl (fun _ => 0))), (q_5, .inl (kI, 1501, .inl (fun _ => 0))), (q_6, .inl (kI, 1501, .inl (fun _ => 0)))] H := hP1
  replace hD : va_D A [(h0, .inr (1, [.ref q_1, .ref q_2, .ref q_3, .ref q_4, .ref q_5, .ref q_6, .null, .null, .null, .null, .int 0])), (q_1, .inl (kJ, 1501, .inr (.inl (fun _ => 0)))), (q_2, .inl (kI, 1501, .inl (fun _ => 0))), (q_3, .inl (kI, 1501, .inl (fun _ => 0))), (q_4, .inl (kI, 1501, .inl (fun _ => 0))), (q_5, .inl (kI, 1501, .inl (fun _ => 0))), (q_6, .inl (kI, 1501, .inl (fun _ => 0)))] := hD1
  replace hS := hS1
  clear hP1 hD1 hS1
  refine lv_aload_n hx hb d_7_1_58 rfl (lv_at hl 0 rfl) ?_
  refine lv_sipush (v := 1501) hx hb d_7_1_59 (by decide +kernel) ?_
  refine xa_newa (atype := .int) (a0 := (1501, .inl (fun _ => 0))) (N' := 1501) hx hb (hts _ m_235) rfl (fun _ h9 => h9) hK 0 rfl hP hD hS hA (fun _ => rfl) (by decide +kernel) (by decide +kernel) (by decide +kernel) (Nat.le_of_ble_eq_true rfl) (Nat.le_of_ble_eq_true rfl) d_7_1_62 (fun q_7 H hP1 hD1 hS1 => ?_)
  replace hP : va_P D cls9 [(h0, .inr (1, [.ref q_1, .ref q_2, .ref q_3, .ref q_4, .ref q_5, .ref q_6, .null, .null, .null, .null, .int 0])), (q_1, .inl (kJ, 1501, .inr (.inl (fun _ => 0)))), (q_2, .inl (kI, 1501, .inl (fun _ => 0))), (q_3, .inl (kI, 1501, .inl (fun _ => 0))), (q_4, .inl (kI, 1501, .inl (fun _ => 0))), (q_5, .inl (kI, 1501, .inl (fun _ => 0))), (q_6, .inl (kI, 1501, .inl (fun _ => 0))), (q_7, .inl (kI, 1501, .inl (fun _ => 0)))] H := hP1
  replace hD : va_D A [(h0, .inr (1, [.ref q_1, .ref q_2, .ref q_3, .ref q_4, .ref q_5, .ref q_6, .null, .null, .null, .null, .int 0])), (q_1, .inl (kJ, 1501, .inr (.inl (fun _ => 0)))), (q_2, .inl (kI, 1501, .inl (fun _ => 0))), (q_3, .inl (kI, 1501, .inl (fun _ => 0))), (q_4, .inl (kI, 1501, .inl (fun _ => 0))), (q_5, .inl (kI, 1501, .inl (fun _ => 0))), (q_6, .inl (kI, 1501, .inl (fun _ => 0))), (q_7, .inl (kI, 1501, .inl (fun _ => 0)))] := hD1
  replace hS := hS1
  clear hP1 hD1 hS1
  refine W.widen (k := 7) (n := 10507) (Nat.le_of_ble_eq_true rfl) (Nat.le_of_ble_eq_true rfl) ?_
  refine va_putF (D := D) (ci := 1) (v := .ref q_7) (ty := .array .int) (C := "AlgolJudge$Table") (T := T_Table) (N := 11) hx hb hts i_Table t_Table t_Table_ok n_Table hown hK hP hD hS 0 rfl rfl 6 (by decide +kernel) (hts _ m_250) (fun _ h9 => h9) rfl hin rfl (by decide +kernel) rfl rfl (Nat.le_of_ble_eq_true rfl) d_7_1_64 (fun H locs hP1 hD1 hS1 => ?_)
  replace hP : va_P D cls9 [(h0, .inr (1, [.ref q_1, .ref q_2, .ref q_3, .ref q_4, .ref q_5, .ref q_6, .ref q_7, .null, .null, .null, .int 0])), (q_1, .inl (kJ, 1501, .inr (.inl (fun _ => 0)))), (q_2, .inl (kI, 1501, .inl (fun _ => 0))), (q_3, .inl (kI, 1501, .inl (fun _ => 0))), (q_4, .inl (kI, 1501, .inl (fun _ => 0))), (q_5, .inl (kI, 1501, .inl (fun _ => 0))), (q_6, .inl (kI, 1501, .inl (fun _ => 0))), (q_7, .inl (kI, 1501, .inl (fun _ => 0)))] H := hP1
  replace hD : va_D A [(h0, .inr (1, [.ref q_1, .ref q_2, .ref q_3, .ref q_4, .ref q_5, .ref q_6, .ref q_7, .null, .null, .null, .int 0])), (q_1, .inl (kJ, 1501, .inr (.inl (fun _ => 0)))), (q_2, .inl (kI, 1501, .inl (fun _ => 0))), (q_3, .inl (kI, 1501, .inl (fun _ => 0))), (q_4, .inl (kI, 1501, .inl (fun _ => 0))), (q_5, .inl (kI, 1501, .inl (fun _ => 0))), (q_6, .inl (kI, 1501, .inl (fun _ => 0))), (q_7, .inl (kI, 1501, .inl (fun _ => 0)))] := hD1
  replace hS := hS1
  clear hP1 hD1 hS1
  refine lv_aload_n hx hb d_7_1_67 rfl (lv_at hl 0 rfl) ?_
  refine lv_sipush (v := 1501) hx hb d_7_1_68 (by decide +kernel) ?_
  refine xa_newa (atype := .int) (a0 := (1501, .inl (fun _ => 0))) (N' := 1501) hx hb (hts _ m_235) rfl (fun _ h9 => h9) hK 0 rfl hP hD hS hA (fun _ => rfl) (by decide +kernel) (by decide +kernel) (by decide +kernel) (Nat.le_of_ble_eq_true rfl) (Nat.le_of_ble_eq_true rfl) d_7_1_71 (fun q_8 H hP1 hD1 hS1 => ?_)
  replace hP : va_P D cls9 [(h0, .inr (1, [.ref q_1, .ref q_2, .ref q_3, .ref q_4, .ref q_5, .ref q_6, .ref q_7, .null, .null, .null, .int 0])), (q_1, .inl (kJ, 1501, .inr (.inl (fun _ => 0)))), (q_2, .inl (kI, 1501, .inl (fun _ => 0))), (q_3, .inl (kI, 1501, .inl (fun _ => 0))), (q_4, .inl (kI, 1501, .inl (fun _ => 0))), (q_5, .inl (kI, 1501, .inl (fun _ => 0))), (q_6, .inl (kI, 1501, .inl (fun _ => 0))), (q_7, .inl (kI, 1501, .inl (fun _ => 0))), (q_8, .inl (kI, 1501, .inl (fun _ => 0)))] H := hP1
  replace hD : va_D A [(h0, .inr (1, [.ref q_1, .ref q_2, .ref q_3, .ref q_4, .ref q_5, .ref q_6, .ref q_7, .null, .null, .null, .int 0])), (q_1, .inl (kJ, 1501, .inr (.inl (fun _ => 0)))), (q_2, .inl (kI, 1501, .inl (fun _ => 0))), (q_3, .inl (kI, 1501, .inl (fun _ => 0))), (q_4, .inl (kI, 1501, .inl (fun _ => 0))), (q_5, .inl (kI, 1501, .inl (fun _ => 0))), (q_6, .inl (kI, 1501, .inl (fun _ => 0))), (q_7, .inl (kI, 1501, .inl (fun _ => 0))), (q_8, .inl (kI, 1501, .inl (fun _ => 0)))] := hD1
  replace hS := hS1
  clear hP1 hD1 hS1
  refine W.widen (k := 8) (n := 12008) (Nat.le_of_ble_eq_true rfl) (Nat.le_of_ble_eq_true rfl) ?_
  refine va_putF (D := D) (ci := 1) (v := .ref q_8) (ty := .array .int) (C := "AlgolJudge$Table") (T := T_Table) (N := 11) hx hb hts i_Table t_Table t_Table_ok n_Table hown hK hP hD hS 0 rfl rfl 7 (by decide +kernel) (hts _ m_251) (fun _ h9 => h9) rfl hin rfl (by decide +kernel) rfl rfl (Nat.le_of_ble_eq_true rfl) d_7_1_73 (fun H locs hP1 hD1 hS1 => ?_)
  replace hP : va_P D cls9 [(h0, .inr (1, [.ref q_1, .ref q_2, .ref q_3, .ref q_4, .ref q_5, .ref q_6, .ref q_7, .ref q_8, .null, .null, .int 0])), (q_1, .inl (kJ, 1501, .inr (.inl (fun _ => 0)))), (q_2, .inl (kI, 1501, .inl (fun _ => 0))), (q_3, .inl (kI, 1501, .inl (fun _ => 0))), (q_4, .inl (kI, 1501, .inl (fun _ => 0))), (q_5, .inl (kI, 1501, .inl (fun _ => 0))), (q_6, .inl (kI, 1501, .inl (fun _ => 0))), (q_7, .inl (kI, 1501, .inl (fun _ => 0))), (q_8, .inl (kI, 1501, .inl (fun _ => 0)))] H := hP1
  replace hD : va_D A [(h0, .inr (1, [.ref q_1, .ref q_2, .ref q_3, .ref q_4, .ref q_5, .ref q_6, .ref q_7, .ref q_8, .null, .null, .int 0])), (q_1, .inl (kJ, 1501, .inr (.inl (fun _ => 0)))), (q_2, .inl (kI, 1501, .inl (fun _ => 0))), (q_3, .inl (kI, 1501, .inl (fun _ => 0))), (q_4, .inl (kI, 1501, .inl (fun _ => 0))), (q_5, .inl (kI, 1501, .inl (fun _ => 0))), (q_6, .inl (kI, 1501, .inl (fun _ => 0))), (q_7, .inl (kI, 1501, .inl (fun _ => 0))), (q_8, .inl (kI, 1501, .inl (fun _ => 0)))] := hD1
  replace hS := hS1
  clear hP1 hD1 hS1
  refine lv_aload_n hx hb d_7_1_76 rfl (lv_at hl 0 rfl) ?_
  refine lv_sipush (v := 1501) hx hb d_7_1_77 (by decide +kernel) ?_
  refine xa_newa (atype := .int) (a0 := (1501, .inl (fun _ => 0))) (N' := 1501) hx hb (hts _ m_235) rfl (fun _ h9 => h9) hK 0 rfl hP hD hS hA (fun _ => rfl) (by decide +kernel) (by decide +kernel) (by decide +kernel) (Nat.le_of_ble_eq_true rfl) (Nat.le_of_ble_eq_true rfl) d_7_1_80 (fun q_9 H hP1 hD1 hS1 => ?_)
  replace hP : va_P D cls9 [(h0, .inr (1, [.ref q_1, .ref q_2, .ref q_3, .ref q_4, .ref q_5, .ref q_6, .ref q_7, .ref q_8, .null, .null, .int 0])), (q_1, .inl (kJ, 1501, .inr (.inl (fun _ => 0)))), (q_2, .inl (kI, 1501, .inl (fun _ => 0))), (q_3, .inl (kI, 1501, .inl (fun _ => 0))), (q_4, .inl (kI, 1501, .inl (fun _ => 0))), (q_5, .inl (kI, 1501, .inl (fun _ => 0))), (q_6, .inl (kI, 1501, .inl (fun _ => 0))), (q_7, .inl (kI, 1501, .inl (fun _ => 0))), (q_8, .inl (kI, 1501, .inl (fun _ => 0))), (q_9, .inl (kI, 1501, .inl (fun _ => 0)))] H := hP1
  replace hD : va_D A [(h0, .inr (1, [.ref q_1, .ref q_2, .ref q_3, .ref q_4, .ref q_5, .ref q_6, .ref q_7, .ref q_8, .null, .null, .int 0])), (q_1, .inl (kJ, 1501, .inr (.inl (fun _ => 0)))), (q_2, .inl (kI, 1501, .inl (fun _ => 0))), (q_3, .inl (kI, 1501, .inl (fun _ => 0))), (q_4, .inl (kI, 1501, .inl (fun _ => 0))), (q_5, .inl (kI, 1501, .inl (fun _ => 0))), (q_6, .inl (kI, 1501, .inl (fun _ => 0))), (q_7, .inl (kI, 1501, .inl (fun _ => 0))), (q_8, .inl (kI, 1501, .inl (fun _ => 0))), (q_9, .inl (kI, 1501, .inl (fun _ => 0)))] := hD1
  replace hS := hS1
  clear hP1 hD1 hS1
  refine W.widen (k := 9) (n := 13509) (Nat.le_of_ble_eq_true rfl) (Nat.le_of_ble_eq_true rfl) ?_
  refine va_putF (D := D) (ci := 1) (v := .ref q_9) (ty := .array .int) (C := "AlgolJudge$Table") (T := T_Table) (N := 11) hx hb hts i_Table t_Table t_Table_ok n_Table hown hK hP hD hS 0 rfl rfl 8 (by decide +kernel) (hts _ m_252) (fun _ h9 => h9) rfl hin rfl (by decide +kernel) rfl rfl (Nat.le_of_ble_eq_true rfl) d_7_1_82 (fun H locs hP1 hD1 hS1 => ?_)
  replace hP : va_P D cls9 [(h0, .inr (1, [.ref q_1, .ref q_2, .ref q_3, .ref q_4, .ref q_5, .ref q_6, .ref q_7, .ref q_8, .ref q_9, .null, .int 0])), (q_1, .inl (kJ, 1501, .inr (.inl (fun _ => 0)))), (q_2, .inl (kI, 1501, .inl (fun _ => 0))), (q_3, .inl (kI, 1501, .inl (fun _ => 0))), (q_4, .inl (kI, 1501, .inl (fun _ => 0))), (q_5, .inl (kI, 1501, .inl (fun _ => 0))), (q_6, .inl (kI, 1501, .inl (fun _ => 0))), (q_7, .inl (kI, 1501, .inl (fun _ => 0))), (q_8, .inl (kI, 1501, .inl (fun _ => 0))), (q_9, .inl (kI, 1501, .inl (fun _ => 0)))] H := hP1
  replace hD : va_D A [(h0, .inr (1, [.ref q_1, .ref q_2, .ref q_3, .ref q_4, .ref q_5, .ref q_6, .ref q_7, .ref q_8, .ref q_9, .null, .int 0])), (q_1, .inl (kJ, 1501, .inr (.inl (fun _ => 0)))), (q_2, .inl (kI, 1501, .inl (fun _ => 0))), (q_3, .inl (kI, 1501, .inl (fun _ => 0))), (q_4, .inl (kI, 1501, .inl (fun _ => 0))), (q_5, .inl (kI, 1501, .inl (fun _ => 0))), (q_6, .inl (kI, 1501, .inl (fun _ => 0))), (q_7, .inl (kI, 1501, .inl (fun _ => 0))), (q_8, .inl (kI, 1501, .inl (fun _ => 0))), (q_9, .inl (kI, 1501, .inl (fun _ => 0)))] := hD1
  replace hS := hS1
  clear hP1 hD1 hS1
  refine lv_aload_n hx hb d_7_1_85 rfl (lv_at hl 0 rfl) ?_
  refine lv_sipush (v := 1501) hx hb d_7_1_86 (by decide +kernel) ?_
  refine xa_newa (atype := .boolean) (a0 := (1501, .inl (fun _ => 0))) (N' := 1501) hx hb (hts _ m_278) rfl (fun _ h9 => h9) hK 3 rfl hP hD hS hA (fun _ => rfl) (by decide +kernel) (by decide +kernel) (by decide +kernel) (Nat.le_of_ble_eq_true rfl) (Nat.le_of_ble_eq_true rfl) d_7_1_89 (fun q_10 H hP1 hD1 hS1 => ?_)
  replace hP : va_P D cls9 [(h0, .inr (1, [.ref q_1, .ref q_2, .ref q_3, .ref q_4, .ref q_5, .ref q_6, .ref q_7, .ref q_8, .ref q_9, .null, .int 0])), (q_1, .inl (kJ, 1501, .inr (.inl (fun _ => 0)))), (q_2, .inl (kI, 1501, .inl (fun _ => 0))), (q_3, .inl (kI, 1501, .inl (fun _ => 0))), (q_4, .inl (kI, 1501, .inl (fun _ => 0))), (q_5, .inl (kI, 1501, .inl (fun _ => 0))), (q_6, .inl (kI, 1501, .inl (fun _ => 0))), (q_7, .inl (kI, 1501, .inl (fun _ => 0))), (q_8, .inl (kI, 1501, .inl (fun _ => 0))), (q_9, .inl (kI, 1501, .inl (fun _ => 0))), (q_10, .inl (kZ, 1501, .inl (fun _ => 0)))] H := hP1
  replace hD : va_D A [(h0, .inr (1, [.ref q_1, .ref q_2, .ref q_3, .ref q_4, .ref q_5, .ref q_6, .ref q_7, .ref q_8, .ref q_9, .null, .int 0])), (q_1, .inl (kJ, 1501, .inr (.inl (fun _ => 0)))), (q_2, .inl (kI, 1501, .inl (fun _ => 0))), (q_3, .inl (kI, 1501, .inl (fun _ => 0))), (q_4, .inl (kI, 1501, .inl (fun _ => 0))), (q_5, .inl (kI, 1501, .inl (fun _ => 0))), (q_6, .inl (kI, 1501, .inl (fun _ => 0))), (q_7, .inl (kI, 1501, .inl (fun _ => 0))), (q_8, .inl (kI, 1501, .inl (fun _ => 0))), (q_9, .inl (kI, 1501, .inl (fun _ => 0))), (q_10, .inl (kZ, 1501, .inl (fun _ => 0)))] := hD1
  replace hS := hS1
  clear hP1 hD1 hS1
  refine W.widen (k := 10) (n := 15010) (Nat.le_of_ble_eq_true rfl) (Nat.le_of_ble_eq_true rfl) ?_
  refine va_putF (D := D) (ci := 1) (v := .ref q_10) (ty := .array .boolean) (C := "AlgolJudge$Table") (T := T_Table) (N := 11) hx hb hts i_Table t_Table t_Table_ok n_Table hown hK hP hD hS 0 rfl rfl 9 (by decide +kernel) (hts _ m_253) (fun _ h9 => h9) rfl hin rfl (by decide +kernel) rfl rfl (Nat.le_of_ble_eq_true rfl) d_7_1_91 (fun H locs hP1 hD1 hS1 => ?_)
  replace hP : va_P D cls9 [(h0, .inr (1, [.ref q_1, .ref q_2, .ref q_3, .ref q_4, .ref q_5, .ref q_6, .ref q_7, .ref q_8, .ref q_9, .ref q_10, .int 0])), (q_1, .inl (kJ, 1501, .inr (.inl (fun _ => 0)))), (q_2, .inl (kI, 1501, .inl (fun _ => 0))), (q_3, .inl (kI, 1501, .inl (fun _ => 0))), (q_4, .inl (kI, 1501, .inl (fun _ => 0))), (q_5, .inl (kI, 1501, .inl (fun _ => 0))), (q_6, .inl (kI, 1501, .inl (fun _ => 0))), (q_7, .inl (kI, 1501, .inl (fun _ => 0))), (q_8, .inl (kI, 1501, .inl (fun _ => 0))), (q_9, .inl (kI, 1501, .inl (fun _ => 0))), (q_10, .inl (kZ, 1501, .inl (fun _ => 0)))] H := hP1
  replace hD : va_D A [(h0, .inr (1, [.ref q_1, .ref q_2, .ref q_3, .ref q_4, .ref q_5, .ref q_6, .ref q_7, .ref q_8, .ref q_9, .ref q_10, .int 0])), (q_1, .inl (kJ, 1501, .inr (.inl (fun _ => 0)))), (q_2, .inl (kI, 1501, .inl (fun _ => 0))), (q_3, .inl (kI, 1501, .inl (fun _ => 0))), (q_4, .inl (kI, 1501, .inl (fun _ => 0))), (q_5, .inl (kI, 1501, .inl (fun _ => 0))), (q_6, .inl (kI, 1501, .inl (fun _ => 0))), (q_7, .inl (kI, 1501, .inl (fun _ => 0))), (q_8, .inl (kI, 1501, .inl (fun _ => 0))), (q_9, .inl (kI, 1501, .inl (fun _ => 0))), (q_10, .inl (kZ, 1501, .inl (fun _ => 0)))] := hD1
  replace hS := hS1
  clear hP1 hD1 hS1
  refine lv_aload_n hx hb d_7_1_94 rfl (lv_at hl 0 rfl) ?_
  refine lv_iconst (v := 0) hx hb d_7_1_95 (by decide +kernel) ?_
  refine va_put (D := D) (ci := 1) (v := .int 0) (ty := .int) (C := "AlgolJudge$Table") (T := T_Table) (N := 11) hx hb hts i_Table t_Table t_Table_ok n_Table hown hK hP hD hS 0 rfl rfl 10 (by decide +kernel) (hts _ m_254) (fun _ h9 => h9) rfl (by decide +kernel) rfl rfl (Nat.le_of_ble_eq_true rfl) d_7_1_96 (fun H locs hP1 hD1 hS1 => ?_)
  replace hP : va_P D cls9 [(h0, .inr (1, [.ref q_1, .ref q_2, .ref q_3, .ref q_4, .ref q_5, .ref q_6, .ref q_7, .ref q_8, .ref q_9, .ref q_10, .int 0])), (q_1, .inl (kJ, 1501, .inr (.inl (fun _ => 0)))), (q_2, .inl (kI, 1501, .inl (fun _ => 0))), (q_3, .inl (kI, 1501, .inl (fun _ => 0))), (q_4, .inl (kI, 1501, .inl (fun _ => 0))), (q_5, .inl (kI, 1501, .inl (fun _ => 0))), (q_6, .inl (kI, 1501, .inl (fun _ => 0))), (q_7, .inl (kI, 1501, .inl (fun _ => 0))), (q_8, .inl (kI, 1501, .inl (fun _ => 0))), (q_9, .inl (kI, 1501, .inl (fun _ => 0))), (q_10, .inl (kZ, 1501, .inl (fun _ => 0)))] H := hP1
  replace hD : va_D A [(h0, .inr (1, [.ref q_1, .ref q_2, .ref q_3, .ref q_4, .ref q_5, .ref q_6, .ref q_7, .ref q_8, .ref q_9, .ref q_10, .int 0])), (q_1, .inl (kJ, 1501, .inr (.inl (fun _ => 0)))), (q_2, .inl (kI, 1501, .inl (fun _ => 0))), (q_3, .inl (kI, 1501, .inl (fun _ => 0))), (q_4, .inl (kI, 1501, .inl (fun _ => 0))), (q_5, .inl (kI, 1501, .inl (fun _ => 0))), (q_6, .inl (kI, 1501, .inl (fun _ => 0))), (q_7, .inl (kI, 1501, .inl (fun _ => 0))), (q_8, .inl (kI, 1501, .inl (fun _ => 0))), (q_9, .inl (kI, 1501, .inl (fun _ => 0))), (q_10, .inl (kZ, 1501, .inl (fun _ => 0)))] := hD1
  replace hS := hS1
  clear hP1 hD1 hS1
  have hP9 := hP.sub (ws' := [(h0, .inr (1, [.ref q_1, .ref q_2, .ref q_3, .ref q_4, .ref q_5, .ref q_6, .ref q_7, .ref q_8, .ref q_9, .ref q_10, .int 0])), (q_1, .inl (kJ, 1501, .inr (.inl (fun _ => 0)))), (q_2, .inl (kI, 1501, .inl (fun _ => 0))), (q_3, .inl (kI, 1501, .inl (fun _ => 0))), (q_4, .inl (kI, 1501, .inl (fun _ => 0))), (q_5, .inl (kI, 1501, .inl (fun _ => 0))), (q_6, .inl (kI, 1501, .inl (fun _ => 0))), (q_7, .inl (kI, 1501, .inl (fun _ => 0))), (q_8, .inl (kI, 1501, .inl (fun _ => 0))), (q_9, .inl (kI, 1501, .inl (fun _ => 0))), (q_10, .inl (kZ, 1501, .inl (fun _ => 0)))]) [0, 1, 2, 3, 4, 5, 6, 7, 8, 9, 10] rfl
  have hD9 := hD.sub (ws' := [(h0, .inr (1, [.ref q_1, .ref q_2, .ref q_3, .ref q_4, .ref q_5, .ref q_6, .ref q_7, .ref q_8, .ref q_9, .ref q_10, .int 0])), (q_1, .inl (kJ, 1501, .inr (.inl (fun _ => 0)))), (q_2, .inl (kI, 1501, .inl (fun _ => 0))), (q_3, .inl (kI, 1501, .inl (fun _ => 0))), (q_4, .inl (kI, 1501, .inl (fun _ => 0))), (q_5, .inl (kI, 1501, .inl (fun _ => 0))), (q_6, .inl (kI, 1501, .inl (fun _ => 0))), (q_7, .inl (kI, 1501, .inl (fun _ => 0))), (q_8, .inl (kI, 1501, .inl (fun _ => 0))), (q_9, .inl (kI, 1501, .inl (fun _ => 0))), (q_10, .inl (kZ, 1501, .inl (fun _ => 0)))]) [0, 1, 2, 3, 4, 5, 6, 7, 8, 9, 10] (by decide +kernel) rfl
  exact W.vret hx hb hr (fun t ht hW => ⟨⟨(), rfl, trivial, q_1, q_2, q_3, q_4, q_5, q_6, q_7, q_8, q_9, q_10, xEnd hK hP9 hD9 ht hW⟩, hS.F ht⟩) hS.2.2 d_7_1_99
set_option maxHeartbeats 4000000 in
set_option maxRecDepth 100000 in
theorem c_Scopes_init_0 (l : Launch) (D : va_G) (kI kJ kB kZ : ClassId) (sz : Nat) (h0 : Nat) (h1 : Nat) (h2 : Nat) : Met l (⟨"AlgolJudge$Scopes", "<init>", "(LAlgolJudge$Tokens;LAlgolJudge$Table;)V"⟩ : MethodName) (Cond.code (⟨"AlgolJudge$Scopes", "<init>", "(LAlgolJudge$Tokens;LAlgolJudge$Table;)V"⟩ : MethodName) prog_6_method_1_code 3 (none) :: gT) ({ frames := 1, cells := 5, slots := 4332, locals := 12 }) (va_Pc [.ref h0, .ref h1, .ref h2] (xP D (xT kI kJ kB kZ) xN [(h0, .inr (2, [.null, .null, .null, .null, .null, .null, .null, .int 0, .int 0, .int 0, .int 0, .int 0, .int 0]))] sz)) (va_Qv (fun _ : Unit => True) (fun _ t => ∃ a0 : Nat, ∃ a1 : Nat, ∃ a2 : Nat, ∃ a3 : Nat, ∃ a4 : Nat, xQ D (xT kI kJ kB kZ) (va_A [(h0, .inr (2, [.null, .null, .null, .null, .null, .null, .null, .int 0, .int 0, .int 0, .int 0, .int 0, .int 0]))] sz) [(h0, .inr (2, [.ref h1, .ref h2, .ref a0, .ref a1, .ref a2, .ref a3, .ref a4, .int 0, .int 0, .int (-1), .int (-1), .int 3001, .int 0])), (a0, .inl (kI, 333, .inl (fun _ => 0))), (a1, .inl (kI, 333, .inl (fun _ => 0))), (a2, .inl (kI, 333, .inl (fun _ => 0))), (a3, .inl (kI, 333, .inl (fun _ => 0))), (a4, .inl (kI, 3000, .inl (fun _ => 0)))] t) (va_A [(h0, .inr (2, [.null, .null, .null, .null, .null, .null, .null, .int 0, .int 0, .int 0, .int 0, .int 0, .int 0]))] sz)) 5 4332 (va_A [(h0, .inr (2, [.null, .null, .null, .null, .null, .null, .null, .int 0, .int 0, .int 0, .int 0, .int 0, .int 0]))] sz) := by
  refine Met.ofW (cc := prog_6_method_1_code) (maxL := 3) (ret := none) (by decide +kernel) rfl ?_
  intro p e s m args below meth c s₁ B hml hv
  obtain ⟨rfl, hsz, hP, hK, hD0, hE⟩ := hv
  have hx := B.exec
  have hb := B.bytes
  have hr := B.returns
  have hts : ∀ w ∈ gT, w.before _ s = true := fun w h => atoms_spec (ws := Cond.code (⟨"AlgolJudge$Scopes", "<init>", "(LAlgolJudge$Tokens;LAlgolJudge$Table;)V"⟩ : MethodName) prog_6_method_1_code 3 (none) :: gT) B.pre w (List.mem_cons_of_mem _ h)
  have hown : s.vm.findClass "AlgolJudge$Scopes" = some m.cls := findClass_of_methodNamed B.named
  have hlocks := B.notSynchronized
  have hin : meth.name = "<init>" := (name_of_methodNamed B.named B.method).1
  subst hsz
  have hD := hD0.self (sz := s.heap.size)
  generalize hAe : va_A [(h0, .inr (2, [.null, .null, .null, .null, .null, .null, .null, .int 0, .int 0, .int 0, .int 0, .int 0, .int 0]))] s.heap.size = A at hD hE ⊢
  have hA : ∀ q : Nat, s.heap.size ≤ q → A q := fun q h => by rw [← hAe]; exact Or.inr h
  have hS : va_S A s.heap s.heap [] := va_S.rf
  have hP : va_P D cls9 [(h0, .inr (2, [.null, .null, .null, .null, .null, .null, .null, .int 0, .int 0, .int 0, .int 0, .int 0, .int 0]))] s.heap := hP
  have hl := lv_entry ([.ref h0, .ref h1, .ref h2]) (n := 3) (Nat.le_of_ble_eq_true rfl)
  rw [lg_entry_eq]
  generalize (lg_sl ([.ref h0, .ref h1, .ref h2]) ++ List.replicate (3 - (lg_sl ([.ref h0, .ref h1, .ref h2])).length) Slot.unset).toArray = ls at hl ⊢
  have hl : lv_has ls 3 [(0, .ref h0), (1, .ref h1), (2, .ref h2)] := hl
  refine lv_aload_n hx hb d_6_1_0 rfl (lv_at hl 0 rfl) ?_
  refine W.objInit hx hb hown (hts _ m_284) (hts _ m_142) (hts _ m_obj) rfl (by rw [hml]; exact hl.1) rfl d_6_1_1 (Nat.le_of_ble_eq_true rfl) (Nat.le_of_ble_eq_true rfl) ?_
  refine W.eq (g2 := F0 m 4 ls []) rfl ?_
  refine lv_aload_n hx hb d_6_1_4 rfl (lv_at hl 0 rfl) ?_
  refine lv_aload_n hx hb d_6_1_5 rfl (lv_at hl 1 rfl) ?_
  refine va_putF (D := D) (ci := 2) (v := .ref h1) (ty := .object "AlgolJudge$Tokens") (C := "AlgolJudge$Scopes") (T := T_Scopes) (N := 13) hx hb hts i_Scopes t_Scopes t_Scopes_ok n_Scopes hown hK hP hD hS 0 rfl rfl 0 (by decide +kernel) (hts _ m_285) (fun _ h9 => h9) rfl hin rfl (by decide +kernel) rfl rfl (Nat.le_of_ble_eq_true rfl) d_6_1_6 (fun H locs hP1 hD1 hS1 => ?_)
  replace hP : va_P D cls9 [(h0, .inr (2, [.ref h1, .null, .null, .null, .null, .null, .null, .int 0, .int 0, .int 0, .int 0, .int 0, .int 0]))] H := hP1
  replace hD : va_D A [(h0, .inr (2, [.ref h1, .null, .null, .null, .null, .null, .null, .int 0, .int 0, .int 0, .int 0, .int 0, .int 0]))] := hD1
  replace hS := hS1
  clear hP1 hD1 hS1
  refine lv_aload_n hx hb d_6_1_9 rfl (lv_at hl 0 rfl) ?_
  refine lv_aload_n hx hb d_6_1_10 rfl (lv_at hl 2 rfl) ?_
  refine va_putF (D := D) (ci := 2) (v := .ref h2) (ty := .object "AlgolJudge$Table") (C := "AlgolJudge$Scopes") (T := T_Scopes) (N := 13) hx hb hts i_Scopes t_Scopes t_Scopes_ok n_Scopes hown hK hP hD hS 0 rfl rfl 1 (by decide +kernel) (hts _ m_286) (fun _ h9 => h9) rfl hin rfl (by decide +kernel) rfl rfl (Nat.le_of_ble_eq_true rfl) d_6_1_11 (fun H locs hP1 hD1 hS1 => ?_)
  replace hP : va_P D cls9 [(h0, .inr (2, [.ref h1, .ref h2, .null, .null, .null, .null, .null, .int 0, .int 0, .int 0, .int 0, .int 0, .int 0]))] H := hP1
  replace hD : va_D A [(h0, .inr (2, [.ref h1, .ref h2, .null, .null, .null, .null, .null, .int 0, .int 0, .int 0, .int 0, .int 0, .int 0]))] := hD1
  replace hS := hS1
  clear hP1 hD1 hS1
  refine lv_aload_n hx hb d_6_1_14 rfl (lv_at hl 0 rfl) ?_
  refine lv_sipush (v := 333) hx hb d_6_1_15 (by decide +kernel) ?_
  refine xa_newa (atype := .int) (a0 := (333, .inl (fun _ => 0))) (N' := 333) hx hb (hts _ m_235) rfl (fun _ h9 => h9) hK 0 rfl hP hD hS hA (fun _ => rfl) (by decide +kernel) (by decide +kernel) (by decide +kernel) (Nat.le_of_ble_eq_true rfl) (Nat.le_of_ble_eq_true rfl) d_6_1_18 (fun q_1 H hP1 hD1 hS1 => ?_)
  replace hP : va_P D cls9 [(h0, .inr (2, [.ref h1, .ref h2, .null, .null, .null, .null, .null, .int 0, .int 0, .int 0, .int 0, .int 0, .int 0])), (q_1, .inl (kI, 333, .inl (fun _ => 0)))] H := hP1
  replace hD : va_D A [(h0, .inr (2, [.ref h1, .ref h2, .null, .null, .null, .null, .null, .int 0, .int 0, .int 0, .int 0, .int 0, .int 0])), (q_1, .inl (kI, 333, .inl (fun _ => 0)))] := hD1
  replace hS := hS1
  clear hP1 hD1 hS1
  refine W.widen (k := 1) (n := 333) (Nat.le_of_ble_eq_true rfl) (Nat.le_of_ble_eq_true rfl) ?_
  refine va_putF (D := D) (ci := 2) (v := .ref q_1) (ty := .array .int) (C := "AlgolJudge$Scopes") (T := T_Scopes) (N := 13) hx hb hts i_Scopes t_Scopes t_Scopes_ok n_Scopes hown hK hP hD hS 0 rfl rfl 2 (by decide +kernel) (hts _ m_287) (fun _ h9 => h9) rfl hin rfl (by decide +kernel) rfl rfl (Nat.le_of_ble_eq_true rfl) d_6_1_20 (fun H locs hP1 hD1 hS1 => ?_)
  replace hP : va_P D cls9 [(h0, .inr (2, [.ref h1, .ref h2, .ref q_1, .null, .null, .null, .null, .int 0, .int 0, .int 0, .int 0, .int 0, .int 0])), (q_1, .inl (kI, 333, .inl (fun _ => 0)))] H := hP1
  replace hD : va_D A [(h0, .inr (2, [.ref h1, .ref h2, .ref q_1, .null, .null, .null, .null, .int 0, .int 0, .int 0, .int 0, .int 0, .int 0])), (q_1, .inl (kI, 333, .inl (fun _ => 0)))] := hD1
  replace hS := hS1
  clear hP1 hD1 hS1
  refine lv_aload_n hx hb d_6_1_23 rfl (lv_at hl 0 rfl) ?_
  refine lv_sipush (v := 333) hx hb d_6_1_24 (by decide +kernel) ?_
  refine xa_newa (atype := .int) (a0 := (333, .inl (fun _ => 0))) (N' := 333) hx hb (hts _ m_235) rfl (fun _ h9 => h9) hK 0 rfl hP hD hS hA (fun _ => rfl) (by decide +kernel) (by decide +kernel) (by decide +kernel) (Nat.le_of_ble_eq_true rfl) (Nat.le_of_ble_eq_true rfl) d_6_1_27 (fun q_2 H hP1 hD1 hS1 => ?_)
  replace hP : va_P D cls9 [(h0, .inr (2, [.ref h1, .ref h2, .ref q_1, .null, .null, .null, .null, .int 0, .int 0, .int 0, .int 0, .int 0, .int 0])), (q_1, .inl (kI, 333, .inl (fun _ => 0))), (q_2, .inl (kI, 333, .inl (fun _ => 0)))] H := hP1
  replace hD : va_D A [(h0, .inr (2, [.ref h1, .ref h2, .ref q_1, .null, .null, .null, .null, .int 0, .int 0, .int 0, .int 0, .int 0, .int 0])), (q_1, .inl (kI, 333, .inl (fun _ => 0))), (q_2, .inl (kI, 333, .inl (fun _ => 0)))] := hD1
  replace hS := hS1
  clear hP1 hD1 hS1
  refine W.widen (k := 2) (n := 666) (Nat.le_of_ble_eq_true rfl) (Nat.le_of_ble_eq_true rfl) ?_
  refine va_putF (D := D) (ci := 2) (v := .ref q_2) (ty := .array .int) (C := "AlgolJudge$Scopes") (T := T_Scopes) (N := 13) hx hb hts i_Scopes t_Scopes t_Scopes_ok n_Scopes hown hK hP hD hS 0 rfl rfl 3 (by decide +kernel) (hts _ m_288) (fun _ h9 => h9) rfl hin rfl (by decide +kernel) rfl rfl (Nat.le_of_ble_eq_true rfl) d_6_1_29 (fun H locs hP1 hD1 hS1 => ?_)
  replace hP : va_P D cls9 [(h0, .inr (2, [.ref h1, .ref h2, .ref q_1, .ref q_2, .null, .null, .null, .int 0, .int 0, .int 0, .int 0, .int 0, .int 0])), (q_1, .inl (kI, 333, .inl (fun _ => 0))), (q_2, .inl (kI, 333, .inl (fun _ => 0)))] H := hP1
  replace hD : va_D A [(h0, .inr (2, [.ref h1, .ref h2, .ref q_1, .ref q_2, .null, .null, .null, .int 0, .int 0, .int 0, .int 0, .int 0, .int 0])), (q_1, .inl (kI, 333, .inl (fun _ => 0))), (q_2, .inl (kI, 333, .inl (fun _ => 0)))] := hD1
  replace hS := hS1
  clear hP1 hD1 hS1
  refine lv_aload_n hx hb d_6_1_32 rfl (lv_at hl 0 rfl) ?_
  refine lv_sipush (v := 333) hx hb d_6_1_33 (by decide +kernel) ?_
  refine xa_newa (atype := .int) (a0 := (333, .inl (fun _ => 0))) (N' := 333) hx hb (hts _ m_235) rfl (fun _ h9 => h9) hK 0 rfl hP hD hS hA (fun _ => rfl) (by decide +kernel) (by decide +kernel) (by decide +kernel) (Nat.le_of_ble_eq_true rfl) (Nat.le_of_ble_eq_true rfl) d_6_1_36 (fun q_3 H hP1 hD1 hS1 => ?_)
  replace hP : va_P D cls9 [(h0, .inr (2, [.ref h1, .ref h2, .ref q_1, .ref q_2, .null, .null, .null, .int 0, .int 0, .int 0, .int 0, .int 0, .int 0])), (q_1, .inl (kI, 333, .inl (fun _ => 0))), (q_2, .inl (kI, 333, .inl (fun _ => 0))), (q_3, .inl (kI, 333, .inl (fun _ => 0)))] H := hP1
  replace hD : va_D A [(h0, .inr (2, [.ref h1, .ref h2, .ref q_1, .ref q_2, .null, .null, .null, .int 0, .int 0, .int 0, .int 0, .int 0, .int 0])), (q_1, .inl (kI, 333, .inl (fun _ => 0))), (q_2, .inl (kI, 333, .inl (fun _ => 0))), (q_3, .inl (kI, 333, .inl (fun _ => 0)))] := hD1
  replace hS := hS1
  clear hP1 hD1 hS1
  refine W.widen (k := 3) (n := 999) (Nat.le_of_ble_eq_true rfl) (Nat.le_of_ble_eq_true rfl) ?_
  refine va_putF (D := D) (ci := 2) (v := .ref q_3) (ty := .array .int) (C := "AlgolJudge$Scopes") (T := T_Scopes) (N := 13) hx hb hts i_Scopes t_Scopes t_Scopes_ok n_Scopes hown hK hP hD hS 0 rfl rfl 4 (by decide +kernel) (hts _ m_289) (fun _ h9 => h9) rfl hin rfl (by decide +kernel) rfl rfl (Nat.le_of_ble_eq_true rfl) d_6_1_38 (fun H locs hP1 hD1 hS1 => ?_)
  replace hP : va_P D cls9 [(h0, .inr (2, [.ref h1, .ref h2, .ref q_1, .ref q_2, .ref q_3, .null, .null, .int 0, .int 0, .int 0, .int 0, .int 0, .int 0])), (q_1, .inl (kI, 333, .inl (fun _ => 0))), (q_2, .inl (kI, 333, .inl (fun _ => 0))), (q_3, .inl (kI, 333, .inl (fun _ => 0)))] H := hP1
  replace hD : va_D A [(h0, .inr (2, [.ref h1, .ref h2, .ref q_1, .ref q_2, .ref q_3, .null, .null, .int 0, .int 0, .int 0, .int 0, .int 0, .int 0])), (q_1, .inl (kI, 333, .inl (fun _ => 0))), (q_2, .inl (kI, 333, .inl (fun _ => 0))), (q_3, .inl (kI, 333, .inl (fun _ => 0)))] := hD1
  replace hS := hS1
  clear hP1 hD1 hS1
  refine lv_aload_n hx hb d_6_1_41 rfl (lv_at hl 0 rfl) ?_
  refine lv_sipush (v := 333) hx hb d_6_1_42 (by decide +kernel) ?_
  refine xa_newa (atype := .int) (a0 := (333, .inl (fun _ => 0))) (N' := 333) hx hb (hts _ m_235) rfl (fun _ h9 => h9) hK 0 rfl hP hD hS hA (fun _ => rfl) (by decide +kernel) (by decide +kernel) (by decide +kernel) (Nat.le_of_ble_eq_true rfl) (Nat.le_of_ble_eq_true rfl) d_6_1_45 (fun q_4 H hP1 hD1 hS1 => ?_)
  replace hP : va_P D cls9 [(h0, .inr (2, [.ref h1, .ref h2, .ref q_1, .ref q_2, .ref q_3, .null, .null, .int 0, .int 0, .int 0, .int 0, .int 0, .int 0])), (q_1, .inl (kI, 333, .inl (fun _ => 0))), (q_2, .inl (kI, 333, .inl (fun _ => 0))), (q_3, .inl (kI, 333, .inl (fun _ => 0))), (q_4, .inl (kI, 333, .inl (fun _ => 0)))] H := hP1
  replace hD : va_D A [(h0, .inr (2, [.ref h1, .ref h2, .ref q_1, .ref q_2, .ref q_3, .null, .null, .int 0, .int 0, .int 0, .int 0, .int 0, .int 0])), (q_1, .inl (kI, 333, .inl (fun _ => 0))), (q_2, .inl (kI, 333, .inl (fun _ => 0))), (q_3, .inl (kI, 333, .inl (fun _ => 0))), (q_4, .inl (kI, 333, .inl (fun _ => 0)))] := hD1
  replace hS := hS1
  clear hP1 hD1 hS1
  refine W.widen (k := 4) (n := 1332) (Nat.le_of_ble_eq_true rfl) (Nat.le_of_ble_eq_true rfl) ?_
  refine va_putF (D := D) (ci := 2) (v := .ref q_4) (ty := .array .int) (C := "AlgolJudge$Scopes") (T := T_Scopes) (N := 13) hx hb hts i_Scopes t_Scopes t_Scopes_ok n_Scopes hown hK hP hD hS 0 rfl rfl 5 (by decide +kernel) (hts _ m_290) (fun _ h9 => h9) rfl hin rfl (by decide +kernel) rfl rfl (Nat.le_of_ble_eq_true rfl) d_6_1_47 (fun H locs hP1 hD1 hS1 => ?_)
  replace hP : va_P D cls9 [(h0, .inr (2, [.ref h1, .ref h2, .ref q_1, .ref q_2, .ref q_3, .ref q_4, .null, .int 0, .int 0, .int 0, .int 0, .int 0, .int 0])), (q_1, .inl (kI, 333, .inl (fun _ => 0))), (q_2, .inl (kI, 333, .inl (fun _ => 0))), (q_3, .inl (kI, 333, .inl (fun _ => 0))), (q_4, .inl (kI, 333, .inl (fun _ => 0)))] H := hP1
  replace hD : va_D A [(h0, .inr (2, [.ref h1, .ref h2, .ref q_1, .ref q_2, .ref q_3, .ref q_4, .null, .int 0, .int 0, .int 0, .int 0, .int 0, .int 0])), (q_1, .inl (kI, 333, .inl (fun _ => 0))), (q_2, .inl (kI, 333, .inl (fun _ => 0))), (q_3, .inl (kI, 333, .inl (fun _ => 0))), (q_4, .inl (kI, 333, .inl (fun _ => 0)))] := hD1
  replace hS := hS1
  clear hP1 hD1 hS1
  refine lv_aload_n hx hb d_6_1_50 rfl (lv_at hl 0 rfl) ?_
  refine lv_sipush (v := 3000) hx hb d_6_1_51 (by decide +kernel) ?_
  refine xa_newa (atype := .int) (a0 := (3000, .inl (fun _ => 0))) (N' := 3000) hx hb (hts _ m_235) rfl (fun _ h9 => h9) hK 0 rfl hP hD hS hA (fun _ => rfl) (by decide +kernel) (by decide +kernel) (by decide +kernel) (Nat.le_of_ble_eq_true rfl) (Nat.le_of_ble_eq_true rfl) d_6_1_54 (fun q_5 H hP1 hD1 hS1 => ?_)
  replace hP : va_P D cls9 [(h0, .inr (2, [.ref h1, .ref h2, .ref q_1, .ref q_2, .ref q_3, .ref q_4, .null, .int 0, .int 0, .int 0, .int 0, .int 0, .int 0])), (q_1, .inl (kI, 333, .inl (fun _ => 0))), (q_2, .inl (kI, 333, .inl (fun _ => 0))), (q_3, .inl (kI, 333, .inl (fun _ => 0))), (q_4, .inl (kI, 333, .inl (fun _ => 0))), (q_5, .inl (kI, 3000, .inl (fun _ => 0)))] H := hP1
  replace hD : va_D A [(h0, .inr (2, [.ref h1, .ref h2, .ref q_1, .ref q_2, .ref q_3, .ref q_4, .null, .int 0, .int 0, .int 0, .int 0, .int 0, .int 0])), (q_1, .inl (kI, 333, .inl (fun _ => 0))), (q_2, .inl (kI, 333, .inl (fun _ => 0))), (q_3, .inl (kI, 333, .inl (fun _ => 0))), (q_4, .inl (kI, 333, .inl (fun _ => 0))), (q_5, .inl (kI, 3000, .inl (fun _ => 0)))] := hD1
  replace hS := hS1
  clear hP1 hD1 hS1
  refine W.widen (k := 5) (n := 4332) (Nat.le_of_ble_eq_true rfl) (Nat.le_of_ble_eq_true rfl) ?_
  refine va_putF (D := D) (ci := 2) (v := .ref q_5) (ty := .array .int) (C := "AlgolJudge$Scopes") (T := T_Scopes) (N := 13) hx hb hts i_Scopes t_Scopes t_Scopes_ok n_Scopes hown hK hP hD hS 0 rfl rfl 6 (by decide +kernel) (hts _ m_291) (fun _ h9 => h9) rfl hin rfl (by decide +kernel) rfl rfl (Nat.le_of_ble_eq_true rfl) d_6_1_56 (fun H locs hP1 hD1 hS1 => ?_)
  replace hP : va_P D cls9 [(h0, .inr (2, [.ref h1, .ref h2, .ref q_1, .ref q_2, .ref q_3, .ref q_4, .ref q_5, .int 0, .int 0, .int 0, .int 0, .int 0, .int 0])), (q_1, .inl (kI, 333, .inl (fun _ => 0))), (q_2, .inl (kI, 333, .inl (fun _ => 0))), (q_3, .inl (kI, 333, .inl (fun _ => 0))), (q_4, .inl (kI, 333, .inl (fun _ => 0))), (q_5, .inl (kI, 3000, .inl (fun _ => 0)))] H := hP1
  replace hD : va_D A [(h0, .inr (2, [.ref h1, .ref h2, .ref q_1, .ref q_2, .ref q_3, .ref q_4, .ref q_5, .int 0, .int 0, .int 0, .int 0, .int 0, .int 0])), (q_1, .inl (kI, 333, .inl (fun _ => 0))), (q_2, .inl (kI, 333, .inl (fun _ => 0))), (q_3, .inl (kI, 333, .inl (fun _ => 0))), (q_4, .inl (kI, 333, .inl (fun _ => 0))), (q_5, .inl (kI, 3000, .inl (fun _ => 0)))] := hD1
  replace hS := hS1
  clear hP1 hD1 hS1
  refine lv_aload_n hx hb d_6_1_59 rfl (lv_at hl 0 rfl) ?_
  refine lv_iconst (v := 0) hx hb d_6_1_60 (by decide +kernel) ?_
  refine va_put (D := D) (ci := 2) (v := .int 0) (ty := .int) (C := "AlgolJudge$Scopes") (T := T_Scopes) (N := 13) hx hb hts i_Scopes t_Scopes t_Scopes_ok n_Scopes hown hK hP hD hS 0 rfl rfl 7 (by decide +kernel) (hts _ m_292) (fun _ h9 => h9) rfl (by decide +kernel) rfl rfl (Nat.le_of_ble_eq_true rfl) d_6_1_61 (fun H locs hP1 hD1 hS1 => ?_)
  replace hP : va_P D cls9 [(h0, .inr (2, [.ref h1, .ref h2, .ref q_1, .ref q_2, .ref q_3, .ref q_4, .ref q_5, .int 0, .int 0, .int 0, .int 0, .int 0, .int 0])), (q_1, .inl (kI, 333, .inl (fun _ => 0))), (q_2, .inl (kI, 333, .inl (fun _ => 0))), (q_3, .inl (kI, 333, .inl (fun _ => 0))), (q_4, .inl (kI, 333, .inl (fun _ => 0))), (q_5, .inl (kI, 3000, .inl (fun _ => 0)))] H := hP1
  replace hD : va_D A [(h0, .inr (2, [.ref h1, .ref h2, .ref q_1, .ref q_2, .ref q_3, .ref q_4, .ref q_5, .int 0, .int 0, .int 0, .int 0, .int 0, .int 0])), (q_1, .inl (kI, 333, .inl (fun _ => 0))), (q_2, .inl (kI, 333, .inl (fun _ => 0))), (q_3, .inl (kI, 333, .inl (fun _ => 0))), (q_4, .inl (kI, 333, .inl (fun _ => 0))), (q_5, .inl (kI, 3000, .inl (fun _ => 0)))] := hD1
  replace hS := hS1
  clear hP1 hD1 hS1
  refine lv_aload_n hx hb d_6_1_64 rfl (lv_at hl 0 rfl) ?_
  refine lv_iconst (v := 0) hx hb d_6_1_65 (by decide +kernel) ?_
  refine va_put (D := D) (ci := 2) (v := .int 0) (ty := .int) (C := "AlgolJudge$Scopes") (T := T_Scopes) (N := 13) hx hb hts i_Scopes t_Scopes t_Scopes_ok n_Scopes hown hK hP hD hS 0 rfl rfl 8 (by decide +kernel) (hts _ m_293) (fun _ h9 => h9) rfl (by decide +kernel) rfl rfl (Nat.le_of_ble_eq_true rfl) d_6_1_66 (fun H locs hP1 hD1 hS1 => ?_)
  replace hP : va_P D cls9 [(h0, .inr (2, [.ref h1, .ref h2, .ref q_1, .ref q_2, .ref q_3, .ref q_4, .ref q_5, .int 0, .int 0, .int 0, .int 0, .int 0, .int 0])), (q_1, .inl (kI, 333, .inl (fun _ => 0))), (q_2, .inl (kI, 333, .inl (fun _ => 0))), (q_3, .inl (kI, 333, .inl (fun _ => 0))), (q_4, .inl (kI, 333, .inl (fun _ => 0))), (q_5, .inl (kI, 3000, .inl (fun _ => 0)))] H := hP1
  replace hD : va_D A [(h0, .inr (2, [.ref h1, .ref h2, .ref q_1, .ref q_2, .ref q_3, .ref q_4, .ref q_5, .int 0, .int 0, .int 0, .int 0, .int 0, .int 0])), (q_1, .inl (kI, 333, .inl (fun _ => 0))), (q_2, .inl (kI, 333, .inl (fun _ => 0))), (q_3, .inl (kI, 333, .inl (fun _ => 0))), (q_4, .inl (kI, 333, .inl (fun _ => 0))), (q_5, .inl (kI, 3000, .inl (fun _ => 0)))] := hD1
  replace hS := hS1
  clear hP1 hD1 hS1
  refine lv_aload_n hx hb d_6_1_69 rfl (lv_at hl 0 rfl) ?_
  refine lv_iconst (v := (-1)) hx hb d_6_1_70 (by decide +kernel) ?_
  refine va_put (D := D) (ci := 2) (v := .int (-1)) (ty := .int) (C := "AlgolJudge$Scopes") (T := T_Scopes) (N := 13) hx hb hts i_Scopes t_Scopes t_Scopes_ok n_Scopes hown hK hP hD hS 0 rfl rfl 9 (by decide +kernel) (hts _ m_294) (fun _ h9 => h9) rfl (by decide +kernel) rfl rfl (Nat.le_of_ble_eq_true rfl) d_6_1_71 (fun H locs hP1 hD1 hS1 => ?_)
  replace hP : va_P D cls9 [(h0, .inr (2, [.ref h1, .ref h2, .ref q_1, .ref q_2, .ref q_3, .ref q_4, .ref q_5, .int 0, .int 0, .int (-1), .int 0, .int 0, .int 0])), (q_1, .inl (kI, 333, .inl (fun _ => 0))), (q_2, .inl (kI, 333, .inl (fun _ => 0))), (q_3, .inl (kI, 333, .inl (fun _ => 0))), (q_4, .inl (kI, 333, .inl (fun _ => 0))), (q_5, .inl (kI, 3000, .inl (fun _ => 0)))] H := hP1
  replace hD : va_D A [(h0, .inr (2, [.ref h1, .ref h2, .ref q_1, .ref q_2, .ref q_3, .ref q_4, .ref q_5, .int 0, .int 0, .int (-1), .int 0, .int 0, .int 0])), (q_1, .inl (kI, 333, .inl (fun _ => 0))), (q_2, .inl (kI, 333, .inl (fun _ => 0))), (q_3, .inl (kI, 333, .inl (fun _ => 0))), (q_4, .inl (kI, 333, .inl (fun _ => 0))), (q_5, .inl (kI, 3000, .inl (fun _ => 0)))] := hD1
  replace hS := hS1
  clear hP1 hD1 hS1
  refine lv_aload_n hx hb d_6_1_74 rfl (lv_at hl 0 rfl) ?_
  refine lv_iconst (v := (-1)) hx hb d_6_1_75 (by decide +kernel) ?_
  refine va_put (D := D) (ci := 2) (v := .int (-1)) (ty := .int) (C := "AlgolJudge$Scopes") (T := T_Scopes) (N := 13) hx hb hts i_Scopes t_Scopes t_Scopes_ok n_Scopes hown hK hP hD hS 0 rfl rfl 10 (by decide +kernel) (hts _ m_295) (fun _ h9 => h9) rfl (by decide +kernel) rfl rfl (Nat.le_of_ble_eq_true rfl) d_6_1_76 (fun H locs hP1 hD1 hS1 => ?_)
  replace hP : va_P D cls9 [(h0, .inr (2, [.ref h1, .ref h2, .ref q_1, .ref q_2, .ref q_3, .ref q_4, .ref q_5, .int 0, .int 0, .int (-1), .int (-1), .int 0, .int 0])), (q_1, .inl (kI, 333, .inl (fun _ => 0))), (q_2, .inl (kI, 333, .inl (fun _ => 0))), (q_3, .inl (kI, 333, .inl (fun _ => 0))), (q_4, .inl (kI, 333, .inl (fun _ => 0))), (q_5, .inl (kI, 3000, .inl (fun _ => 0)))] H := hP1
  replace hD : va_D A [(h0, .inr (2, [.ref h1, .ref h2, .ref q_1, .ref q_2, .ref q_3, .ref q_4, .ref q_5, .int 0, .int 0, .int (-1), .int (-1), .int 0, .int 0])), (q_1, .inl (kI, 333, .inl (fun _ => 0))), (q_2, .inl (kI, 333, .inl (fun _ => 0))), (q_3, .inl (kI, 333, .inl (fun _ => 0))), (q_4, .inl (kI, 333, .inl (fun _ => 0))), (q_5, .inl (kI, 3000, .inl (fun _ => 0)))] := hD1
  replace hS := hS1
  clear hP1 hD1 hS1
  refine lv_aload_n hx hb d_6_1_79 rfl (lv_at hl 0 rfl) ?_
  refine lv_sipush (v := 3001) hx hb d_6_1_80 (by decide +kernel) ?_
  refine va_put (D := D) (ci := 2) (v := .int 3001) (ty := .int) (C := "AlgolJudge$Scopes") (T := T_Scopes) (N := 13) hx hb hts i_Scopes t_Scopes t_Scopes_ok n_Scopes hown hK hP hD hS 0 rfl rfl 11 (by decide +kernel) (hts _ m_296) (fun _ h9 => h9) rfl (by decide +kernel) rfl rfl (Nat.le_of_ble_eq_true rfl) d_6_1_83 (fun H locs hP1 hD1 hS1 => ?_)
  replace hP : va_P D cls9 [(h0, .inr (2, [.ref h1, .ref h2, .ref q_1, .ref q_2, .ref q_3, .ref q_4, .ref q_5, .int 0, .int 0, .int (-1), .int (-1), .int 3001, .int 0])), (q_1, .inl (kI, 333, .inl (fun _ => 0))), (q_2, .inl (kI, 333, .inl (fun _ => 0))), (q_3, .inl (kI, 333, .inl (fun _ => 0))), (q_4, .inl (kI, 333, .inl (fun _ => 0))), (q_5, .inl (kI, 3000, .inl (fun _ => 0)))] H := hP1
  replace hD : va_D A [(h0, .inr (2, [.ref h1, .ref h2, .ref q_1, .ref q_2, .ref q_3, .ref q_4, .ref q_5, .int 0, .int 0, .int (-1), .int (-1), .int 3001, .int 0])), (q_1, .inl (kI, 333, .inl (fun _ => 0))), (q_2, .inl (kI, 333, .inl (fun _ => 0))), (q_3, .inl (kI, 333, .inl (fun _ => 0))), (q_4, .inl (kI, 333, .inl (fun _ => 0))), (q_5, .inl (kI, 3000, .inl (fun _ => 0)))] := hD1
  replace hS := hS1
  clear hP1 hD1 hS1
  refine lv_aload_n hx hb d_6_1_86 rfl (lv_at hl 0 rfl) ?_
  refine lv_iconst (v := 0) hx hb d_6_1_87 (by decide +kernel) ?_
  refine va_put (D := D) (ci := 2) (v := .int 0) (ty := .boolean) (C := "AlgolJudge$Scopes") (T := T_Scopes) (N := 13) hx hb hts i_Scopes t_Scopes t_Scopes_ok n_Scopes hown hK hP hD hS 0 rfl rfl 12 (by decide +kernel) (hts _ m_297) (fun _ h9 => h9) rfl (by decide +kernel) (by decide +kernel) (by decide +kernel) (Nat.le_of_ble_eq_true rfl) d_6_1_88 (fun H locs hP1 hD1 hS1 => ?_)
  replace hP : va_P D cls9 [(h0, .inr (2, [.ref h1, .ref h2, .ref q_1, .ref q_2, .ref q_3, .ref q_4, .ref q_5, .int 0, .int 0, .int (-1), .int (-1), .int 3001, .int 0])), (q_1, .inl (kI, 333, .inl (fun _ => 0))), (q_2, .inl (kI, 333, .inl (fun _ => 0))), (q_3, .inl (kI, 333, .inl (fun _ => 0))), (q_4, .inl (kI, 333, .inl (fun _ => 0))), (q_5, .inl (kI, 3000, .inl (fun _ => 0)))] H := hP1
  replace hD : va_D A [(h0, .inr (2, [.ref h1, .ref h2, .ref q_1, .ref q_2, .ref q_3, .ref q_4, .ref q_5, .int 0, .int 0, .int (-1), .int (-1), .int 3001, .int 0])), (q_1, .inl (kI, 333, .inl (fun _ => 0))), (q_2, .inl (kI, 333, .inl (fun _ => 0))), (q_3, .inl (kI, 333, .inl (fun _ => 0))), (q_4, .inl (kI, 333, .inl (fun _ => 0))), (q_5, .inl (kI, 3000, .inl (fun _ => 0)))] := hD1
  replace hS := hS1
  clear hP1 hD1 hS1
  have hP9 := hP.sub (ws' := [(h0, .inr (2, [.ref h1, .ref h2, .ref q_1, .ref q_2, .ref q_3, .ref q_4, .ref q_5, .int 0, .int 0, .int (-1), .int (-1), .int 3001, .int 0])), (q_1, .inl (kI, 333, .inl (fun _ => 0))), (q_2, .inl (kI, 333, .inl (fun _ => 0))), (q_3, .inl (kI, 333, .inl (fun _ => 0))), (q_4, .inl (kI, 333, .inl (fun _ => 0))), (q_5, .inl (kI, 3000, .inl (fun _ => 0)))]) [0, 1, 2, 3, 4, 5] rfl
  have hD9 := hD.sub (ws' := [(h0, .inr (2, [.ref h1, .ref h2, .ref q_1, .ref q_2, .ref q_3, .ref q_4, .ref q_5, .int 0, .int 0, .int (-1), .int (-1), .int 3001, .int 0])), (q_1, .inl (kI, 333, .inl (fun _ => 0))), (q_2, .inl (kI, 333, .inl (fun _ => 0))), (q_3, .inl (kI, 333, .inl (fun _ => 0))), (q_4, .inl (kI, 333, .inl (fun _ => 0))), (q_5, .inl (kI, 3000, .inl (fun _ => 0)))]) [0, 1, 2, 3, 4, 5] (by decide +kernel) rfl
  exact W.vret hx hb hr (fun t ht hW => ⟨⟨(), rfl, trivial, q_1, q_2, q_3, q_4, q_5, xEnd hK hP9 hD9 ht hW⟩, hS.F ht⟩) hS.2.2 d_6_1_91
set_option maxHeartbeats 4000000 in
set_option maxRecDepth 100000 in
theorem c_Rules_init_0 (l : Launch) (D : va_G) (kI kJ kB kZ : ClassId) (sz : Nat) (h0 : Nat) (h1 : Nat) (h2 : Nat) : Met l (⟨"AlgolJudge$Rules", "<init>", "(LAlgolJudge$Table;LAlgolJudge$Scopes;)V"⟩ : MethodName) (Cond.code (⟨"AlgolJudge$Rules", "<init>", "(LAlgolJudge$Table;LAlgolJudge$Scopes;)V"⟩ : MethodName) prog_5_method_1_code 3 (none) :: gT) ({ frames := 1, cells := 0, slots := 0, locals := 12 }) (va_Pc [.ref h0, .ref h1, .ref h2] (xP D (xT kI kJ kB kZ) xN [(h0, .inr (3, [.null, .null]))] sz)) (va_Qv (fun _ : Unit => True) (fun _ t => xQ D (xT kI kJ kB kZ) (va_A [(h0, .inr (3, [.null, .null]))] sz) [(h0, .inr (3, [.ref h1, .ref h2]))] t) (va_A [(h0, .inr (3, [.null, .null]))] sz)) 0 0 (va_A [(h0, .inr (3, [.null, .null]))] sz) := by
  refine Met.ofW (cc := prog_5_method_1_code) (maxL := 3) (ret := none) (by decide +kernel) rfl ?_
  intro p e s m args below meth c s₁ B hml hv
  obtain ⟨rfl, hsz, hP, hK, hD0, hE⟩ := hv
  have hx := B.exec
  have hb := B.bytes
  have hr := B.returns
  have hts : ∀ w ∈ gT, w.before _ s = true := fun w h => atoms_spec (ws := Cond.code (⟨"AlgolJudge$Rules", "<init>", "(LAlgolJudge$Table;LAlgolJudge$Scopes;)V"⟩ : MethodName) prog_5_method_1_code 3 (none) :: gT) B.pre w (List.mem_cons_of_mem _ h)
  have hown : s.vm.findClass "AlgolJudge$Rules" = some m.cls := findClass_of_methodNamed B.named
  have hlocks := B.notSynchronized
  have hin : meth.name = "<init>" := (name_of_methodNamed B.named B.method).1
  subst hsz
  have hD := hD0.self (sz := s.heap.size)
  generalize hAe : va_A [(h0, .inr (3, [.null, .null]))] s.heap.size = A at hD hE ⊢
  have hA : ∀ q : Nat, s.heap.size ≤ q → A q := fun q h => by rw [← hAe]; exact Or.inr h
  have hS : va_S A s.heap s.heap [] := va_S.rf
  have hP : va_P D cls9 [(h0, .inr (3, [.null, .null]))] s.heap := hP
  have hl := lv_entry ([.ref h0, .ref h1, .ref h2]) (n := 3) (Nat.le_of_ble_eq_true rfl)
  rw [lg_entry_eq]
  generalize (lg_sl ([.ref h0, .ref h1, .ref h2]) ++ List.replicate (3 - (lg_sl ([.ref h0, .ref h1, .ref h2])).length) Slot.unset).toArray = ls at hl ⊢
  have hl : lv_has ls 3 [(0, .ref h0), (1, .ref h1), (2, .ref h2)] := hl
  refine lv_aload_n hx hb d_5_1_0 rfl (lv_at hl 0 rfl) ?_
  refine W.objInit hx hb hown (hts _ m_332) (hts _ m_142) (hts _ m_obj) rfl (by rw [hml]; exact hl.1) rfl d_5_1_1 (Nat.le_of_ble_eq_true rfl) (Nat.le_of_ble_eq_true rfl) ?_
  refine W.eq (g2 := F0 m 4 ls []) rfl ?_
  refine lv_aload_n hx hb d_5_1_4 rfl (lv_at hl 0 rfl) ?_
  refine lv_aload_n hx hb d_5_1_5 rfl (lv_at hl 1 rfl) ?_
  refine va_putF (D := D) (ci := 3) (v := .ref h1) (ty := .object "AlgolJudge$Table") (C := "AlgolJudge$Rules") (T := T_Rules) (N := 2) hx hb hts i_Rules t_Rules t_Rules_ok n_Rules hown hK hP hD hS 0 rfl rfl 0 (by decide +kernel) (hts _ m_333) (fun _ h9 => h9) rfl hin rfl (by decide +kernel) rfl rfl (Nat.le_of_ble_eq_true rfl) d_5_1_6 (fun H locs hP1 hD1 hS1 => ?_)
  replace hP : va_P D cls9 [(h0, .inr (3, [.ref h1, .null]))] H := hP1
  replace hD : va_D A [(h0, .inr (3, [.ref h1, .null]))] := hD1
  replace hS := hS1
  clear hP1 hD1 hS1
  refine lv_aload_n hx hb d_5_1_9 rfl (lv_at hl 0 rfl) ?_
  refine lv_aload_n hx hb d_5_1_10 rfl (lv_at hl 2 rfl) ?_
  refine va_putF (D := D) (ci := 3) (v := .ref h2) (ty := .object "AlgolJudge$Scopes") (C := "AlgolJudge$Rules") (T := T_Rules) (N := 2) hx hb hts i_Rules t_Rules t_Rules_ok n_Rules hown hK hP hD hS 0 rfl rfl 1 (by decide +kernel) (hts _ m_334) (fun _ h9 => h9) rfl hin rfl (by decide +kernel) rfl rfl (Nat.le_of_ble_eq_true rfl) d_5_1_11 (fun H locs hP1 hD1 hS1 => ?_)
  replace hP : va_P D cls9 [(h0, .inr (3, [.ref h1, .ref h2]))] H := hP1
  replace hD : va_D A [(h0, .inr (3, [.ref h1, .ref h2]))] := hD1
  replace hS := hS1
  clear hP1 hD1 hS1
  have hP9 := hP.sub (ws' := [(h0, .inr (3, [.ref h1, .ref h2]))]) [0] rfl
  have hD9 := hD.sub (ws' := [(h0, .inr (3, [.ref h1, .ref h2]))]) [0] (by decide +kernel) rfl
  exact W.vret hx hb hr (fun t ht hW => ⟨⟨(), rfl, trivial, xEnd hK hP9 hD9 ht hW⟩, hS.F ht⟩) hS.2.2 d_5_1_14
set_option maxHeartbeats 4000000 in
set_option maxRecDepth 100000 in
theorem c_Expressions_init_0 (l : Launch) (D : va_G) (kI kJ kB kZ : ClassId) (sz : Nat) (h0 : Nat) (h1 : Nat) (h2 : Nat) (h3 : Nat) : Met l (⟨"AlgolJudge$Expressions", "<init>", "(LAlgolJudge$Tokens;LAlgolJudge$Scopes;LAlgolJudge$Rules;)V"⟩ : MethodName) (Cond.code (⟨"AlgolJudge$Expressions", "<init>", "(LAlgolJudge$Tokens;LAlgolJudge$Scopes;LAlgolJudge$Rules;)V"⟩ : MethodName) prog_4_method_1_code 4 (none) :: gT) ({ frames := 1, cells := 0, slots := 0, locals := 12 }) (va_Pc [.ref h0, .ref h1, .ref h2, .ref h3] (xP D (xT kI kJ kB kZ) xN [(h0, .inr (4, [.null, .null, .null]))] sz)) (va_Qv (fun _ : Unit => True) (fun _ t => xQ D (xT kI kJ kB kZ) (va_A [(h0, .inr (4, [.null, .null, .null]))] sz) [(h0, .inr (4, [.ref h1, .ref h2, .ref h3]))] t) (va_A [(h0, .inr (4, [.null, .null, .null]))] sz)) 0 0 (va_A [(h0, .inr (4, [.null, .null, .null]))] sz) := by
  refine Met.ofW (cc := prog_4_method_1_code) (maxL := 4) (ret := none) (by decide +kernel) rfl ?_
  intro p e s m args below meth c s₁ B hml hv
  obtain ⟨rfl, hsz, hP, hK, hD0, hE⟩ := hv
  have hx := B.exec
  have hb := B.bytes
  have hr := B.returns
  have hts : ∀ w ∈ gT, w.before _ s = true := fun w h => atoms_spec (ws := Cond.code (⟨"AlgolJudge$Expressions", "<init>", "(LAlgolJudge$Tokens;LAlgolJudge$Scopes;LAlgolJudge$Rules;)V"⟩ : MethodName) prog_4_method_1_code 4 (none) :: gT) B.pre w (List.mem_cons_of_mem _ h)
  have hown : s.vm.findClass "AlgolJudge$Expressions" = some m.cls := findClass_of_methodNamed B.named
  have hlocks := B.notSynchronized
  have hin : meth.name = "<init>" := (name_of_methodNamed B.named B.method).1
  subst hsz
  have hD := hD0.self (sz := s.heap.size)
  generalize hAe : va_A [(h0, .inr (4, [.null, .null, .null]))] s.heap.size = A at hD hE ⊢
  have hA : ∀ q : Nat, s.heap.size ≤ q → A q := fun q h => by rw [← hAe]; exact Or.inr h
  have hS : va_S A s.heap s.heap [] := va_S.rf
  have hP : va_P D cls9 [(h0, .inr (4, [.null, .null, .null]))] s.heap := hP
  have hl := lv_entry ([.ref h0, .ref h1, .ref h2, .ref h3]) (n := 4) (Nat.le_of_ble_eq_true rfl)
  rw [lg_entry_eq]
  generalize (lg_sl ([.ref h0, .ref h1, .ref h2, .ref h3]) ++ List.replicate (4 - (lg_sl ([.ref h0, .ref h1, .ref h2, .ref h3])).length) Slot.unset).toArray = ls at hl ⊢
  have hl : lv_has ls 4 [(0, .ref h0), (1, .ref h1), (2, .ref h2), (3, .ref h3)] := hl
  refine lv_aload_n hx hb d_4_1_0 rfl (lv_at hl 0 rfl) ?_
  refine W.objInit hx hb hown (hts _ m_349) (hts _ m_142) (hts _ m_obj) rfl (by rw [hml]; exact hl.1) rfl d_4_1_1 (Nat.le_of_ble_eq_true rfl) (Nat.le_of_ble_eq_true rfl) ?_
  refine W.eq (g2 := F0 m 4 ls []) rfl ?_
  refine lv_aload_n hx hb d_4_1_4 rfl (lv_at hl 0 rfl) ?_
  refine lv_aload_n hx hb d_4_1_5 rfl (lv_at hl 1 rfl) ?_
  refine va_putF (D := D) (ci := 4) (v := .ref h1) (ty := .object "AlgolJudge$Tokens") (C := "AlgolJudge$Expressions") (T := T_Expr) (N := 3) hx hb hts i_Expr t_Expr t_Expr_ok n_Expr hown hK hP hD hS 0 rfl rfl 0 (by decide +kernel) (hts _ m_350) (fun _ h9 => h9) rfl hin rfl (by decide +kernel) rfl rfl (Nat.le_of_ble_eq_true rfl) d_4_1_6 (fun H locs hP1 hD1 hS1 => ?_)
  replace hP : va_P D cls9 [(h0, .inr (4, [.ref h1, .null, .null]))] H := hP1
  replace hD : va_D A [(h0, .inr (4, [.ref h1, .null, .null]))] := hD1
  replace hS := hS1
  clear hP1 hD1 hS1
  refine lv_aload_n hx hb d_4_1_9 rfl (lv_at hl 0 rfl) ?_
  refine lv_aload_n hx hb d_4_1_10 rfl (lv_at hl 2 rfl) ?_
  refine va_putF (D := D) (ci := 4) (v := .ref h2) (ty := .object "AlgolJudge$Scopes") (C := "AlgolJudge$Expressions") (T := T_Expr) (N := 3) hx hb hts i_Expr t_Expr t_Expr_ok n_Expr hown hK hP hD hS 0 rfl rfl 1 (by decide +kernel) (hts _ m_351) (fun _ h9 => h9) rfl hin rfl (by decide +kernel) rfl rfl (Nat.le_of_ble_eq_true rfl) d_4_1_11 (fun H locs hP1 hD1 hS1 => ?_)
  replace hP : va_P D cls9 [(h0, .inr (4, [.ref h1, .ref h2, .null]))] H := hP1
  replace hD : va_D A [(h0, .inr (4, [.ref h1, .ref h2, .null]))] := hD1
  replace hS := hS1
  clear hP1 hD1 hS1
  refine lv_aload_n hx hb d_4_1_14 rfl (lv_at hl 0 rfl) ?_
  refine lv_aload_n hx hb d_4_1_15 rfl (lv_at hl 3 rfl) ?_
  refine va_putF (D := D) (ci := 4) (v := .ref h3) (ty := .object "AlgolJudge$Rules") (C := "AlgolJudge$Expressions") (T := T_Expr) (N := 3) hx hb hts i_Expr t_Expr t_Expr_ok n_Expr hown hK hP hD hS 0 rfl rfl 2 (by decide +kernel) (hts _ m_352) (fun _ h9 => h9) rfl hin rfl (by decide +kernel) rfl rfl (Nat.le_of_ble_eq_true rfl) d_4_1_16 (fun H locs hP1 hD1 hS1 => ?_)
  replace hP : va_P D cls9 [(h0, .inr (4, [.ref h1, .ref h2, .ref h3]))] H := hP1
  replace hD : va_D A [(h0, .inr (4, [.ref h1, .ref h2, .ref h3]))] := hD1
  replace hS := hS1
  clear hP1 hD1 hS1
  have hP9 := hP.sub (ws' := [(h0, .inr (4, [.ref h1, .ref h2, .ref h3]))]) [0] rfl
  have hD9 := hD.sub (ws' := [(h0, .inr (4, [.ref h1, .ref h2, .ref h3]))]) [0] (by decide +kernel) rfl
  exact W.vret hx hb hr (fun t ht hW => ⟨⟨(), rfl, trivial, xEnd hK hP9 hD9 ht hW⟩, hS.F ht⟩) hS.2.2 d_4_1_19
