set_option maxHeartbeats 4000000 in
set_option maxRecDepth 100000 in
theorem c_String_checkIndex_0 (l : Launch) (D : va_G) (kI kJ kB kZ : ClassId) (sz : Nat) (j : Nat) (wA wV bA : Nat) (hj : j < 138) : Met l (⟨"java/lang/String", "checkIndex", "(II)V"⟩ : MethodName) (Cond.code (⟨"java/lang/String", "checkIndex", "(II)V"⟩ : MethodName) prog_13_method_155_code 2 (none) :: gT) ({ frames := 1, cells := 0, slots := 0, locals := 22 }) (va_Pc [.int (nI j), .int 138] (xP D (xT kI kJ kB kZ) (xE wA wV bA) [] sz)) (va_Qv (fun _ : Unit => True) (fun _ t => xQ D (xT kI kJ kB kZ) (va_A [] sz) [] t) (va_A [] sz)) 0 0 (va_A [] sz) := by
  refine Met.ofW (cc := prog_13_method_155_code) (maxL := 2) (ret := none) (by decide +kernel) rfl ?_
  intro p e s m args below meth c s₁ B hml hv
  obtain ⟨rfl, hsz, hP, hK, hD0, hE⟩ := hv
  have hx := B.exec
  have hb := B.bytes
  have hr := B.returns
  have hts : ∀ w ∈ gT, w.before _ s = true := fun w h => atoms_spec (ws := Cond.code (⟨"java/lang/String", "checkIndex", "(II)V"⟩ : MethodName) prog_13_method_155_code 2 (none) :: gT) B.pre w (List.mem_cons_of_mem _ h)
  have hown : s.vm.findClass "java/lang/String" = some m.cls := findClass_of_methodNamed B.named
  have hlocks := B.notSynchronized
  subst hsz
  have hD := hD0.self (sz := s.heap.size)
  generalize hAe : va_A [] s.heap.size = A at hD hE ⊢
  have hA : ∀ q : Nat, s.heap.size ≤ q → A q := fun q h => by rw [← hAe]; exact Or.inr h
  have hS : va_S A s.heap s.heap [] := va_S.rf
  have hP : va_P D cls9 [] s.heap := hP
  have hl := lv_entry ([.int (nI j), .int 138]) (n := 2) (Nat.le_of_ble_eq_true rfl)
  rw [lg_entry_eq]
  generalize (lg_sl ([.int (nI j), .int 138]) ++ List.replicate (2 - (lg_sl ([.int (nI j), .int 138])).length) Slot.unset).toArray = ls at hl ⊢
  have hl : lv_has ls 2 [(0, .int (nI j)), (1, .int 138)] := hl
  refine lv_iload_n hx hb d_13_155_0 rfl (lv_at hl 0 rfl) ?_
  refine lv_iload_n hx hb d_13_155_1 rfl (lv_at hl 1 rfl) ?_
  rcases xE_Zq hE with hz | ⟨sF, hz⟩
  · skip
    refine va_gets hx hb hz hS hown (hts _ m_179) (fun _ h9 => h9) d_13_155_2 ?_
    have hPc := hP.sub (ws' := []) [] rfl
    have hDc := hD.sub (ws' := []) [] (by decide +kernel) rfl
    have hFc := va_free (wc := []) hD hS hA [] rfl
    refine va_calli (va_runS (As := [.int (nI j), .int 138, .null]) (rest := []) ⟨hx, hb, hml, hown, hts⟩ (c_Preconditions_checkIndex_0 l D kI kJ kB kZ _ (j) hj) (va_cwS 3 hts (gT_S m_181 m_182 m_124 (gT_ws m_183)) rfl rfl rfl (by decide +kernel) ⟨(Nat.le_of_ble_eq_true rfl), (Nat.le_of_ble_eq_true rfl)⟩) ⟨xBlind xOk_N, xAtN hK hPc hDc⟩ rfl rfl hl.1 rfl (lv_room (Nat.le_of_ble_eq_true rfl)) d_13_155_5 ⟨(Nat.le_of_ble_eq_true rfl), (Nat.le_of_ble_eq_true rfl)⟩) hS (fun q _ h => hFc q h) hFc (fun r_1 u t H1 locs ht hvm hw hB hz1 hk1 hS => ?_)
    obtain ⟨hP, hD⟩ := xJoin (wr := []) (w1 := []) hP hD [] [] rfl rfl (by decide +kernel) (by decide +kernel) hk1 hFc ht hB
    generalize H1 = H at hP hS ⊢
    have hP : va_P D cls9 [] H := hP
    have hD : va_D A [] := hD
    obtain rfl : r_1 = (nI j) := hw
    refine lv_pop hx hb d_13_155_8 rfl ?_
    have hP9 := hP.sub (ws' := []) [] rfl
    have hD9 := hD.sub (ws' := []) [] (by decide +kernel) rfl
    exact W.vret hx hb hr (fun t ht hW => ⟨⟨(), rfl, trivial, xEnd hK hP9 hD9 ht hW⟩, hS.F ht⟩) hS.2.2 d_13_155_9
  · skip
    refine va_gets hx hb hz hS hown (hts _ m_179) (fun _ h9 => h9) d_13_155_2 ?_
    have hPc := hP.sub (ws' := []) [] rfl
    have hDc := hD.sub (ws' := []) [] (by decide +kernel) rfl
    have hFc := va_free (wc := []) hD hS hA [] rfl
    refine va_calli (va_runS (As := [.int (nI j), .int 138, .ref sF]) (rest := []) ⟨hx, hb, hml, hown, hts⟩ (c_Preconditions_checkIndex_1 l D kI kJ kB kZ _ (j) (sF) hj) (va_cwS 3 hts (gT_S m_181 m_182 m_124 (gT_ws m_183)) rfl rfl rfl (by decide +kernel) ⟨(Nat.le_of_ble_eq_true rfl), (Nat.le_of_ble_eq_true rfl)⟩) ⟨xBlind xOk_N, xAtN hK hPc hDc⟩ rfl rfl hl.1 rfl (lv_room (Nat.le_of_ble_eq_true rfl)) d_13_155_5 ⟨(Nat.le_of_ble_eq_true rfl), (Nat.le_of_ble_eq_true rfl)⟩) hS (fun q _ h => hFc q h) hFc (fun r_2 u t H1 locs ht hvm hw hB hz1 hk1 hS => ?_)
    obtain ⟨hP, hD⟩ := xJoin (wr := []) (w1 := []) hP hD [] [] rfl rfl (by decide +kernel) (by decide +kernel) hk1 hFc ht hB
    generalize H1 = H at hP hS ⊢
    have hP : va_P D cls9 [] H := hP
    have hD : va_D A [] := hD
    obtain rfl : r_2 = (nI j) := hw
    refine lv_pop hx hb d_13_155_8 rfl ?_
    have hP9 := hP.sub (ws' := []) [] rfl
    have hD9 := hD.sub (ws' := []) [] (by decide +kernel) rfl
    exact W.vret hx hb hr (fun t ht hW => ⟨⟨(), rfl, trivial, xEnd hK hP9 hD9 ht hW⟩, hS.F ht⟩) hS.2.2 d_13_155_9
