set_option maxHeartbeats 4000000 in
set_option maxRecDepth 100000 in
theorem c_StringLatin1_charAt_0 (l : Launch) (D : va_G) (kI kJ kB kZ : ClassId) (sz : Nat) (j : Nat) (wA wV bA : Nat) (hj : j < 138) : Met l (⟨"java/lang/StringLatin1", "charAt", "([BI)C"⟩ : MethodName) (Cond.code (⟨"java/lang/StringLatin1", "charAt", "([BI)C"⟩ : MethodName) prog_14_method_2_code 2 (some .char) :: gT) ({ frames := 2, cells := 0, slots := 0, locals := 43 }) (va_Pc [.ref wV, .int (nI j)] (xP D (xT kI kJ kB kZ) (xE wA wV bA) [] sz)) (va_Qi (fun (r : Int32) (_ : Unit) => narrow .char (.int r) = .int r) (fun _ t => xQ D (xT kI kJ kB kZ) (va_A [] sz) [] t) (va_A [] sz)) 0 0 (va_A [] sz) := by
  refine Met.ofW (cc := prog_14_method_2_code) (maxL := 2) (ret := some .char) (by decide +kernel) rfl ?_
  intro p e s m args below meth c s₁ B hml hv
  obtain ⟨rfl, hsz, hP, hK, hD0, hE⟩ := hv
  have hx := B.exec
  have hb := B.bytes
  have hr := B.returns
  have hts : ∀ w ∈ gT, w.before _ s = true := fun w h => atoms_spec (ws := Cond.code (⟨"java/lang/StringLatin1", "charAt", "([BI)C"⟩ : MethodName) prog_14_method_2_code 2 (some .char) :: gT) B.pre w (List.mem_cons_of_mem _ h)
  have hown : s.vm.findClass "java/lang/StringLatin1" = some m.cls := findClass_of_methodNamed B.named
  have hlocks := B.notSynchronized
  subst hsz
  have hD := hD0.self (sz := s.heap.size)
  generalize hAe : va_A [] s.heap.size = A at hD hE ⊢
  have hA : ∀ q : Nat, s.heap.size ≤ q → A q := fun q h => by rw [← hAe]; exact Or.inr h
  have hS : va_S A s.heap s.heap [] := va_S.rf
  have hP : va_P D cls9 [] s.heap := hP
  have hl := lv_entry ([.ref wV, .int (nI j)]) (n := 2) (Nat.le_of_ble_eq_true rfl)
  rw [lg_entry_eq]
  generalize (lg_sl ([.ref wV, .int (nI j)]) ++ List.replicate (2 - (lg_sl ([.ref wV, .int (nI j)])).length) Slot.unset).toArray = ls at hl ⊢
  have hl : lv_has ls 2 [(0, .ref wV), (1, .int (nI j))] := hl
  refine lv_iload_n hx hb d_14_2_0 rfl (lv_at hl 1 rfl) ?_
  refine lv_aload_n hx hb d_14_2_1 rfl (lv_at hl 0 rfl) ?_
  refine va_tlen (v := 138) hx hb (xE_T hE) hS (by decide +kernel) d_14_2_2 ?_
  have hPc := hP.sub (ws' := []) [] rfl
  have hDc := hD.sub (ws' := []) [] (by decide +kernel) rfl
  have hFc := va_free (wc := []) hD hS hA [] rfl
  refine va_callv (va_runS (As := [.int (nI j), .int 138]) (rest := []) ⟨hx, hb, hml, hown, hts⟩ (c_String_checkIndex_0 l D kI kJ kB kZ _ (j) wA wV bA hj) (va_cwS 2 hts (gT_S m_176 m_177 m_122 (gT_ws m_178)) rfl rfl rfl (by decide +kernel) ⟨(Nat.le_of_ble_eq_true rfl), (Nat.le_of_ble_eq_true rfl)⟩) ⟨xBlind (xOk_E wA wV bA), xAt (xOk_E wA wV bA) hK hPc hDc hS hFc hE⟩ rfl rfl hl.1 rfl (lv_room (Nat.le_of_ble_eq_true rfl)) d_14_2_3 ⟨(Nat.le_of_ble_eq_true rfl), (Nat.le_of_ble_eq_true rfl)⟩) hS (fun q _ h => hFc q h) hFc (fun u t H1 locs ht hvm hw hB hz1 hk1 hS => ?_)
  obtain ⟨hP, hD⟩ := xJoin (wr := []) (w1 := []) hP hD [] [] rfl rfl (by decide +kernel) (by decide +kernel) hk1 hFc ht hB
  generalize H1 = H at hP hS ⊢
  have hP : va_P D cls9 [] H := hP
  have hD : va_D A [] := hD
  refine lv_aload_n hx hb d_14_2_6 rfl (lv_at hl 0 rfl) ?_
  refine lv_iload_n hx hb d_14_2_7 rfl (lv_at hl 1 rfl) ?_
  refine va_tb hx hb (xE_T hE) hS (vp_in_nI hj (by decide)) rfl d_14_2_8 ?_
  refine lv_topi (fun z_2 ez_2 => ?_)
  refine lv_sipush (v := 255) hx hb d_14_2_9 (by decide +kernel) ?_
  refine lv_iand hx hb d_14_2_12 ?_
  refine lv_i2c (v := (((z_2 &&& 255).toUInt32 % 65536).toInt32)) hx hb d_14_2_13 rfl ?_
  have hP9 := hP.sub (ws' := []) [] rfl
  have hD9 := hD.sub (ws' := []) [] (by decide +kernel) rfl
  exact W.zret (v := (((z_2 &&& 255).toUInt32 % 65536).toInt32)) (ty := .char) hx hb hr (pk_nc _) (fun t ht hW => ⟨⟨(((z_2 &&& 255).toUInt32 % 65536).toInt32), (), rfl, pk_nc _, xEnd hK hP9 hD9 ht hW⟩, hS.F ht⟩) hS.2.2 d_14_2_14
