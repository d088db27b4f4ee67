set_option maxHeartbeats 4000000 in
set_option maxRecDepth 100000 in
theorem c_String_charAt_0 (l : Launch) (D : va_G) (kI kJ kB kZ : ClassId) (sz : Nat) (j : Nat) (wA wV bA : Nat) (hj : j < 138) : Met l (⟨"java/lang/String", "charAt", "(I)C"⟩ : MethodName) (Cond.code (⟨"java/lang/String", "charAt", "(I)C"⟩ : MethodName) prog_13_method_56_code 2 (some .char) :: gT) ({ frames := 3, cells := 0, slots := 0, locals := 64 }) (va_Pc [.ref wA, .int (nI j)] (xP D (xT kI kJ kB kZ) (xE wA wV bA) [] sz)) (va_Qi (fun (r : Int32) (_ : Unit) => narrow .char (.int r) = .int r) (fun _ t => xQ D (xT kI kJ kB kZ) (va_A [] sz) [] t) (va_A [] sz)) 0 0 (va_A [] sz) := by
  refine Met.ofW (cc := prog_13_method_56_code) (maxL := 2) (ret := some .char) (by decide +kernel) rfl ?_
  intro p e s m args below meth c s₁ B hml hv
  obtain ⟨rfl, hsz, hP, hK, hD0, hE⟩ := hv
  have hx := B.exec
  have hb := B.bytes
  have hr := B.returns
  have hts : ∀ w ∈ gT, w.before _ s = true := fun w h => atoms_spec (ws := Cond.code (⟨"java/lang/String", "charAt", "(I)C"⟩ : MethodName) prog_13_method_56_code 2 (some .char) :: gT) B.pre w (List.mem_cons_of_mem _ h)
  have hown : s.vm.findClass "java/lang/String" = some m.cls := findClass_of_methodNamed B.named
  have hlocks := B.notSynchronized
  subst hsz
  have hD := hD0.self (sz := s.heap.size)
  generalize hAe : va_A [] s.heap.size = A at hD hE ⊢
  have hA : ∀ q : Nat, s.heap.size ≤ q → A q := fun q h => by rw [← hAe]; exact Or.inr h
  have hS : va_S A s.heap s.heap [] := va_S.rf
  have hP : va_P D cls9 [] s.heap := hP
  have hl := lv_entry ([.ref wA, .int (nI j)]) (n := 2) (Nat.le_of_ble_eq_true rfl)
  rw [lg_entry_eq]
  generalize (lg_sl ([.ref wA, .int (nI j)]) ++ List.replicate (2 - (lg_sl ([.ref wA, .int (nI j)])).length) Slot.unset).toArray = ls at hl ⊢
  have hl : lv_has ls 2 [(0, .ref wA), (1, .int (nI j))] := hl
  refine lv_aload_n hx hb d_13_56_0 rfl (lv_at hl 0 rfl) ?_
  have hPc := hP.sub (ws' := []) [] rfl
  have hDc := hD.sub (ws' := []) [] (by decide +kernel) rfl
  have hFc := va_free (wc := []) hD hS hA [] rfl
  refine va_calli (va_runV (As := []) (rest := []) ⟨hx, hb, hml, hown, hts⟩ (c_String_isLatin1_0 l D kI kJ kB kZ _  wA wV bA ) (cwV 0 hts (gT_V m_169 m_170 m_171 m_122 (gT_ws m_172)) rfl rfl rfl (by decide +kernel) ⟨(Nat.le_of_ble_eq_true rfl), (Nat.le_of_ble_eq_true rfl)⟩) ⟨xBlind (xOk_E wA wV bA), (xE_O hE hS), xAt (xOk_E wA wV bA) hK hPc hDc hS hFc hE⟩ rfl rfl hl.1 rfl (lv_room (Nat.le_of_ble_eq_true rfl)) d_13_56_1 ⟨(Nat.le_of_ble_eq_true rfl), (Nat.le_of_ble_eq_true rfl)⟩) hS (fun q _ h => hFc q h) hFc (fun r_1 u t H1 locs ht hvm hw hB hz1 hk1 hS => ?_)
  obtain ⟨hP, hD⟩ := xJoin (wr := []) (w1 := []) hP hD [] [] rfl rfl (by decide +kernel) (by decide +kernel) hk1 hFc ht hB
  generalize H1 = H at hP hS ⊢
  have hP : va_P D cls9 [] H := hP
  have hD : va_D A [] := hD
  obtain rfl : r_1 = 1 := hw
  refine lv_if_eq (tgt := 16) hx hb d_13_56_4 (by decide +kernel) (fun c_2 => ?_) (fun c_2 => ?_)
  · exact absurd c_2 (by decide +kernel)
  refine lv_aload_n hx hb d_13_56_7 rfl (lv_at hl 0 rfl) ?_
  refine vk_getf hx hb (xE_v hE) hS hown (hts _ m_1651) (fun _ h9 => h9) d_13_56_8 ?_
  refine lv_iload_n hx hb d_13_56_11 rfl (lv_at hl 1 rfl) ?_
  have hPc := hP.sub (ws' := []) [] rfl
  have hDc := hD.sub (ws' := []) [] (by decide +kernel) rfl
  have hFc := va_free (wc := []) hD hS hA [] rfl
  refine va_calli (va_runS (As := [.ref wV, .int (nI j)]) (rest := []) ⟨hx, hb, hml, hown, hts⟩ (c_StringLatin1_charAt_0 l D kI kJ kB kZ _ (j) wA wV bA hj) (va_cwS 2 hts (gT_S m_173 m_174 m_123 (gT_ws m_175)) rfl rfl rfl (by decide +kernel) ⟨(Nat.le_of_ble_eq_true rfl), (Nat.le_of_ble_eq_true rfl)⟩) ⟨xBlind (xOk_E wA wV bA), xAt (xOk_E wA wV bA) hK hPc hDc hS hFc hE⟩ rfl rfl hl.1 rfl (lv_room (Nat.le_of_ble_eq_true rfl)) d_13_56_12 ⟨(Nat.le_of_ble_eq_true rfl), (Nat.le_of_ble_eq_true rfl)⟩) hS (fun q _ h => hFc q h) hFc (fun r_3 u t H1 locs ht hvm hw hB hz1 hk1 hS => ?_)
  obtain ⟨hP, hD⟩ := xJoin (wr := []) (w1 := []) hP hD [] [] rfl rfl (by decide +kernel) (by decide +kernel) hk1 hFc ht hB
  generalize H1 = H at hP hS ⊢
  have hP : va_P D cls9 [] H := hP
  have hD : va_D A [] := hD
  have hw9 := hw
  have hP9 := hP.sub (ws' := []) [] rfl
  have hD9 := hD.sub (ws' := []) [] (by decide +kernel) rfl
  exact W.zret (v := r_3) (ty := .char) hx hb hr hw9 (fun t ht hW => ⟨⟨r_3, (), rfl, hw9, xEnd hK hP9 hD9 ht hW⟩, hS.F ht⟩) hS.2.2 d_13_56_15
