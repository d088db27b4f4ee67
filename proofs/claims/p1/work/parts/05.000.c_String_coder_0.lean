set_option maxHeartbeats 4000000 in
set_option maxRecDepth 100000 in
theorem c_String_coder_0 (l : Launch) (D : va_G) (kI kJ kB kZ : ClassId) (sz : Nat)  (wA wV bA : Nat) : Met l (⟨"java/lang/String", "coder", "()B"⟩ : MethodName) (Cond.code (⟨"java/lang/String", "coder", "()B"⟩ : MethodName) prog_13_method_152_code 1 (some .byte) :: gT) ({ frames := 0, cells := 0, slots := 0, locals := 0 }) (va_Pc [.ref wA] (xP D (xT kI kJ kB kZ) (xE wA wV bA) [] sz)) (va_Qi (fun (r : Int32) (_ : Unit) => r = 0) (fun _ t => xQ D (xT kI kJ kB kZ) (va_A [] sz) [] t) (va_A [] sz)) 0 0 (va_A [] sz) := by
  refine Met.ofW (cc := prog_13_method_152_code) (maxL := 1) (ret := some .byte) (by decide +kernel) rfl ?_
  intro p e s m args below meth c s₁ B hml hv
  obtain ⟨rfl, hsz, hP, hK, hD0, hE⟩ := hv
  have hx := B.exec
  have hb := B.bytes
  have hr := B.returns
  have hts : ∀ w ∈ gT, w.before _ s = true := fun w h => atoms_spec (ws := Cond.code (⟨"java/lang/String", "coder", "()B"⟩ : MethodName) prog_13_method_152_code 1 (some .byte) :: gT) B.pre w (List.mem_cons_of_mem _ h)
  have hown : s.vm.findClass "java/lang/String" = some m.cls := findClass_of_methodNamed B.named
  have hlocks := B.notSynchronized
  subst hsz
  have hD := hD0.self (sz := s.heap.size)
  generalize hAe : va_A [] s.heap.size = A at hD hE ⊢
  have hA : ∀ q : Nat, s.heap.size ≤ q → A q := fun q h => by rw [← hAe]; exact Or.inr h
  have hS : va_S A s.heap s.heap [] := va_S.rf
  have hP : va_P D cls9 [] s.heap := hP
  have hl := lv_entry ([.ref wA]) (n := 1) (Nat.le_of_ble_eq_true rfl)
  rw [lg_entry_eq]
  generalize (lg_sl ([.ref wA]) ++ List.replicate (1 - (lg_sl ([.ref wA])).length) Slot.unset).toArray = ls at hl ⊢
  have hl : lv_has ls 1 [(0, .ref wA)] := hl
  refine va_gets hx hb (xE_Z hE) hS hown (hts _ m_163) (fun _ h9 => h9) d_13_152_0 ?_
  refine lv_if_eq (tgt := 13) hx hb d_13_152_3 (by decide +kernel) (fun c_1 => ?_) (fun c_1 => ?_)
  · exact absurd c_1 (by decide +kernel)
  refine lv_aload_n hx hb d_13_152_6 rfl (lv_at hl 0 rfl) ?_
  refine vk_getf hx hb (xE_c hE) hS hown (hts _ m_1652) (fun _ h9 => h9) d_13_152_7 ?_
  refine lv_goto (tgt := 14) hx hb d_13_152_10 (by decide +kernel) ?_
  have hP9 := hP.sub (ws' := []) [] rfl
  have hD9 := hD.sub (ws' := []) [] (by decide +kernel) rfl
  exact W.zret (v := 0) (ty := .byte) hx hb hr (by decide +kernel) (fun t ht hW => ⟨⟨0, (), rfl, rfl, xEnd hK hP9 hD9 ht hW⟩, hS.F ht⟩) hS.2.2 d_13_152_14
