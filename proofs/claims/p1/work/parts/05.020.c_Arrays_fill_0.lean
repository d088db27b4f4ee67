set_option maxHeartbeats 4000000 in
set_option maxRecDepth 100000 in
theorem c_Arrays_fill_0 (l : Launch) (D : va_G) (kI kJ kB kZ : ClassId) (sz : Nat) (h0 : Nat) : Met l (⟨"java/util/Arrays", "fill", "([II)V"⟩ : MethodName) (Cond.code (⟨"java/util/Arrays", "fill", "([II)V"⟩ : MethodName) prog_16_method_103_code 4 (none) :: gT) ({ frames := 0, cells := 0, slots := 0, locals := 0 }) (va_Pc [.ref h0, .int (-1)] (xP D (xT kI kJ kB kZ) xN [(h0, .inl (kI, 3000, .inl (fun _ => 0)))] sz)) (va_Qv (fun _ : Unit => True) (fun _ t => ∃ g0 : Nat → Int32, xQ D (xT kI kJ kB kZ) (va_A [(h0, .inl (kI, 3000, .inl (fun _ => 0)))] sz) [(h0, .inl (kI, 3000, .inl g0))] t) (va_A [(h0, .inl (kI, 3000, .inl (fun _ => 0)))] sz)) 0 0 (va_A [(h0, .inl (kI, 3000, .inl (fun _ => 0)))] sz) := by
  refine Met.ofW (cc := prog_16_method_103_code) (maxL := 4) (ret := none) (by decide +kernel) rfl ?_
  intro p e s m args below meth c s₁ B hml hv
  obtain ⟨rfl, hsz, hP, hK, hD0, hE⟩ := hv
  have hx := B.exec
  have hb := B.bytes
  have hr := B.returns
  have hts : ∀ w ∈ gT, w.before _ s = true := fun w h => atoms_spec (ws := Cond.code (⟨"java/util/Arrays", "fill", "([II)V"⟩ : MethodName) prog_16_method_103_code 4 (none) :: gT) B.pre w (List.mem_cons_of_mem _ h)
  have hown : s.vm.findClass "java/util/Arrays" = some m.cls := findClass_of_methodNamed B.named
  have hlocks := B.notSynchronized
  subst hsz
  have hD := hD0.self (sz := s.heap.size)
  generalize hAe : va_A [(h0, .inl (kI, 3000, .inl (fun _ => 0)))] s.heap.size = A at hD hE ⊢
  have hA : ∀ q : Nat, s.heap.size ≤ q → A q := fun q h => by rw [← hAe]; exact Or.inr h
  have hS : va_S A s.heap s.heap [] := va_S.rf
  have hP : va_P D cls9 [(h0, .inl (kI, 3000, .inl (fun _ => 0)))] s.heap := hP
  have hl := lv_entry ([.ref h0, .int (-1)]) (n := 4) (Nat.le_of_ble_eq_true rfl)
  rw [lg_entry_eq]
  generalize (lg_sl ([.ref h0, .int (-1)]) ++ List.replicate (4 - (lg_sl ([.ref h0, .int (-1)])).length) Slot.unset).toArray = ls at hl ⊢
  have hl : lv_has ls 4 [(0, .ref h0), (1, .int (-1))] := hl
  refine lv_iconst (v := 0) hx hb d_16_103_0 (by decide +kernel) ?_
  refine lv_istore_n (lv' := [(2, .int 0), (0, .ref h0), (1, .int (-1))]) hx hb d_16_103_1 rfl hl (by decide +kernel) rfl (fun ls hl => ?_)
  refine lv_aload_n hx hb d_16_103_2 rfl (lv_at hl 1 rfl) ?_
  refine va_alen (v := 3000) hx hb hK hP 0 0 rfl rfl (by decide +kernel) d_16_103_3 ?_
  refine lv_istore_n (lv' := [(3, .int 3000), (2, .int 0), (0, .ref h0), (1, .int (-1))]) hx hb d_16_103_4 rfl hl (by decide +kernel) rfl (fun ls hl => ?_)
  refine xLoop (I := fun n H locs ls => ∃ i : Nat, ∃ g : Nat → Int32, i ≤ 3000 ∧ n = 3000 - i ∧ va_P D cls9 [(h0, .inl (kI, 3000, .inl g))] H ∧ va_D A [(h0, .inl (kI, 3000, .inl g))] ∧ va_S A s.heap H locs ∧ lv_has ls 4 [(0, .ref h0), (1, .int (-1)), (2, .int (nI i)), (3, .int 3000)]) ?_ _ _ _ _ ⟨0, (fun _ => 0), (Nat.zero_le _), rfl, hP.sub (ws' := [(h0, .inl (kI, 3000, .inl (fun _ => 0)))]) [0] rfl, hD.sub (ws' := [(h0, .inl (kI, 3000, .inl (fun _ => 0)))]) [0] (by decide) rfl, hS, lv_sub hl [2, 3, 1, 0] rfl⟩
  intro n H locs ls hI ih
  obtain ⟨i, g, hi0, hn, hP, hD, hS, hl⟩ := hI
  refine lv_iload_n hx hb d_16_103_5 rfl (lv_at hl 2 rfl) ?_
  refine lv_iload_n hx hb d_16_103_6 rfl (lv_at hl 3 rfl) ?_
  refine lv_icmp_ge (tgt := 20) hx hb d_16_103_7 (by decide +kernel) (fun c_1 => ?_) (fun c_1 => ?_)
  · skip
    have hP9 := hP.sub (ws' := [(h0, .inl (kI, 3000, .inl g))]) [0] rfl
    have hD9 := hD.sub (ws' := [(h0, .inl (kI, 3000, .inl g))]) [0] (by decide +kernel) rfl
    exact W.vret hx hb hr (fun t ht hW => ⟨⟨(), rfl, trivial, _, xEnd hK hP9 hD9 ht hW⟩, hS.F ht⟩) hS.2.2 d_16_103_20
  · skip
    have hi : i < 3000 := by
      rcases Nat.lt_or_ge i 3000 with q | q
      · exact q
      · exact absurd (nI_le (a := 3000) (b := i) q (by omega)) c_1
    refine lv_aload_n hx hb d_16_103_10 rfl (lv_at hl 0 rfl) ?_
    refine lv_iload_n hx hb d_16_103_11 rfl (lv_at hl 2 rfl) ?_
    refine lv_iload_n hx hb d_16_103_12 rfl (lv_at hl 1 rfl) ?_
    refine va_iast hx hb hK hP hD hS 0 0 rfl rfl (vp_in_nI hi (by decide)) d_16_103_13 (fun H locs hP hD hS => ?_)
    have hP : va_P D cls9 [(h0, .inl (kI, 3000, .inl (upd g (Int32.toNatClampNeg (nI i)) (-1))))] H := hP
    have hD : va_D A [(h0, .inl (kI, 3000, .inl (upd g (Int32.toNatClampNeg (nI i)) (-1))))] := hD
    refine lv_iinc (v := ((nI i) + 1)) (lv' := [(2, .int ((nI i) + 1)), (0, .ref h0), (1, .int (-1)), (3, .int 3000)]) hx hb d_16_103_14 hl (k := 2) rfl rfl (by decide +kernel) rfl (fun ls hl => ?_)
    refine lv_goto (tgt := 5) hx hb d_16_103_17 (by decide +kernel) ?_
    rw [nI_1] at hl
    exact ih _ _ _ _ (by omega) ⟨(i + 1), (upd g (Int32.toNatClampNeg (nI i)) (-1)), (by omega), rfl, hP.sub (ws' := [(h0, .inl (kI, 3000, .inl (upd g (Int32.toNatClampNeg (nI i)) (-1))))]) [0] rfl, hD.sub (ws' := [(h0, .inl (kI, 3000, .inl (upd g (Int32.toNatClampNeg (nI i)) (-1))))]) [0] (by decide) rfl, hS, lv_sub hl [1, 2, 0, 3] rfl⟩
