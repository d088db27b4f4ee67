set_option maxHeartbeats 8000000 in
set_option maxRecDepth 100000 in
theorem g_Arrays_fill_2 (l : Launch) (D : va_G) (kI kJ kB kZ : ClassId) (sz : Nat) (h27 : Nat) (f27 : Nat → Int32) (p2 : Int32)  : Met l (⟨"java/util/Arrays", "fill", "([II)V"⟩ : MethodName) (Cond.code (⟨"java/util/Arrays", "fill", "([II)V"⟩ : MethodName) prog_16_method_103_code 4 (none) :: gT) ({ frames := 0, cells := 0, slots := 0, locals := 0 }) (va_Pc [.ref h27, .int p2] (xP D (xT kI kJ kB kZ) xN [(h27, .inl (kI, 3000, .inl f27))] sz)) (va_Qv (fun _ : Unit => True) (fun _ t => ∃ f27' : Nat → Int32, (fl9 f27' 3000 p2) ∧ xQ D (xT kI kJ kB kZ) (va_A [(h27, .inl (kI, 3000, .inl f27))] sz) [(h27, .inl (kI, 3000, .inl f27'))] t) (va_A [(h27, .inl (kI, 3000, .inl f27))] sz)) 0 0 (va_A [(h27, .inl (kI, 3000, .inl f27))] sz) := by
  refine Met.ofW (cc := prog_16_method_103_code) (maxL := 4) (ret := none) (by decide +kernel) rfl ?_
  intro p e s m args below meth c s₁ B hml hv
  obtain ⟨rfl, hsz, hP, hK, hD0, hE⟩ := hv
  have hx := B.exec
  have hb := B.bytes
  have hr := B.returns
  have hts : ∀ w ∈ gT, w.before _ s = true := fun w h => atoms_spec (ws := Cond.code (⟨"java/util/Arrays", "fill", "([II)V"⟩ : MethodName) prog_16_method_103_code 4 (none) :: gT) B.pre w (List.mem_cons_of_mem _ h)
  have hown : s.vm.findClass "java/util/Arrays" = some m.cls := findClass_of_methodNamed B.named
  have hlocks := B.notSynchronized
  subst hsz
  have hD := hD0.self (sz := s.heap.size)
  generalize hAe : va_A [(h27, .inl (kI, 3000, .inl f27))] s.heap.size = A at hD hE ⊢
  have hA : ∀ q : Nat, s.heap.size ≤ q → A q := fun q h => by rw [← hAe]; exact Or.inr h
  have hS : va_S A s.heap s.heap [] := va_S.rf
  have hP : va_P D cls9 [(h27, .inl (kI, 3000, .inl f27))] s.heap := hP
  have hl := lv_entry ([.ref h27, .int p2]) (n := 4) (Nat.le_of_ble_eq_true rfl)
  rw [lg_entry_eq]
  generalize (lg_sl ([.ref h27, .int p2]) ++ List.replicate (4 - (lg_sl ([.ref h27, .int p2])).length) Slot.unset).toArray = ls at hl ⊢
  have hl : lv_has ls 4 [(0, .ref h27), (1, .int p2)] := hl
  refine lv_iconst (v := 0) hx hb d_16_103_0 (by decide +kernel) ?_
  refine lv_istore_n (lv' := [(2, .int 0), (0, .ref h27), (1, .int p2)]) hx hb d_16_103_1 rfl hl (by decide +kernel) rfl (fun ls hl => ?_)
  refine lv_aload_n hx hb d_16_103_2 rfl (lv_at hl 1 rfl) ?_
  refine va_alen (v := 3000) hx hb hK hP 0 0 rfl rfl rfl d_16_103_3 ?_
  refine lv_istore_n (lv' := [(3, .int 3000), (2, .int 0), (0, .ref h27), (1, .int p2)]) hx hb d_16_103_4 rfl hl (by decide +kernel) rfl (fun ls hl => ?_)
  refine xLoop (I := fun n H locs ls => ∃ w5_h27 : Nat → Int32, ∃ v5_2 : Int32, (0 ≤ v5_2.toInt) ∧ (v5_2.toInt ≤ 3000) ∧ (fl9 w5_h27 v5_2.toInt p2) ∧ n = (3000 - v5_2.toInt).toNat ∧ va_P D cls9 [(h27, .inl (kI, 3000, .inl w5_h27))] H ∧ va_D A [(h27, .inl (kI, 3000, .inl w5_h27))] ∧ va_S A s.heap H locs ∧ lv_has ls 4 [(3, .int 3000), (2, .int v5_2), (0, .ref h27), (1, .int p2)]) ?_ _ _ _ _ ⟨f27, 0, (show 0 ≤ (0 : Int) from (by first | assumption | omega)), (show (0 : Int) ≤ 3000 from (by first | assumption | omega)), (show fl9 f27 (0 : Int) p2 from (by first | assumption | exact fl9_0 (by omega) | exact fl9_s (by assumption) (by omega) (by omega) | exact fl9_e (by assumption) (by omega))), rfl, hP.sub (ws' := [(h27, .inl (kI, 3000, .inl f27))]) [0] rfl, hD.sub (ws' := [(h27, .inl (kI, 3000, .inl f27))]) [0] (by decide) rfl, hS, lv_sub hl [0, 1, 2, 3] rfl⟩
  intro n_4 H locs ls hI9 ih_5
  revert hI9
  refine exI fun w5_h27 => exI fun v5_2 => anI fun hl_1 => anI fun hl_2 => anI fun hl_3 => anI fun hn_4 => anI fun hP => anI fun hD => anI fun hS => fun hl => ?_
  refine lv_iload_n hx hb d_16_103_5 rfl (lv_at hl 1 rfl) ?_
  refine lv_iload_n hx hb d_16_103_6 rfl (lv_at hl 0 rfl) ?_
  refine lv_icmp_ge (tgt := 20) hx hb d_16_103_7 (by decide +kernel) (fun c_6 => ?_) (fun c_6 => ?_)
  · skip
    have tc_6 : 3000 ≤ v5_2.toInt := Int32.le_iff_toInt_le.mp c_6
    have hP9 := hP.sub (ws' := [(h27, .inl (kI, 3000, .inl w5_h27))]) [0] rfl
    have hD9 := hD.sub (ws' := [(h27, .inl (kI, 3000, .inl w5_h27))]) [0] (by decide) rfl
    have hz_0 : fl9 w5_h27 3000 p2 := (by first | assumption | exact fl9_0 (by omega) | exact fl9_s (by assumption) (by omega) (by omega) | exact fl9_e (by assumption) (by omega))
    exact W.vret hx hb hr (fun t ht hW => ⟨⟨(), rfl, trivial, w5_h27, hz_0, xEnd hK hP9 hD9 ht hW⟩, hS.F ht⟩) hS.2.2 d_16_103_20
  · skip
    have tc_6 : ¬ 3000 ≤ v5_2.toInt := fun h9 => c_6 (Int32.le_iff_toInt_le.mpr h9)
    refine lv_aload_n hx hb d_16_103_10 rfl (lv_at hl 2 rfl) ?_
    refine lv_iload_n hx hb d_16_103_11 rfl (lv_at hl 1 rfl) ?_
    refine lv_iload_n hx hb d_16_103_12 rfl (lv_at hl 3 rfl) ?_
    refine va_iast hx hb hK hP hD hS 0 0 rfl rfl (vp_in_iff.mpr ⟨by omega, by omega⟩) d_16_103_13 (fun H locs hP1 hD1 hS1 => ?_)
    replace hP : va_P D cls9 [(h27, .inl (kI, 3000, .inl (upd w5_h27 (Int32.toNatClampNeg v5_2) p2)))] H := hP1
    replace hD : va_D A [(h27, .inl (kI, 3000, .inl (upd w5_h27 (Int32.toNatClampNeg v5_2) p2)))] := hD1
    replace hS := hS1
    clear hP1 hD1 hS1
    obtain ⟨y_7, ey_7⟩ : ∃ y : Int32, y = v5_2 + 1 := ⟨_, rfl⟩
    have ty_7 : y_7.toInt = v5_2.toInt + 1 := by rw [ey_7]; exact zaddc (by decide +kernel) (by omega) (by omega)
    refine lv_iinc (v := y_7) (lv' := [(2, .int y_7), (3, .int 3000), (0, .ref h27), (1, .int p2)]) hx hb d_16_103_14 hl (k := 1) rfl (by rw [ey_7]; rfl) (by decide +kernel) rfl (fun ls hl => ?_)
    refine lv_goto (tgt := 5) hx hb d_16_103_17 (by decide +kernel) ?_
    exact ih_5 _ _ _ _ (by omega) ⟨(upd w5_h27 (Int32.toNatClampNeg v5_2) p2), y_7, (show 0 ≤ y_7.toInt from (by first | assumption | omega)), (show y_7.toInt ≤ 3000 from (by first | assumption | omega)), (show fl9 (upd w5_h27 (Int32.toNatClampNeg v5_2) p2) y_7.toInt p2 from (by first | assumption | exact fl9_0 (by omega) | exact fl9_s (by assumption) (by omega) (by omega) | exact fl9_e (by assumption) (by omega))), rfl, hP.sub (ws' := [(h27, .inl (kI, 3000, .inl (upd w5_h27 (Int32.toNatClampNeg v5_2) p2)))]) [0] rfl, hD.sub (ws' := [(h27, .inl (kI, 3000, .inl (upd w5_h27 (Int32.toNatClampNeg v5_2) p2)))]) [0] (by decide) rfl, hS, lv_sub hl [1, 0, 2, 3] rfl⟩
