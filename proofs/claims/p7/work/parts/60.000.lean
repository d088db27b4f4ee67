set_option maxHeartbeats 8000000 in
set_option maxRecDepth 100000 in
theorem g_Book_about (l : Launch) (D : va_G) (kI kJ kB kZ : ClassId) (sz : Nat) (h6 : Nat) (h28 : Nat) (h29 : Nat) (h30 : Nat) (h31 : Nat) (h32 : Nat) (h33 : Nat) (h34 : Nat) (ow : Int32) (on : Int32) (f28 : Nat → Int32) (f29 : Nat → Int32) (f30 : Nat → Int32) (f31 : Nat → Int32) (f32 : Nat → Int32) (f33 : Nat → Int32) (f34 : Nat → Int32) (p1 : Int32) (p2 : Int32) (hf_K1 : on.toInt ≤ 1501) : Met l (⟨"AlgolJudge$Book", "about", "(II)I"⟩ : MethodName) (Cond.code (⟨"AlgolJudge$Book", "about", "(II)I"⟩ : MethodName) prog_3_method_3_code 3 (some .int) :: gT) ({ frames := 0, cells := 0, slots := 0, locals := 0 }) (va_Pc [.ref h6, .int p1, .int p2] (xP D (xT kI kJ kB kZ) xN [(h6, .inr (6, [.ref h28, .ref h29, .ref h30, .ref h31, .ref h32, .ref h33, .ref h34, .int ow, .int on])), (h28, .inl (kI, 1501, .inl f28)), (h29, .inl (kI, 1501, .inl f29)), (h30, .inl (kI, 1501, .inl f30)), (h31, .inl (kI, 1501, .inl f31)), (h32, .inl (kI, 1501, .inl f32)), (h33, .inl (kI, 3000, .inl f33)), (h34, .inl (kI, 1501, .inl f34))] sz)) (va_Qi (fun (r : Int32) (u : Int32) => r = u ∧ (True)) (fun u t => (abC ow.toInt on.toInt f28 f29 f30 f31 f32 p1.toInt p2.toInt u.toInt) ∧ xQ D (xT kI kJ kB kZ) (va_A [(h6, .inr (6, [.ref h28, .ref h29, .ref h30, .ref h31, .ref h32, .ref h33, .ref h34, .int ow, .int on])), (h28, .inl (kI, 1501, .inl f28)), (h29, .inl (kI, 1501, .inl f29)), (h30, .inl (kI, 1501, .inl f30)), (h31, .inl (kI, 1501, .inl f31)), (h32, .inl (kI, 1501, .inl f32)), (h33, .inl (kI, 3000, .inl f33)), (h34, .inl (kI, 1501, .inl f34))] sz) [(h6, .inr (6, [.ref h28, .ref h29, .ref h30, .ref h31, .ref h32, .ref h33, .ref h34, .int ow, .int on])), (h28, .inl (kI, 1501, .inl f28)), (h29, .inl (kI, 1501, .inl f29)), (h30, .inl (kI, 1501, .inl f30)), (h31, .inl (kI, 1501, .inl f31)), (h32, .inl (kI, 1501, .inl f32)), (h33, .inl (kI, 3000, .inl f33)), (h34, .inl (kI, 1501, .inl f34))] t) (va_A [(h6, .inr (6, [.ref h28, .ref h29, .ref h30, .ref h31, .ref h32, .ref h33, .ref h34, .int ow, .int on])), (h28, .inl (kI, 1501, .inl f28)), (h29, .inl (kI, 1501, .inl f29)), (h30, .inl (kI, 1501, .inl f30)), (h31, .inl (kI, 1501, .inl f31)), (h32, .inl (kI, 1501, .inl f32)), (h33, .inl (kI, 3000, .inl f33)), (h34, .inl (kI, 1501, .inl f34))] sz)) 0 0 (va_A [(h6, .inr (6, [.ref h28, .ref h29, .ref h30, .ref h31, .ref h32, .ref h33, .ref h34, .int ow, .int on])), (h28, .inl (kI, 1501, .inl f28)), (h29, .inl (kI, 1501, .inl f29)), (h30, .inl (kI, 1501, .inl f30)), (h31, .inl (kI, 1501, .inl f31)), (h32, .inl (kI, 1501, .inl f32)), (h33, .inl (kI, 3000, .inl f33)), (h34, .inl (kI, 1501, .inl f34))] sz) := by
  refine Met.ofW (cc := prog_3_method_3_code) (maxL := 3) (ret := some .int) (by decide +kernel) rfl ?_
  intro p e s m args below meth c s₁ B hml hv
  obtain ⟨rfl, hsz, hP, hK, hD0, hE⟩ := hv
  have hx := B.exec
  have hb := B.bytes
  have hr := B.returns
  have hts : ∀ w ∈ gT, w.before _ s = true := fun w h => atoms_spec (ws := Cond.code (⟨"AlgolJudge$Book", "about", "(II)I"⟩ : MethodName) prog_3_method_3_code 3 (some .int) :: gT) B.pre w (List.mem_cons_of_mem _ h)
  have hown : s.vm.findClass "AlgolJudge$Book" = some m.cls := findClass_of_methodNamed B.named
  have hlocks := B.notSynchronized
  subst hsz
  have hD := hD0.self (sz := s.heap.size)
  generalize hAe : va_A [(h6, .inr (6, [.ref h28, .ref h29, .ref h30, .ref h31, .ref h32, .ref h33, .ref h34, .int ow, .int on])), (h28, .inl (kI, 1501, .inl f28)), (h29, .inl (kI, 1501, .inl f29)), (h30, .inl (kI, 1501, .inl f30)), (h31, .inl (kI, 1501, .inl f31)), (h32, .inl (kI, 1501, .inl f32)), (h33, .inl (kI, 3000, .inl f33)), (h34, .inl (kI, 1501, .inl f34))] s.heap.size = A at hD hE ⊢
  have hA : ∀ q : Nat, s.heap.size ≤ q → A q := fun q h => by rw [← hAe]; exact Or.inr h
  have hS : va_S A s.heap s.heap [] := va_S.rf
  have hP : va_P D cls9 [(h6, .inr (6, [.ref h28, .ref h29, .ref h30, .ref h31, .ref h32, .ref h33, .ref h34, .int ow, .int on])), (h28, .inl (kI, 1501, .inl f28)), (h29, .inl (kI, 1501, .inl f29)), (h30, .inl (kI, 1501, .inl f30)), (h31, .inl (kI, 1501, .inl f31)), (h32, .inl (kI, 1501, .inl f32)), (h33, .inl (kI, 3000, .inl f33)), (h34, .inl (kI, 1501, .inl f34))] s.heap := hP
  have hl := lv_entry ([.ref h6, .int p1, .int p2]) (n := 3) (Nat.le_of_ble_eq_true rfl)
  rw [lg_entry_eq]
  generalize (lg_sl ([.ref h6, .int p1, .int p2]) ++ List.replicate (3 - (lg_sl ([.ref h6, .int p1, .int p2])).length) Slot.unset).toArray = ls at hl ⊢
  have hl : lv_has ls 3 [(0, .ref h6), (1, .int p1), (2, .int p2)] := hl
  refine lv_aload_n hx hb d_3_3_0 rfl (lv_at hl 0 rfl) ?_
  refine va_get (D := D) (ci := 6) (v := .int ow) (C := "AlgolJudge$Book") (T := T_Book) (N := 9) hx hb hts i_Book hown hK hP 0 rfl rfl 7 (by decide +kernel) (hts _ m_389) (fun _ h9 => h9) rfl d_3_3_1 ?_
  refine lv_if_eq (tgt := 19) hx hb d_3_3_4 (by decide +kernel) (fun c_1 => ?_) (fun c_1 => ?_)
  · skip
    have tc_1 : ow.toInt = 0 := congrArg Int32.toInt c_1
    refine lv_bipush (v := (-2)) hx hb d_3_3_19 (by decide +kernel) ?_
    have hP9 := hP.sub (ws' := [(h6, .inr (6, [.ref h28, .ref h29, .ref h30, .ref h31, .ref h32, .ref h33, .ref h34, .int ow, .int on])), (h28, .inl (kI, 1501, .inl f28)), (h29, .inl (kI, 1501, .inl f29)), (h30, .inl (kI, 1501, .inl f30)), (h31, .inl (kI, 1501, .inl f31)), (h32, .inl (kI, 1501, .inl f32)), (h33, .inl (kI, 3000, .inl f33)), (h34, .inl (kI, 1501, .inl f34))]) [0, 1, 2, 3, 4, 5, 6, 7] rfl
    have hD9 := hD.sub (ws' := [(h6, .inr (6, [.ref h28, .ref h29, .ref h30, .ref h31, .ref h32, .ref h33, .ref h34, .int ow, .int on])), (h28, .inl (kI, 1501, .inl f28)), (h29, .inl (kI, 1501, .inl f29)), (h30, .inl (kI, 1501, .inl f30)), (h31, .inl (kI, 1501, .inl f31)), (h32, .inl (kI, 1501, .inl f32)), (h33, .inl (kI, 3000, .inl f33)), (h34, .inl (kI, 1501, .inl f34))]) [0, 1, 2, 3, 4, 5, 6, 7] (by decide) rfl
    have hz_0 : abC ow.toInt on.toInt f28 f29 f30 f31 f32 p1.toInt p2.toInt ((-2) : Int) := ⟨fun _ => rfl, fun h9 => by exfalso; omega⟩
    exact W.iret (v := (-2)) hx hb hr (fun t ht hW => ⟨⟨(-2), (-2), rfl, ⟨rfl, trivial⟩, hz_0, xEnd hK hP9 hD9 ht hW⟩, hS.F ht⟩) hS.2.2 d_3_3_21
  · skip
    have tc_1 : ¬ ow.toInt = 0 := fun h9 => c_1 (Int32.toInt_inj.mp h9)
    refine lv_iload_n hx hb d_3_3_7 rfl (lv_at hl 1 rfl) ?_
    refine lv_if_lt (tgt := 19) hx hb d_3_3_8 (by decide +kernel) (fun c_2 => ?_) (fun c_2 => ?_)
    · skip
      have tc_2 : p1.toInt < 0 := Int32.lt_iff_toInt_lt.mp c_2
      refine lv_bipush (v := (-2)) hx hb d_3_3_19 (by decide +kernel) ?_
      have hP9 := hP.sub (ws' := [(h6, .inr (6, [.ref h28, .ref h29, .ref h30, .ref h31, .ref h32, .ref h33, .ref h34, .int ow, .int on])), (h28, .inl (kI, 1501, .inl f28)), (h29, .inl (kI, 1501, .inl f29)), (h30, .inl (kI, 1501, .inl f30)), (h31, .inl (kI, 1501, .inl f31)), (h32, .inl (kI, 1501, .inl f32)), (h33, .inl (kI, 3000, .inl f33)), (h34, .inl (kI, 1501, .inl f34))]) [0, 1, 2, 3, 4, 5, 6, 7] rfl
      have hD9 := hD.sub (ws' := [(h6, .inr (6, [.ref h28, .ref h29, .ref h30, .ref h31, .ref h32, .ref h33, .ref h34, .int ow, .int on])), (h28, .inl (kI, 1501, .inl f28)), (h29, .inl (kI, 1501, .inl f29)), (h30, .inl (kI, 1501, .inl f30)), (h31, .inl (kI, 1501, .inl f31)), (h32, .inl (kI, 1501, .inl f32)), (h33, .inl (kI, 3000, .inl f33)), (h34, .inl (kI, 1501, .inl f34))]) [0, 1, 2, 3, 4, 5, 6, 7] (by decide) rfl
      have hz_0 : abC ow.toInt on.toInt f28 f29 f30 f31 f32 p1.toInt p2.toInt ((-2) : Int) := ⟨fun _ => rfl, fun h9 => by exfalso; omega⟩
      exact W.iret (v := (-2)) hx hb hr (fun t ht hW => ⟨⟨(-2), (-2), rfl, ⟨rfl, trivial⟩, hz_0, xEnd hK hP9 hD9 ht hW⟩, hS.F ht⟩) hS.2.2 d_3_3_21
    · skip
      have tc_2 : ¬ p1.toInt < 0 := fun h9 => c_2 (Int32.lt_iff_toInt_lt.mpr h9)
      refine lv_iload_n hx hb d_3_3_11 rfl (lv_at hl 1 rfl) ?_
      refine lv_aload_n hx hb d_3_3_12 rfl (lv_at hl 0 rfl) ?_
      refine va_get (D := D) (ci := 6) (v := .int on) (C := "AlgolJudge$Book") (T := T_Book) (N := 9) hx hb hts i_Book hown hK hP 0 rfl rfl 8 (by decide +kernel) (hts _ m_390) (fun _ h9 => h9) rfl d_3_3_13 ?_
      refine lv_icmp_lt (tgt := 22) hx hb d_3_3_16 (by decide +kernel) (fun c_3 => ?_) (fun c_3 => ?_)
      · skip
        have tc_3 : p1.toInt < on.toInt := Int32.lt_iff_toInt_lt.mp c_3
        refine lv_iload_n hx hb d_3_3_22 rfl (lv_at hl 2 rfl) ?_
        by_cases c_4 : p2 = 0
        · skip
          have tc_4 : p2.toInt = 0 := by rw [c_4]; rfl
          refine lv_tableIn (off := 29) (tgt := 52) hx hb d_3_3_23 (by omega) (by omega) (by rw [c_4]; decide +kernel) (by decide +kernel) ?_
          refine lv_aload_n hx hb d_3_3_52 rfl (lv_at hl 0 rfl) ?_
          refine va_get (D := D) (ci := 6) (v := .ref h28) (C := "AlgolJudge$Book") (T := T_Book) (N := 9) hx hb hts i_Book hown hK hP 0 rfl rfl 0 (by decide +kernel) (hts _ m_382) (fun _ h9 => h9) rfl d_3_3_53 ?_
          refine lv_iload_n hx hb d_3_3_56 rfl (lv_at hl 1 rfl) ?_
          refine va_iald hx hb hK hP 1 0 rfl rfl (vp_in_iff.mpr ⟨by omega, by omega⟩) d_3_3_57 ?_
          refine lv_topi (fun z_5 ez_5 => ?_)
          have hP9 := hP.sub (ws' := [(h6, .inr (6, [.ref h28, .ref h29, .ref h30, .ref h31, .ref h32, .ref h33, .ref h34, .int ow, .int on])), (h28, .inl (kI, 1501, .inl f28)), (h29, .inl (kI, 1501, .inl f29)), (h30, .inl (kI, 1501, .inl f30)), (h31, .inl (kI, 1501, .inl f31)), (h32, .inl (kI, 1501, .inl f32)), (h33, .inl (kI, 3000, .inl f33)), (h34, .inl (kI, 1501, .inl f34))]) [0, 1, 2, 3, 4, 5, 6, 7] rfl
          have hD9 := hD.sub (ws' := [(h6, .inr (6, [.ref h28, .ref h29, .ref h30, .ref h31, .ref h32, .ref h33, .ref h34, .int ow, .int on])), (h28, .inl (kI, 1501, .inl f28)), (h29, .inl (kI, 1501, .inl f29)), (h30, .inl (kI, 1501, .inl f30)), (h31, .inl (kI, 1501, .inl f31)), (h32, .inl (kI, 1501, .inl f32)), (h33, .inl (kI, 3000, .inl f33)), (h34, .inl (kI, 1501, .inl f34))]) [0, 1, 2, 3, 4, 5, 6, 7] (by decide) rfl
          have hz_0 : abC ow.toInt on.toInt f28 f29 f30 f31 f32 p1.toInt p2.toInt z_5.toInt := ⟨fun h9 => by exfalso; omega, fun _ => by unfold abV; rw [if_pos (by omega), ez_5]; rfl⟩
          exact W.iret (v := z_5) hx hb hr (fun t ht hW => ⟨⟨z_5, z_5, rfl, ⟨rfl, trivial⟩, hz_0, xEnd hK hP9 hD9 ht hW⟩, hS.F ht⟩) hS.2.2 d_3_3_58
        have tc_4 : ¬ p2.toInt = 0 := fun h9 => c_4 (Int32.toInt_inj.mp h9)
        by_cases c_6 : p2 = 1
        · skip
          have tc_6 : p2.toInt = 1 := by rw [c_6]; rfl
          refine lv_tableIn (off := 36) (tgt := 59) hx hb d_3_3_23 (by omega) (by omega) (by rw [c_6]; decide +kernel) (by decide +kernel) ?_
          refine lv_aload_n hx hb d_3_3_59 rfl (lv_at hl 0 rfl) ?_
          refine va_get (D := D) (ci := 6) (v := .ref h29) (C := "AlgolJudge$Book") (T := T_Book) (N := 9) hx hb hts i_Book hown hK hP 0 rfl rfl 1 (by decide +kernel) (hts _ m_383) (fun _ h9 => h9) rfl d_3_3_60 ?_
          refine lv_iload_n hx hb d_3_3_63 rfl (lv_at hl 1 rfl) ?_
          refine va_iald hx hb hK hP 2 0 rfl rfl (vp_in_iff.mpr ⟨by omega, by omega⟩) d_3_3_64 ?_
          refine lv_topi (fun z_7 ez_7 => ?_)
          have hP9 := hP.sub (ws' := [(h6, .inr (6, [.ref h28, .ref h29, .ref h30, .ref h31, .ref h32, .ref h33, .ref h34, .int ow, .int on])), (h28, .inl (kI, 1501, .inl f28)), (h29, .inl (kI, 1501, .inl f29)), (h30, .inl (kI, 1501, .inl f30)), (h31, .inl (kI, 1501, .inl f31)), (h32, .inl (kI, 1501, .inl f32)), (h33, .inl (kI, 3000, .inl f33)), (h34, .inl (kI, 1501, .inl f34))]) [0, 1, 2, 3, 4, 5, 6, 7] rfl
          have hD9 := hD.sub (ws' := [(h6, .inr (6, [.ref h28, .ref h29, .ref h30, .ref h31, .ref h32, .ref h33, .ref h34, .int ow, .int on])), (h28, .inl (kI, 1501, .inl f28)), (h29, .inl (kI, 1501, .inl f29)), (h30, .inl (kI, 1501, .inl f30)), (h31, .inl (kI, 1501, .inl f31)), (h32, .inl (kI, 1501, .inl f32)), (h33, .inl (kI, 3000, .inl f33)), (h34, .inl (kI, 1501, .inl f34))]) [0, 1, 2, 3, 4, 5, 6, 7] (by decide) rfl
          have hz_0 : abC ow.toInt on.toInt f28 f29 f30 f31 f32 p1.toInt p2.toInt z_7.toInt := ⟨fun h9 => by exfalso; omega, fun _ => by unfold abV; rw [if_neg (by omega), if_pos (by omega), ez_7]; rfl⟩
          exact W.iret (v := z_7) hx hb hr (fun t ht hW => ⟨⟨z_7, z_7, rfl, ⟨rfl, trivial⟩, hz_0, xEnd hK hP9 hD9 ht hW⟩, hS.F ht⟩) hS.2.2 d_3_3_65
        have tc_6 : ¬ p2.toInt = 1 := fun h9 => c_6 (Int32.toInt_inj.mp h9)
        by_cases c_8 : p2 = 2
        · skip
          have tc_8 : p2.toInt = 2 := by rw [c_8]; rfl
          refine lv_tableIn (off := 43) (tgt := 66) hx hb d_3_3_23 (by omega) (by omega) (by rw [c_8]; decide +kernel) (by decide +kernel) ?_
          refine lv_aload_n hx hb d_3_3_66 rfl (lv_at hl 0 rfl) ?_
          refine va_get (D := D) (ci := 6) (v := .ref h30) (C := "AlgolJudge$Book") (T := T_Book) (N := 9) hx hb hts i_Book hown hK hP 0 rfl rfl 2 (by decide +kernel) (hts _ m_384) (fun _ h9 => h9) rfl d_3_3_67 ?_
          refine lv_iload_n hx hb d_3_3_70 rfl (lv_at hl 1 rfl) ?_
          refine va_iald hx hb hK hP 3 0 rfl rfl (vp_in_iff.mpr ⟨by omega, by omega⟩) d_3_3_71 ?_
          refine lv_topi (fun z_9 ez_9 => ?_)
          have hP9 := hP.sub (ws' := [(h6, .inr (6, [.ref h28, .ref h29, .ref h30, .ref h31, .ref h32, .ref h33, .ref h34, .int ow, .int on])), (h28, .inl (kI, 1501, .inl f28)), (h29, .inl (kI, 1501, .inl f29)), (h30, .inl (kI, 1501, .inl f30)), (h31, .inl (kI, 1501, .inl f31)), (h32, .inl (kI, 1501, .inl f32)), (h33, .inl (kI, 3000, .inl f33)), (h34, .inl (kI, 1501, .inl f34))]) [0, 1, 2, 3, 4, 5, 6, 7] rfl
          have hD9 := hD.sub (ws' := [(h6, .inr (6, [.ref h28, .ref h29, .ref h30, .ref h31, .ref h32, .ref h33, .ref h34, .int ow, .int on])), (h28, .inl (kI, 1501, .inl f28)), (h29, .inl (kI, 1501, .inl f29)), (h30, .inl (kI, 1501, .inl f30)), (h31, .inl (kI, 1501, .inl f31)), (h32, .inl (kI, 1501, .inl f32)), (h33, .inl (kI, 3000, .inl f33)), (h34, .inl (kI, 1501, .inl f34))]) [0, 1, 2, 3, 4, 5, 6, 7] (by decide) rfl
          have hz_0 : abC ow.toInt on.toInt f28 f29 f30 f31 f32 p1.toInt p2.toInt z_9.toInt := ⟨fun h9 => by exfalso; omega, fun _ => by unfold abV; rw [if_neg (by omega), if_neg (by omega), if_pos (by omega), ez_9]; rfl⟩
          exact W.iret (v := z_9) hx hb hr (fun t ht hW => ⟨⟨z_9, z_9, rfl, ⟨rfl, trivial⟩, hz_0, xEnd hK hP9 hD9 ht hW⟩, hS.F ht⟩) hS.2.2 d_3_3_72
        have tc_8 : ¬ p2.toInt = 2 := fun h9 => c_8 (Int32.toInt_inj.mp h9)
        by_cases c_10 : p2 = 3
        · skip
          have tc_10 : p2.toInt = 3 := by rw [c_10]; rfl
          refine lv_tableIn (off := 50) (tgt := 73) hx hb d_3_3_23 (by omega) (by omega) (by rw [c_10]; decide +kernel) (by decide +kernel) ?_
          refine lv_aload_n hx hb d_3_3_73 rfl (lv_at hl 0 rfl) ?_
          refine va_get (D := D) (ci := 6) (v := .ref h31) (C := "AlgolJudge$Book") (T := T_Book) (N := 9) hx hb hts i_Book hown hK hP 0 rfl rfl 3 (by decide +kernel) (hts _ m_385) (fun _ h9 => h9) rfl d_3_3_74 ?_
          refine lv_iload_n hx hb d_3_3_77 rfl (lv_at hl 1 rfl) ?_
          refine va_iald hx hb hK hP 4 0 rfl rfl (vp_in_iff.mpr ⟨by omega, by omega⟩) d_3_3_78 ?_
          refine lv_topi (fun z_11 ez_11 => ?_)
          have hP9 := hP.sub (ws' := [(h6, .inr (6, [.ref h28, .ref h29, .ref h30, .ref h31, .ref h32, .ref h33, .ref h34, .int ow, .int on])), (h28, .inl (kI, 1501, .inl f28)), (h29, .inl (kI, 1501, .inl f29)), (h30, .inl (kI, 1501, .inl f30)), (h31, .inl (kI, 1501, .inl f31)), (h32, .inl (kI, 1501, .inl f32)), (h33, .inl (kI, 3000, .inl f33)), (h34, .inl (kI, 1501, .inl f34))]) [0, 1, 2, 3, 4, 5, 6, 7] rfl
          have hD9 := hD.sub (ws' := [(h6, .inr (6, [.ref h28, .ref h29, .ref h30, .ref h31, .ref h32, .ref h33, .ref h34, .int ow, .int on])), (h28, .inl (kI, 1501, .inl f28)), (h29, .inl (kI, 1501, .inl f29)), (h30, .inl (kI, 1501, .inl f30)), (h31, .inl (kI, 1501, .inl f31)), (h32, .inl (kI, 1501, .inl f32)), (h33, .inl (kI, 3000, .inl f33)), (h34, .inl (kI, 1501, .inl f34))]) [0, 1, 2, 3, 4, 5, 6, 7] (by decide) rfl
          have hz_0 : abC ow.toInt on.toInt f28 f29 f30 f31 f32 p1.toInt p2.toInt z_11.toInt := ⟨fun h9 => by exfalso; omega, fun _ => by unfold abV; rw [if_neg (by omega), if_neg (by omega), if_neg (by omega), if_pos (by omega), ez_11]; rfl⟩
          exact W.iret (v := z_11) hx hb hr (fun t ht hW => ⟨⟨z_11, z_11, rfl, ⟨rfl, trivial⟩, hz_0, xEnd hK hP9 hD9 ht hW⟩, hS.F ht⟩) hS.2.2 d_3_3_79
        have tc_10 : ¬ p2.toInt = 3 := fun h9 => c_10 (Int32.toInt_inj.mp h9)
        refine lv_tableOut (tgt := 80) hx hb d_3_3_23 (by omega) (by decide +kernel) ?_
        refine lv_aload_n hx hb d_3_3_80 rfl (lv_at hl 0 rfl) ?_
        refine va_get (D := D) (ci := 6) (v := .ref h32) (C := "AlgolJudge$Book") (T := T_Book) (N := 9) hx hb hts i_Book hown hK hP 0 rfl rfl 4 (by decide +kernel) (hts _ m_386) (fun _ h9 => h9) rfl d_3_3_81 ?_
        refine lv_iload_n hx hb d_3_3_84 rfl (lv_at hl 1 rfl) ?_
        refine va_iald hx hb hK hP 5 0 rfl rfl (vp_in_iff.mpr ⟨by omega, by omega⟩) d_3_3_85 ?_
        refine lv_topi (fun z_12 ez_12 => ?_)
        have hP9 := hP.sub (ws' := [(h6, .inr (6, [.ref h28, .ref h29, .ref h30, .ref h31, .ref h32, .ref h33, .ref h34, .int ow, .int on])), (h28, .inl (kI, 1501, .inl f28)), (h29, .inl (kI, 1501, .inl f29)), (h30, .inl (kI, 1501, .inl f30)), (h31, .inl (kI, 1501, .inl f31)), (h32, .inl (kI, 1501, .inl f32)), (h33, .inl (kI, 3000, .inl f33)), (h34, .inl (kI, 1501, .inl f34))]) [0, 1, 2, 3, 4, 5, 6, 7] rfl
        have hD9 := hD.sub (ws' := [(h6, .inr (6, [.ref h28, .ref h29, .ref h30, .ref h31, .ref h32, .ref h33, .ref h34, .int ow, .int on])), (h28, .inl (kI, 1501, .inl f28)), (h29, .inl (kI, 1501, .inl f29)), (h30, .inl (kI, 1501, .inl f30)), (h31, .inl (kI, 1501, .inl f31)), (h32, .inl (kI, 1501, .inl f32)), (h33, .inl (kI, 3000, .inl f33)), (h34, .inl (kI, 1501, .inl f34))]) [0, 1, 2, 3, 4, 5, 6, 7] (by decide) rfl
        have hz_0 : abC ow.toInt on.toInt f28 f29 f30 f31 f32 p1.toInt p2.toInt z_12.toInt := ⟨fun h9 => by exfalso; omega, fun _ => by unfold abV; rw [if_neg (by omega), if_neg (by omega), if_neg (by omega), if_neg (by omega), ez_12]; rfl⟩
        exact W.iret (v := z_12) hx hb hr (fun t ht hW => ⟨⟨z_12, z_12, rfl, ⟨rfl, trivial⟩, hz_0, xEnd hK hP9 hD9 ht hW⟩, hS.F ht⟩) hS.2.2 d_3_3_86
      · skip
        have tc_3 : ¬ p1.toInt < on.toInt := fun h9 => c_3 (Int32.lt_iff_toInt_lt.mpr h9)
        refine lv_bipush (v := (-2)) hx hb d_3_3_19 (by decide +kernel) ?_
        have hP9 := hP.sub (ws' := [(h6, .inr (6, [.ref h28, .ref h29, .ref h30, .ref h31, .ref h32, .ref h33, .ref h34, .int ow, .int on])), (h28, .inl (kI, 1501, .inl f28)), (h29, .inl (kI, 1501, .inl f29)), (h30, .inl (kI, 1501, .inl f30)), (h31, .inl (kI, 1501, .inl f31)), (h32, .inl (kI, 1501, .inl f32)), (h33, .inl (kI, 3000, .inl f33)), (h34, .inl (kI, 1501, .inl f34))]) [0, 1, 2, 3, 4, 5, 6, 7] rfl
        have hD9 := hD.sub (ws' := [(h6, .inr (6, [.ref h28, .ref h29, .ref h30, .ref h31, .ref h32, .ref h33, .ref h34, .int ow, .int on])), (h28, .inl (kI, 1501, .inl f28)), (h29, .inl (kI, 1501, .inl f29)), (h30, .inl (kI, 1501, .inl f30)), (h31, .inl (kI, 1501, .inl f31)), (h32, .inl (kI, 1501, .inl f32)), (h33, .inl (kI, 3000, .inl f33)), (h34, .inl (kI, 1501, .inl f34))]) [0, 1, 2, 3, 4, 5, 6, 7] (by decide) rfl
        have hz_0 : abC ow.toInt on.toInt f28 f29 f30 f31 f32 p1.toInt p2.toInt ((-2) : Int) := ⟨fun _ => rfl, fun h9 => by exfalso; omega⟩
        exact W.iret (v := (-2)) hx hb hr (fun t ht hW => ⟨⟨(-2), (-2), rfl, ⟨rfl, trivial⟩, hz_0, xEnd hK hP9 hD9 ht hW⟩, hS.F ht⟩) hS.2.2 d_3_3_21
set_option maxHeartbeats 8000000 in
set_option maxRecDepth 100000 in
theorem g_Book_meaning (l : Launch) (D : va_G) (kI kJ kB kZ : ClassId) (sz : Nat) (h6 : Nat) (h28 : Nat) (h29 : Nat) (h30 : Nat) (h31 : Nat) (h32 : Nat) (h33 : Nat) (h34 : Nat) (ow : Int32) (on : Int32) (f28 : Nat → Int32) (f29 : Nat → Int32) (f30 : Nat → Int32) (f31 : Nat → Int32) (f32 : Nat → Int32) (f33 : Nat → Int32) (f34 : Nat → Int32) (p1 : Int32)  : Met l (⟨"AlgolJudge$Book", "meaning", "(I)I"⟩ : MethodName) (Cond.code (⟨"AlgolJudge$Book", "meaning", "(I)I"⟩ : MethodName) prog_3_method_4_code 2 (some .int) :: gT) ({ frames := 0, cells := 0, slots := 0, locals := 0 }) (va_Pc [.ref h6, .int p1] (xP D (xT kI kJ kB kZ) xN [(h6, .inr (6, [.ref h28, .ref h29, .ref h30, .ref h31, .ref h32, .ref h33, .ref h34, .int ow, .int on])), (h28, .inl (kI, 1501, .inl f28)), (h29, .inl (kI, 1501, .inl f29)), (h30, .inl (kI, 1501, .inl f30)), (h31, .inl (kI, 1501, .inl f31)), (h32, .inl (kI, 1501, .inl f32)), (h33, .inl (kI, 3000, .inl f33)), (h34, .inl (kI, 1501, .inl f34))] sz)) (va_Qi (fun (r : Int32) (u : Int32) => r = u ∧ (True)) (fun u t => ((¬ ow.toInt = 0 → u.toInt = gG (rI f33) 3000 (-2) p1.toInt) ∧ (ow.toInt = 0 → u.toInt = -2)) ∧ xQ D (xT kI kJ kB kZ) (va_A [(h6, .inr (6, [.ref h28, .ref h29, .ref h30, .ref h31, .ref h32, .ref h33, .ref h34, .int ow, .int on])), (h28, .inl (kI, 1501, .inl f28)), (h29, .inl (kI, 1501, .inl f29)), (h30, .inl (kI, 1501, .inl f30)), (h31, .inl (kI, 1501, .inl f31)), (h32, .inl (kI, 1501, .inl f32)), (h33, .inl (kI, 3000, .inl f33)), (h34, .inl (kI, 1501, .inl f34))] sz) [(h6, .inr (6, [.ref h28, .ref h29, .ref h30, .ref h31, .ref h32, .ref h33, .ref h34, .int ow, .int on])), (h28, .inl (kI, 1501, .inl f28)), (h29, .inl (kI, 1501, .inl f29)), (h30, .inl (kI, 1501, .inl f30)), (h31, .inl (kI, 1501, .inl f31)), (h32, .inl (kI, 1501, .inl f32)), (h33, .inl (kI, 3000, .inl f33)), (h34, .inl (kI, 1501, .inl f34))] t) (va_A [(h6, .inr (6, [.ref h28, .ref h29, .ref h30, .ref h31, .ref h32, .ref h33, .ref h34, .int ow, .int on])), (h28, .inl (kI, 1501, .inl f28)), (h29, .inl (kI, 1501, .inl f29)), (h30, .inl (kI, 1501, .inl f30)), (h31, .inl (kI, 1501, .inl f31)), (h32, .inl (kI, 1501, .inl f32)), (h33, .inl (kI, 3000, .inl f33)), (h34, .inl (kI, 1501, .inl f34))] sz)) 0 0 (va_A [(h6, .inr (6, [.ref h28, .ref h29, .ref h30, .ref h31, .ref h32, .ref h33, .ref h34, .int ow, .int on])), (h28, .inl (kI, 1501, .inl f28)), (h29, .inl (kI, 1501, .inl f29)), (h30, .inl (kI, 1501, .inl f30)), (h31, .inl (kI, 1501, .inl f31)), (h32, .inl (kI, 1501, .inl f32)), (h33, .inl (kI, 3000, .inl f33)), (h34, .inl (kI, 1501, .inl f34))] sz) := by
  refine Met.ofW (cc := prog_3_method_4_code) (maxL := 2) (ret := some .int) (by decide +kernel) rfl ?_
  intro p e s m args below meth c s₁ B hml hv
  obtain ⟨rfl, hsz, hP, hK, hD0, hE⟩ := hv
  have hx := B.exec
  have hb := B.bytes
  have hr := B.returns
  have hts : ∀ w ∈ gT, w.before _ s = true := fun w h => atoms_spec (ws := Cond.code (⟨"AlgolJudge$Book", "meaning", "(I)I"⟩ : MethodName) prog_3_method_4_code 2 (some .int) :: gT) B.pre w (List.mem_cons_of_mem _ h)
  have hown : s.vm.findClass "AlgolJudge$Book" = some m.cls := findClass_of_methodNamed B.named
  have hlocks := B.notSynchronized
  subst hsz
  have hD := hD0.self (sz := s.heap.size)
  generalize hAe : va_A [(h6, .inr (6, [.ref h28, .ref h29, .ref h30, .ref h31, .ref h32, .ref h33, .ref h34, .int ow, .int on])), (h28, .inl (kI, 1501, .inl f28)), (h29, .inl (kI, 1501, .inl f29)), (h30, .inl (kI, 1501, .inl f30)), (h31, .inl (kI, 1501, .inl f31)), (h32, .inl (kI, 1501, .inl f32)), (h33, .inl (kI, 3000, .inl f33)), (h34, .inl (kI, 1501, .inl f34))] s.heap.size = A at hD hE ⊢
  have hA : ∀ q : Nat, s.heap.size ≤ q → A q := fun q h => by rw [← hAe]; exact Or.inr h
  have hS : va_S A s.heap s.heap [] := va_S.rf
  have hP : va_P D cls9 [(h6, .inr (6, [.ref h28, .ref h29, .ref h30, .ref h31, .ref h32, .ref h33, .ref h34, .int ow, .int on])), (h28, .inl (kI, 1501, .inl f28)), (h29, .inl (kI, 1501, .inl f29)), (h30, .inl (kI, 1501, .inl f30)), (h31, .inl (kI, 1501, .inl f31)), (h32, .inl (kI, 1501, .inl f32)), (h33, .inl (kI, 3000, .inl f33)), (h34, .inl (kI, 1501, .inl f34))] s.heap := hP
  have hl := lv_entry ([.ref h6, .int p1]) (n := 2) (Nat.le_of_ble_eq_true rfl)
  rw [lg_entry_eq]
  generalize (lg_sl ([.ref h6, .int p1]) ++ List.replicate (2 - (lg_sl ([.ref h6, .int p1])).length) Slot.unset).toArray = ls at hl ⊢
  have hl : lv_has ls 2 [(0, .ref h6), (1, .int p1)] := hl
  refine lv_aload_n hx hb d_3_4_0 rfl (lv_at hl 0 rfl) ?_
  refine va_get (D := D) (ci := 6) (v := .int ow) (C := "AlgolJudge$Book") (T := T_Book) (N := 9) hx hb hts i_Book hown hK hP 0 rfl rfl 7 (by decide +kernel) (hts _ m_389) (fun _ h9 => h9) rfl d_3_4_1 ?_
  refine lv_if_eq (tgt := 27) hx hb d_3_4_4 (by decide +kernel) (fun c_1 => ?_) (fun c_1 => ?_)
  · skip
    have tc_1 : ow.toInt = 0 := congrArg Int32.toInt c_1
    refine lv_bipush (v := (-2)) hx hb d_3_4_27 (by decide +kernel) ?_
    have hP9 := hP.sub (ws' := [(h6, .inr (6, [.ref h28, .ref h29, .ref h30, .ref h31, .ref h32, .ref h33, .ref h34, .int ow, .int on])), (h28, .inl (kI, 1501, .inl f28)), (h29, .inl (kI, 1501, .inl f29)), (h30, .inl (kI, 1501, .inl f30)), (h31, .inl (kI, 1501, .inl f31)), (h32, .inl (kI, 1501, .inl f32)), (h33, .inl (kI, 3000, .inl f33)), (h34, .inl (kI, 1501, .inl f34))]) [0, 1, 2, 3, 4, 5, 6, 7] rfl
    have hD9 := hD.sub (ws' := [(h6, .inr (6, [.ref h28, .ref h29, .ref h30, .ref h31, .ref h32, .ref h33, .ref h34, .int ow, .int on])), (h28, .inl (kI, 1501, .inl f28)), (h29, .inl (kI, 1501, .inl f29)), (h30, .inl (kI, 1501, .inl f30)), (h31, .inl (kI, 1501, .inl f31)), (h32, .inl (kI, 1501, .inl f32)), (h33, .inl (kI, 3000, .inl f33)), (h34, .inl (kI, 1501, .inl f34))]) [0, 1, 2, 3, 4, 5, 6, 7] (by decide) rfl
    have hz_0 : (¬ ow.toInt = 0 → ((-2) : Int) = gG (rI f33) 3000 (-2) p1.toInt) ∧ (ow.toInt = 0 → ((-2) : Int) = -2) := ⟨fun h9 => (by first | (exfalso; omega) | exact gG_out (by omega)), fun _ => rfl⟩
    exact W.iret (v := (-2)) hx hb hr (fun t ht hW => ⟨⟨(-2), (-2), rfl, ⟨rfl, trivial⟩, hz_0, xEnd hK hP9 hD9 ht hW⟩, hS.F ht⟩) hS.2.2 d_3_4_29
  · skip
    have tc_1 : ¬ ow.toInt = 0 := fun h9 => c_1 (Int32.toInt_inj.mp h9)
    refine lv_iload_n hx hb d_3_4_7 rfl (lv_at hl 1 rfl) ?_
    refine lv_if_lt (tgt := 27) hx hb d_3_4_8 (by decide +kernel) (fun c_2 => ?_) (fun c_2 => ?_)
    · skip
      have tc_2 : p1.toInt < 0 := Int32.lt_iff_toInt_lt.mp c_2
      refine lv_bipush (v := (-2)) hx hb d_3_4_27 (by decide +kernel) ?_
      have hP9 := hP.sub (ws' := [(h6, .inr (6, [.ref h28, .ref h29, .ref h30, .ref h31, .ref h32, .ref h33, .ref h34, .int ow, .int on])), (h28, .inl (kI, 1501, .inl f28)), (h29, .inl (kI, 1501, .inl f29)), (h30, .inl (kI, 1501, .inl f30)), (h31, .inl (kI, 1501, .inl f31)), (h32, .inl (kI, 1501, .inl f32)), (h33, .inl (kI, 3000, .inl f33)), (h34, .inl (kI, 1501, .inl f34))]) [0, 1, 2, 3, 4, 5, 6, 7] rfl
      have hD9 := hD.sub (ws' := [(h6, .inr (6, [.ref h28, .ref h29, .ref h30, .ref h31, .ref h32, .ref h33, .ref h34, .int ow, .int on])), (h28, .inl (kI, 1501, .inl f28)), (h29, .inl (kI, 1501, .inl f29)), (h30, .inl (kI, 1501, .inl f30)), (h31, .inl (kI, 1501, .inl f31)), (h32, .inl (kI, 1501, .inl f32)), (h33, .inl (kI, 3000, .inl f33)), (h34, .inl (kI, 1501, .inl f34))]) [0, 1, 2, 3, 4, 5, 6, 7] (by decide) rfl
      have hz_0 : (¬ ow.toInt = 0 → ((-2) : Int) = gG (rI f33) 3000 (-2) p1.toInt) ∧ (ow.toInt = 0 → ((-2) : Int) = -2) := ⟨fun h9 => (by first | (exfalso; omega) | exact gG_out (by omega)), fun _ => rfl⟩
      exact W.iret (v := (-2)) hx hb hr (fun t ht hW => ⟨⟨(-2), (-2), rfl, ⟨rfl, trivial⟩, hz_0, xEnd hK hP9 hD9 ht hW⟩, hS.F ht⟩) hS.2.2 d_3_4_29
    · skip
      have tc_2 : ¬ p1.toInt < 0 := fun h9 => c_2 (Int32.lt_iff_toInt_lt.mpr h9)
      refine lv_iload_n hx hb d_3_4_11 rfl (lv_at hl 1 rfl) ?_
      refine lv_sipush (v := 3000) hx hb d_3_4_12 (by decide +kernel) ?_
      refine lv_icmp_ge (tgt := 27) hx hb d_3_4_15 (by decide +kernel) (fun c_3 => ?_) (fun c_3 => ?_)
      · skip
        have tc_3 : 3000 ≤ p1.toInt := Int32.le_iff_toInt_le.mp c_3
        refine lv_bipush (v := (-2)) hx hb d_3_4_27 (by decide +kernel) ?_
        have hP9 := hP.sub (ws' := [(h6, .inr (6, [.ref h28, .ref h29, .ref h30, .ref h31, .ref h32, .ref h33, .ref h34, .int ow, .int on])), (h28, .inl (kI, 1501, .inl f28)), (h29, .inl (kI, 1501, .inl f29)), (h30, .inl (kI, 1501, .inl f30)), (h31, .inl (kI, 1501, .inl f31)), (h32, .inl (kI, 1501, .inl f32)), (h33, .inl (kI, 3000, .inl f33)), (h34, .inl (kI, 1501, .inl f34))]) [0, 1, 2, 3, 4, 5, 6, 7] rfl
        have hD9 := hD.sub (ws' := [(h6, .inr (6, [.ref h28, .ref h29, .ref h30, .ref h31, .ref h32, .ref h33, .ref h34, .int ow, .int on])), (h28, .inl (kI, 1501, .inl f28)), (h29, .inl (kI, 1501, .inl f29)), (h30, .inl (kI, 1501, .inl f30)), (h31, .inl (kI, 1501, .inl f31)), (h32, .inl (kI, 1501, .inl f32)), (h33, .inl (kI, 3000, .inl f33)), (h34, .inl (kI, 1501, .inl f34))]) [0, 1, 2, 3, 4, 5, 6, 7] (by decide) rfl
        have hz_0 : (¬ ow.toInt = 0 → ((-2) : Int) = gG (rI f33) 3000 (-2) p1.toInt) ∧ (ow.toInt = 0 → ((-2) : Int) = -2) := ⟨fun h9 => (by first | (exfalso; omega) | exact gG_out (by omega)), fun _ => rfl⟩
        exact W.iret (v := (-2)) hx hb hr (fun t ht hW => ⟨⟨(-2), (-2), rfl, ⟨rfl, trivial⟩, hz_0, xEnd hK hP9 hD9 ht hW⟩, hS.F ht⟩) hS.2.2 d_3_4_29
      · skip
        have tc_3 : ¬ 3000 ≤ p1.toInt := fun h9 => c_3 (Int32.le_iff_toInt_le.mpr h9)
        refine lv_aload_n hx hb d_3_4_18 rfl (lv_at hl 0 rfl) ?_
        refine va_get (D := D) (ci := 6) (v := .ref h33) (C := "AlgolJudge$Book") (T := T_Book) (N := 9) hx hb hts i_Book hown hK hP 0 rfl rfl 5 (by decide +kernel) (hts _ m_387) (fun _ h9 => h9) rfl d_3_4_19 ?_
        refine lv_iload_n hx hb d_3_4_22 rfl (lv_at hl 1 rfl) ?_
        refine va_iald hx hb hK hP 6 0 rfl rfl (vp_in_iff.mpr ⟨by omega, by omega⟩) d_3_4_23 ?_
        refine lv_topi (fun z_4 ez_4 => ?_)
        refine lv_goto (tgt := 29) hx hb d_3_4_24 (by decide +kernel) ?_
        have hP9 := hP.sub (ws' := [(h6, .inr (6, [.ref h28, .ref h29, .ref h30, .ref h31, .ref h32, .ref h33, .ref h34, .int ow, .int on])), (h28, .inl (kI, 1501, .inl f28)), (h29, .inl (kI, 1501, .inl f29)), (h30, .inl (kI, 1501, .inl f30)), (h31, .inl (kI, 1501, .inl f31)), (h32, .inl (kI, 1501, .inl f32)), (h33, .inl (kI, 3000, .inl f33)), (h34, .inl (kI, 1501, .inl f34))]) [0, 1, 2, 3, 4, 5, 6, 7] rfl
        have hD9 := hD.sub (ws' := [(h6, .inr (6, [.ref h28, .ref h29, .ref h30, .ref h31, .ref h32, .ref h33, .ref h34, .int ow, .int on])), (h28, .inl (kI, 1501, .inl f28)), (h29, .inl (kI, 1501, .inl f29)), (h30, .inl (kI, 1501, .inl f30)), (h31, .inl (kI, 1501, .inl f31)), (h32, .inl (kI, 1501, .inl f32)), (h33, .inl (kI, 3000, .inl f33)), (h34, .inl (kI, 1501, .inl f34))]) [0, 1, 2, 3, 4, 5, 6, 7] (by decide) rfl
        have hz_0 : (¬ ow.toInt = 0 → z_4.toInt = gG (rI f33) 3000 (-2) p1.toInt) ∧ (ow.toInt = 0 → z_4.toInt = -2) := ⟨fun _ => (by rw [ez_4]; exact gG_in (by omega) (by omega)), fun h9 => by exfalso; omega⟩
        exact W.iret (v := z_4) hx hb hr (fun t ht hW => ⟨⟨z_4, z_4, rfl, ⟨rfl, trivial⟩, hz_0, xEnd hK hP9 hD9 ht hW⟩, hS.F ht⟩) hS.2.2 d_3_4_29
set_option maxHeartbeats 8000000 in
set_option maxRecDepth 100000 in
theorem g_AlgolJudge_append (l : Launch) (D : va_G) (kI kJ kB kZ : ClassId) (sz : Nat) (h0 : Nat) (h1 : Nat) (h2 : Nat) (h3 : Nat) (h4 : Nat) (h5 : Nat) (h6 : Nat) (jl : Int32) (f1 : Nat → Int32) (p1 : Int32) (hf_J1 : 0 ≤ jl.toInt) (hf_J2 : jl.toInt ≤ 3000) (hq_0 : jl.toInt ≤ 2996) : Met l (⟨"AlgolJudge", "append", "(I)V"⟩ : MethodName) (Cond.code (⟨"AlgolJudge", "append", "(I)V"⟩ : MethodName) prog_1_method_8_code 3 (none) :: gT) ({ frames := 0, cells := 0, slots := 0, locals := 0 }) (va_Pc [.ref h0, .int p1] (xP D (xT kI kJ kB kZ) xN [(h0, .inr (7, [.ref h1, .ref h2, .ref h3, .ref h4, .ref h5, .ref h6, .int jl])), (h1, .inl (kB, 3000, .inl f1))] sz)) (va_Qv (fun _ : Unit => True) (fun _ t => ∃ jl' : Int32, ∃ f1' : Nat → Int32, (0 ≤ jl'.toInt) ∧ (jl'.toInt ≤ 3000) ∧ (jl'.toInt = jl.toInt + 4) ∧ (f1' = b4 f1 jl.toInt.toNat p1) ∧ xQ D (xT kI kJ kB kZ) (va_A [(h0, .inr (7, [.ref h1, .ref h2, .ref h3, .ref h4, .ref h5, .ref h6, .int jl])), (h1, .inl (kB, 3000, .inl f1))] sz) [(h0, .inr (7, [.ref h1, .ref h2, .ref h3, .ref h4, .ref h5, .ref h6, .int jl'])), (h1, .inl (kB, 3000, .inl f1'))] t) (va_A [(h0, .inr (7, [.ref h1, .ref h2, .ref h3, .ref h4, .ref h5, .ref h6, .int jl])), (h1, .inl (kB, 3000, .inl f1))] sz)) 0 0 (va_A [(h0, .inr (7, [.ref h1, .ref h2, .ref h3, .ref h4, .ref h5, .ref h6, .int jl])), (h1, .inl (kB, 3000, .inl f1))] sz) := by
  refine Met.ofW (cc := prog_1_method_8_code) (maxL := 3) (ret := none) (by decide +kernel) rfl ?_
  intro p e s m args below meth c s₁ B hml hv
  obtain ⟨rfl, hsz, hP, hK, hD0, hE⟩ := hv
  have hx := B.exec
  have hb := B.bytes
  have hr := B.returns
  have hts : ∀ w ∈ gT, w.before _ s = true := fun w h => atoms_spec (ws := Cond.code (⟨"AlgolJudge", "append", "(I)V"⟩ : MethodName) prog_1_method_8_code 3 (none) :: gT) B.pre w (List.mem_cons_of_mem _ h)
  have hown : s.vm.findClass "AlgolJudge" = some m.cls := findClass_of_methodNamed B.named
  have hlocks := B.notSynchronized
  subst hsz
  have hD := hD0.self (sz := s.heap.size)
  generalize hAe : va_A [(h0, .inr (7, [.ref h1, .ref h2, .ref h3, .ref h4, .ref h5, .ref h6, .int jl])), (h1, .inl (kB, 3000, .inl f1))] s.heap.size = A at hD hE ⊢
  have hA : ∀ q : Nat, s.heap.size ≤ q → A q := fun q h => by rw [← hAe]; exact Or.inr h
  have hS : va_S A s.heap s.heap [] := va_S.rf
  have hP : va_P D cls9 [(h0, .inr (7, [.ref h1, .ref h2, .ref h3, .ref h4, .ref h5, .ref h6, .int jl])), (h1, .inl (kB, 3000, .inl f1))] s.heap := hP
  have hl := lv_entry ([.ref h0, .int p1]) (n := 3) (Nat.le_of_ble_eq_true rfl)
  rw [lg_entry_eq]
  generalize (lg_sl ([.ref h0, .int p1]) ++ List.replicate (3 - (lg_sl ([.ref h0, .int p1])).length) Slot.unset).toArray = ls at hl ⊢
  have hl : lv_has ls 3 [(0, .ref h0), (1, .int p1)] := hl
  refine lv_bipush (v := 24) hx hb d_1_8_0 (by decide +kernel) ?_
  refine lv_istore_n (lv' := [(2, .int 24), (0, .ref h0), (1, .int p1)]) hx hb d_1_8_2 rfl hl (by decide +kernel) rfl (fun ls hl => ?_)
  refine lv_iload_n hx hb d_1_8_3 rfl (lv_at hl 0 rfl) ?_
  refine lv_if_lt (tgt := 46) hx hb d_1_8_4 (by decide +kernel) (fun c_1 => ?_) (fun c_1 => ?_)
  · exact absurd c_1 (by decide +kernel)
  refine lv_aload_n hx hb d_1_8_7 rfl (lv_at hl 1 rfl) ?_
  refine va_get (D := D) (ci := 7) (v := .int jl) (C := "AlgolJudge") (T := T_Judge) (N := 7) hx hb hts i_Judge hown hK hP 0 rfl rfl 6 (by decide +kernel) (hts _ m_416) (fun _ h9 => h9) rfl d_1_8_8 ?_
  refine lv_sipush (v := 3000) hx hb d_1_8_11 (by decide +kernel) ?_
  refine lv_icmp_ge (tgt := 40) hx hb d_1_8_14 (by decide +kernel) (fun c_2 => ?_) (fun c_2 => ?_)
  · skip
    have tc_2 : 3000 ≤ jl.toInt := Int32.le_iff_toInt_le.mp c_2
    exfalso
    omega
  · skip
    have tc_2 : ¬ 3000 ≤ jl.toInt := fun h9 => c_2 (Int32.le_iff_toInt_le.mpr h9)
    refine lv_aload_n hx hb d_1_8_17 rfl (lv_at hl 1 rfl) ?_
    refine va_get (D := D) (ci := 7) (v := .ref h1) (C := "AlgolJudge") (T := T_Judge) (N := 7) hx hb hts i_Judge hown hK hP 0 rfl rfl 0 (by decide +kernel) (hts _ m_410) (fun _ h9 => h9) rfl d_1_8_18 ?_
    refine lv_aload_n hx hb d_1_8_21 rfl (lv_at hl 1 rfl) ?_
    refine va_get (D := D) (ci := 7) (v := .int jl) (C := "AlgolJudge") (T := T_Judge) (N := 7) hx hb hts i_Judge hown hK hP 0 rfl rfl 6 (by decide +kernel) (hts _ m_416) (fun _ h9 => h9) rfl d_1_8_22 ?_
    refine lv_iload_n hx hb d_1_8_25 rfl (lv_at hl 2 rfl) ?_
    refine lv_iload_n hx hb d_1_8_26 rfl (lv_at hl 0 rfl) ?_
    refine lv_ishr hx hb d_1_8_27 ?_
    refine lv_topi (fun y_3 ey_3 => ?_)
    refine lv_i2b (v := (y_3.toInt8.toInt32)) hx hb d_1_8_28 rfl ?_
    refine va_bast hx hb hK hP hD hS 1 2 rfl rfl (vp_in_iff.mpr ⟨by omega, by omega⟩) d_1_8_29 (fun H locs hP1 hD1 hS1 => ?_)
    replace hP : va_P D cls9 [(h0, .inr (7, [.ref h1, .ref h2, .ref h3, .ref h4, .ref h5, .ref h6, .int jl])), (h1, .inl (kB, 3000, .inl (upd f1 (Int32.toNatClampNeg jl) (vp_nar .byte (y_3.toInt8.toInt32)))))] H := hP1
    replace hD : va_D A [(h0, .inr (7, [.ref h1, .ref h2, .ref h3, .ref h4, .ref h5, .ref h6, .int jl])), (h1, .inl (kB, 3000, .inl (upd f1 (Int32.toNatClampNeg jl) (vp_nar .byte (y_3.toInt8.toInt32)))))] := hD1
    replace hS := hS1
    clear hP1 hD1 hS1
    refine lv_aload_n hx hb d_1_8_30 rfl (lv_at hl 1 rfl) ?_
    refine lv_dup hx hb d_1_8_31 rfl ?_
    refine va_get (D := D) (ci := 7) (v := .int jl) (C := "AlgolJudge") (T := T_Judge) (N := 7) hx hb hts i_Judge hown hK hP 0 rfl rfl 6 (by decide +kernel) (hts _ m_416) (fun _ h9 => h9) rfl d_1_8_32 ?_
    refine lv_iconst (v := 1) hx hb d_1_8_35 (by decide +kernel) ?_
    refine lv_iadd hx hb d_1_8_36 ?_
    refine lv_topi (fun y_4 ey_4 => ?_)
    have ty_4 : y_4.toInt = jl.toInt + 1 := by rw [ey_4]; exact zaddc (by decide +kernel) (by omega) (by omega)
    refine va_put (D := D) (ci := 7) (v := .int y_4) (ty := .int) (C := "AlgolJudge") (T := T_Judge) (N := 7) hx hb hts i_Judge t_Judge t_Judge_ok n_Judge hown hK hP hD hS 0 rfl rfl 6 (by decide +kernel) (hts _ m_416) (fun _ h9 => h9) rfl (by decide +kernel) rfl rfl (Nat.le_of_ble_eq_true rfl) d_1_8_37 (fun H locs hP1 hD1 hS1 => ?_)
    replace hP : va_P D cls9 [(h0, .inr (7, [.ref h1, .ref h2, .ref h3, .ref h4, .ref h5, .ref h6, .int y_4])), (h1, .inl (kB, 3000, .inl (upd f1 (Int32.toNatClampNeg jl) (vp_nar .byte (y_3.toInt8.toInt32)))))] H := hP1
    replace hD : va_D A [(h0, .inr (7, [.ref h1, .ref h2, .ref h3, .ref h4, .ref h5, .ref h6, .int y_4])), (h1, .inl (kB, 3000, .inl (upd f1 (Int32.toNatClampNeg jl) (vp_nar .byte (y_3.toInt8.toInt32)))))] := hD1
    replace hS := hS1
    clear hP1 hD1 hS1
    refine lv_iinc (v := 16) (lv' := [(2, .int 16), (0, .ref h0), (1, .int p1)]) hx hb d_1_8_40 hl (k := 0) rfl (by decide +kernel) (by decide +kernel) rfl (fun ls hl => ?_)
    refine lv_goto (tgt := 3) hx hb d_1_8_43 (by decide +kernel) ?_
    refine lv_iload_n hx hb d_1_8_3 rfl (lv_at hl 0 rfl) ?_
    refine lv_if_lt (tgt := 46) hx hb d_1_8_4 (by decide +kernel) (fun c_5 => ?_) (fun c_5 => ?_)
    · exact absurd c_5 (by decide +kernel)
    refine lv_aload_n hx hb d_1_8_7 rfl (lv_at hl 1 rfl) ?_
    refine va_get (D := D) (ci := 7) (v := .int y_4) (C := "AlgolJudge") (T := T_Judge) (N := 7) hx hb hts i_Judge hown hK hP 0 rfl rfl 6 (by decide +kernel) (hts _ m_416) (fun _ h9 => h9) rfl d_1_8_8 ?_
    refine lv_sipush (v := 3000) hx hb d_1_8_11 (by decide +kernel) ?_
    refine lv_icmp_ge (tgt := 40) hx hb d_1_8_14 (by decide +kernel) (fun c_6 => ?_) (fun c_6 => ?_)
    · skip
      have tc_6 : 3000 ≤ y_4.toInt := Int32.le_iff_toInt_le.mp c_6
      exfalso
      omega
    · skip
      have tc_6 : ¬ 3000 ≤ y_4.toInt := fun h9 => c_6 (Int32.le_iff_toInt_le.mpr h9)
      refine lv_aload_n hx hb d_1_8_17 rfl (lv_at hl 1 rfl) ?_
      refine va_get (D := D) (ci := 7) (v := .ref h1) (C := "AlgolJudge") (T := T_Judge) (N := 7) hx hb hts i_Judge hown hK hP 0 rfl rfl 0 (by decide +kernel) (hts _ m_410) (fun _ h9 => h9) rfl d_1_8_18 ?_
      refine lv_aload_n hx hb d_1_8_21 rfl (lv_at hl 1 rfl) ?_
      refine va_get (D := D) (ci := 7) (v := .int y_4) (C := "AlgolJudge") (T := T_Judge) (N := 7) hx hb hts i_Judge hown hK hP 0 rfl rfl 6 (by decide +kernel) (hts _ m_416) (fun _ h9 => h9) rfl d_1_8_22 ?_
      refine lv_iload_n hx hb d_1_8_25 rfl (lv_at hl 2 rfl) ?_
      refine lv_iload_n hx hb d_1_8_26 rfl (lv_at hl 0 rfl) ?_
      refine lv_ishr hx hb d_1_8_27 ?_
      refine lv_topi (fun y_7 ey_7 => ?_)
      refine lv_i2b (v := (y_7.toInt8.toInt32)) hx hb d_1_8_28 rfl ?_
      refine va_bast hx hb hK hP hD hS 1 2 rfl rfl (vp_in_iff.mpr ⟨by omega, by omega⟩) d_1_8_29 (fun H locs hP1 hD1 hS1 => ?_)
      replace hP : va_P D cls9 [(h0, .inr (7, [.ref h1, .ref h2, .ref h3, .ref h4, .ref h5, .ref h6, .int y_4])), (h1, .inl (kB, 3000, .inl (upd (upd f1 (Int32.toNatClampNeg jl) (vp_nar .byte (y_3.toInt8.toInt32))) (Int32.toNatClampNeg y_4) (vp_nar .byte (y_7.toInt8.toInt32)))))] H := hP1
      replace hD : va_D A [(h0, .inr (7, [.ref h1, .ref h2, .ref h3, .ref h4, .ref h5, .ref h6, .int y_4])), (h1, .inl (kB, 3000, .inl (upd (upd f1 (Int32.toNatClampNeg jl) (vp_nar .byte (y_3.toInt8.toInt32))) (Int32.toNatClampNeg y_4) (vp_nar .byte (y_7.toInt8.toInt32)))))] := hD1
      replace hS := hS1
      clear hP1 hD1 hS1
      refine lv_aload_n hx hb d_1_8_30 rfl (lv_at hl 1 rfl) ?_
      refine lv_dup hx hb d_1_8_31 rfl ?_
      refine va_get (D := D) (ci := 7) (v := .int y_4) (C := "AlgolJudge") (T := T_Judge) (N := 7) hx hb hts i_Judge hown hK hP 0 rfl rfl 6 (by decide +kernel) (hts _ m_416) (fun _ h9 => h9) rfl d_1_8_32 ?_
      refine lv_iconst (v := 1) hx hb d_1_8_35 (by decide +kernel) ?_
      refine lv_iadd hx hb d_1_8_36 ?_
      refine lv_topi (fun y_8 ey_8 => ?_)
      have ty_8 : y_8.toInt = y_4.toInt + 1 := by rw [ey_8]; exact zaddc (by decide +kernel) (by omega) (by omega)
      refine va_put (D := D) (ci := 7) (v := .int y_8) (ty := .int) (C := "AlgolJudge") (T := T_Judge) (N := 7) hx hb hts i_Judge t_Judge t_Judge_ok n_Judge hown hK hP hD hS 0 rfl rfl 6 (by decide +kernel) (hts _ m_416) (fun _ h9 => h9) rfl (by decide +kernel) rfl rfl (Nat.le_of_ble_eq_true rfl) d_1_8_37 (fun H locs hP1 hD1 hS1 => ?_)
      replace hP : va_P D cls9 [(h0, .inr (7, [.ref h1, .ref h2, .ref h3, .ref h4, .ref h5, .ref h6, .int y_8])), (h1, .inl (kB, 3000, .inl (upd (upd f1 (Int32.toNatClampNeg jl) (vp_nar .byte (y_3.toInt8.toInt32))) (Int32.toNatClampNeg y_4) (vp_nar .byte (y_7.toInt8.toInt32)))))] H := hP1
      replace hD : va_D A [(h0, .inr (7, [.ref h1, .ref h2, .ref h3, .ref h4, .ref h5, .ref h6, .int y_8])), (h1, .inl (kB, 3000, .inl (upd (upd f1 (Int32.toNatClampNeg jl) (vp_nar .byte (y_3.toInt8.toInt32))) (Int32.toNatClampNeg y_4) (vp_nar .byte (y_7.toInt8.toInt32)))))] := hD1
      replace hS := hS1
      clear hP1 hD1 hS1
      refine lv_iinc (v := 8) (lv' := [(2, .int 8), (0, .ref h0), (1, .int p1)]) hx hb d_1_8_40 hl (k := 0) rfl (by decide +kernel) (by decide +kernel) rfl (fun ls hl => ?_)
      refine lv_goto (tgt := 3) hx hb d_1_8_43 (by decide +kernel) ?_
      refine lv_iload_n hx hb d_1_8_3 rfl (lv_at hl 0 rfl) ?_
      refine lv_if_lt (tgt := 46) hx hb d_1_8_4 (by decide +kernel) (fun c_9 => ?_) (fun c_9 => ?_)
      · exact absurd c_9 (by decide +kernel)
      refine lv_aload_n hx hb d_1_8_7 rfl (lv_at hl 1 rfl) ?_
      refine va_get (D := D) (ci := 7) (v := .int y_8) (C := "AlgolJudge") (T := T_Judge) (N := 7) hx hb hts i_Judge hown hK hP 0 rfl rfl 6 (by decide +kernel) (hts _ m_416) (fun _ h9 => h9) rfl d_1_8_8 ?_
      refine lv_sipush (v := 3000) hx hb d_1_8_11 (by decide +kernel) ?_
      refine lv_icmp_ge (tgt := 40) hx hb d_1_8_14 (by decide +kernel) (fun c_10 => ?_) (fun c_10 => ?_)
      · skip
        have tc_10 : 3000 ≤ y_8.toInt := Int32.le_iff_toInt_le.mp c_10
        exfalso
        omega
      · skip
        have tc_10 : ¬ 3000 ≤ y_8.toInt := fun h9 => c_10 (Int32.le_iff_toInt_le.mpr h9)
        refine lv_aload_n hx hb d_1_8_17 rfl (lv_at hl 1 rfl) ?_
        refine va_get (D := D) (ci := 7) (v := .ref h1) (C := "AlgolJudge") (T := T_Judge) (N := 7) hx hb hts i_Judge hown hK hP 0 rfl rfl 0 (by decide +kernel) (hts _ m_410) (fun _ h9 => h9) rfl d_1_8_18 ?_
        refine lv_aload_n hx hb d_1_8_21 rfl (lv_at hl 1 rfl) ?_
        refine va_get (D := D) (ci := 7) (v := .int y_8) (C := "AlgolJudge") (T := T_Judge) (N := 7) hx hb hts i_Judge hown hK hP 0 rfl rfl 6 (by decide +kernel) (hts _ m_416) (fun _ h9 => h9) rfl d_1_8_22 ?_
        refine lv_iload_n hx hb d_1_8_25 rfl (lv_at hl 2 rfl) ?_
        refine lv_iload_n hx hb d_1_8_26 rfl (lv_at hl 0 rfl) ?_
        refine lv_ishr hx hb d_1_8_27 ?_
        refine lv_topi (fun y_11 ey_11 => ?_)
        refine lv_i2b (v := (y_11.toInt8.toInt32)) hx hb d_1_8_28 rfl ?_
        refine va_bast hx hb hK hP hD hS 1 2 rfl rfl (vp_in_iff.mpr ⟨by omega, by omega⟩) d_1_8_29 (fun H locs hP1 hD1 hS1 => ?_)
        replace hP : va_P D cls9 [(h0, .inr (7, [.ref h1, .ref h2, .ref h3, .ref h4, .ref h5, .ref h6, .int y_8])), (h1, .inl (kB, 3000, .inl (upd (upd (upd f1 (Int32.toNatClampNeg jl) (vp_nar .byte (y_3.toInt8.toInt32))) (Int32.toNatClampNeg y_4) (vp_nar .byte (y_7.toInt8.toInt32))) (Int32.toNatClampNeg y_8) (vp_nar .byte (y_11.toInt8.toInt32)))))] H := hP1
        replace hD : va_D A [(h0, .inr (7, [.ref h1, .ref h2, .ref h3, .ref h4, .ref h5, .ref h6, .int y_8])), (h1, .inl (kB, 3000, .inl (upd (upd (upd f1 (Int32.toNatClampNeg jl) (vp_nar .byte (y_3.toInt8.toInt32))) (Int32.toNatClampNeg y_4) (vp_nar .byte (y_7.toInt8.toInt32))) (Int32.toNatClampNeg y_8) (vp_nar .byte (y_11.toInt8.toInt32)))))] := hD1
        replace hS := hS1
        clear hP1 hD1 hS1
        refine lv_aload_n hx hb d_1_8_30 rfl (lv_at hl 1 rfl) ?_
        refine lv_dup hx hb d_1_8_31 rfl ?_
        refine va_get (D := D) (ci := 7) (v := .int y_8) (C := "AlgolJudge") (T := T_Judge) (N := 7) hx hb hts i_Judge hown hK hP 0 rfl rfl 6 (by decide +kernel) (hts _ m_416) (fun _ h9 => h9) rfl d_1_8_32 ?_
        refine lv_iconst (v := 1) hx hb d_1_8_35 (by decide +kernel) ?_
        refine lv_iadd hx hb d_1_8_36 ?_
        refine lv_topi (fun y_12 ey_12 => ?_)
        have ty_12 : y_12.toInt = y_8.toInt + 1 := by rw [ey_12]; exact zaddc (by decide +kernel) (by omega) (by omega)
        refine va_put (D := D) (ci := 7) (v := .int y_12) (ty := .int) (C := "AlgolJudge") (T := T_Judge) (N := 7) hx hb hts i_Judge t_Judge t_Judge_ok n_Judge hown hK hP hD hS 0 rfl rfl 6 (by decide +kernel) (hts _ m_416) (fun _ h9 => h9) rfl (by decide +kernel) rfl rfl (Nat.le_of_ble_eq_true rfl) d_1_8_37 (fun H locs hP1 hD1 hS1 => ?_)
        replace hP : va_P D cls9 [(h0, .inr (7, [.ref h1, .ref h2, .ref h3, .ref h4, .ref h5, .ref h6, .int y_12])), (h1, .inl (kB, 3000, .inl (upd (upd (upd f1 (Int32.toNatClampNeg jl) (vp_nar .byte (y_3.toInt8.toInt32))) (Int32.toNatClampNeg y_4) (vp_nar .byte (y_7.toInt8.toInt32))) (Int32.toNatClampNeg y_8) (vp_nar .byte (y_11.toInt8.toInt32)))))] H := hP1
        replace hD : va_D A [(h0, .inr (7, [.ref h1, .ref h2, .ref h3, .ref h4, .ref h5, .ref h6, .int y_12])), (h1, .inl (kB, 3000, .inl (upd (upd (upd f1 (Int32.toNatClampNeg jl) (vp_nar .byte (y_3.toInt8.toInt32))) (Int32.toNatClampNeg y_4) (vp_nar .byte (y_7.toInt8.toInt32))) (Int32.toNatClampNeg y_8) (vp_nar .byte (y_11.toInt8.toInt32)))))] := hD1
        replace hS := hS1
        clear hP1 hD1 hS1
        refine lv_iinc (v := 0) (lv' := [(2, .int 0), (0, .ref h0), (1, .int p1)]) hx hb d_1_8_40 hl (k := 0) rfl (by decide +kernel) (by decide +kernel) rfl (fun ls hl => ?_)
        refine lv_goto (tgt := 3) hx hb d_1_8_43 (by decide +kernel) ?_
        refine lv_iload_n hx hb d_1_8_3 rfl (lv_at hl 0 rfl) ?_
        refine lv_if_lt (tgt := 46) hx hb d_1_8_4 (by decide +kernel) (fun c_13 => ?_) (fun c_13 => ?_)
        · exact absurd c_13 (by decide +kernel)
        refine lv_aload_n hx hb d_1_8_7 rfl (lv_at hl 1 rfl) ?_
        refine va_get (D := D) (ci := 7) (v := .int y_12) (C := "AlgolJudge") (T := T_Judge) (N := 7) hx hb hts i_Judge hown hK hP 0 rfl rfl 6 (by decide +kernel) (hts _ m_416) (fun _ h9 => h9) rfl d_1_8_8 ?_
        refine lv_sipush (v := 3000) hx hb d_1_8_11 (by decide +kernel) ?_
        refine lv_icmp_ge (tgt := 40) hx hb d_1_8_14 (by decide +kernel) (fun c_14 => ?_) (fun c_14 => ?_)
        · skip
          have tc_14 : 3000 ≤ y_12.toInt := Int32.le_iff_toInt_le.mp c_14
          exfalso
          omega
        · skip
          have tc_14 : ¬ 3000 ≤ y_12.toInt := fun h9 => c_14 (Int32.le_iff_toInt_le.mpr h9)
          refine lv_aload_n hx hb d_1_8_17 rfl (lv_at hl 1 rfl) ?_
          refine va_get (D := D) (ci := 7) (v := .ref h1) (C := "AlgolJudge") (T := T_Judge) (N := 7) hx hb hts i_Judge hown hK hP 0 rfl rfl 0 (by decide +kernel) (hts _ m_410) (fun _ h9 => h9) rfl d_1_8_18 ?_
          refine lv_aload_n hx hb d_1_8_21 rfl (lv_at hl 1 rfl) ?_
          refine va_get (D := D) (ci := 7) (v := .int y_12) (C := "AlgolJudge") (T := T_Judge) (N := 7) hx hb hts i_Judge hown hK hP 0 rfl rfl 6 (by decide +kernel) (hts _ m_416) (fun _ h9 => h9) rfl d_1_8_22 ?_
          refine lv_iload_n hx hb d_1_8_25 rfl (lv_at hl 2 rfl) ?_
          refine lv_iload_n hx hb d_1_8_26 rfl (lv_at hl 0 rfl) ?_
          refine lv_ishr hx hb d_1_8_27 ?_
          refine xtopi (v := p1) (sb_shr0 _) ?_
          refine lv_i2b (v := (p1.toInt8.toInt32)) hx hb d_1_8_28 rfl ?_
          refine va_bast hx hb hK hP hD hS 1 2 rfl rfl (vp_in_iff.mpr ⟨by omega, by omega⟩) d_1_8_29 (fun H locs hP1 hD1 hS1 => ?_)
          replace hP : va_P D cls9 [(h0, .inr (7, [.ref h1, .ref h2, .ref h3, .ref h4, .ref h5, .ref h6, .int y_12])), (h1, .inl (kB, 3000, .inl (upd (upd (upd (upd f1 (Int32.toNatClampNeg jl) (vp_nar .byte (y_3.toInt8.toInt32))) (Int32.toNatClampNeg y_4) (vp_nar .byte (y_7.toInt8.toInt32))) (Int32.toNatClampNeg y_8) (vp_nar .byte (y_11.toInt8.toInt32))) (Int32.toNatClampNeg y_12) (vp_nar .byte (p1.toInt8.toInt32)))))] H := hP1
          replace hD : va_D A [(h0, .inr (7, [.ref h1, .ref h2, .ref h3, .ref h4, .ref h5, .ref h6, .int y_12])), (h1, .inl (kB, 3000, .inl (upd (upd (upd (upd f1 (Int32.toNatClampNeg jl) (vp_nar .byte (y_3.toInt8.toInt32))) (Int32.toNatClampNeg y_4) (vp_nar .byte (y_7.toInt8.toInt32))) (Int32.toNatClampNeg y_8) (vp_nar .byte (y_11.toInt8.toInt32))) (Int32.toNatClampNeg y_12) (vp_nar .byte (p1.toInt8.toInt32)))))] := hD1
          replace hS := hS1
          clear hP1 hD1 hS1
          refine lv_aload_n hx hb d_1_8_30 rfl (lv_at hl 1 rfl) ?_
          refine lv_dup hx hb d_1_8_31 rfl ?_
          refine va_get (D := D) (ci := 7) (v := .int y_12) (C := "AlgolJudge") (T := T_Judge) (N := 7) hx hb hts i_Judge hown hK hP 0 rfl rfl 6 (by decide +kernel) (hts _ m_416) (fun _ h9 => h9) rfl d_1_8_32 ?_
          refine lv_iconst (v := 1) hx hb d_1_8_35 (by decide +kernel) ?_
          refine lv_iadd hx hb d_1_8_36 ?_
          refine lv_topi (fun y_15 ey_15 => ?_)
          have ty_15 : y_15.toInt = y_12.toInt + 1 := by rw [ey_15]; exact zaddc (by decide +kernel) (by omega) (by omega)
          refine va_put (D := D) (ci := 7) (v := .int y_15) (ty := .int) (C := "AlgolJudge") (T := T_Judge) (N := 7) hx hb hts i_Judge t_Judge t_Judge_ok n_Judge hown hK hP hD hS 0 rfl rfl 6 (by decide +kernel) (hts _ m_416) (fun _ h9 => h9) rfl (by decide +kernel) rfl rfl (Nat.le_of_ble_eq_true rfl) d_1_8_37 (fun H locs hP1 hD1 hS1 => ?_)
          replace hP : va_P D cls9 [(h0, .inr (7, [.ref h1, .ref h2, .ref h3, .ref h4, .ref h5, .ref h6, .int y_15])), (h1, .inl (kB, 3000, .inl (upd (upd (upd (upd f1 (Int32.toNatClampNeg jl) (vp_nar .byte (y_3.toInt8.toInt32))) (Int32.toNatClampNeg y_4) (vp_nar .byte (y_7.toInt8.toInt32))) (Int32.toNatClampNeg y_8) (vp_nar .byte (y_11.toInt8.toInt32))) (Int32.toNatClampNeg y_12) (vp_nar .byte (p1.toInt8.toInt32)))))] H := hP1
          replace hD : va_D A [(h0, .inr (7, [.ref h1, .ref h2, .ref h3, .ref h4, .ref h5, .ref h6, .int y_15])), (h1, .inl (kB, 3000, .inl (upd (upd (upd (upd f1 (Int32.toNatClampNeg jl) (vp_nar .byte (y_3.toInt8.toInt32))) (Int32.toNatClampNeg y_4) (vp_nar .byte (y_7.toInt8.toInt32))) (Int32.toNatClampNeg y_8) (vp_nar .byte (y_11.toInt8.toInt32))) (Int32.toNatClampNeg y_12) (vp_nar .byte (p1.toInt8.toInt32)))))] := hD1
          replace hS := hS1
          clear hP1 hD1 hS1
          refine lv_iinc (v := (-8)) (lv' := [(2, .int (-8)), (0, .ref h0), (1, .int p1)]) hx hb d_1_8_40 hl (k := 0) rfl (by decide +kernel) (by decide +kernel) rfl (fun ls hl => ?_)
          refine lv_goto (tgt := 3) hx hb d_1_8_43 (by decide +kernel) ?_
          refine lv_iload_n hx hb d_1_8_3 rfl (lv_at hl 0 rfl) ?_
          refine lv_if_lt (tgt := 46) hx hb d_1_8_4 (by decide +kernel) (fun c_16 => ?_) (fun c_16 => ?_)
          rotate_left
          · exact absurd c_16 (by decide +kernel)
          have hP9 := hP.sub (ws' := [(h0, .inr (7, [.ref h1, .ref h2, .ref h3, .ref h4, .ref h5, .ref h6, .int y_15])), (h1, .inl (kB, 3000, .inl (upd (upd (upd (upd f1 (Int32.toNatClampNeg jl) (vp_nar .byte (y_3.toInt8.toInt32))) (Int32.toNatClampNeg y_4) (vp_nar .byte (y_7.toInt8.toInt32))) (Int32.toNatClampNeg y_8) (vp_nar .byte (y_11.toInt8.toInt32))) (Int32.toNatClampNeg y_12) (vp_nar .byte (p1.toInt8.toInt32)))))]) [0, 1] rfl
          have hD9 := hD.sub (ws' := [(h0, .inr (7, [.ref h1, .ref h2, .ref h3, .ref h4, .ref h5, .ref h6, .int y_15])), (h1, .inl (kB, 3000, .inl (upd (upd (upd (upd f1 (Int32.toNatClampNeg jl) (vp_nar .byte (y_3.toInt8.toInt32))) (Int32.toNatClampNeg y_4) (vp_nar .byte (y_7.toInt8.toInt32))) (Int32.toNatClampNeg y_8) (vp_nar .byte (y_11.toInt8.toInt32))) (Int32.toNatClampNeg y_12) (vp_nar .byte (p1.toInt8.toInt32)))))]) [0, 1] (by decide) rfl
          have hz_0 : 0 ≤ y_15.toInt := (by first | assumption | omega)
          have hz_1 : y_15.toInt ≤ 3000 := (by first | assumption | omega)
          have hz_2 : y_15.toInt = jl.toInt + 4 := (by first | assumption | omega)
          have hz_3 : (upd (upd (upd (upd f1 (Int32.toNatClampNeg jl) (vp_nar .byte (y_3.toInt8.toInt32))) (Int32.toNatClampNeg y_4) (vp_nar .byte (y_7.toInt8.toInt32))) (Int32.toNatClampNeg y_8) (vp_nar .byte (y_11.toInt8.toInt32))) (Int32.toNatClampNeg y_12) (vp_nar .byte (p1.toInt8.toInt32))) = b4 f1 jl.toInt.toNat p1 := (b4_a (by omega) (by omega) (by omega) (by omega) ey_3 ey_7 ey_11)
          exact W.vret hx hb hr (fun t ht hW => ⟨⟨(), rfl, trivial, y_15, (upd (upd (upd (upd f1 (Int32.toNatClampNeg jl) (vp_nar .byte (y_3.toInt8.toInt32))) (Int32.toNatClampNeg y_4) (vp_nar .byte (y_7.toInt8.toInt32))) (Int32.toNatClampNeg y_8) (vp_nar .byte (y_11.toInt8.toInt32))) (Int32.toNatClampNeg y_12) (vp_nar .byte (p1.toInt8.toInt32))), hz_0, hz_1, hz_2, hz_3, xEnd hK hP9 hD9 ht hW⟩, hS.F ht⟩) hS.2.2 d_1_8_46
set_option maxHeartbeats 8000000 in
set_option maxRecDepth 100000 in
theorem g_AlgolJudge_feed (l : Launch) (D : va_G) (kI kJ kB kZ : ClassId) (sz : Nat) (h0 : Nat) (h1 : Nat) (h2 : Nat) (h3 : Nat) (h4 : Nat) (h5 : Nat) (h6 : Nat) (jl : Int32) (f1 : Nat → Int32) (p1 : Int32) (p2 : Int32) (p3 : Int32) (p4 : Int32) (p5 : Int32) (hf_J1 : 0 ≤ jl.toInt) (hf_J2 : jl.toInt ≤ 3000) : Met l (⟨"AlgolJudge", "feed", "(IIIII)I"⟩ : MethodName) (Cond.code (⟨"AlgolJudge", "feed", "(IIIII)I"⟩ : MethodName) prog_1_method_2_code 6 (some .int) :: gT) ({ frames := 1, cells := 0, slots := 0, locals := 22 }) (va_Pc [.ref h0, .int p1, .int p2, .int p3, .int p4, .int p5] (xP D (xT kI kJ kB kZ) xN [(h0, .inr (7, [.ref h1, .ref h2, .ref h3, .ref h4, .ref h5, .ref h6, .int jl])), (h1, .inl (kB, 3000, .inl f1))] sz)) (va_Qi (fun (r : Int32) (u : Int32) => r = u ∧ ((jl.toInt + 20 ≤ 3000 ∧ r.toInt = jl.toInt + 20) ∨ (3000 < jl.toInt + 20 ∧ r.toInt = -3))) (fun u t => ∃ jl' : Int32, ∃ f1' : Nat → Int32, (0 ≤ jl'.toInt) ∧ (jl'.toInt ≤ 3000) ∧ ((jl.toInt + 20 ≤ 3000 ∧ jl'.toInt = jl.toInt + 20) ∨ (3000 < jl.toInt + 20 ∧ jl'.toInt = jl.toInt)) ∧ (f1' = (if jl.toInt + 20 ≤ 3000 then b20 f1 jl.toInt.toNat p1 p2 p3 p4 p5 else f1)) ∧ xQ D (xT kI kJ kB kZ) (va_A [(h0, .inr (7, [.ref h1, .ref h2, .ref h3, .ref h4, .ref h5, .ref h6, .int jl])), (h1, .inl (kB, 3000, .inl f1))] sz) [(h0, .inr (7, [.ref h1, .ref h2, .ref h3, .ref h4, .ref h5, .ref h6, .int jl'])), (h1, .inl (kB, 3000, .inl f1'))] t) (va_A [(h0, .inr (7, [.ref h1, .ref h2, .ref h3, .ref h4, .ref h5, .ref h6, .int jl])), (h1, .inl (kB, 3000, .inl f1))] sz)) 0 0 (va_A [(h0, .inr (7, [.ref h1, .ref h2, .ref h3, .ref h4, .ref h5, .ref h6, .int jl])), (h1, .inl (kB, 3000, .inl f1))] sz) := by
  refine Met.ofW (cc := prog_1_method_2_code) (maxL := 6) (ret := some .int) (by decide +kernel) rfl ?_
  intro p e s m args below meth c s₁ B hml hv
  obtain ⟨rfl, hsz, hP, hK, hD0, hE⟩ := hv
  have hx := B.exec
  have hb := B.bytes
  have hr := B.returns
  have hts : ∀ w ∈ gT, w.before _ s = true := fun w h => atoms_spec (ws := Cond.code (⟨"AlgolJudge", "feed", "(IIIII)I"⟩ : MethodName) prog_1_method_2_code 6 (some .int) :: gT) B.pre w (List.mem_cons_of_mem _ h)
  have hown : s.vm.findClass "AlgolJudge" = some m.cls := findClass_of_methodNamed B.named
  have hlocks := B.notSynchronized
  subst hsz
  have hD := hD0.self (sz := s.heap.size)
  generalize hAe : va_A [(h0, .inr (7, [.ref h1, .ref h2, .ref h3, .ref h4, .ref h5, .ref h6, .int jl])), (h1, .inl (kB, 3000, .inl f1))] s.heap.size = A at hD hE ⊢
  have hA : ∀ q : Nat, s.heap.size ≤ q → A q := fun q h => by rw [← hAe]; exact Or.inr h
  have hS : va_S A s.heap s.heap [] := va_S.rf
  have hP : va_P D cls9 [(h0, .inr (7, [.ref h1, .ref h2, .ref h3, .ref h4, .ref h5, .ref h6, .int jl])), (h1, .inl (kB, 3000, .inl f1))] s.heap := hP
  have hl := lv_entry ([.ref h0, .int p1, .int p2, .int p3, .int p4, .int p5]) (n := 6) (Nat.le_of_ble_eq_true rfl)
  rw [lg_entry_eq]
  generalize (lg_sl ([.ref h0, .int p1, .int p2, .int p3, .int p4, .int p5]) ++ List.replicate (6 - (lg_sl ([.ref h0, .int p1, .int p2, .int p3, .int p4, .int p5])).length) Slot.unset).toArray = ls at hl ⊢
  have hl : lv_has ls 6 [(0, .ref h0), (1, .int p1), (2, .int p2), (3, .int p3), (4, .int p4), (5, .int p5)] := hl
  refine lv_aload_n hx hb d_1_2_0 rfl (lv_at hl 0 rfl) ?_
  refine va_get (D := D) (ci := 7) (v := .int jl) (C := "AlgolJudge") (T := T_Judge) (N := 7) hx hb hts i_Judge hown hK hP 0 rfl rfl 6 (by decide +kernel) (hts _ m_416) (fun _ h9 => h9) rfl d_1_2_1 ?_
  refine lv_bipush (v := 20) hx hb d_1_2_4 (by decide +kernel) ?_
  refine lv_iadd hx hb d_1_2_6 ?_
  refine lv_topi (fun y_1 ey_1 => ?_)
  have ty_1 : y_1.toInt = jl.toInt + 20 := by rw [ey_1]; exact zaddc (by decide +kernel) (by omega) (by omega)
  refine lv_sipush (v := 3000) hx hb d_1_2_7 (by decide +kernel) ?_
  refine lv_icmp_le (tgt := 16) hx hb d_1_2_10 (by decide +kernel) (fun c_2 => ?_) (fun c_2 => ?_)
  · skip
    have tc_2 : y_1.toInt ≤ 3000 := Int32.le_iff_toInt_le.mp c_2
    refine lv_aload_n hx hb d_1_2_16 rfl (lv_at hl 0 rfl) ?_
    refine lv_iload_n hx hb d_1_2_17 rfl (lv_at hl 1 rfl) ?_
    have hPc := hP.sub (ws' := [(h0, .inr (7, [.ref h1, .ref h2, .ref h3, .ref h4, .ref h5, .ref h6, .int jl])), (h1, .inl (kB, 3000, .inl f1))]) [0, 1] rfl
    have hDc := hD.sub (ws' := [(h0, .inr (7, [.ref h1, .ref h2, .ref h3, .ref h4, .ref h5, .ref h6, .int jl])), (h1, .inl (kB, 3000, .inl f1))]) [0, 1] (by decide) rfl
    have hFc := va_free (wc := [(h0, .inr (7, [.ref h1, .ref h2, .ref h3, .ref h4, .ref h5, .ref h6, .int jl])), (h1, .inl (kB, 3000, .inl f1))]) hD hS hA [0, 1] rfl
    refine va_callv (va_runV (As := [.int p1]) (rest := []) ⟨hx, hb, hml, hown, hts⟩ (g_AlgolJudge_append l D kI kJ kB kZ _ (h0) (h1) (h2) (h3) (h4) (h5) (h6) (jl) (f1) (p1) hf_J1 hf_J2 (by first | assumption | omega)) (cwV 1 hts (gT_V m_436 m_438 m_1 m_120 (gT_ws m_439)) rfl rfl rfl (by decide +kernel) ⟨(Nat.le_of_ble_eq_true rfl), (Nat.le_of_ble_eq_true rfl)⟩) ⟨xBlind xOk_N, va_recv hK hP (ci := 7) (q0 := 0) rfl rfl, xAtN hK hPc hDc⟩ rfl rfl hl.1 rfl (lv_room (Nat.le_of_ble_eq_true rfl)) d_1_2_18 ⟨(Nat.le_of_ble_eq_true rfl), (Nat.le_of_ble_eq_true rfl)⟩) hS (fun q _ h => hFc q h) hFc (fun u t H locs ht hvm hw_4 hB hz1 hk1 hS => ?_)
    clear hz1
    revert hB
    refine exI fun x_5 => exI fun x_6 => anI fun hb_7 => anI fun hb_8 => anI fun hb_9 => anI fun hb_10 => fun hB => ?_
    have hb_10 : x_6 = b4 f1 jl.toInt.toNat p1 := hb_10
    have hPD := xJoin (wr := []) (w1 := [(h0, .inr (7, [.ref h1, .ref h2, .ref h3, .ref h4, .ref h5, .ref h6, .int x_5])), (h1, .inl (kB, 3000, .inl x_6))]) hP hD [0, 1] [] rfl rfl (by decide) (by decide) hk1 hFc ht hB
    replace hP : va_P D cls9 [(h0, .inr (7, [.ref h1, .ref h2, .ref h3, .ref h4, .ref h5, .ref h6, .int x_5])), (h1, .inl (kB, 3000, .inl x_6))] H := hPD.1
    replace hD : va_D A [(h0, .inr (7, [.ref h1, .ref h2, .ref h3, .ref h4, .ref h5, .ref h6, .int x_5])), (h1, .inl (kB, 3000, .inl x_6))] := hPD.2
    clear hPD hB hk1 hPc hDc hFc
    refine lv_aload_n hx hb d_1_2_21 rfl (lv_at hl 0 rfl) ?_
    refine lv_iload_n hx hb d_1_2_22 rfl (lv_at hl 2 rfl) ?_
    have hPc := hP.sub (ws' := [(h0, .inr (7, [.ref h1, .ref h2, .ref h3, .ref h4, .ref h5, .ref h6, .int x_5])), (h1, .inl (kB, 3000, .inl x_6))]) [0, 1] rfl
    have hDc := hD.sub (ws' := [(h0, .inr (7, [.ref h1, .ref h2, .ref h3, .ref h4, .ref h5, .ref h6, .int x_5])), (h1, .inl (kB, 3000, .inl x_6))]) [0, 1] (by decide) rfl
    have hFc := va_free (wc := [(h0, .inr (7, [.ref h1, .ref h2, .ref h3, .ref h4, .ref h5, .ref h6, .int x_5])), (h1, .inl (kB, 3000, .inl x_6))]) hD hS hA [0, 1] rfl
    refine va_callv (va_runV (As := [.int p2]) (rest := []) ⟨hx, hb, hml, hown, hts⟩ (g_AlgolJudge_append l D kI kJ kB kZ _ (h0) (h1) (h2) (h3) (h4) (h5) (h6) (x_5) (x_6) (p2) hb_7 hb_8 (by first | assumption | omega)) (cwV 1 hts (gT_V m_436 m_438 m_1 m_120 (gT_ws m_439)) rfl rfl rfl (by decide +kernel) ⟨(Nat.le_of_ble_eq_true rfl), (Nat.le_of_ble_eq_true rfl)⟩) ⟨xBlind xOk_N, va_recv hK hP (ci := 7) (q0 := 0) rfl rfl, xAtN hK hPc hDc⟩ rfl rfl hl.1 rfl (lv_room (Nat.le_of_ble_eq_true rfl)) d_1_2_23 ⟨(Nat.le_of_ble_eq_true rfl), (Nat.le_of_ble_eq_true rfl)⟩) hS (fun q _ h => hFc q h) hFc (fun u t H locs ht hvm hw_12 hB hz1 hk1 hS => ?_)
    clear hz1
    revert hB
    refine exI fun x_13 => exI fun x_14 => anI fun hb_15 => anI fun hb_16 => anI fun hb_17 => anI fun hb_18 => fun hB => ?_
    have hb_18 : x_14 = b4 x_6 x_5.toInt.toNat p2 := hb_18
    have hPD := xJoin (wr := []) (w1 := [(h0, .inr (7, [.ref h1, .ref h2, .ref h3, .ref h4, .ref h5, .ref h6, .int x_13])), (h1, .inl (kB, 3000, .inl x_14))]) hP hD [0, 1] [] rfl rfl (by decide) (by decide) hk1 hFc ht hB
    replace hP : va_P D cls9 [(h0, .inr (7, [.ref h1, .ref h2, .ref h3, .ref h4, .ref h5, .ref h6, .int x_13])), (h1, .inl (kB, 3000, .inl x_14))] H := hPD.1
    replace hD : va_D A [(h0, .inr (7, [.ref h1, .ref h2, .ref h3, .ref h4, .ref h5, .ref h6, .int x_13])), (h1, .inl (kB, 3000, .inl x_14))] := hPD.2
    clear hPD hB hk1 hPc hDc hFc
    refine lv_aload_n hx hb d_1_2_26 rfl (lv_at hl 0 rfl) ?_
    refine lv_iload_n hx hb d_1_2_27 rfl (lv_at hl 3 rfl) ?_
    have hPc := hP.sub (ws' := [(h0, .inr (7, [.ref h1, .ref h2, .ref h3, .ref h4, .ref h5, .ref h6, .int x_13])), (h1, .inl (kB, 3000, .inl x_14))]) [0, 1] rfl
    have hDc := hD.sub (ws' := [(h0, .inr (7, [.ref h1, .ref h2, .ref h3, .ref h4, .ref h5, .ref h6, .int x_13])), (h1, .inl (kB, 3000, .inl x_14))]) [0, 1] (by decide) rfl
    have hFc := va_free (wc := [(h0, .inr (7, [.ref h1, .ref h2, .ref h3, .ref h4, .ref h5, .ref h6, .int x_13])), (h1, .inl (kB, 3000, .inl x_14))]) hD hS hA [0, 1] rfl
    refine va_callv (va_runV (As := [.int p3]) (rest := []) ⟨hx, hb, hml, hown, hts⟩ (g_AlgolJudge_append l D kI kJ kB kZ _ (h0) (h1) (h2) (h3) (h4) (h5) (h6) (x_13) (x_14) (p3) hb_15 hb_16 (by first | assumption | omega)) (cwV 1 hts (gT_V m_436 m_438 m_1 m_120 (gT_ws m_439)) rfl rfl rfl (by decide +kernel) ⟨(Nat.le_of_ble_eq_true rfl), (Nat.le_of_ble_eq_true rfl)⟩) ⟨xBlind xOk_N, va_recv hK hP (ci := 7) (q0 := 0) rfl rfl, xAtN hK hPc hDc⟩ rfl rfl hl.1 rfl (lv_room (Nat.le_of_ble_eq_true rfl)) d_1_2_28 ⟨(Nat.le_of_ble_eq_true rfl), (Nat.le_of_ble_eq_true rfl)⟩) hS (fun q _ h => hFc q h) hFc (fun u t H locs ht hvm hw_20 hB hz1 hk1 hS => ?_)
    clear hz1
    revert hB
    refine exI fun x_21 => exI fun x_22 => anI fun hb_23 => anI fun hb_24 => anI fun hb_25 => anI fun hb_26 => fun hB => ?_
    have hb_26 : x_22 = b4 x_14 x_13.toInt.toNat p3 := hb_26
    have hPD := xJoin (wr := []) (w1 := [(h0, .inr (7, [.ref h1, .ref h2, .ref h3, .ref h4, .ref h5, .ref h6, .int x_21])), (h1, .inl (kB, 3000, .inl x_22))]) hP hD [0, 1] [] rfl rfl (by decide) (by decide) hk1 hFc ht hB
    replace hP : va_P D cls9 [(h0, .inr (7, [.ref h1, .ref h2, .ref h3, .ref h4, .ref h5, .ref h6, .int x_21])), (h1, .inl (kB, 3000, .inl x_22))] H := hPD.1
    replace hD : va_D A [(h0, .inr (7, [.ref h1, .ref h2, .ref h3, .ref h4, .ref h5, .ref h6, .int x_21])), (h1, .inl (kB, 3000, .inl x_22))] := hPD.2
    clear hPD hB hk1 hPc hDc hFc
    refine lv_aload_n hx hb d_1_2_31 rfl (lv_at hl 0 rfl) ?_
    refine lv_iload hx hb d_1_2_32 (lv_at hl 4 rfl) ?_
    have hPc := hP.sub (ws' := [(h0, .inr (7, [.ref h1, .ref h2, .ref h3, .ref h4, .ref h5, .ref h6, .int x_21])), (h1, .inl (kB, 3000, .inl x_22))]) [0, 1] rfl
    have hDc := hD.sub (ws' := [(h0, .inr (7, [.ref h1, .ref h2, .ref h3, .ref h4, .ref h5, .ref h6, .int x_21])), (h1, .inl (kB, 3000, .inl x_22))]) [0, 1] (by decide) rfl
    have hFc := va_free (wc := [(h0, .inr (7, [.ref h1, .ref h2, .ref h3, .ref h4, .ref h5, .ref h6, .int x_21])), (h1, .inl (kB, 3000, .inl x_22))]) hD hS hA [0, 1] rfl
    refine va_callv (va_runV (As := [.int p4]) (rest := []) ⟨hx, hb, hml, hown, hts⟩ (g_AlgolJudge_append l D kI kJ kB kZ _ (h0) (h1) (h2) (h3) (h4) (h5) (h6) (x_21) (x_22) (p4) hb_23 hb_24 (by first | assumption | omega)) (cwV 1 hts (gT_V m_436 m_438 m_1 m_120 (gT_ws m_439)) rfl rfl rfl (by decide +kernel) ⟨(Nat.le_of_ble_eq_true rfl), (Nat.le_of_ble_eq_true rfl)⟩) ⟨xBlind xOk_N, va_recv hK hP (ci := 7) (q0 := 0) rfl rfl, xAtN hK hPc hDc⟩ rfl rfl hl.1 rfl (lv_room (Nat.le_of_ble_eq_true rfl)) d_1_2_34 ⟨(Nat.le_of_ble_eq_true rfl), (Nat.le_of_ble_eq_true rfl)⟩) hS (fun q _ h => hFc q h) hFc (fun u t H locs ht hvm hw_28 hB hz1 hk1 hS => ?_)
    clear hz1
    revert hB
    refine exI fun x_29 => exI fun x_30 => anI fun hb_31 => anI fun hb_32 => anI fun hb_33 => anI fun hb_34 => fun hB => ?_
    have hb_34 : x_30 = b4 x_22 x_21.toInt.toNat p4 := hb_34
    have hPD := xJoin (wr := []) (w1 := [(h0, .inr (7, [.ref h1, .ref h2, .ref h3, .ref h4, .ref h5, .ref h6, .int x_29])), (h1, .inl (kB, 3000, .inl x_30))]) hP hD [0, 1] [] rfl rfl (by decide) (by decide) hk1 hFc ht hB
    replace hP : va_P D cls9 [(h0, .inr (7, [.ref h1, .ref h2, .ref h3, .ref h4, .ref h5, .ref h6, .int x_29])), (h1, .inl (kB, 3000, .inl x_30))] H := hPD.1
    replace hD : va_D A [(h0, .inr (7, [.ref h1, .ref h2, .ref h3, .ref h4, .ref h5, .ref h6, .int x_29])), (h1, .inl (kB, 3000, .inl x_30))] := hPD.2
    clear hPD hB hk1 hPc hDc hFc
    refine lv_aload_n hx hb d_1_2_37 rfl (lv_at hl 0 rfl) ?_
    refine lv_iload hx hb d_1_2_38 (lv_at hl 5 rfl) ?_
    have hPc := hP.sub (ws' := [(h0, .inr (7, [.ref h1, .ref h2, .ref h3, .ref h4, .ref h5, .ref h6, .int x_29])), (h1, .inl (kB, 3000, .inl x_30))]) [0, 1] rfl
    have hDc := hD.sub (ws' := [(h0, .inr (7, [.ref h1, .ref h2, .ref h3, .ref h4, .ref h5, .ref h6, .int x_29])), (h1, .inl (kB, 3000, .inl x_30))]) [0, 1] (by decide) rfl
    have hFc := va_free (wc := [(h0, .inr (7, [.ref h1, .ref h2, .ref h3, .ref h4, .ref h5, .ref h6, .int x_29])), (h1, .inl (kB, 3000, .inl x_30))]) hD hS hA [0, 1] rfl
    refine va_callv (va_runV (As := [.int p5]) (rest := []) ⟨hx, hb, hml, hown, hts⟩ (g_AlgolJudge_append l D kI kJ kB kZ _ (h0) (h1) (h2) (h3) (h4) (h5) (h6) (x_29) (x_30) (p5) hb_31 hb_32 (by first | assumption | omega)) (cwV 1 hts (gT_V m_436 m_438 m_1 m_120 (gT_ws m_439)) rfl rfl rfl (by decide +kernel) ⟨(Nat.le_of_ble_eq_true rfl), (Nat.le_of_ble_eq_true rfl)⟩) ⟨xBlind xOk_N, va_recv hK hP (ci := 7) (q0 := 0) rfl rfl, xAtN hK hPc hDc⟩ rfl rfl hl.1 rfl (lv_room (Nat.le_of_ble_eq_true rfl)) d_1_2_40 ⟨(Nat.le_of_ble_eq_true rfl), (Nat.le_of_ble_eq_true rfl)⟩) hS (fun q _ h => hFc q h) hFc (fun u t H locs ht hvm hw_36 hB hz1 hk1 hS => ?_)
    clear hz1
    revert hB
    refine exI fun x_37 => exI fun x_38 => anI fun hb_39 => anI fun hb_40 => anI fun hb_41 => anI fun hb_42 => fun hB => ?_
    have hb_42 : x_38 = b4 x_30 x_29.toInt.toNat p5 := hb_42
    have hPD := xJoin (wr := []) (w1 := [(h0, .inr (7, [.ref h1, .ref h2, .ref h3, .ref h4, .ref h5, .ref h6, .int x_37])), (h1, .inl (kB, 3000, .inl x_38))]) hP hD [0, 1] [] rfl rfl (by decide) (by decide) hk1 hFc ht hB
    replace hP : va_P D cls9 [(h0, .inr (7, [.ref h1, .ref h2, .ref h3, .ref h4, .ref h5, .ref h6, .int x_37])), (h1, .inl (kB, 3000, .inl x_38))] H := hPD.1
    replace hD : va_D A [(h0, .inr (7, [.ref h1, .ref h2, .ref h3, .ref h4, .ref h5, .ref h6, .int x_37])), (h1, .inl (kB, 3000, .inl x_38))] := hPD.2
    clear hPD hB hk1 hPc hDc hFc
    refine lv_aload_n hx hb d_1_2_43 rfl (lv_at hl 0 rfl) ?_
    refine va_get (D := D) (ci := 7) (v := .int x_37) (C := "AlgolJudge") (T := T_Judge) (N := 7) hx hb hts i_Judge hown hK hP 0 rfl rfl 6 (by decide +kernel) (hts _ m_416) (fun _ h9 => h9) rfl d_1_2_44 ?_
    have hP9 := hP.sub (ws' := [(h0, .inr (7, [.ref h1, .ref h2, .ref h3, .ref h4, .ref h5, .ref h6, .int x_37])), (h1, .inl (kB, 3000, .inl x_38))]) [0, 1] rfl
    have hD9 := hD.sub (ws' := [(h0, .inr (7, [.ref h1, .ref h2, .ref h3, .ref h4, .ref h5, .ref h6, .int x_37])), (h1, .inl (kB, 3000, .inl x_38))]) [0, 1] (by decide) rfl
    have hz_2 : (jl.toInt + 20 ≤ 3000 ∧ x_37.toInt = jl.toInt + 20) ∨ (3000 < jl.toInt + 20 ∧ x_37.toInt = jl.toInt) := (by first | assumption | omega)
    have hz_3 : x_38 = (if jl.toInt + 20 ≤ 3000 then b20 f1 jl.toInt.toNat p1 p2 p3 p4 p5 else f1) := (by rw [if_pos (by omega), hb_42, hb_34, hb_26, hb_18, hb_10, show x_5.toInt.toNat = jl.toInt.toNat + 4 from by omega, show x_13.toInt.toNat = jl.toInt.toNat + 8 from by omega, show x_21.toInt.toNat = jl.toInt.toNat + 12 from by omega, show x_29.toInt.toNat = jl.toInt.toNat + 16 from by omega]; rfl)
    have hrp : (jl.toInt + 20 ≤ 3000 ∧ x_37.toInt = jl.toInt + 20) ∨ (3000 < jl.toInt + 20 ∧ x_37.toInt = -3) := by first |  omega | assumption | exact pk_nc _ | exact Or.inl ⟨by omega, by omega, by assumption⟩ | exact Or.inr ⟨by omega, by decide +kernel⟩ | exact fun h9 => absurd h9 (by omega) | exact fun _ => isH_no1 (by omega) | exact fun _ => isH_no2 (by assumption) (by assumption) (by omega) | (intro h9; omega) | (intro h8 h9; omega)
    exact W.iret (v := x_37) hx hb hr (fun t ht hW => ⟨⟨x_37, x_37, rfl, ⟨rfl, hrp⟩, x_37, x_38, hb_39, hb_40, hz_2, hz_3, xEnd hK hP9 hD9 ht hW⟩, hS.F ht⟩) hS.2.2 d_1_2_47
  · skip
    have tc_2 : ¬ y_1.toInt ≤ 3000 := fun h9 => c_2 (Int32.le_iff_toInt_le.mpr h9)
    refine lv_bipush (v := (-3)) hx hb d_1_2_13 (by decide +kernel) ?_
    have hP9 := hP.sub (ws' := [(h0, .inr (7, [.ref h1, .ref h2, .ref h3, .ref h4, .ref h5, .ref h6, .int jl])), (h1, .inl (kB, 3000, .inl f1))]) [0, 1] rfl
    have hD9 := hD.sub (ws' := [(h0, .inr (7, [.ref h1, .ref h2, .ref h3, .ref h4, .ref h5, .ref h6, .int jl])), (h1, .inl (kB, 3000, .inl f1))]) [0, 1] (by decide) rfl
    have hz_2 : (jl.toInt + 20 ≤ 3000 ∧ jl.toInt = jl.toInt + 20) ∨ (3000 < jl.toInt + 20 ∧ jl.toInt = jl.toInt) := (by first | assumption | omega)
    have hz_3 : f1 = (if jl.toInt + 20 ≤ 3000 then b20 f1 jl.toInt.toNat p1 p2 p3 p4 p5 else f1) := (if_neg (by omega)).symm
    have hrp : (jl.toInt + 20 ≤ 3000 ∧ ((-3) : Int) = jl.toInt + 20) ∨ (3000 < jl.toInt + 20 ∧ ((-3) : Int) = -3) := by first |  omega | assumption | exact pk_nc _ | exact Or.inl ⟨by omega, by omega, by assumption⟩ | exact Or.inr ⟨by omega, by decide +kernel⟩ | exact fun h9 => absurd h9 (by omega) | exact fun _ => isH_no1 (by omega) | exact fun _ => isH_no2 (by assumption) (by assumption) (by omega) | (intro h9; omega) | (intro h8 h9; omega)
    exact W.iret (v := (-3)) hx hb hr (fun t ht hW => ⟨⟨(-3), (-3), rfl, ⟨rfl, hrp⟩, jl, f1, hf_J1, hf_J2, hz_2, hz_3, xEnd hK hP9 hD9 ht hW⟩, hS.F ht⟩) hS.2.2 d_1_2_15
set_option maxHeartbeats 8000000 in
set_option maxRecDepth 100000 in
theorem g_AlgolJudge_end (l : Launch) (D : va_G) (kI kJ kB kZ : ClassId) (sz : Nat) (h0 : Nat) (h1 : Nat) (h2 : Nat) (h3 : Nat) (h4 : Nat) (h5 : Nat) (h6 : Nat) (jl : Int32) (f1 : Nat → Int32) (p1 : Int32) (hf_J1 : 0 ≤ jl.toInt) (hf_J2 : jl.toInt ≤ 3000) : Met l (⟨"AlgolJudge", "end", "(I)I"⟩ : MethodName) (Cond.code (⟨"AlgolJudge", "end", "(I)I"⟩ : MethodName) prog_1_method_3_code 2 (some .int) :: gT) ({ frames := 0, cells := 0, slots := 0, locals := 0 }) (va_Pc [.ref h0, .int p1] (xP D (xT kI kJ kB kZ) xN [(h0, .inr (7, [.ref h1, .ref h2, .ref h3, .ref h4, .ref h5, .ref h6, .int jl])), (h1, .inl (kB, 3000, .inl f1))] sz)) (va_Qi (fun (r : Int32) (_ : Unit) => (0 ≤ p1.toInt ∧ p1.toInt ≤ jl.toInt ∧ r.toInt = p1.toInt) ∨ ((p1.toInt < 0 ∨ jl.toInt < p1.toInt) ∧ r.toInt = -1)) (fun _ t => ∃ jl' : Int32, (0 ≤ jl'.toInt) ∧ (jl'.toInt ≤ 3000) ∧ ((0 ≤ p1.toInt ∧ p1.toInt ≤ jl.toInt ∧ jl'.toInt = p1.toInt) ∨ ((p1.toInt < 0 ∨ jl.toInt < p1.toInt) ∧ jl'.toInt = jl.toInt)) ∧ xQ D (xT kI kJ kB kZ) (va_A [(h0, .inr (7, [.ref h1, .ref h2, .ref h3, .ref h4, .ref h5, .ref h6, .int jl])), (h1, .inl (kB, 3000, .inl f1))] sz) [(h0, .inr (7, [.ref h1, .ref h2, .ref h3, .ref h4, .ref h5, .ref h6, .int jl'])), (h1, .inl (kB, 3000, .inl f1))] t) (va_A [(h0, .inr (7, [.ref h1, .ref h2, .ref h3, .ref h4, .ref h5, .ref h6, .int jl])), (h1, .inl (kB, 3000, .inl f1))] sz)) 0 0 (va_A [(h0, .inr (7, [.ref h1, .ref h2, .ref h3, .ref h4, .ref h5, .ref h6, .int jl])), (h1, .inl (kB, 3000, .inl f1))] sz) := by
  refine Met.ofW (cc := prog_1_method_3_code) (maxL := 2) (ret := some .int) (by decide +kernel) rfl ?_
  intro p e s m args below meth c s₁ B hml hv
  obtain ⟨rfl, hsz, hP, hK, hD0, hE⟩ := hv
  have hx := B.exec
  have hb := B.bytes
  have hr := B.returns
  have hts : ∀ w ∈ gT, w.before _ s = true := fun w h => atoms_spec (ws := Cond.code (⟨"AlgolJudge", "end", "(I)I"⟩ : MethodName) prog_1_method_3_code 2 (some .int) :: gT) B.pre w (List.mem_cons_of_mem _ h)
  have hown : s.vm.findClass "AlgolJudge" = some m.cls := findClass_of_methodNamed B.named
  have hlocks := B.notSynchronized
  subst hsz
  have hD := hD0.self (sz := s.heap.size)
  generalize hAe : va_A [(h0, .inr (7, [.ref h1, .ref h2, .ref h3, .ref h4, .ref h5, .ref h6, .int jl])), (h1, .inl (kB, 3000, .inl f1))] s.heap.size = A at hD hE ⊢
  have hA : ∀ q : Nat, s.heap.size ≤ q → A q := fun q h => by rw [← hAe]; exact Or.inr h
  have hS : va_S A s.heap s.heap [] := va_S.rf
  have hP : va_P D cls9 [(h0, .inr (7, [.ref h1, .ref h2, .ref h3, .ref h4, .ref h5, .ref h6, .int jl])), (h1, .inl (kB, 3000, .inl f1))] s.heap := hP
  have hl := lv_entry ([.ref h0, .int p1]) (n := 2) (Nat.le_of_ble_eq_true rfl)
  rw [lg_entry_eq]
  generalize (lg_sl ([.ref h0, .int p1]) ++ List.replicate (2 - (lg_sl ([.ref h0, .int p1])).length) Slot.unset).toArray = ls at hl ⊢
  have hl : lv_has ls 2 [(0, .ref h0), (1, .int p1)] := hl
  refine lv_iload_n hx hb d_1_3_0 rfl (lv_at hl 1 rfl) ?_
  refine lv_if_lt (tgt := 12) hx hb d_1_3_1 (by decide +kernel) (fun c_1 => ?_) (fun c_1 => ?_)
  · skip
    have tc_1 : p1.toInt < 0 := Int32.lt_iff_toInt_lt.mp c_1
    refine lv_iconst (v := (-1)) hx hb d_1_3_12 (by decide +kernel) ?_
    have hP9 := hP.sub (ws' := [(h0, .inr (7, [.ref h1, .ref h2, .ref h3, .ref h4, .ref h5, .ref h6, .int jl])), (h1, .inl (kB, 3000, .inl f1))]) [0, 1] rfl
    have hD9 := hD.sub (ws' := [(h0, .inr (7, [.ref h1, .ref h2, .ref h3, .ref h4, .ref h5, .ref h6, .int jl])), (h1, .inl (kB, 3000, .inl f1))]) [0, 1] (by decide) rfl
    have hz_2 : (0 ≤ p1.toInt ∧ p1.toInt ≤ jl.toInt ∧ jl.toInt = p1.toInt) ∨ ((p1.toInt < 0 ∨ jl.toInt < p1.toInt) ∧ jl.toInt = jl.toInt) := (by first | assumption | omega)
    have hrp : (0 ≤ p1.toInt ∧ p1.toInt ≤ jl.toInt ∧ ((-1) : Int) = p1.toInt) ∨ ((p1.toInt < 0 ∨ jl.toInt < p1.toInt) ∧ ((-1) : Int) = -1) := by first |  omega | assumption | exact pk_nc _ | exact Or.inl ⟨by omega, by omega, by assumption⟩ | exact Or.inr ⟨by omega, by decide +kernel⟩ | exact fun h9 => absurd h9 (by omega) | exact fun _ => isH_no1 (by omega) | exact fun _ => isH_no2 (by assumption) (by assumption) (by omega) | (intro h9; omega) | (intro h8 h9; omega)
    exact W.iret (v := (-1)) hx hb hr (fun t ht hW => ⟨⟨(-1), (), rfl, hrp, jl, hf_J1, hf_J2, hz_2, xEnd hK hP9 hD9 ht hW⟩, hS.F ht⟩) hS.2.2 d_1_3_13
  · skip
    have tc_1 : ¬ p1.toInt < 0 := fun h9 => c_1 (Int32.lt_iff_toInt_lt.mpr h9)
    refine lv_iload_n hx hb d_1_3_4 rfl (lv_at hl 1 rfl) ?_
    refine lv_aload_n hx hb d_1_3_5 rfl (lv_at hl 0 rfl) ?_
    refine va_get (D := D) (ci := 7) (v := .int jl) (C := "AlgolJudge") (T := T_Judge) (N := 7) hx hb hts i_Judge hown hK hP 0 rfl rfl 6 (by decide +kernel) (hts _ m_416) (fun _ h9 => h9) rfl d_1_3_6 ?_
    refine lv_icmp_le (tgt := 14) hx hb d_1_3_9 (by decide +kernel) (fun c_2 => ?_) (fun c_2 => ?_)
    · skip
      have tc_2 : p1.toInt ≤ jl.toInt := Int32.le_iff_toInt_le.mp c_2
      refine lv_aload_n hx hb d_1_3_14 rfl (lv_at hl 0 rfl) ?_
      refine lv_iload_n hx hb d_1_3_15 rfl (lv_at hl 1 rfl) ?_
      refine va_put (D := D) (ci := 7) (v := .int p1) (ty := .int) (C := "AlgolJudge") (T := T_Judge) (N := 7) hx hb hts i_Judge t_Judge t_Judge_ok n_Judge hown hK hP hD hS 0 rfl rfl 6 (by decide +kernel) (hts _ m_416) (fun _ h9 => h9) rfl (by decide +kernel) rfl rfl (Nat.le_of_ble_eq_true rfl) d_1_3_16 (fun H locs hP1 hD1 hS1 => ?_)
      replace hP : va_P D cls9 [(h0, .inr (7, [.ref h1, .ref h2, .ref h3, .ref h4, .ref h5, .ref h6, .int p1])), (h1, .inl (kB, 3000, .inl f1))] H := hP1
      replace hD : va_D A [(h0, .inr (7, [.ref h1, .ref h2, .ref h3, .ref h4, .ref h5, .ref h6, .int p1])), (h1, .inl (kB, 3000, .inl f1))] := hD1
      replace hS := hS1
      clear hP1 hD1 hS1
      refine lv_iload_n hx hb d_1_3_19 rfl (lv_at hl 1 rfl) ?_
      have hP9 := hP.sub (ws' := [(h0, .inr (7, [.ref h1, .ref h2, .ref h3, .ref h4, .ref h5, .ref h6, .int p1])), (h1, .inl (kB, 3000, .inl f1))]) [0, 1] rfl
      have hD9 := hD.sub (ws' := [(h0, .inr (7, [.ref h1, .ref h2, .ref h3, .ref h4, .ref h5, .ref h6, .int p1])), (h1, .inl (kB, 3000, .inl f1))]) [0, 1] (by decide) rfl
      have hz_0 : 0 ≤ p1.toInt := (by first | assumption | omega)
      have hz_1 : p1.toInt ≤ 3000 := (by first | assumption | omega)
      have hz_2 : (0 ≤ p1.toInt ∧ p1.toInt ≤ jl.toInt ∧ p1.toInt = p1.toInt) ∨ ((p1.toInt < 0 ∨ jl.toInt < p1.toInt) ∧ p1.toInt = jl.toInt) := (by first | assumption | omega)
      have hrp : (0 ≤ p1.toInt ∧ p1.toInt ≤ jl.toInt ∧ p1.toInt = p1.toInt) ∨ ((p1.toInt < 0 ∨ jl.toInt < p1.toInt) ∧ p1.toInt = -1) := by first |  omega | assumption | exact pk_nc _ | exact Or.inl ⟨by omega, by omega, by assumption⟩ | exact Or.inr ⟨by omega, by decide +kernel⟩ | exact fun h9 => absurd h9 (by omega) | exact fun _ => isH_no1 (by omega) | exact fun _ => isH_no2 (by assumption) (by assumption) (by omega) | (intro h9; omega) | (intro h8 h9; omega)
      exact W.iret (v := p1) hx hb hr (fun t ht hW => ⟨⟨p1, (), rfl, hrp, p1, hz_0, hz_1, hz_2, xEnd hK hP9 hD9 ht hW⟩, hS.F ht⟩) hS.2.2 d_1_3_20
    · skip
      have tc_2 : ¬ p1.toInt ≤ jl.toInt := fun h9 => c_2 (Int32.le_iff_toInt_le.mpr h9)
      refine lv_iconst (v := (-1)) hx hb d_1_3_12 (by decide +kernel) ?_
      have hP9 := hP.sub (ws' := [(h0, .inr (7, [.ref h1, .ref h2, .ref h3, .ref h4, .ref h5, .ref h6, .int jl])), (h1, .inl (kB, 3000, .inl f1))]) [0, 1] rfl
      have hD9 := hD.sub (ws' := [(h0, .inr (7, [.ref h1, .ref h2, .ref h3, .ref h4, .ref h5, .ref h6, .int jl])), (h1, .inl (kB, 3000, .inl f1))]) [0, 1] (by decide) rfl
      have hz_2 : (0 ≤ p1.toInt ∧ p1.toInt ≤ jl.toInt ∧ jl.toInt = p1.toInt) ∨ ((p1.toInt < 0 ∨ jl.toInt < p1.toInt) ∧ jl.toInt = jl.toInt) := (by first | assumption | omega)
      have hrp : (0 ≤ p1.toInt ∧ p1.toInt ≤ jl.toInt ∧ ((-1) : Int) = p1.toInt) ∨ ((p1.toInt < 0 ∨ jl.toInt < p1.toInt) ∧ ((-1) : Int) = -1) := by first |  omega | assumption | exact pk_nc _ | exact Or.inl ⟨by omega, by omega, by assumption⟩ | exact Or.inr ⟨by omega, by decide +kernel⟩ | exact fun h9 => absurd h9 (by omega) | exact fun _ => isH_no1 (by omega) | exact fun _ => isH_no2 (by assumption) (by assumption) (by omega) | (intro h9; omega) | (intro h8 h9; omega)
      exact W.iret (v := (-1)) hx hb hr (fun t ht hW => ⟨⟨(-1), (), rfl, hrp, jl, hf_J1, hf_J2, hz_2, xEnd hK hP9 hD9 ht hW⟩, hS.F ht⟩) hS.2.2 d_1_3_13
set_option maxHeartbeats 8000000 in
set_option maxRecDepth 100000 in
theorem g_AlgolJudge_tell (l : Launch) (D : va_G) (kI kJ kB kZ : ClassId) (sz : Nat) (h0 : Nat) (h1 : Nat) (h2 : Nat) (h3 : Nat) (h4 : Nat) (h5 : Nat) (h6 : Nat) (h28 : Nat) (h29 : Nat) (h30 : Nat) (h31 : Nat) (h32 : Nat) (h33 : Nat) (h34 : Nat) (jl : Int32) (ow : Int32) (on : Int32) (f28 : Nat → Int32) (f29 : Nat → Int32) (f30 : Nat → Int32) (f31 : Nat → Int32) (f32 : Nat → Int32) (f33 : Nat → Int32) (f34 : Nat → Int32) (p1 : Int32) (p2 : Int32) (hf_K1 : on.toInt ≤ 1501) : Met l (⟨"AlgolJudge", "tell", "(II)I"⟩ : MethodName) (Cond.code (⟨"AlgolJudge", "tell", "(II)I"⟩ : MethodName) prog_1_method_6_code 3 (some .int) :: gT) ({ frames := 1, cells := 0, slots := 0, locals := 22 }) (va_Pc [.ref h0, .int p1, .int p2] (xP D (xT kI kJ kB kZ) xN [(h0, .inr (7, [.ref h1, .ref h2, .ref h3, .ref h4, .ref h5, .ref h6, .int jl])), (h6, .inr (6, [.ref h28, .ref h29, .ref h30, .ref h31, .ref h32, .ref h33, .ref h34, .int ow, .int on])), (h28, .inl (kI, 1501, .inl f28)), (h29, .inl (kI, 1501, .inl f29)), (h30, .inl (kI, 1501, .inl f30)), (h31, .inl (kI, 1501, .inl f31)), (h32, .inl (kI, 1501, .inl f32)), (h33, .inl (kI, 3000, .inl f33)), (h34, .inl (kI, 1501, .inl f34))] sz)) (va_Qi (fun (r : Int32) (u : Int32) => r = u ∧ (True)) (fun u t => (tlC ow.toInt on.toInt f28 f29 f30 f31 f32 p1.toInt p2.toInt u.toInt) ∧ xQ D (xT kI kJ kB kZ) (va_A [(h0, .inr (7, [.ref h1, .ref h2, .ref h3, .ref h4, .ref h5, .ref h6, .int jl])), (h6, .inr (6, [.ref h28, .ref h29, .ref h30, .ref h31, .ref h32, .ref h33, .ref h34, .int ow, .int on])), (h28, .inl (kI, 1501, .inl f28)), (h29, .inl (kI, 1501, .inl f29)), (h30, .inl (kI, 1501, .inl f30)), (h31, .inl (kI, 1501, .inl f31)), (h32, .inl (kI, 1501, .inl f32)), (h33, .inl (kI, 3000, .inl f33)), (h34, .inl (kI, 1501, .inl f34))] sz) [(h0, .inr (7, [.ref h1, .ref h2, .ref h3, .ref h4, .ref h5, .ref h6, .int jl])), (h6, .inr (6, [.ref h28, .ref h29, .ref h30, .ref h31, .ref h32, .ref h33, .ref h34, .int ow, .int on])), (h28, .inl (kI, 1501, .inl f28)), (h29, .inl (kI, 1501, .inl f29)), (h30, .inl (kI, 1501, .inl f30)), (h31, .inl (kI, 1501, .inl f31)), (h32, .inl (kI, 1501, .inl f32)), (h33, .inl (kI, 3000, .inl f33)), (h34, .inl (kI, 1501, .inl f34))] t) (va_A [(h0, .inr (7, [.ref h1, .ref h2, .ref h3, .ref h4, .ref h5, .ref h6, .int jl])), (h6, .inr (6, [.ref h28, .ref h29, .ref h30, .ref h31, .ref h32, .ref h33, .ref h34, .int ow, .int on])), (h28, .inl (kI, 1501, .inl f28)), (h29, .inl (kI, 1501, .inl f29)), (h30, .inl (kI, 1501, .inl f30)), (h31, .inl (kI, 1501, .inl f31)), (h32, .inl (kI, 1501, .inl f32)), (h33, .inl (kI, 3000, .inl f33)), (h34, .inl (kI, 1501, .inl f34))] sz)) 0 0 (va_A [(h0, .inr (7, [.ref h1, .ref h2, .ref h3, .ref h4, .ref h5, .ref h6, .int jl])), (h6, .inr (6, [.ref h28, .ref h29, .ref h30, .ref h31, .ref h32, .ref h33, .ref h34, .int ow, .int on])), (h28, .inl (kI, 1501, .inl f28)), (h29, .inl (kI, 1501, .inl f29)), (h30, .inl (kI, 1501, .inl f30)), (h31, .inl (kI, 1501, .inl f31)), (h32, .inl (kI, 1501, .inl f32)), (h33, .inl (kI, 3000, .inl f33)), (h34, .inl (kI, 1501, .inl f34))] sz) := by
  refine Met.ofW (cc := prog_1_method_6_code) (maxL := 3) (ret := some .int) (by decide +kernel) rfl ?_
  intro p e s m args below meth c s₁ B hml hv
  obtain ⟨rfl, hsz, hP, hK, hD0, hE⟩ := hv
  have hx := B.exec
  have hb := B.bytes
  have hr := B.returns
  have hts : ∀ w ∈ gT, w.before _ s = true := fun w h => atoms_spec (ws := Cond.code (⟨"AlgolJudge", "tell", "(II)I"⟩ : MethodName) prog_1_method_6_code 3 (some .int) :: gT) B.pre w (List.mem_cons_of_mem _ h)
  have hown : s.vm.findClass "AlgolJudge" = some m.cls := findClass_of_methodNamed B.named
  have hlocks := B.notSynchronized
  subst hsz
  have hD := hD0.self (sz := s.heap.size)
  generalize hAe : va_A [(h0, .inr (7, [.ref h1, .ref h2, .ref h3, .ref h4, .ref h5, .ref h6, .int jl])), (h6, .inr (6, [.ref h28, .ref h29, .ref h30, .ref h31, .ref h32, .ref h33, .ref h34, .int ow, .int on])), (h28, .inl (kI, 1501, .inl f28)), (h29, .inl (kI, 1501, .inl f29)), (h30, .inl (kI, 1501, .inl f30)), (h31, .inl (kI, 1501, .inl f31)), (h32, .inl (kI, 1501, .inl f32)), (h33, .inl (kI, 3000, .inl f33)), (h34, .inl (kI, 1501, .inl f34))] s.heap.size = A at hD hE ⊢
  have hA : ∀ q : Nat, s.heap.size ≤ q → A q := fun q h => by rw [← hAe]; exact Or.inr h
  have hS : va_S A s.heap s.heap [] := va_S.rf
  have hP : va_P D cls9 [(h0, .inr (7, [.ref h1, .ref h2, .ref h3, .ref h4, .ref h5, .ref h6, .int jl])), (h6, .inr (6, [.ref h28, .ref h29, .ref h30, .ref h31, .ref h32, .ref h33, .ref h34, .int ow, .int on])), (h28, .inl (kI, 1501, .inl f28)), (h29, .inl (kI, 1501, .inl f29)), (h30, .inl (kI, 1501, .inl f30)), (h31, .inl (kI, 1501, .inl f31)), (h32, .inl (kI, 1501, .inl f32)), (h33, .inl (kI, 3000, .inl f33)), (h34, .inl (kI, 1501, .inl f34))] s.heap := hP
  have hl := lv_entry ([.ref h0, .int p1, .int p2]) (n := 3) (Nat.le_of_ble_eq_true rfl)
  rw [lg_entry_eq]
  generalize (lg_sl ([.ref h0, .int p1, .int p2]) ++ List.replicate (3 - (lg_sl ([.ref h0, .int p1, .int p2])).length) Slot.unset).toArray = ls at hl ⊢
  have hl : lv_has ls 3 [(0, .ref h0), (1, .int p1), (2, .int p2)] := hl
  refine lv_iload_n hx hb d_1_6_0 rfl (lv_at hl 2 rfl) ?_
  refine lv_if_lt (tgt := 9) hx hb d_1_6_1 (by decide +kernel) (fun c_1 => ?_) (fun c_1 => ?_)
  · skip
    have tc_1 : p2.toInt < 0 := Int32.lt_iff_toInt_lt.mp c_1
    refine lv_iconst (v := (-1)) hx hb d_1_6_9 (by decide +kernel) ?_
    have hP9 := hP.sub (ws' := [(h0, .inr (7, [.ref h1, .ref h2, .ref h3, .ref h4, .ref h5, .ref h6, .int jl])), (h6, .inr (6, [.ref h28, .ref h29, .ref h30, .ref h31, .ref h32, .ref h33, .ref h34, .int ow, .int on])), (h28, .inl (kI, 1501, .inl f28)), (h29, .inl (kI, 1501, .inl f29)), (h30, .inl (kI, 1501, .inl f30)), (h31, .inl (kI, 1501, .inl f31)), (h32, .inl (kI, 1501, .inl f32)), (h33, .inl (kI, 3000, .inl f33)), (h34, .inl (kI, 1501, .inl f34))]) [0, 1, 2, 3, 4, 5, 6, 7, 8] rfl
    have hD9 := hD.sub (ws' := [(h0, .inr (7, [.ref h1, .ref h2, .ref h3, .ref h4, .ref h5, .ref h6, .int jl])), (h6, .inr (6, [.ref h28, .ref h29, .ref h30, .ref h31, .ref h32, .ref h33, .ref h34, .int ow, .int on])), (h28, .inl (kI, 1501, .inl f28)), (h29, .inl (kI, 1501, .inl f29)), (h30, .inl (kI, 1501, .inl f30)), (h31, .inl (kI, 1501, .inl f31)), (h32, .inl (kI, 1501, .inl f32)), (h33, .inl (kI, 3000, .inl f33)), (h34, .inl (kI, 1501, .inl f34))]) [0, 1, 2, 3, 4, 5, 6, 7, 8] (by decide) rfl
    have hz_0 : tlC ow.toInt on.toInt f28 f29 f30 f31 f32 p1.toInt p2.toInt ((-1) : Int) := ⟨fun _ => rfl, fun h9 => by exfalso; omega⟩
    exact W.iret (v := (-1)) hx hb hr (fun t ht hW => ⟨⟨(-1), (-1), rfl, ⟨rfl, trivial⟩, hz_0, xEnd hK hP9 hD9 ht hW⟩, hS.F ht⟩) hS.2.2 d_1_6_10
  · skip
    have tc_1 : ¬ p2.toInt < 0 := fun h9 => c_1 (Int32.lt_iff_toInt_lt.mpr h9)
    refine lv_iload_n hx hb d_1_6_4 rfl (lv_at hl 2 rfl) ?_
    refine lv_iconst (v := 4) hx hb d_1_6_5 (by decide +kernel) ?_
    refine lv_icmp_le (tgt := 11) hx hb d_1_6_6 (by decide +kernel) (fun c_2 => ?_) (fun c_2 => ?_)
    · skip
      have tc_2 : p2.toInt ≤ 4 := Int32.le_iff_toInt_le.mp c_2
      refine lv_aload_n hx hb d_1_6_11 rfl (lv_at hl 0 rfl) ?_
      refine va_get (D := D) (ci := 7) (v := .ref h6) (C := "AlgolJudge") (T := T_Judge) (N := 7) hx hb hts i_Judge hown hK hP 0 rfl rfl 5 (by decide +kernel) (hts _ m_415) (fun _ h9 => h9) rfl d_1_6_12 ?_
      refine lv_iload_n hx hb d_1_6_15 rfl (lv_at hl 1 rfl) ?_
      refine lv_iload_n hx hb d_1_6_16 rfl (lv_at hl 2 rfl) ?_
      have hPc := hP.sub (ws' := [(h6, .inr (6, [.ref h28, .ref h29, .ref h30, .ref h31, .ref h32, .ref h33, .ref h34, .int ow, .int on])), (h28, .inl (kI, 1501, .inl f28)), (h29, .inl (kI, 1501, .inl f29)), (h30, .inl (kI, 1501, .inl f30)), (h31, .inl (kI, 1501, .inl f31)), (h32, .inl (kI, 1501, .inl f32)), (h33, .inl (kI, 3000, .inl f33)), (h34, .inl (kI, 1501, .inl f34))]) [1, 2, 3, 4, 5, 6, 7, 8] rfl
      have hDc := hD.sub (ws' := [(h6, .inr (6, [.ref h28, .ref h29, .ref h30, .ref h31, .ref h32, .ref h33, .ref h34, .int ow, .int on])), (h28, .inl (kI, 1501, .inl f28)), (h29, .inl (kI, 1501, .inl f29)), (h30, .inl (kI, 1501, .inl f30)), (h31, .inl (kI, 1501, .inl f31)), (h32, .inl (kI, 1501, .inl f32)), (h33, .inl (kI, 3000, .inl f33)), (h34, .inl (kI, 1501, .inl f34))]) [1, 2, 3, 4, 5, 6, 7, 8] (by decide) rfl
      have hFc := va_free (wc := [(h6, .inr (6, [.ref h28, .ref h29, .ref h30, .ref h31, .ref h32, .ref h33, .ref h34, .int ow, .int on])), (h28, .inl (kI, 1501, .inl f28)), (h29, .inl (kI, 1501, .inl f29)), (h30, .inl (kI, 1501, .inl f30)), (h31, .inl (kI, 1501, .inl f31)), (h32, .inl (kI, 1501, .inl f32)), (h33, .inl (kI, 3000, .inl f33)), (h34, .inl (kI, 1501, .inl f34))]) hD hS hA [1, 2, 3, 4, 5, 6, 7, 8] rfl
      refine va_calli (va_runV (As := [.int p1, .int p2]) (rest := []) ⟨hx, hb, hml, hown, hts⟩ (g_Book_about l D kI kJ kB kZ _ (h6) (h28) (h29) (h30) (h31) (h32) (h33) (h34) (ow) (on) (f28) (f29) (f30) (f31) (f32) (f33) (f34) (p1) (p2) hf_K1) (cwV 2 hts (gT_V m_1128 m_1129 m_1130 m_131 (gT_ws m_1131)) rfl rfl rfl (by decide +kernel) ⟨(Nat.le_of_ble_eq_true rfl), (Nat.le_of_ble_eq_true rfl)⟩) ⟨xBlind xOk_N, va_recv hK hP (ci := 6) (q0 := 1) rfl rfl, xAtN hK hPc hDc⟩ rfl rfl hl.1 rfl (lv_room (Nat.le_of_ble_eq_true rfl)) d_1_6_17 ⟨(Nat.le_of_ble_eq_true rfl), (Nat.le_of_ble_eq_true rfl)⟩) hS (fun q _ h => hFc q h) hFc (fun r_3 u t H locs ht hvm hw_4 hB hz1 hk1 hS => ?_)
      clear hz1
      obtain ⟨hu9, hw_4⟩ := hw_4
      subst hu9
      revert hB
      refine anI fun hb_5 => fun hB => ?_
      have hb_5 : abC ow.toInt on.toInt f28 f29 f30 f31 f32 p1.toInt p2.toInt r_3.toInt := hb_5
      have hPD := xJoin (wr := [(h0, .inr (7, [.ref h1, .ref h2, .ref h3, .ref h4, .ref h5, .ref h6, .int jl]))]) (w1 := [(h6, .inr (6, [.ref h28, .ref h29, .ref h30, .ref h31, .ref h32, .ref h33, .ref h34, .int ow, .int on])), (h28, .inl (kI, 1501, .inl f28)), (h29, .inl (kI, 1501, .inl f29)), (h30, .inl (kI, 1501, .inl f30)), (h31, .inl (kI, 1501, .inl f31)), (h32, .inl (kI, 1501, .inl f32)), (h33, .inl (kI, 3000, .inl f33)), (h34, .inl (kI, 1501, .inl f34))]) hP hD [1, 2, 3, 4, 5, 6, 7, 8] [0] rfl rfl (by decide) (by decide) hk1 hFc ht hB
      replace hP : va_P D cls9 [(h0, .inr (7, [.ref h1, .ref h2, .ref h3, .ref h4, .ref h5, .ref h6, .int jl])), (h6, .inr (6, [.ref h28, .ref h29, .ref h30, .ref h31, .ref h32, .ref h33, .ref h34, .int ow, .int on])), (h28, .inl (kI, 1501, .inl f28)), (h29, .inl (kI, 1501, .inl f29)), (h30, .inl (kI, 1501, .inl f30)), (h31, .inl (kI, 1501, .inl f31)), (h32, .inl (kI, 1501, .inl f32)), (h33, .inl (kI, 3000, .inl f33)), (h34, .inl (kI, 1501, .inl f34))] H := hPD.1
      replace hD : va_D A [(h0, .inr (7, [.ref h1, .ref h2, .ref h3, .ref h4, .ref h5, .ref h6, .int jl])), (h6, .inr (6, [.ref h28, .ref h29, .ref h30, .ref h31, .ref h32, .ref h33, .ref h34, .int ow, .int on])), (h28, .inl (kI, 1501, .inl f28)), (h29, .inl (kI, 1501, .inl f29)), (h30, .inl (kI, 1501, .inl f30)), (h31, .inl (kI, 1501, .inl f31)), (h32, .inl (kI, 1501, .inl f32)), (h33, .inl (kI, 3000, .inl f33)), (h34, .inl (kI, 1501, .inl f34))] := hPD.2
      clear hPD hB hk1 hPc hDc hFc
      have hP9 := hP.sub (ws' := [(h0, .inr (7, [.ref h1, .ref h2, .ref h3, .ref h4, .ref h5, .ref h6, .int jl])), (h6, .inr (6, [.ref h28, .ref h29, .ref h30, .ref h31, .ref h32, .ref h33, .ref h34, .int ow, .int on])), (h28, .inl (kI, 1501, .inl f28)), (h29, .inl (kI, 1501, .inl f29)), (h30, .inl (kI, 1501, .inl f30)), (h31, .inl (kI, 1501, .inl f31)), (h32, .inl (kI, 1501, .inl f32)), (h33, .inl (kI, 3000, .inl f33)), (h34, .inl (kI, 1501, .inl f34))]) [0, 1, 2, 3, 4, 5, 6, 7, 8] rfl
      have hD9 := hD.sub (ws' := [(h0, .inr (7, [.ref h1, .ref h2, .ref h3, .ref h4, .ref h5, .ref h6, .int jl])), (h6, .inr (6, [.ref h28, .ref h29, .ref h30, .ref h31, .ref h32, .ref h33, .ref h34, .int ow, .int on])), (h28, .inl (kI, 1501, .inl f28)), (h29, .inl (kI, 1501, .inl f29)), (h30, .inl (kI, 1501, .inl f30)), (h31, .inl (kI, 1501, .inl f31)), (h32, .inl (kI, 1501, .inl f32)), (h33, .inl (kI, 3000, .inl f33)), (h34, .inl (kI, 1501, .inl f34))]) [0, 1, 2, 3, 4, 5, 6, 7, 8] (by decide) rfl
      have hz_0 : tlC ow.toInt on.toInt f28 f29 f30 f31 f32 p1.toInt p2.toInt r_3.toInt := ⟨fun h9 => by exfalso; omega, fun _ => hb_5⟩
      exact W.iret (v := r_3) hx hb hr (fun t ht hW => ⟨⟨r_3, r_3, rfl, ⟨rfl, trivial⟩, hz_0, xEnd hK hP9 hD9 ht hW⟩, hS.F ht⟩) hS.2.2 d_1_6_20
    · skip
      have tc_2 : ¬ p2.toInt ≤ 4 := fun h9 => c_2 (Int32.le_iff_toInt_le.mpr h9)
      refine lv_iconst (v := (-1)) hx hb d_1_6_9 (by decide +kernel) ?_
      have hP9 := hP.sub (ws' := [(h0, .inr (7, [.ref h1, .ref h2, .ref h3, .ref h4, .ref h5, .ref h6, .int jl])), (h6, .inr (6, [.ref h28, .ref h29, .ref h30, .ref h31, .ref h32, .ref h33, .ref h34, .int ow, .int on])), (h28, .inl (kI, 1501, .inl f28)), (h29, .inl (kI, 1501, .inl f29)), (h30, .inl (kI, 1501, .inl f30)), (h31, .inl (kI, 1501, .inl f31)), (h32, .inl (kI, 1501, .inl f32)), (h33, .inl (kI, 3000, .inl f33)), (h34, .inl (kI, 1501, .inl f34))]) [0, 1, 2, 3, 4, 5, 6, 7, 8] rfl
      have hD9 := hD.sub (ws' := [(h0, .inr (7, [.ref h1, .ref h2, .ref h3, .ref h4, .ref h5, .ref h6, .int jl])), (h6, .inr (6, [.ref h28, .ref h29, .ref h30, .ref h31, .ref h32, .ref h33, .ref h34, .int ow, .int on])), (h28, .inl (kI, 1501, .inl f28)), (h29, .inl (kI, 1501, .inl f29)), (h30, .inl (kI, 1501, .inl f30)), (h31, .inl (kI, 1501, .inl f31)), (h32, .inl (kI, 1501, .inl f32)), (h33, .inl (kI, 3000, .inl f33)), (h34, .inl (kI, 1501, .inl f34))]) [0, 1, 2, 3, 4, 5, 6, 7, 8] (by decide) rfl
      have hz_0 : tlC ow.toInt on.toInt f28 f29 f30 f31 f32 p1.toInt p2.toInt ((-1) : Int) := ⟨fun _ => rfl, fun h9 => by exfalso; omega⟩
      exact W.iret (v := (-1)) hx hb hr (fun t ht hW => ⟨⟨(-1), (-1), rfl, ⟨rfl, trivial⟩, hz_0, xEnd hK hP9 hD9 ht hW⟩, hS.F ht⟩) hS.2.2 d_1_6_10
