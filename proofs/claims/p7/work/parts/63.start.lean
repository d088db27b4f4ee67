def sO : List Nat := [9, 151, 170, 314, 323, 330, 341, 352, 365, 375, 380, 386, 391, 396, 401, 410, 419, 428, 436, 441, 446, 452, 459, 464, 469, 477, 486, 491, 496, 503, 508, 514, 519, 525, 530, 535, 542, 548, 556, 564, 571, 579, 588, 597, 603, 612, 617]
def sTm (i : Nat) : Term := Term.string (sX i).1 (sX i).2.1
def sFl : List Cond := (flatC (Jvm.Cond.and given_1 narrow_1))
def sI_ : List Nat := [154, 484, 1325, 1342, 1367, 1372, 1373, 1374, 1375, 1408, 1413, 1418, 1423, 1428, 1429, 1430, 1431, 1440, 1445, 1446, 1455, 1468, 1477, 1478, 1491, 1492, 1501, 1506, 1507, 1508, 1509, 1510, 1511, 1512, 1513, 1514, 1515, 1516, 1517, 1522, 1535, 1536, 1537, 1538, 1539, 1564, 1569]
set_option maxRecDepth 100000 in
theorem sR_e : ∀ i, i < 47 → lw_tbl[sI_.getD i 0]? = some (Cond.stringRef (sX i).1 (sX i).2.1 (sX i).2.2.1) := by decide +kernel
theorem sRq : ∀ i, i < 47 → Cond.stringRef (sX i).1 (sX i).2.1 (sX i).2.2.1 ∈ lw_tbl := fun i hi => List.mem_of_getElem? (sR_e i hi)
set_option maxRecDepth 100000 in
theorem sF_x : ∀ i, i < 47 → sFl[sO.getD i 0 + 0]? = some (Cond.exactly (sTm i) "java/lang/String") := by decide +kernel
set_option maxRecDepth 100000 in
theorem sF_c : ∀ i, i < 47 → sFl[sO.getD i 0 + 1]? = some (Cond.eq (.field (sTm i) "java/lang/String" "coder" "B") (.int 0)) := by decide +kernel
set_option maxRecDepth 100000 in
theorem sF_a : ∀ i, i < 47 → sFl[sO.getD i 0 + 2]? = some (Cond.arrayOf (.field (sTm i) "java/lang/String" "value" "[B") .byte) := by decide +kernel
set_option maxRecDepth 100000 in
theorem sF_l : ∀ i, i < 47 → sFl[sO.getD i 0 + 3]? = some (Cond.eq (.length (.field (sTm i) "java/lang/String" "value" "[B")) (.int (Int32.ofNat (sN i)))) := by decide +kernel
set_option maxRecDepth 100000 in
theorem sF_e : ∀ i, i < 47 → ∀ j, j < sN i → sFl[sO.getD i 0 + 4 + j]? = some (Cond.eq (.elem (.field (sTm i) "java/lang/String" "value" "[B") (.int (Int32.ofNat j))) (.int ((sX i).2.2.2.getD j 0))) := by decide +kernel
set_option maxRecDepth 100000 in
theorem xStart {p : Program} {s : State} {m : MethodId} {meth : Method} {c : Code} {b L : Nat} {xs : Nat → Int32} (C0 : lw_At p s m meth c b L xs) : ∃ (D : va_G) (kI kJ kB kZ : ClassId) (sA sV : Nat → Nat), va_K D cls9 (xT kI kJ kB kZ) s ∧ xE sA sV (fun q : Nat => s.heap.size ≤ q) s := by
  obtain ⟨hx, hb, hr, hml, hown, hts0, hX, hbl, hlocks, hgv⟩ := id C0
  have hts : ∀ w ∈ gT, w.before #[Value.ref b] s = true := fun w h => hts0 w (gT_sub w h)
  have hf := flat_of_before _ hgv
  have hA0 : ∀ a : Nat, a < s.heap.size → ¬ (fun q : Nat => s.heap.size ≤ q) a := fun a h => Nat.not_le.mpr h
  obtain ⟨c0, iS0, hK0⟩ := u_known (C := "AlgolJudge$Tokens") (T := T_Tokens) (N := 8) (n := 8) hts i_Tokens (hts _ m_145)
  obtain ⟨c1, iS1, hK1⟩ := u_known (C := "AlgolJudge$Table") (T := T_Table) (N := 11) (n := 11) hts i_Table (hts _ m_239)
  obtain ⟨c2, iS2, hK2⟩ := u_known (C := "AlgolJudge$Scopes") (T := T_Scopes) (N := 13) (n := 13) hts i_Scopes (hts _ m_280)
  obtain ⟨c3, iS3, hK3⟩ := u_known (C := "AlgolJudge$Rules") (T := T_Rules) (N := 2) (n := 2) hts i_Rules (hts _ m_328)
  obtain ⟨c4, iS4, hK4⟩ := u_known (C := "AlgolJudge$Expressions") (T := T_Expr) (N := 3) (n := 3) hts i_Expr (hts _ m_345)
  obtain ⟨c5, iS5, hK5⟩ := u_known (C := "AlgolJudge$Blocks") (T := T_Blocks) (N := 5) (n := 5) hts i_Blocks (hts _ m_326)
  obtain ⟨c6, iS6, hK6⟩ := u_known (C := "AlgolJudge$Book") (T := T_Book) (N := 9) (n := 9) hts i_Book (hts _ m_377)
  obtain ⟨c7, iS7, hK7⟩ := u_known (C := "AlgolJudge") (T := T_Judge) (N := 7) (n := 7) hts i_Judge (hts _ m_137)
  obtain ⟨c8, iS8, hK8⟩ := u_known (C := "AlgolJudgeModel") (T := T_Model) (N := 50) (n := 50) hts i_Model (hts _ m_1141)
  obtain ⟨kI, kkI, ccI, nI1, nI2, nI3⟩ := Cond.arrayClass_spec (hts _ m_235)
  obtain ⟨kJ, kkJ, ccJ, nJ1, nJ2, nJ3⟩ := Cond.arrayClass_spec (hts _ m_236)
  obtain ⟨kB, kkB, ccB, nB1, nB2, nB3⟩ := Cond.arrayClass_spec (hts _ m_237)
  obtain ⟨kZ, kkZ, ccZ, nZ1, nZ2, nZ3⟩ := Cond.arrayClass_spec (hts _ m_278)
  have h0 : ∀ i : Nat, ∃ q : Nat × Nat, i < 47 → (sTm i).eval #[Value.ref b] s none [] s = some (.ref q.1) ∧ va_O "java/lang/String" q.1 (fun q : Nat => s.heap.size ≤ q) s s.heap ∧ va_OF "java/lang/String" "coder" "B" (.int 0) q.1 (fun q : Nat => s.heap.size ≤ q) s s.heap ∧ va_OF "java/lang/String" "value" "[B" (.ref q.2) q.1 (fun q : Nat => s.heap.size ≤ q) s s.heap ∧ va_T .byte q.2 (sN i) (fun j => .int ((sX i).2.2.2.getD j 0)) (fun q : Nat => s.heap.size ≤ q) s s.heap := by
    intro i
    by_cases hi : i < 47
    · obtain ⟨adK, adV, hV, hEv⟩ := vk_Sof (args := #[Value.ref b]) (s := s) (N := 1) (tm := fun _ => sTm i) (len := [sN i]) (byt := [(sX i).2.2.2]) (A := fun q : Nat => s.heap.size ≤ q) (fun k hk => by obtain rfl : k = 0 := (by omega); exact Nat.lt_of_le_of_lt (sN_le i hi) (by decide)) (fun k hk => hf _ (List.mem_of_getElem? (sF_x i hi))) (fun k hk => hf _ (List.mem_of_getElem? (sF_c i hi))) (fun k hk => hf _ (List.mem_of_getElem? (sF_a i hi))) (fun k hk => by obtain rfl : k = 0 := (by omega); exact hf _ (List.mem_of_getElem? (sF_l i hi))) (fun k hk j hj => by obtain rfl : k = 0 := (by omega); exact hf _ (List.mem_of_getElem? (sF_e i hi j hj))) (fun i j hi hj hn => absurd (by omega : i = j) hn) hA0
      exact ⟨(adK 0, adV 0), fun _ => ⟨hEv 0 (by omega), (hV.1 0 (by omega)).1, (hV.1 0 (by omega)).2.1, (hV.1 0 (by omega)).2.2.1, (hV.1 0 (by omega)).2.2.2⟩⟩
    · exact ⟨(0, 0), fun h => absurd h hi⟩
  obtain ⟨ad, had⟩ := Classical.axiomOfChoice h0
  refine ⟨(fun k => if k = 0 then c0 else if k = 1 then c1 else if k = 2 then c2 else if k = 3 then c3 else if k = 4 then c4 else if k = 5 then c5 else if k = 6 then c6 else if k = 7 then c7 else c8, fun k => if k = 0 then iS0 else if k = 1 then iS1 else if k = 2 then iS2 else if k = 3 then iS3 else if k = 4 then iS4 else if k = 5 then iS5 else if k = 6 then iS6 else if k = 7 then iS7 else iS8), kI, kJ, kB, kZ, fun i => (ad i).1, fun i => (ad i).2, ⟨?_, ?_⟩, ?_⟩
  · intro k q hq
    match k, hq with
    | 0, hq => cases hq; exact hK0
    | 1, hq => cases hq; exact hK1
    | 2, hq => cases hq; exact hK2
    | 3, hq => cases hq; exact hK3
    | 4, hq => cases hq; exact hK4
    | 5, hq => cases hq; exact hK5
    | 6, hq => cases hq; exact hK6
    | 7, hq => cases hq; exact hK7
    | 8, hq => cases hq; exact hK8
    | k + 9, hq => simp [cls9] at hq
  · intro k q hq
    match k, hq with
    | 0, hq => cases hq; exact ⟨fun n z => ⟨fun k h => (by cases h), kkI, nI2, ccI, nI3⟩, nI1⟩
    | 1, hq => cases hq; exact ⟨fun n z => ⟨fun k h => (by cases h), kkJ, nJ2, ccJ, nJ3⟩, nJ1⟩
    | 2, hq => cases hq; exact ⟨fun n z => ⟨fun k h => (by cases h), kkB, nB2, ccB, nB3⟩, nB1⟩
    | 3, hq => cases hq; exact ⟨fun n z => ⟨fun k h => (by cases h), kkZ, nZ2, ccZ, nZ3⟩, nZ1⟩
    | k + 4, hq => simp at hq
  · refine ⟨fun i hi => ⟨vk_R.of (hts0 _ (sRq i hi)) (had i hi).1, (had i hi).2.1, (had i hi).2.2.1, (had i hi).2.2.2.1, (had i hi).2.2.2.2⟩, ?_, ?_⟩
    · exact va_Zof (hts0 _ (List.mem_of_getElem? (i := 164) (by decide +kernel))) (hts _ m_122) (va_eqi (hf _ (List.mem_of_getElem? (i := 4) (by decide +kernel)))) hA0
    · exact va_Zqof (hts0 _ (List.mem_of_getElem? (i := 180) (by decide +kernel))) (hts _ m_124) (hf _ (List.mem_of_getElem? (i := 5) (by decide +kernel))) hA0
