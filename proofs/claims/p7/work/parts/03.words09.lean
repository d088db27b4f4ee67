theorem m_1638 : Cond.instanceMethod ⟨"AlgolJudgeModel", "names", "()I"⟩ ∈ gT := gT_i (tb_7 _ (List.mem_of_getElem? (i := 79) (by decide +kernel))) rfl
theorem m_1639 : Cond.selects "AlgolJudgeModel" ⟨"AlgolJudgeModel", "names", "()I"⟩ ⟨"AlgolJudgeModel", "names", "()I"⟩ ∈ gT := gT_i (tb_7 _ (List.mem_of_getElem? (i := 80) (by decide +kernel))) rfl
theorem m_1640 : Cond.code ⟨"AlgolJudgeModel", "names", "()I"⟩ prog_10_method_74_code 1 (some .int) ∈ gT := gT_i (tb_7 _ (List.mem_of_getElem? (i := 81) rfl)) rfl
theorem m_1641 : Cond.methodLink "AlgolJudgeLaw" 36 ⟨"AlgolJudgeModel", "tell", "(II)I"⟩ ∈ gT := gT_i (tb_7 _ (List.mem_of_getElem? (i := 82) (by decide +kernel))) rfl
theorem m_1642 : Cond.instanceMethod ⟨"AlgolJudgeModel", "tell", "(II)I"⟩ ∈ gT := gT_i (tb_7 _ (List.mem_of_getElem? (i := 83) (by decide +kernel))) rfl
theorem m_1643 : Cond.selects "AlgolJudgeModel" ⟨"AlgolJudgeModel", "tell", "(II)I"⟩ ⟨"AlgolJudgeModel", "tell", "(II)I"⟩ ∈ gT := gT_i (tb_7 _ (List.mem_of_getElem? (i := 84) (by decide +kernel))) rfl
theorem m_1644 : Cond.code ⟨"AlgolJudgeModel", "tell", "(II)I"⟩ prog_10_method_75_code 3 (some .int) ∈ gT := gT_i (tb_7 _ (List.mem_of_getElem? (i := 85) rfl)) rfl
theorem m_1645 : Cond.constantLong "AlgolJudgeModel" 506 4 ∈ gT := gT_i (tb_7 _ (List.mem_of_getElem? (i := 86) (by decide +kernel))) rfl
theorem m_1646 : Cond.methodLink "AlgolJudgeLaw" 40 ⟨"AlgolJudgeModel", "means", "(I)I"⟩ ∈ gT := gT_i (tb_7 _ (List.mem_of_getElem? (i := 87) (by decide +kernel))) rfl
theorem m_1647 : Cond.instanceMethod ⟨"AlgolJudgeModel", "means", "(I)I"⟩ ∈ gT := gT_i (tb_7 _ (List.mem_of_getElem? (i := 88) (by decide +kernel))) rfl
theorem m_1648 : Cond.selects "AlgolJudgeModel" ⟨"AlgolJudgeModel", "means", "(I)I"⟩ ⟨"AlgolJudgeModel", "means", "(I)I"⟩ ∈ gT := gT_i (tb_7 _ (List.mem_of_getElem? (i := 89) (by decide +kernel))) rfl
theorem m_1649 : Cond.code ⟨"AlgolJudgeModel", "means", "(I)I"⟩ prog_10_method_76_code 2 (some .int) ∈ gT := gT_i (tb_7 _ (List.mem_of_getElem? (i := 90) rfl)) rfl
theorem m_1650 : Cond.constantLong "AlgolJudgeModel" 508 2999 ∈ gT := gT_i (tb_7 _ (List.mem_of_getElem? (i := 91) (by decide +kernel))) rfl
theorem m_1651 : Cond.fieldLink "java/lang/String" 9 "java/lang/String" "value" "[B" ∈ gT := gT_i (tb_7 _ (List.mem_of_getElem? (i := 92) (by decide +kernel))) rfl
theorem m_1652 : Cond.fieldLink "java/lang/String" 15 "java/lang/String" "coder" "B" ∈ gT := gT_i (tb_7 _ (List.mem_of_getElem? (i := 93) (by decide +kernel))) rfl
theorem m_obj : Cond.code Lib.objectInit ⟨#[0xb1]⟩ 1 none ∈ gT := gT_in 143 (by decide +kernel) rfl
theorem m_max : Cond.code Lib.Math.max.name Lib.Math.max.code 2 (some .int) ∈ gT := gT_in 502 (by decide +kernel) rfl
theorem m_min : Cond.code Lib.Math.min.name Lib.Math.min.code 2 (some .int) ∈ gT := gT_in 505 (by decide +kernel) rfl
