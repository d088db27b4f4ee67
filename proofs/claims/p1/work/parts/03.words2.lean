theorem m_1294 : Cond.lays "AlgolJudgeModel" "AlgolJudgeModel" "many" "I" ∈ gT := gT_in 1294 (by decide +kernel) rfl
theorem m_1651 : Cond.fieldLink "java/lang/String" 9 "java/lang/String" "value" "[B" ∈ gT := gT_in 1651 (by decide +kernel) rfl
theorem m_1652 : Cond.fieldLink "java/lang/String" 15 "java/lang/String" "coder" "B" ∈ gT := gT_in 1652 (by decide +kernel) rfl
theorem m_obj : Cond.code Lib.objectInit ⟨#[0xb1]⟩ 1 none ∈ gT := gT_in 143 (by decide +kernel) rfl
