theorem m_0 : Cond.selects "AlgolJudge$Tokens" ⟨"AlgolJudge$Tokens", "listWords", "()V"⟩ ⟨"AlgolJudge$Tokens", "listWords", "()V"⟩ ∈ gT := gT_i (tb_0 _ (List.mem_of_getElem? (i := 0) (by decide +kernel))) rfl
theorem m_1 : Cond.selects "AlgolJudge" ⟨"AlgolJudge", "append", "(I)V"⟩ ⟨"AlgolJudge", "append", "(I)V"⟩ ∈ gT := gT_i (tb_0 _ (List.mem_of_getElem? (i := 1) (by decide +kernel))) rfl
theorem m_2 : Cond.selects "AlgolJudge$Tokens" ⟨"AlgolJudge$Tokens", "scanFrom", "([BII)I"⟩ ⟨"AlgolJudge$Tokens", "scanFrom", "([BII)I"⟩ ∈ gT := gT_i (tb_0 _ (List.mem_of_getElem? (i := 2) (by decide +kernel))) rfl
theorem m_3 : Cond.selects "AlgolJudge$Tokens" ⟨"AlgolJudge$Tokens", "scanWord", "([BII)I"⟩ ⟨"AlgolJudge$Tokens", "scanWord", "([BII)I"⟩ ∈ gT := gT_i (tb_0 _ (List.mem_of_getElem? (i := 3) (by decide +kernel))) rfl
theorem m_4 : Cond.selects "AlgolJudge$Tokens" ⟨"AlgolJudge$Tokens", "kindOfWord", "(JI)I"⟩ ⟨"AlgolJudge$Tokens", "kindOfWord", "(JI)I"⟩ ∈ gT := gT_i (tb_0 _ (List.mem_of_getElem? (i := 4) (by decide +kernel))) rfl
theorem m_5 : Cond.selects "AlgolJudge$Tokens" ⟨"AlgolJudge$Tokens", "add", "(IIJ)V"⟩ ⟨"AlgolJudge$Tokens", "add", "(IIJ)V"⟩ ∈ gT := gT_i (tb_0 _ (List.mem_of_getElem? (i := 5) (by decide +kernel))) rfl
theorem m_6 : Cond.selects "AlgolJudge$Tokens" ⟨"AlgolJudge$Tokens", "scanNumber", "([BII)I"⟩ ⟨"AlgolJudge$Tokens", "scanNumber", "([BII)I"⟩ ∈ gT := gT_i (tb_0 _ (List.mem_of_getElem? (i := 6) (by decide +kernel))) rfl
theorem m_7 : Cond.selects "AlgolJudge$Tokens" ⟨"AlgolJudge$Tokens", "scanSign", "([BII)I"⟩ ⟨"AlgolJudge$Tokens", "scanSign", "([BII)I"⟩ ∈ gT := gT_i (tb_0 _ (List.mem_of_getElem? (i := 7) (by decide +kernel))) rfl
theorem m_8 : Cond.selects "AlgolJudge$Scopes" ⟨"AlgolJudge$Scopes", "start", "()V"⟩ ⟨"AlgolJudge$Scopes", "start", "()V"⟩ ∈ gT := gT_i (tb_0 _ (List.mem_of_getElem? (i := 8) (by decide +kernel))) rfl
theorem m_9 : Cond.selects "AlgolJudge$Blocks" ⟨"AlgolJudge$Blocks", "block", "()V"⟩ ⟨"AlgolJudge$Blocks", "block", "()V"⟩ ∈ gT := gT_i (tb_0 _ (List.mem_of_getElem? (i := 9) (by decide +kernel))) rfl
theorem m_10 : Cond.selects "AlgolJudge$Scopes" ⟨"AlgolJudge$Scopes", "open", "(I)V"⟩ ⟨"AlgolJudge$Scopes", "open", "(I)V"⟩ ∈ gT := gT_i (tb_0 _ (List.mem_of_getElem? (i := 10) (by decide +kernel))) rfl
theorem m_11 : Cond.selects "AlgolJudge$Blocks" ⟨"AlgolJudge$Blocks", "seesDeclaration", "()Z"⟩ ⟨"AlgolJudge$Blocks", "seesDeclaration", "()Z"⟩ ∈ gT := gT_i (tb_0 _ (List.mem_of_getElem? (i := 11) (by decide +kernel))) rfl
theorem m_12 : Cond.selects "AlgolJudge$Blocks" ⟨"AlgolJudge$Blocks", "seesType", "()Z"⟩ ⟨"AlgolJudge$Blocks", "seesType", "()Z"⟩ ∈ gT := gT_i (tb_0 _ (List.mem_of_getElem? (i := 12) (by decide +kernel))) rfl
theorem m_13 : Cond.selects "AlgolJudge$Blocks" ⟨"AlgolJudge$Blocks", "declaration", "()V"⟩ ⟨"AlgolJudge$Blocks", "declaration", "()V"⟩ ∈ gT := gT_i (tb_0 _ (List.mem_of_getElem? (i := 13) (by decide +kernel))) rfl
theorem m_14 : Cond.selects "AlgolJudge$Blocks" ⟨"AlgolJudge$Blocks", "switchList", "()V"⟩ ⟨"AlgolJudge$Blocks", "switchList", "()V"⟩ ∈ gT := gT_i (tb_0 _ (List.mem_of_getElem? (i := 14) (by decide +kernel))) rfl
theorem m_15 : Cond.selects "AlgolJudge$Scopes" ⟨"AlgolJudge$Scopes", "noteWrong", "(I)V"⟩ ⟨"AlgolJudge$Scopes", "noteWrong", "(I)V"⟩ ∈ gT := gT_i (tb_0 _ (List.mem_of_getElem? (i := 15) (by decide +kernel))) rfl
theorem m_16 : Cond.selects "AlgolJudge$Blocks" ⟨"AlgolJudge$Blocks", "labelUse", "()V"⟩ ⟨"AlgolJudge$Blocks", "labelUse", "()V"⟩ ∈ gT := gT_i (tb_0 _ (List.mem_of_getElem? (i := 16) (by decide +kernel))) rfl
theorem m_17 : Cond.selects "AlgolJudge$Scopes" ⟨"AlgolJudge$Scopes", "find", "(J)I"⟩ ⟨"AlgolJudge$Scopes", "find", "(J)I"⟩ ∈ gT := gT_i (tb_0 _ (List.mem_of_getElem? (i := 17) (by decide +kernel))) rfl
theorem m_18 : Cond.selects "AlgolJudge$Blocks" ⟨"AlgolJudge$Blocks", "type", "()I"⟩ ⟨"AlgolJudge$Blocks", "type", "()I"⟩ ∈ gT := gT_i (tb_0 _ (List.mem_of_getElem? (i := 18) (by decide +kernel))) rfl
theorem m_19 : Cond.selects "AlgolJudge$Blocks" ⟨"AlgolJudge$Blocks", "variables", "(IZ)V"⟩ ⟨"AlgolJudge$Blocks", "variables", "(IZ)V"⟩ ∈ gT := gT_i (tb_0 _ (List.mem_of_getElem? (i := 19) (by decide +kernel))) rfl
theorem m_20 : Cond.selects "AlgolJudge$Blocks" ⟨"AlgolJudge$Blocks", "store", "(II)I"⟩ ⟨"AlgolJudge$Blocks", "store", "(II)I"⟩ ∈ gT := gT_i (tb_0 _ (List.mem_of_getElem? (i := 20) (by decide +kernel))) rfl
theorem m_21 : Cond.selects "AlgolJudge$Blocks" ⟨"AlgolJudge$Blocks", "typedDeclaration", "(I)V"⟩ ⟨"AlgolJudge$Blocks", "typedDeclaration", "(I)V"⟩ ∈ gT := gT_i (tb_0 _ (List.mem_of_getElem? (i := 21) (by decide +kernel))) rfl
theorem m_22 : Cond.selects "AlgolJudge$Blocks" ⟨"AlgolJudge$Blocks", "procedure", "(I)V"⟩ ⟨"AlgolJudge$Blocks", "procedure", "(I)V"⟩ ∈ gT := gT_i (tb_0 _ (List.mem_of_getElem? (i := 22) (by decide +kernel))) rfl
theorem m_23 : Cond.selects "AlgolJudge$Blocks" ⟨"AlgolJudge$Blocks", "parameters", "()I"⟩ ⟨"AlgolJudge$Blocks", "parameters", "()I"⟩ ∈ gT := gT_i (tb_0 _ (List.mem_of_getElem? (i := 23) (by decide +kernel))) rfl
theorem m_24 : Cond.selects "AlgolJudge$Blocks" ⟨"AlgolJudge$Blocks", "values", "()V"⟩ ⟨"AlgolJudge$Blocks", "values", "()V"⟩ ∈ gT := gT_i (tb_0 _ (List.mem_of_getElem? (i := 24) (by decide +kernel))) rfl
theorem m_25 : Cond.selects "AlgolJudge$Blocks" ⟨"AlgolJudge$Blocks", "specifications", "()V"⟩ ⟨"AlgolJudge$Blocks", "specifications", "()V"⟩ ∈ gT := gT_i (tb_0 _ (List.mem_of_getElem? (i := 25) (by decide +kernel))) rfl
theorem m_26 : Cond.selects "AlgolJudge$Blocks" ⟨"AlgolJudge$Blocks", "specification", "(II)V"⟩ ⟨"AlgolJudge$Blocks", "specification", "(II)V"⟩ ∈ gT := gT_i (tb_0 _ (List.mem_of_getElem? (i := 26) (by decide +kernel))) rfl
theorem m_27 : Cond.selects "AlgolJudge$Blocks" ⟨"AlgolJudge$Blocks", "plain", "()V"⟩ ⟨"AlgolJudge$Blocks", "plain", "()V"⟩ ∈ gT := gT_i (tb_0 _ (List.mem_of_getElem? (i := 27) (by decide +kernel))) rfl
theorem m_28 : Cond.selects "AlgolJudge$Blocks" ⟨"AlgolJudge$Blocks", "assignment", "()V"⟩ ⟨"AlgolJudge$Blocks", "assignment", "()V"⟩ ∈ gT := gT_i (tb_0 _ (List.mem_of_getElem? (i := 28) (by decide +kernel))) rfl
theorem m_29 : Cond.selects "AlgolJudge$Expressions" ⟨"AlgolJudge$Expressions", "conditional", "()I"⟩ ⟨"AlgolJudge$Expressions", "conditional", "()I"⟩ ∈ gT := gT_i (tb_0 _ (List.mem_of_getElem? (i := 29) (by decide +kernel))) rfl
theorem m_30 : Cond.selects "AlgolJudge$Expressions" ⟨"AlgolJudge$Expressions", "disjunction", "()I"⟩ ⟨"AlgolJudge$Expressions", "disjunction", "()I"⟩ ∈ gT := gT_i (tb_0 _ (List.mem_of_getElem? (i := 30) (by decide +kernel))) rfl
theorem m_31 : Cond.selects "AlgolJudge$Expressions" ⟨"AlgolJudge$Expressions", "conjunction", "()I"⟩ ⟨"AlgolJudge$Expressions", "conjunction", "()I"⟩ ∈ gT := gT_i (tb_0 _ (List.mem_of_getElem? (i := 31) (by decide +kernel))) rfl
theorem m_32 : Cond.selects "AlgolJudge$Expressions" ⟨"AlgolJudge$Expressions", "denial", "()I"⟩ ⟨"AlgolJudge$Expressions", "denial", "()I"⟩ ∈ gT := gT_i (tb_0 _ (List.mem_of_getElem? (i := 32) (by decide +kernel))) rfl
theorem m_33 : Cond.selects "AlgolJudge$Expressions" ⟨"AlgolJudge$Expressions", "relation", "()I"⟩ ⟨"AlgolJudge$Expressions", "relation", "()I"⟩ ∈ gT := gT_i (tb_0 _ (List.mem_of_getElem? (i := 33) (by decide +kernel))) rfl
theorem m_34 : Cond.selects "AlgolJudge$Expressions" ⟨"AlgolJudge$Expressions", "sum", "()I"⟩ ⟨"AlgolJudge$Expressions", "sum", "()I"⟩ ∈ gT := gT_i (tb_0 _ (List.mem_of_getElem? (i := 34) (by decide +kernel))) rfl
theorem m_35 : Cond.selects "AlgolJudge$Expressions" ⟨"AlgolJudge$Expressions", "acceptPlusOrMinus", "()Z"⟩ ⟨"AlgolJudge$Expressions", "acceptPlusOrMinus", "()Z"⟩ ∈ gT := gT_i (tb_0 _ (List.mem_of_getElem? (i := 35) (by decide +kernel))) rfl
theorem m_36 : Cond.selects "AlgolJudge$Expressions" ⟨"AlgolJudge$Expressions", "term", "()I"⟩ ⟨"AlgolJudge$Expressions", "term", "()I"⟩ ∈ gT := gT_i (tb_0 _ (List.mem_of_getElem? (i := 36) (by decide +kernel))) rfl
theorem m_37 : Cond.selects "AlgolJudge$Expressions" ⟨"AlgolJudge$Expressions", "power", "()I"⟩ ⟨"AlgolJudge$Expressions", "power", "()I"⟩ ∈ gT := gT_i (tb_0 _ (List.mem_of_getElem? (i := 37) (by decide +kernel))) rfl
theorem m_38 : Cond.selects "AlgolJudge$Expressions" ⟨"AlgolJudge$Expressions", "atom", "()I"⟩ ⟨"AlgolJudge$Expressions", "atom", "()I"⟩ ∈ gT := gT_i (tb_0 _ (List.mem_of_getElem? (i := 38) (by decide +kernel))) rfl
theorem m_39 : Cond.selects "AlgolJudge$Expressions" ⟨"AlgolJudge$Expressions", "named", "()I"⟩ ⟨"AlgolJudge$Expressions", "named", "()I"⟩ ∈ gT := gT_i (tb_0 _ (List.mem_of_getElem? (i := 39) (by decide +kernel))) rfl
theorem m_40 : Cond.selects "AlgolJudge$Expressions" ⟨"AlgolJudge$Expressions", "actual", "(I)V"⟩ ⟨"AlgolJudge$Expressions", "actual", "(I)V"⟩ ∈ gT := gT_i (tb_0 _ (List.mem_of_getElem? (i := 40) (by decide +kernel))) rfl
theorem m_41 : Cond.selects "AlgolJudge$Expressions" ⟨"AlgolJudge$Expressions", "seesNameAlone", "()Z"⟩ ⟨"AlgolJudge$Expressions", "seesNameAlone", "()Z"⟩ ∈ gT := gT_i (tb_0 _ (List.mem_of_getElem? (i := 41) (by decide +kernel))) rfl
theorem m_42 : Cond.selects "AlgolJudge$Expressions" ⟨"AlgolJudge$Expressions", "acceptTimesOrDiv", "()Z"⟩ ⟨"AlgolJudge$Expressions", "acceptTimesOrDiv", "()Z"⟩ ∈ gT := gT_i (tb_0 _ (List.mem_of_getElem? (i := 42) (by decide +kernel))) rfl
theorem m_43 : Cond.selects "AlgolJudge$Scopes" ⟨"AlgolJudge$Scopes", "parent", "(I)I"⟩ ⟨"AlgolJudge$Scopes", "parent", "(I)I"⟩ ∈ gT := gT_i (tb_0 _ (List.mem_of_getElem? (i := 43) (by decide +kernel))) rfl
theorem m_44 : Cond.selects "AlgolJudge$Blocks" ⟨"AlgolJudge$Blocks", "call", "()V"⟩ ⟨"AlgolJudge$Blocks", "call", "()V"⟩ ∈ gT := gT_i (tb_0 _ (List.mem_of_getElem? (i := 44) (by decide +kernel))) rfl
theorem m_45 : Cond.selects "AlgolJudge$Blocks" ⟨"AlgolJudge$Blocks", "jump", "()V"⟩ ⟨"AlgolJudge$Blocks", "jump", "()V"⟩ ∈ gT := gT_i (tb_0 _ (List.mem_of_getElem? (i := 45) (by decide +kernel))) rfl
theorem m_46 : Cond.selects "AlgolJudge$Blocks" ⟨"AlgolJudge$Blocks", "choice", "()V"⟩ ⟨"AlgolJudge$Blocks", "choice", "()V"⟩ ∈ gT := gT_i (tb_0 _ (List.mem_of_getElem? (i := 46) (by decide +kernel))) rfl
theorem m_47 : Cond.selects "AlgolJudge$Blocks" ⟨"AlgolJudge$Blocks", "loop", "()V"⟩ ⟨"AlgolJudge$Blocks", "loop", "()V"⟩ ∈ gT := gT_i (tb_0 _ (List.mem_of_getElem? (i := 47) (by decide +kernel))) rfl
theorem m_48 : Cond.selects "AlgolJudge$Blocks" ⟨"AlgolJudge$Blocks", "element", "()V"⟩ ⟨"AlgolJudge$Blocks", "element", "()V"⟩ ∈ gT := gT_i (tb_0 _ (List.mem_of_getElem? (i := 48) (by decide +kernel))) rfl
theorem m_49 : Cond.selects "AlgolJudge$Blocks" ⟨"AlgolJudge$Blocks", "segment", "(I)V"⟩ ⟨"AlgolJudge$Blocks", "segment", "(I)V"⟩ ∈ gT := gT_i (tb_0 _ (List.mem_of_getElem? (i := 49) (by decide +kernel))) rfl
theorem m_50 : Cond.selects "AlgolJudge$Blocks" ⟨"AlgolJudge$Blocks", "statement", "()V"⟩ ⟨"AlgolJudge$Blocks", "statement", "()V"⟩ ∈ gT := gT_i (tb_0 _ (List.mem_of_getElem? (i := 50) (by decide +kernel))) rfl
theorem m_51 : Cond.selects "AlgolJudge$Blocks" ⟨"AlgolJudge$Blocks", "seesLabel", "()Z"⟩ ⟨"AlgolJudge$Blocks", "seesLabel", "()Z"⟩ ∈ gT := gT_i (tb_0 _ (List.mem_of_getElem? (i := 51) (by decide +kernel))) rfl
theorem m_52 : Cond.selects "AlgolJudge$Book" ⟨"AlgolJudge$Book", "numberBlock", "(LAlgolJudge$Table;LAlgolJudge$Scopes;I)V"⟩ ⟨"AlgolJudge$Book", "numberBlock", "(LAlgolJudge$Table;LAlgolJudge$Scopes;I)V"⟩ ∈ gT := gT_i (tb_0 _ (List.mem_of_getElem? (i := 52) (by decide +kernel))) rfl
theorem m_53 : Cond.selects "AlgolJudge$Book" ⟨"AlgolJudge$Book", "numberChain", "(LAlgolJudge$Table;I)V"⟩ ⟨"AlgolJudge$Book", "numberChain", "(LAlgolJudge$Table;I)V"⟩ ∈ gT := gT_i (tb_0 _ (List.mem_of_getElem? (i := 53) (by decide +kernel))) rfl
theorem m_54 : Cond.selects "AlgolJudge$Book" ⟨"AlgolJudge$Book", "copy", "(LAlgolJudge$Table;LAlgolJudge$Scopes;I)V"⟩ ⟨"AlgolJudge$Book", "copy", "(LAlgolJudge$Table;LAlgolJudge$Scopes;I)V"⟩ ∈ gT := gT_i (tb_0 _ (List.mem_of_getElem? (i := 54) (by decide +kernel))) rfl
theorem m_55 : Cond.selects "AlgolJudge$Book" ⟨"AlgolJudge$Book", "numberOf", "(I)I"⟩ ⟨"AlgolJudge$Book", "numberOf", "(I)I"⟩ ∈ gT := gT_i (tb_0 _ (List.mem_of_getElem? (i := 55) (by decide +kernel))) rfl
theorem m_56 : Cond.selects "AlgolJudgeModel" ⟨"AlgolJudgeModel", "tokens", "(I)V"⟩ ⟨"AlgolJudgeModel", "tokens", "(I)V"⟩ ∈ gT := gT_i (tb_0 _ (List.mem_of_getElem? (i := 56) (by decide +kernel))) rfl
theorem m_57 : Cond.selects "AlgolJudgeModel" ⟨"AlgolJudgeModel", "block", "()I"⟩ ⟨"AlgolJudgeModel", "block", "()I"⟩ ∈ gT := gT_i (tb_0 _ (List.mem_of_getElem? (i := 57) (by decide +kernel))) rfl
theorem m_58 : Cond.selects "AlgolJudgeModel" ⟨"AlgolJudgeModel", "is", "(Ljava/lang/String;)Z"⟩ ⟨"AlgolJudgeModel", "is", "(Ljava/lang/String;)Z"⟩ ∈ gT := gT_i (tb_0 _ (List.mem_of_getElem? (i := 58) (by decide +kernel))) rfl
theorem m_59 : Cond.selects "AlgolJudgeModel" ⟨"AlgolJudgeModel", "isAt", "(ILjava/lang/String;)Z"⟩ ⟨"AlgolJudgeModel", "isAt", "(ILjava/lang/String;)Z"⟩ ∈ gT := gT_i (tb_0 _ (List.mem_of_getElem? (i := 59) (by decide +kernel))) rfl
theorem m_60 : Cond.selects "AlgolJudgeModel" ⟨"AlgolJudgeModel", "bad", "()I"⟩ ⟨"AlgolJudgeModel", "bad", "()I"⟩ ∈ gT := gT_i (tb_0 _ (List.mem_of_getElem? (i := 60) (by decide +kernel))) rfl
theorem m_61 : Cond.selects "AlgolJudgeModel" ⟨"AlgolJudgeModel", "deeper", "()Z"⟩ ⟨"AlgolJudgeModel", "deeper", "()Z"⟩ ∈ gT := gT_i (tb_0 _ (List.mem_of_getElem? (i := 61) (by decide +kernel))) rfl
theorem m_62 : Cond.selects "AlgolJudgeModel" ⟨"AlgolJudgeModel", "node", "(II)I"⟩ ⟨"AlgolJudgeModel", "node", "(II)I"⟩ ∈ gT := gT_i (tb_0 _ (List.mem_of_getElem? (i := 62) (by decide +kernel))) rfl
theorem m_63 : Cond.selects "AlgolJudgeModel" ⟨"AlgolJudgeModel", "open", "(II)I"⟩ ⟨"AlgolJudgeModel", "open", "(II)I"⟩ ∈ gT := gT_i (tb_0 _ (List.mem_of_getElem? (i := 63) (by decide +kernel))) rfl
theorem m_64 : Cond.selects "AlgolJudgeModel" ⟨"AlgolJudgeModel", "isType", "()Z"⟩ ⟨"AlgolJudgeModel", "isType", "()Z"⟩ ∈ gT := gT_i (tb_0 _ (List.mem_of_getElem? (i := 64) (by decide +kernel))) rfl
theorem m_65 : Cond.selects "AlgolJudgeModel" ⟨"AlgolJudgeModel", "declaration", "(I)Z"⟩ ⟨"AlgolJudgeModel", "declaration", "(I)Z"⟩ ∈ gT := gT_i (tb_0 _ (List.mem_of_getElem? (i := 65) (by decide +kernel))) rfl
theorem m_66 : Cond.selects "AlgolJudgeModel" ⟨"AlgolJudgeModel", "variables", "(IZ)Z"⟩ ⟨"AlgolJudgeModel", "variables", "(IZ)Z"⟩ ∈ gT := gT_i (tb_0 _ (List.mem_of_getElem? (i := 66) (by decide +kernel))) rfl
theorem m_67 : Cond.selects "AlgolJudgeModel" ⟨"AlgolJudgeModel", "isNameToOwn", "()Z"⟩ ⟨"AlgolJudgeModel", "isNameToOwn", "()Z"⟩ ∈ gT := gT_i (tb_0 _ (List.mem_of_getElem? (i := 67) (by decide +kernel))) rfl
theorem m_68 : Cond.selects "AlgolJudgeModel" ⟨"AlgolJudgeModel", "declare", "(III)I"⟩ ⟨"AlgolJudgeModel", "declare", "(III)I"⟩ ∈ gT := gT_i (tb_0 _ (List.mem_of_getElem? (i := 68) (by decide +kernel))) rfl
theorem m_69 : Cond.selects "AlgolJudgeModel" ⟨"AlgolJudgeModel", "find", "(II)I"⟩ ⟨"AlgolJudgeModel", "find", "(II)I"⟩ ∈ gT := gT_i (tb_0 _ (List.mem_of_getElem? (i := 69) (by decide +kernel))) rfl
theorem m_70 : Cond.selects "AlgolJudgeModel" ⟨"AlgolJudgeModel", "isLike", "(II)Z"⟩ ⟨"AlgolJudgeModel", "isLike", "(II)Z"⟩ ∈ gT := gT_i (tb_0 _ (List.mem_of_getElem? (i := 70) (by decide +kernel))) rfl
theorem m_71 : Cond.selects "AlgolJudgeModel" ⟨"AlgolJudgeModel", "wrong", "(I)V"⟩ ⟨"AlgolJudgeModel", "wrong", "(I)V"⟩ ∈ gT := gT_i (tb_0 _ (List.mem_of_getElem? (i := 71) (by decide +kernel))) rfl
theorem m_72 : Cond.selects "AlgolJudgeModel" ⟨"AlgolJudgeModel", "declareIn", "(IIII)I"⟩ ⟨"AlgolJudgeModel", "declareIn", "(IIII)I"⟩ ∈ gT := gT_i (tb_0 _ (List.mem_of_getElem? (i := 72) (by decide +kernel))) rfl
theorem m_73 : Cond.selects "AlgolJudgeModel" ⟨"AlgolJudgeModel", "aSwitch", "()Z"⟩ ⟨"AlgolJudgeModel", "aSwitch", "()Z"⟩ ∈ gT := gT_i (tb_0 _ (List.mem_of_getElem? (i := 73) (by decide +kernel))) rfl
theorem m_74 : Cond.selects "AlgolJudgeModel" ⟨"AlgolJudgeModel", "aProcedure", "(I)Z"⟩ ⟨"AlgolJudgeModel", "aProcedure", "(I)Z"⟩ ∈ gT := gT_i (tb_0 _ (List.mem_of_getElem? (i := 74) (by decide +kernel))) rfl
theorem m_75 : Cond.selects "AlgolJudgeModel" ⟨"AlgolJudgeModel", "parameters", "(I)Z"⟩ ⟨"AlgolJudgeModel", "parameters", "(I)Z"⟩ ∈ gT := gT_i (tb_0 _ (List.mem_of_getElem? (i := 75) (by decide +kernel))) rfl
theorem m_76 : Cond.selects "AlgolJudgeModel" ⟨"AlgolJudgeModel", "take", "(Ljava/lang/String;)Z"⟩ ⟨"AlgolJudgeModel", "take", "(Ljava/lang/String;)Z"⟩ ∈ gT := gT_i (tb_0 _ (List.mem_of_getElem? (i := 76) (by decide +kernel))) rfl
theorem m_77 : Cond.selects "AlgolJudgeModel" ⟨"AlgolJudgeModel", "specify", "(I)Z"⟩ ⟨"AlgolJudgeModel", "specify", "(I)Z"⟩ ∈ gT := gT_i (tb_0 _ (List.mem_of_getElem? (i := 77) (by decide +kernel))) rfl
theorem m_78 : Cond.selects "AlgolJudgeModel" ⟨"AlgolJudgeModel", "plain", "()I"⟩ ⟨"AlgolJudgeModel", "plain", "()I"⟩ ∈ gT := gT_i (tb_0 _ (List.mem_of_getElem? (i := 78) (by decide +kernel))) rfl
theorem m_79 : Cond.selects "AlgolJudgeModel" ⟨"AlgolJudgeModel", "aGoto", "()I"⟩ ⟨"AlgolJudgeModel", "aGoto", "()I"⟩ ∈ gT := gT_i (tb_0 _ (List.mem_of_getElem? (i := 79) (by decide +kernel))) rfl
theorem m_80 : Cond.selects "AlgolJudgeModel" ⟨"AlgolJudgeModel", "bracket", "(Ljava/lang/String;Ljava/lang/String;)I"⟩ ⟨"AlgolJudgeModel", "bracket", "(Ljava/lang/String;Ljava/lang/String;)I"⟩ ∈ gT := gT_i (tb_0 _ (List.mem_of_getElem? (i := 80) (by decide +kernel))) rfl
theorem m_81 : Cond.selects "AlgolJudgeModel" ⟨"AlgolJudgeModel", "expression", "()I"⟩ ⟨"AlgolJudgeModel", "expression", "()I"⟩ ∈ gT := gT_i (tb_0 _ (List.mem_of_getElem? (i := 81) (by decide +kernel))) rfl
theorem m_82 : Cond.selects "AlgolJudgeModel" ⟨"AlgolJudgeModel", "either", "()I"⟩ ⟨"AlgolJudgeModel", "either", "()I"⟩ ∈ gT := gT_i (tb_0 _ (List.mem_of_getElem? (i := 82) (by decide +kernel))) rfl
theorem m_83 : Cond.selects "AlgolJudgeModel" ⟨"AlgolJudgeModel", "both", "()I"⟩ ⟨"AlgolJudgeModel", "both", "()I"⟩ ∈ gT := gT_i (tb_0 _ (List.mem_of_getElem? (i := 83) (by decide +kernel))) rfl
theorem m_84 : Cond.selects "AlgolJudgeModel" ⟨"AlgolJudgeModel", "denial", "()I"⟩ ⟨"AlgolJudgeModel", "denial", "()I"⟩ ∈ gT := gT_i (tb_0 _ (List.mem_of_getElem? (i := 84) (by decide +kernel))) rfl
theorem m_85 : Cond.selects "AlgolJudgeModel" ⟨"AlgolJudgeModel", "relation", "()I"⟩ ⟨"AlgolJudgeModel", "relation", "()I"⟩ ∈ gT := gT_i (tb_0 _ (List.mem_of_getElem? (i := 85) (by decide +kernel))) rfl
theorem m_86 : Cond.selects "AlgolJudgeModel" ⟨"AlgolJudgeModel", "sum", "()I"⟩ ⟨"AlgolJudgeModel", "sum", "()I"⟩ ∈ gT := gT_i (tb_0 _ (List.mem_of_getElem? (i := 86) (by decide +kernel))) rfl
theorem m_87 : Cond.selects "AlgolJudgeModel" ⟨"AlgolJudgeModel", "term", "()I"⟩ ⟨"AlgolJudgeModel", "term", "()I"⟩ ∈ gT := gT_i (tb_0 _ (List.mem_of_getElem? (i := 87) (by decide +kernel))) rfl
theorem m_88 : Cond.selects "AlgolJudgeModel" ⟨"AlgolJudgeModel", "power", "()I"⟩ ⟨"AlgolJudgeModel", "power", "()I"⟩ ∈ gT := gT_i (tb_0 _ (List.mem_of_getElem? (i := 88) (by decide +kernel))) rfl
theorem m_89 : Cond.selects "AlgolJudgeModel" ⟨"AlgolJudgeModel", "atom", "()I"⟩ ⟨"AlgolJudgeModel", "atom", "()I"⟩ ∈ gT := gT_i (tb_0 _ (List.mem_of_getElem? (i := 89) (by decide +kernel))) rfl
theorem m_90 : Cond.selects "AlgolJudgeModel" ⟨"AlgolJudgeModel", "subscripts", "(I)Z"⟩ ⟨"AlgolJudgeModel", "subscripts", "(I)Z"⟩ ∈ gT := gT_i (tb_0 _ (List.mem_of_getElem? (i := 90) (by decide +kernel))) rfl
theorem m_91 : Cond.selects "AlgolJudgeModel" ⟨"AlgolJudgeModel", "actuals", "()I"⟩ ⟨"AlgolJudgeModel", "actuals", "()I"⟩ ∈ gT := gT_i (tb_0 _ (List.mem_of_getElem? (i := 91) (by decide +kernel))) rfl
theorem m_92 : Cond.selects "AlgolJudgeModel" ⟨"AlgolJudgeModel", "pair", "(II)I"⟩ ⟨"AlgolJudgeModel", "pair", "(II)I"⟩ ∈ gT := gT_i (tb_0 _ (List.mem_of_getElem? (i := 92) (by decide +kernel))) rfl
theorem m_93 : Cond.selects "AlgolJudgeModel" ⟨"AlgolJudgeModel", "anIf", "()I"⟩ ⟨"AlgolJudgeModel", "anIf", "()I"⟩ ∈ gT := gT_i (tb_0 _ (List.mem_of_getElem? (i := 93) (by decide +kernel))) rfl
theorem m_94 : Cond.selects "AlgolJudgeModel" ⟨"AlgolJudgeModel", "behindWord", "()I"⟩ ⟨"AlgolJudgeModel", "behindWord", "()I"⟩ ∈ gT := gT_i (tb_0 _ (List.mem_of_getElem? (i := 94) (by decide +kernel))) rfl
theorem m_95 : Cond.selects "AlgolJudgeModel" ⟨"AlgolJudgeModel", "aFor", "()I"⟩ ⟨"AlgolJudgeModel", "aFor", "()I"⟩ ∈ gT := gT_i (tb_0 _ (List.mem_of_getElem? (i := 95) (by decide +kernel))) rfl
theorem m_96 : Cond.selects "AlgolJudgeModel" ⟨"AlgolJudgeModel", "element", "(I)Z"⟩ ⟨"AlgolJudgeModel", "element", "(I)Z"⟩ ∈ gT := gT_i (tb_0 _ (List.mem_of_getElem? (i := 96) (by decide +kernel))) rfl
theorem m_97 : Cond.selects "AlgolJudgeModel" ⟨"AlgolJudgeModel", "aPrint", "()I"⟩ ⟨"AlgolJudgeModel", "aPrint", "()I"⟩ ∈ gT := gT_i (tb_0 _ (List.mem_of_getElem? (i := 97) (by decide +kernel))) rfl
theorem m_98 : Cond.selects "AlgolJudgeModel" ⟨"AlgolJudgeModel", "byName", "()I"⟩ ⟨"AlgolJudgeModel", "byName", "()I"⟩ ∈ gT := gT_i (tb_0 _ (List.mem_of_getElem? (i := 98) (by decide +kernel))) rfl
theorem m_99 : Cond.selects "AlgolJudgeModel" ⟨"AlgolJudgeModel", "assignment", "()I"⟩ ⟨"AlgolJudgeModel", "assignment", "()I"⟩ ∈ gT := gT_i (tb_0 _ (List.mem_of_getElem? (i := 99) (by decide +kernel))) rfl
theorem m_100 : Cond.selects "AlgolJudgeModel" ⟨"AlgolJudgeModel", "isLeft", "()Z"⟩ ⟨"AlgolJudgeModel", "isLeft", "()Z"⟩ ∈ gT := gT_i (tb_0 _ (List.mem_of_getElem? (i := 100) (by decide +kernel))) rfl
theorem m_101 : Cond.selects "AlgolJudgeModel" ⟨"AlgolJudgeModel", "arrays", "(II)Z"⟩ ⟨"AlgolJudgeModel", "arrays", "(II)Z"⟩ ∈ gT := gT_i (tb_0 _ (List.mem_of_getElem? (i := 101) (by decide +kernel))) rfl
theorem m_102 : Cond.selects "AlgolJudgeModel" ⟨"AlgolJudgeModel", "bounds", "(I)Z"⟩ ⟨"AlgolJudgeModel", "bounds", "(I)Z"⟩ ∈ gT := gT_i (tb_0 _ (List.mem_of_getElem? (i := 102) (by decide +kernel))) rfl
theorem m_103 : Cond.selects "AlgolJudgeModel" ⟨"AlgolJudgeModel", "behind", "(III)I"⟩ ⟨"AlgolJudgeModel", "behind", "(III)I"⟩ ∈ gT := gT_i (tb_0 _ (List.mem_of_getElem? (i := 103) (by decide +kernel))) rfl
theorem m_104 : Cond.selects "AlgolJudgeModel" ⟨"AlgolJudgeModel", "checkAll", "(I)V"⟩ ⟨"AlgolJudgeModel", "checkAll", "(I)V"⟩ ∈ gT := gT_i (tb_0 _ (List.mem_of_getElem? (i := 104) (by decide +kernel))) rfl
theorem m_105 : Cond.selects "AlgolJudgeModel" ⟨"AlgolJudgeModel", "check", "(I)V"⟩ ⟨"AlgolJudgeModel", "check", "(I)V"⟩ ∈ gT := gT_i (tb_0 _ (List.mem_of_getElem? (i := 105) (by decide +kernel))) rfl
theorem m_106 : Cond.selects "AlgolJudgeModel" ⟨"AlgolJudgeModel", "need", "(II)V"⟩ ⟨"AlgolJudgeModel", "need", "(II)V"⟩ ∈ gT := gT_i (tb_0 _ (List.mem_of_getElem? (i := 106) (by decide +kernel))) rfl
theorem m_107 : Cond.selects "AlgolJudgeModel" ⟨"AlgolJudgeModel", "typeOf", "(I)I"⟩ ⟨"AlgolJudgeModel", "typeOf", "(I)I"⟩ ∈ gT := gT_i (tb_0 _ (List.mem_of_getElem? (i := 107) (by decide +kernel))) rfl
theorem m_108 : Cond.selects "AlgolJudgeModel" ⟨"AlgolJudgeModel", "row", "(II)V"⟩ ⟨"AlgolJudgeModel", "row", "(II)V"⟩ ∈ gT := gT_i (tb_0 _ (List.mem_of_getElem? (i := 108) (by decide +kernel))) rfl
theorem m_109 : Cond.selects "AlgolJudgeModel" ⟨"AlgolJudgeModel", "reference", "(I)I"⟩ ⟨"AlgolJudgeModel", "reference", "(I)I"⟩ ∈ gT := gT_i (tb_0 _ (List.mem_of_getElem? (i := 109) (by decide +kernel))) rfl
theorem m_110 : Cond.selects "AlgolJudgeModel" ⟨"AlgolJudgeModel", "mean", "(II)I"⟩ ⟨"AlgolJudgeModel", "mean", "(II)I"⟩ ∈ gT := gT_i (tb_0 _ (List.mem_of_getElem? (i := 110) (by decide +kernel))) rfl
theorem m_111 : Cond.selects "AlgolJudgeModel" ⟨"AlgolJudgeModel", "not", "(I)I"⟩ ⟨"AlgolJudgeModel", "not", "(I)I"⟩ ∈ gT := gT_i (tb_0 _ (List.mem_of_getElem? (i := 111) (by decide +kernel))) rfl
theorem m_112 : Cond.selects "AlgolJudgeModel" ⟨"AlgolJudgeModel", "indexed", "(I)I"⟩ ⟨"AlgolJudgeModel", "indexed", "(I)I"⟩ ∈ gT := gT_i (tb_0 _ (List.mem_of_getElem? (i := 112) (by decide +kernel))) rfl
theorem m_113 : Cond.selects "AlgolJudgeModel" ⟨"AlgolJudgeModel", "call", "(II)V"⟩ ⟨"AlgolJudgeModel", "call", "(II)V"⟩ ∈ gT := gT_i (tb_0 _ (List.mem_of_getElem? (i := 113) (by decide +kernel))) rfl
theorem m_114 : Cond.selects "AlgolJudgeModel" ⟨"AlgolJudgeModel", "actual", "(II)V"⟩ ⟨"AlgolJudgeModel", "actual", "(II)V"⟩ ∈ gT := gT_i (tb_0 _ (List.mem_of_getElem? (i := 114) (by decide +kernel))) rfl
theorem m_115 : Cond.selects "AlgolJudgeModel" ⟨"AlgolJudgeModel", "left", "(I)I"⟩ ⟨"AlgolJudgeModel", "left", "(I)I"⟩ ∈ gT := gT_i (tb_0 _ (List.mem_of_getElem? (i := 115) (by decide +kernel))) rfl
theorem m_116 : Cond.selects "AlgolJudgeModel" ⟨"AlgolJudgeModel", "isAround", "(II)Z"⟩ ⟨"AlgolJudgeModel", "isAround", "(II)Z"⟩ ∈ gT := gT_i (tb_0 _ (List.mem_of_getElem? (i := 116) (by decide +kernel))) rfl
theorem m_117 : Cond.selects "AlgolJudgeModel" ⟨"AlgolJudgeModel", "keep", "()V"⟩ ⟨"AlgolJudgeModel", "keep", "()V"⟩ ∈ gT := gT_i (tb_0 _ (List.mem_of_getElem? (i := 117) (by decide +kernel))) rfl
theorem m_118 : Cond.selects "AlgolJudgeModel" ⟨"AlgolJudgeModel", "give", "(I)V"⟩ ⟨"AlgolJudgeModel", "give", "(I)V"⟩ ∈ gT := gT_i (tb_0 _ (List.mem_of_getElem? (i := 118) (by decide +kernel))) rfl
theorem m_119 : Cond.initialized "AlgolJudgeLaw" ∈ gT := gT_i (tb_1 _ (List.mem_of_getElem? (i := 0) (by decide +kernel))) rfl
theorem m_120 : Cond.initialized "AlgolJudge" ∈ gT := gT_i (tb_1 _ (List.mem_of_getElem? (i := 1) (by decide +kernel))) rfl
theorem m_121 : Cond.initialized "AlgolJudge$Tokens" ∈ gT := gT_i (tb_1 _ (List.mem_of_getElem? (i := 2) (by decide +kernel))) rfl
theorem m_122 : Cond.initialized "java/lang/String" ∈ gT := gT_i (tb_1 _ (List.mem_of_getElem? (i := 3) (by decide +kernel))) rfl
theorem m_123 : Cond.initialized "java/lang/StringLatin1" ∈ gT := gT_i (tb_1 _ (List.mem_of_getElem? (i := 4) (by decide +kernel))) rfl
theorem m_124 : Cond.initialized "jdk/internal/util/Preconditions" ∈ gT := gT_i (tb_1 _ (List.mem_of_getElem? (i := 5) (by decide +kernel))) rfl
theorem m_125 : Cond.initialized "java/lang/StringUTF16" ∈ gT := gT_i (tb_1 _ (List.mem_of_getElem? (i := 6) (by decide +kernel))) rfl
theorem m_126 : Cond.initialized "AlgolJudge$Table" ∈ gT := gT_i (tb_1 _ (List.mem_of_getElem? (i := 7) (by decide +kernel))) rfl
theorem m_127 : Cond.initialized "AlgolJudge$Scopes" ∈ gT := gT_i (tb_1 _ (List.mem_of_getElem? (i := 8) (by decide +kernel))) rfl
theorem m_128 : Cond.initialized "AlgolJudge$Blocks" ∈ gT := gT_i (tb_1 _ (List.mem_of_getElem? (i := 9) (by decide +kernel))) rfl
theorem m_129 : Cond.initialized "AlgolJudge$Rules" ∈ gT := gT_i (tb_1 _ (List.mem_of_getElem? (i := 10) (by decide +kernel))) rfl
theorem m_130 : Cond.initialized "AlgolJudge$Expressions" ∈ gT := gT_i (tb_1 _ (List.mem_of_getElem? (i := 11) (by decide +kernel))) rfl
theorem m_131 : Cond.initialized "AlgolJudge$Book" ∈ gT := gT_i (tb_1 _ (List.mem_of_getElem? (i := 12) (by decide +kernel))) rfl
theorem m_132 : Cond.initialized "AlgolJudgeModel" ∈ gT := gT_i (tb_1 _ (List.mem_of_getElem? (i := 13) (by decide +kernel))) rfl
theorem m_133 : Cond.initialized "java/lang/Math" ∈ gT := gT_i (tb_1 _ (List.mem_of_getElem? (i := 14) (by decide +kernel))) rfl
theorem m_134 : Cond.initialized "java/lang/Character" ∈ gT := gT_i (tb_1 _ (List.mem_of_getElem? (i := 15) (by decide +kernel))) rfl
theorem m_135 : Cond.initialized "java/util/Arrays" ∈ gT := gT_i (tb_1 _ (List.mem_of_getElem? (i := 16) (by decide +kernel))) rfl
theorem m_136 : Cond.classLink "AlgolJudgeLaw" 7 "AlgolJudge" ∈ gT := gT_i (tb_1 _ (List.mem_of_getElem? (i := 17) (by decide +kernel))) rfl
theorem m_137 : Cond.instantiable "AlgolJudge" 7 ∈ gT := gT_i (tb_1 _ (List.mem_of_getElem? (i := 18) (by decide +kernel))) rfl
theorem m_138 : Cond.methodLink "AlgolJudgeLaw" 9 ⟨"AlgolJudge", "<init>", "()V"⟩ ∈ gT := gT_i (tb_1 _ (List.mem_of_getElem? (i := 19) (by decide +kernel))) rfl
theorem m_139 : Cond.instanceMethod ⟨"AlgolJudge", "<init>", "()V"⟩ ∈ gT := gT_i (tb_1 _ (List.mem_of_getElem? (i := 20) (by decide +kernel))) rfl
theorem m_140 : Cond.code ⟨"AlgolJudge", "<init>", "()V"⟩ prog_1_method_1_code 4 (none) ∈ gT := gT_i (tb_1 _ (List.mem_of_getElem? (i := 21) rfl)) rfl
theorem m_141 : Cond.methodLink "AlgolJudge" 3 ⟨"java/lang/Object", "<init>", "()V"⟩ ∈ gT := gT_i (tb_1 _ (List.mem_of_getElem? (i := 22) (by decide +kernel))) rfl
theorem m_142 : Cond.instanceMethod ⟨"java/lang/Object", "<init>", "()V"⟩ ∈ gT := gT_i (tb_1 _ (List.mem_of_getElem? (i := 23) (by decide +kernel))) rfl
theorem m_143 : Cond.code ⟨"java/lang/Object", "<init>", "()V"⟩ object_method_1_code 1 (none) ∈ gT := gT_i (tb_1 _ (List.mem_of_getElem? (i := 24) rfl)) rfl
theorem m_144 : Cond.classLink "AlgolJudge" 9 "AlgolJudge$Tokens" ∈ gT := gT_i (tb_1 _ (List.mem_of_getElem? (i := 25) (by decide +kernel))) rfl
theorem m_145 : Cond.instantiable "AlgolJudge$Tokens" 8 ∈ gT := gT_i (tb_1 _ (List.mem_of_getElem? (i := 26) (by decide +kernel))) rfl
theorem m_146 : Cond.methodLink "AlgolJudge" 11 ⟨"AlgolJudge$Tokens", "<init>", "()V"⟩ ∈ gT := gT_i (tb_1 _ (List.mem_of_getElem? (i := 27) (by decide +kernel))) rfl
theorem m_147 : Cond.instanceMethod ⟨"AlgolJudge$Tokens", "<init>", "()V"⟩ ∈ gT := gT_i (tb_1 _ (List.mem_of_getElem? (i := 28) (by decide +kernel))) rfl
theorem m_148 : Cond.code ⟨"AlgolJudge$Tokens", "<init>", "()V"⟩ prog_8_method_1_code 1 (none) ∈ gT := gT_i (tb_1 _ (List.mem_of_getElem? (i := 29) rfl)) rfl
theorem m_149 : Cond.methodLink "AlgolJudge$Tokens" 3 ⟨"java/lang/Object", "<init>", "()V"⟩ ∈ gT := gT_i (tb_1 _ (List.mem_of_getElem? (i := 30) (by decide +kernel))) rfl
