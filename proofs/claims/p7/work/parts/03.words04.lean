theorem m_691 : Cond.selects "AlgolJudge$Table" ⟨"AlgolJudge$Table", "kind", "(I)I"⟩ ⟨"AlgolJudge$Table", "kind", "(I)I"⟩ ∈ gT := gT_i (tb_3 _ (List.mem_of_getElem? (i := 92) (by decide +kernel))) rfl
theorem m_692 : Cond.code ⟨"AlgolJudge$Table", "kind", "(I)I"⟩ prog_7_method_12_code 2 (some .int) ∈ gT := gT_i (tb_3 _ (List.mem_of_getElem? (i := 93) rfl)) rfl
theorem m_693 : Cond.methodLink "AlgolJudge$Rules" 19 ⟨"AlgolJudge$Scopes", "blame", "(I)V"⟩ ∈ gT := gT_i (tb_3 _ (List.mem_of_getElem? (i := 94) (by decide +kernel))) rfl
theorem m_694 : Cond.instanceMethod ⟨"AlgolJudge$Scopes", "blame", "(I)V"⟩ ∈ gT := gT_i (tb_3 _ (List.mem_of_getElem? (i := 95) (by decide +kernel))) rfl
theorem m_695 : Cond.selects "AlgolJudge$Scopes" ⟨"AlgolJudge$Scopes", "blame", "(I)V"⟩ ⟨"AlgolJudge$Scopes", "blame", "(I)V"⟩ ∈ gT := gT_i (tb_3 _ (List.mem_of_getElem? (i := 96) (by decide +kernel))) rfl
theorem m_696 : Cond.code ⟨"AlgolJudge$Scopes", "blame", "(I)V"⟩ prog_6_method_19_code 2 (none) ∈ gT := gT_i (tb_3 _ (List.mem_of_getElem? (i := 97) rfl)) rfl
theorem m_697 : Cond.methodLink "AlgolJudge$Blocks" 88 ⟨"AlgolJudge$Blocks", "type", "()I"⟩ ∈ gT := gT_i (tb_3 _ (List.mem_of_getElem? (i := 98) (by decide +kernel))) rfl
theorem m_699 : Cond.instanceMethod ⟨"AlgolJudge$Blocks", "type", "()I"⟩ ∈ gT := gT_i (tb_3 _ (List.mem_of_getElem? (i := 100) (by decide +kernel))) rfl
theorem m_700 : Cond.code ⟨"AlgolJudge$Blocks", "type", "()I"⟩ prog_2_method_8_code 1 (some .int) ∈ gT := gT_i (tb_3 _ (List.mem_of_getElem? (i := 101) rfl)) rfl
theorem m_701 : Cond.methodLink "AlgolJudge$Blocks" 92 ⟨"AlgolJudge$Blocks", "variables", "(IZ)V"⟩ ∈ gT := gT_i (tb_3 _ (List.mem_of_getElem? (i := 102) (by decide +kernel))) rfl
theorem m_703 : Cond.instanceMethod ⟨"AlgolJudge$Blocks", "variables", "(IZ)V"⟩ ∈ gT := gT_i (tb_3 _ (List.mem_of_getElem? (i := 104) (by decide +kernel))) rfl
theorem m_704 : Cond.code ⟨"AlgolJudge$Blocks", "variables", "(IZ)V"⟩ prog_2_method_9_code 5 (none) ∈ gT := gT_i (tb_3 _ (List.mem_of_getElem? (i := 105) rfl)) rfl
theorem m_705 : Cond.methodLink "AlgolJudge$Blocks" 105 ⟨"AlgolJudge$Blocks", "store", "(II)I"⟩ ∈ gT := gT_i (tb_3 _ (List.mem_of_getElem? (i := 106) (by decide +kernel))) rfl
theorem m_707 : Cond.instanceMethod ⟨"AlgolJudge$Blocks", "store", "(II)I"⟩ ∈ gT := gT_i (tb_3 _ (List.mem_of_getElem? (i := 108) (by decide +kernel))) rfl
theorem m_708 : Cond.code ⟨"AlgolJudge$Blocks", "store", "(II)I"⟩ prog_2_method_10_code 3 (some .int) ∈ gT := gT_i (tb_3 _ (List.mem_of_getElem? (i := 109) rfl)) rfl
theorem m_709 : Cond.methodLink "AlgolJudge$Blocks" 109 ⟨"AlgolJudge$Scopes", "makeOwn", "(I)V"⟩ ∈ gT := gT_i (tb_3 _ (List.mem_of_getElem? (i := 110) (by decide +kernel))) rfl
theorem m_710 : Cond.instanceMethod ⟨"AlgolJudge$Scopes", "makeOwn", "(I)V"⟩ ∈ gT := gT_i (tb_3 _ (List.mem_of_getElem? (i := 111) (by decide +kernel))) rfl
theorem m_711 : Cond.selects "AlgolJudge$Scopes" ⟨"AlgolJudge$Scopes", "makeOwn", "(I)V"⟩ ⟨"AlgolJudge$Scopes", "makeOwn", "(I)V"⟩ ∈ gT := gT_i (tb_3 _ (List.mem_of_getElem? (i := 112) (by decide +kernel))) rfl
theorem m_712 : Cond.code ⟨"AlgolJudge$Scopes", "makeOwn", "(I)V"⟩ prog_6_method_23_code 2 (none) ∈ gT := gT_i (tb_3 _ (List.mem_of_getElem? (i := 113) rfl)) rfl
theorem m_713 : Cond.methodLink "AlgolJudge$Scopes" 129 ⟨"AlgolJudge$Table", "setOwn", "(I)V"⟩ ∈ gT := gT_i (tb_3 _ (List.mem_of_getElem? (i := 114) (by decide +kernel))) rfl
theorem m_714 : Cond.instanceMethod ⟨"AlgolJudge$Table", "setOwn", "(I)V"⟩ ∈ gT := gT_i (tb_3 _ (List.mem_of_getElem? (i := 115) (by decide +kernel))) rfl
theorem m_715 : Cond.selects "AlgolJudge$Table" ⟨"AlgolJudge$Table", "setOwn", "(I)V"⟩ ⟨"AlgolJudge$Table", "setOwn", "(I)V"⟩ ∈ gT := gT_i (tb_3 _ (List.mem_of_getElem? (i := 116) (by decide +kernel))) rfl
theorem m_716 : Cond.code ⟨"AlgolJudge$Table", "setOwn", "(I)V"⟩ prog_7_method_7_code 2 (none) ∈ gT := gT_i (tb_3 _ (List.mem_of_getElem? (i := 117) rfl)) rfl
theorem m_717 : Cond.methodLink "AlgolJudge$Blocks" 96 ⟨"AlgolJudge$Blocks", "typedDeclaration", "(I)V"⟩ ∈ gT := gT_i (tb_3 _ (List.mem_of_getElem? (i := 118) (by decide +kernel))) rfl
theorem m_719 : Cond.instanceMethod ⟨"AlgolJudge$Blocks", "typedDeclaration", "(I)V"⟩ ∈ gT := gT_i (tb_3 _ (List.mem_of_getElem? (i := 120) (by decide +kernel))) rfl
theorem m_720 : Cond.code ⟨"AlgolJudge$Blocks", "typedDeclaration", "(I)V"⟩ prog_2_method_7_code 3 (none) ∈ gT := gT_i (tb_3 _ (List.mem_of_getElem? (i := 121) rfl)) rfl
theorem m_721 : Cond.methodLink "AlgolJudge$Blocks" 99 ⟨"AlgolJudge$Blocks", "procedure", "(I)V"⟩ ∈ gT := gT_i (tb_3 _ (List.mem_of_getElem? (i := 122) (by decide +kernel))) rfl
theorem m_723 : Cond.instanceMethod ⟨"AlgolJudge$Blocks", "procedure", "(I)V"⟩ ∈ gT := gT_i (tb_3 _ (List.mem_of_getElem? (i := 124) (by decide +kernel))) rfl
theorem m_724 : Cond.code ⟨"AlgolJudge$Blocks", "procedure", "(I)V"⟩ prog_2_method_14_code 4 (none) ∈ gT := gT_i (tb_3 _ (List.mem_of_getElem? (i := 125) rfl)) rfl
theorem m_725 : Cond.methodLink "AlgolJudge$Blocks" 143 ⟨"AlgolJudge$Scopes", "openProcedure", "(I)V"⟩ ∈ gT := gT_i (tb_3 _ (List.mem_of_getElem? (i := 126) (by decide +kernel))) rfl
theorem m_726 : Cond.instanceMethod ⟨"AlgolJudge$Scopes", "openProcedure", "(I)V"⟩ ∈ gT := gT_i (tb_3 _ (List.mem_of_getElem? (i := 127) (by decide +kernel))) rfl
theorem m_727 : Cond.selects "AlgolJudge$Scopes" ⟨"AlgolJudge$Scopes", "openProcedure", "(I)V"⟩ ⟨"AlgolJudge$Scopes", "openProcedure", "(I)V"⟩ ∈ gT := gT_i (tb_3 _ (List.mem_of_getElem? (i := 128) (by decide +kernel))) rfl
theorem m_728 : Cond.code ⟨"AlgolJudge$Scopes", "openProcedure", "(I)V"⟩ prog_6_method_13_code 2 (none) ∈ gT := gT_i (tb_3 _ (List.mem_of_getElem? (i := 129) rfl)) rfl
theorem m_729 : Cond.methodLink "AlgolJudge$Scopes" 80 ⟨"AlgolJudge$Table", "setHead", "(II)V"⟩ ∈ gT := gT_i (tb_3 _ (List.mem_of_getElem? (i := 130) (by decide +kernel))) rfl
theorem m_730 : Cond.instanceMethod ⟨"AlgolJudge$Table", "setHead", "(II)V"⟩ ∈ gT := gT_i (tb_3 _ (List.mem_of_getElem? (i := 131) (by decide +kernel))) rfl
theorem m_731 : Cond.selects "AlgolJudge$Table" ⟨"AlgolJudge$Table", "setHead", "(II)V"⟩ ⟨"AlgolJudge$Table", "setHead", "(II)V"⟩ ∈ gT := gT_i (tb_3 _ (List.mem_of_getElem? (i := 132) (by decide +kernel))) rfl
theorem m_732 : Cond.code ⟨"AlgolJudge$Table", "setHead", "(II)V"⟩ prog_7_method_8_code 3 (none) ∈ gT := gT_i (tb_3 _ (List.mem_of_getElem? (i := 133) rfl)) rfl
theorem m_733 : Cond.methodLink "AlgolJudge$Blocks" 146 ⟨"AlgolJudge$Blocks", "parameters", "()I"⟩ ∈ gT := gT_i (tb_3 _ (List.mem_of_getElem? (i := 134) (by decide +kernel))) rfl
theorem m_735 : Cond.instanceMethod ⟨"AlgolJudge$Blocks", "parameters", "()I"⟩ ∈ gT := gT_i (tb_3 _ (List.mem_of_getElem? (i := 136) (by decide +kernel))) rfl
theorem m_736 : Cond.code ⟨"AlgolJudge$Blocks", "parameters", "()I"⟩ prog_2_method_15_code 3 (some .int) ∈ gT := gT_i (tb_3 _ (List.mem_of_getElem? (i := 137) rfl)) rfl
theorem m_737 : Cond.methodLink "AlgolJudge$Blocks" 149 ⟨"AlgolJudge$Scopes", "setParameters", "(II)V"⟩ ∈ gT := gT_i (tb_3 _ (List.mem_of_getElem? (i := 138) (by decide +kernel))) rfl
theorem m_738 : Cond.instanceMethod ⟨"AlgolJudge$Scopes", "setParameters", "(II)V"⟩ ∈ gT := gT_i (tb_3 _ (List.mem_of_getElem? (i := 139) (by decide +kernel))) rfl
theorem m_739 : Cond.selects "AlgolJudge$Scopes" ⟨"AlgolJudge$Scopes", "setParameters", "(II)V"⟩ ⟨"AlgolJudge$Scopes", "setParameters", "(II)V"⟩ ∈ gT := gT_i (tb_3 _ (List.mem_of_getElem? (i := 140) (by decide +kernel))) rfl
theorem m_740 : Cond.code ⟨"AlgolJudge$Scopes", "setParameters", "(II)V"⟩ prog_6_method_25_code 3 (none) ∈ gT := gT_i (tb_3 _ (List.mem_of_getElem? (i := 141) rfl)) rfl
theorem m_741 : Cond.methodLink "AlgolJudge$Scopes" 134 ⟨"AlgolJudge$Table", "setCount", "(II)V"⟩ ∈ gT := gT_i (tb_3 _ (List.mem_of_getElem? (i := 142) (by decide +kernel))) rfl
theorem m_742 : Cond.instanceMethod ⟨"AlgolJudge$Table", "setCount", "(II)V"⟩ ∈ gT := gT_i (tb_3 _ (List.mem_of_getElem? (i := 143) (by decide +kernel))) rfl
theorem m_743 : Cond.selects "AlgolJudge$Table" ⟨"AlgolJudge$Table", "setCount", "(II)V"⟩ ⟨"AlgolJudge$Table", "setCount", "(II)V"⟩ ∈ gT := gT_i (tb_3 _ (List.mem_of_getElem? (i := 144) (by decide +kernel))) rfl
theorem m_744 : Cond.code ⟨"AlgolJudge$Table", "setCount", "(II)V"⟩ prog_7_method_6_code 3 (none) ∈ gT := gT_i (tb_3 _ (List.mem_of_getElem? (i := 145) rfl)) rfl
theorem m_745 : Cond.methodLink "AlgolJudge$Blocks" 152 ⟨"AlgolJudge$Blocks", "values", "()V"⟩ ∈ gT := gT_i (tb_3 _ (List.mem_of_getElem? (i := 146) (by decide +kernel))) rfl
theorem m_747 : Cond.instanceMethod ⟨"AlgolJudge$Blocks", "values", "()V"⟩ ∈ gT := gT_i (tb_3 _ (List.mem_of_getElem? (i := 148) (by decide +kernel))) rfl
theorem m_748 : Cond.code ⟨"AlgolJudge$Blocks", "values", "()V"⟩ prog_2_method_16_code 2 (none) ∈ gT := gT_i (tb_3 _ (List.mem_of_getElem? (i := 149) rfl)) rfl
theorem m_749 : Cond.methodLink "AlgolJudge$Blocks" 167 ⟨"AlgolJudge$Scopes", "giveAsValue", "()V"⟩ ∈ gT := gT_i (tb_3 _ (List.mem_of_getElem? (i := 150) (by decide +kernel))) rfl
theorem m_750 : Cond.instanceMethod ⟨"AlgolJudge$Scopes", "giveAsValue", "()V"⟩ ∈ gT := gT_i (tb_3 _ (List.mem_of_getElem? (i := 151) (by decide +kernel))) rfl
theorem m_751 : Cond.selects "AlgolJudge$Scopes" ⟨"AlgolJudge$Scopes", "giveAsValue", "()V"⟩ ⟨"AlgolJudge$Scopes", "giveAsValue", "()V"⟩ ∈ gT := gT_i (tb_3 _ (List.mem_of_getElem? (i := 152) (by decide +kernel))) rfl
theorem m_752 : Cond.code ⟨"AlgolJudge$Scopes", "giveAsValue", "()V"⟩ prog_6_method_26_code 3 (none) ∈ gT := gT_i (tb_3 _ (List.mem_of_getElem? (i := 153) rfl)) rfl
theorem m_753 : Cond.methodLink "AlgolJudge$Scopes" 137 ⟨"AlgolJudge$Scopes", "first", "(I)I"⟩ ∈ gT := gT_i (tb_3 _ (List.mem_of_getElem? (i := 154) (by decide +kernel))) rfl
theorem m_754 : Cond.instanceMethod ⟨"AlgolJudge$Scopes", "first", "(I)I"⟩ ∈ gT := gT_i (tb_3 _ (List.mem_of_getElem? (i := 155) (by decide +kernel))) rfl
theorem m_755 : Cond.selects "AlgolJudge$Scopes" ⟨"AlgolJudge$Scopes", "first", "(I)I"⟩ ⟨"AlgolJudge$Scopes", "first", "(I)I"⟩ ∈ gT := gT_i (tb_3 _ (List.mem_of_getElem? (i := 156) (by decide +kernel))) rfl
theorem m_756 : Cond.code ⟨"AlgolJudge$Scopes", "first", "(I)I"⟩ prog_6_method_7_code 2 (some .int) ∈ gT := gT_i (tb_3 _ (List.mem_of_getElem? (i := 157) rfl)) rfl
theorem m_757 : Cond.methodLink "AlgolJudge$Scopes" 140 ⟨"AlgolJudge$Table", "valuePlace", "(I)I"⟩ ∈ gT := gT_i (tb_3 _ (List.mem_of_getElem? (i := 158) (by decide +kernel))) rfl
theorem m_758 : Cond.instanceMethod ⟨"AlgolJudge$Table", "valuePlace", "(I)I"⟩ ∈ gT := gT_i (tb_3 _ (List.mem_of_getElem? (i := 159) (by decide +kernel))) rfl
theorem m_759 : Cond.selects "AlgolJudge$Table" ⟨"AlgolJudge$Table", "valuePlace", "(I)I"⟩ ⟨"AlgolJudge$Table", "valuePlace", "(I)I"⟩ ∈ gT := gT_i (tb_3 _ (List.mem_of_getElem? (i := 160) (by decide +kernel))) rfl
theorem m_760 : Cond.code ⟨"AlgolJudge$Table", "valuePlace", "(I)I"⟩ prog_7_method_19_code 2 (some .int) ∈ gT := gT_i (tb_3 _ (List.mem_of_getElem? (i := 161) rfl)) rfl
theorem m_761 : Cond.methodLink "AlgolJudge$Scopes" 143 ⟨"AlgolJudge$Table", "setValuePlace", "(II)V"⟩ ∈ gT := gT_i (tb_3 _ (List.mem_of_getElem? (i := 162) (by decide +kernel))) rfl
theorem m_762 : Cond.instanceMethod ⟨"AlgolJudge$Table", "setValuePlace", "(II)V"⟩ ∈ gT := gT_i (tb_3 _ (List.mem_of_getElem? (i := 163) (by decide +kernel))) rfl
theorem m_763 : Cond.selects "AlgolJudge$Table" ⟨"AlgolJudge$Table", "setValuePlace", "(II)V"⟩ ⟨"AlgolJudge$Table", "setValuePlace", "(II)V"⟩ ∈ gT := gT_i (tb_3 _ (List.mem_of_getElem? (i := 164) (by decide +kernel))) rfl
theorem m_764 : Cond.code ⟨"AlgolJudge$Table", "setValuePlace", "(II)V"⟩ prog_7_method_9_code 3 (none) ∈ gT := gT_i (tb_3 _ (List.mem_of_getElem? (i := 165) rfl)) rfl
theorem m_765 : Cond.methodLink "AlgolJudge$Blocks" 155 ⟨"AlgolJudge$Blocks", "specifications", "()V"⟩ ∈ gT := gT_i (tb_3 _ (List.mem_of_getElem? (i := 166) (by decide +kernel))) rfl
theorem m_767 : Cond.instanceMethod ⟨"AlgolJudge$Blocks", "specifications", "()V"⟩ ∈ gT := gT_i (tb_3 _ (List.mem_of_getElem? (i := 168) (by decide +kernel))) rfl
theorem m_768 : Cond.code ⟨"AlgolJudge$Blocks", "specifications", "()V"⟩ prog_2_method_17_code 3 (none) ∈ gT := gT_i (tb_3 _ (List.mem_of_getElem? (i := 169) rfl)) rfl
theorem m_769 : Cond.methodLink "AlgolJudge$Blocks" 170 ⟨"AlgolJudge$Blocks", "specification", "(II)V"⟩ ∈ gT := gT_i (tb_3 _ (List.mem_of_getElem? (i := 170) (by decide +kernel))) rfl
theorem m_771 : Cond.instanceMethod ⟨"AlgolJudge$Blocks", "specification", "(II)V"⟩ ∈ gT := gT_i (tb_3 _ (List.mem_of_getElem? (i := 172) (by decide +kernel))) rfl
theorem m_772 : Cond.code ⟨"AlgolJudge$Blocks", "specification", "(II)V"⟩ prog_2_method_18_code 4 (none) ∈ gT := gT_i (tb_3 _ (List.mem_of_getElem? (i := 173) rfl)) rfl
theorem m_773 : Cond.methodLink "AlgolJudge$Blocks" 173 ⟨"AlgolJudge$Scopes", "specify", "(II)V"⟩ ∈ gT := gT_i (tb_3 _ (List.mem_of_getElem? (i := 174) (by decide +kernel))) rfl
theorem m_774 : Cond.instanceMethod ⟨"AlgolJudge$Scopes", "specify", "(II)V"⟩ ∈ gT := gT_i (tb_3 _ (List.mem_of_getElem? (i := 175) (by decide +kernel))) rfl
theorem m_775 : Cond.selects "AlgolJudge$Scopes" ⟨"AlgolJudge$Scopes", "specify", "(II)V"⟩ ⟨"AlgolJudge$Scopes", "specify", "(II)V"⟩ ∈ gT := gT_i (tb_3 _ (List.mem_of_getElem? (i := 176) (by decide +kernel))) rfl
theorem m_776 : Cond.code ⟨"AlgolJudge$Scopes", "specify", "(II)V"⟩ prog_6_method_27_code 5 (none) ∈ gT := gT_i (tb_3 _ (List.mem_of_getElem? (i := 177) rfl)) rfl
theorem m_777 : Cond.methodLink "AlgolJudge$Scopes" 146 ⟨"AlgolJudge$Table", "kind", "(I)I"⟩ ∈ gT := gT_i (tb_3 _ (List.mem_of_getElem? (i := 178) (by decide +kernel))) rfl
theorem m_778 : Cond.methodLink "AlgolJudge$Scopes" 149 ⟨"AlgolJudge$Table", "specify", "(III)V"⟩ ∈ gT := gT_i (tb_3 _ (List.mem_of_getElem? (i := 179) (by decide +kernel))) rfl
theorem m_779 : Cond.instanceMethod ⟨"AlgolJudge$Table", "specify", "(III)V"⟩ ∈ gT := gT_i (tb_3 _ (List.mem_of_getElem? (i := 180) (by decide +kernel))) rfl
theorem m_780 : Cond.selects "AlgolJudge$Table" ⟨"AlgolJudge$Table", "specify", "(III)V"⟩ ⟨"AlgolJudge$Table", "specify", "(III)V"⟩ ∈ gT := gT_i (tb_3 _ (List.mem_of_getElem? (i := 181) (by decide +kernel))) rfl
theorem m_781 : Cond.code ⟨"AlgolJudge$Table", "specify", "(III)V"⟩ prog_7_method_10_code 4 (none) ∈ gT := gT_i (tb_3 _ (List.mem_of_getElem? (i := 182) rfl)) rfl
theorem m_782 : Cond.methodLink "AlgolJudge$Blocks" 158 ⟨"AlgolJudge$Scopes", "checkAllSpecified", "()V"⟩ ∈ gT := gT_i (tb_3 _ (List.mem_of_getElem? (i := 183) (by decide +kernel))) rfl
theorem m_783 : Cond.instanceMethod ⟨"AlgolJudge$Scopes", "checkAllSpecified", "()V"⟩ ∈ gT := gT_i (tb_3 _ (List.mem_of_getElem? (i := 184) (by decide +kernel))) rfl
theorem m_784 : Cond.selects "AlgolJudge$Scopes" ⟨"AlgolJudge$Scopes", "checkAllSpecified", "()V"⟩ ⟨"AlgolJudge$Scopes", "checkAllSpecified", "()V"⟩ ∈ gT := gT_i (tb_3 _ (List.mem_of_getElem? (i := 185) (by decide +kernel))) rfl
theorem m_785 : Cond.code ⟨"AlgolJudge$Scopes", "checkAllSpecified", "()V"⟩ prog_6_method_28_code 3 (none) ∈ gT := gT_i (tb_3 _ (List.mem_of_getElem? (i := 186) rfl)) rfl
theorem m_786 : Cond.methodLink "AlgolJudge$Scopes" 153 ⟨"AlgolJudge$Table", "place", "(I)I"⟩ ∈ gT := gT_i (tb_3 _ (List.mem_of_getElem? (i := 187) (by decide +kernel))) rfl
theorem m_787 : Cond.instanceMethod ⟨"AlgolJudge$Table", "place", "(I)I"⟩ ∈ gT := gT_i (tb_3 _ (List.mem_of_getElem? (i := 188) (by decide +kernel))) rfl
theorem m_788 : Cond.selects "AlgolJudge$Table" ⟨"AlgolJudge$Table", "place", "(I)I"⟩ ⟨"AlgolJudge$Table", "place", "(I)I"⟩ ∈ gT := gT_i (tb_3 _ (List.mem_of_getElem? (i := 189) (by decide +kernel))) rfl
theorem m_789 : Cond.code ⟨"AlgolJudge$Table", "place", "(I)I"⟩ prog_7_method_15_code 2 (some .int) ∈ gT := gT_i (tb_3 _ (List.mem_of_getElem? (i := 190) rfl)) rfl
theorem m_790 : Cond.methodLink "AlgolJudge$Scopes" 155 ⟨"AlgolJudge$Table", "next", "(I)I"⟩ ∈ gT := gT_i (tb_3 _ (List.mem_of_getElem? (i := 191) (by decide +kernel))) rfl
theorem m_791 : Cond.instanceMethod ⟨"AlgolJudge$Table", "next", "(I)I"⟩ ∈ gT := gT_i (tb_3 _ (List.mem_of_getElem? (i := 192) (by decide +kernel))) rfl
theorem m_792 : Cond.selects "AlgolJudge$Table" ⟨"AlgolJudge$Table", "next", "(I)I"⟩ ⟨"AlgolJudge$Table", "next", "(I)I"⟩ ∈ gT := gT_i (tb_3 _ (List.mem_of_getElem? (i := 193) (by decide +kernel))) rfl
theorem m_793 : Cond.code ⟨"AlgolJudge$Table", "next", "(I)I"⟩ prog_7_method_17_code 2 (some .int) ∈ gT := gT_i (tb_3 _ (List.mem_of_getElem? (i := 194) rfl)) rfl
theorem m_794 : Cond.methodLink "AlgolJudge$Blocks" 161 ⟨"AlgolJudge$Blocks", "plain", "()V"⟩ ∈ gT := gT_i (tb_3 _ (List.mem_of_getElem? (i := 195) (by decide +kernel))) rfl
theorem m_796 : Cond.instanceMethod ⟨"AlgolJudge$Blocks", "plain", "()V"⟩ ∈ gT := gT_i (tb_3 _ (List.mem_of_getElem? (i := 197) (by decide +kernel))) rfl
theorem m_797 : Cond.code ⟨"AlgolJudge$Blocks", "plain", "()V"⟩ prog_2_method_21_code 1 (none) ∈ gT := gT_i (tb_3 _ (List.mem_of_getElem? (i := 198) rfl)) rfl
theorem m_798 : Cond.methodLink "AlgolJudge$Blocks" 182 ⟨"AlgolJudge$Tokens", "kind", "()I"⟩ ∈ gT := gT_i (tb_3 _ (List.mem_of_getElem? (i := 199) (by decide +kernel))) rfl
theorem m_799 : Cond.methodLink "AlgolJudge$Blocks" 179 ⟨"AlgolJudge$Tokens", "next", "()I"⟩ ∈ gT := gT_i (tb_3 _ (List.mem_of_getElem? (i := 200) (by decide +kernel))) rfl
theorem m_800 : Cond.instanceMethod ⟨"AlgolJudge$Tokens", "next", "()I"⟩ ∈ gT := gT_i (tb_3 _ (List.mem_of_getElem? (i := 201) (by decide +kernel))) rfl
theorem m_801 : Cond.selects "AlgolJudge$Tokens" ⟨"AlgolJudge$Tokens", "next", "()I"⟩ ⟨"AlgolJudge$Tokens", "next", "()I"⟩ ∈ gT := gT_i (tb_3 _ (List.mem_of_getElem? (i := 202) (by decide +kernel))) rfl
theorem m_802 : Cond.code ⟨"AlgolJudge$Tokens", "next", "()I"⟩ prog_8_method_18_code 1 (some .int) ∈ gT := gT_i (tb_3 _ (List.mem_of_getElem? (i := 203) rfl)) rfl
theorem m_803 : Cond.methodLink "AlgolJudge$Blocks" 185 ⟨"AlgolJudge$Blocks", "assignment", "()V"⟩ ∈ gT := gT_i (tb_3 _ (List.mem_of_getElem? (i := 204) (by decide +kernel))) rfl
theorem m_805 : Cond.instanceMethod ⟨"AlgolJudge$Blocks", "assignment", "()V"⟩ ∈ gT := gT_i (tb_3 _ (List.mem_of_getElem? (i := 206) (by decide +kernel))) rfl
theorem m_806 : Cond.code ⟨"AlgolJudge$Blocks", "assignment", "()V"⟩ prog_2_method_22_code 6 (none) ∈ gT := gT_i (tb_3 _ (List.mem_of_getElem? (i := 207) rfl)) rfl
theorem m_807 : Cond.methodLink "AlgolJudge$Blocks" 206 ⟨"AlgolJudge$Tokens", "seesLeft", "()Z"⟩ ∈ gT := gT_i (tb_3 _ (List.mem_of_getElem? (i := 208) (by decide +kernel))) rfl
theorem m_808 : Cond.instanceMethod ⟨"AlgolJudge$Tokens", "seesLeft", "()Z"⟩ ∈ gT := gT_i (tb_3 _ (List.mem_of_getElem? (i := 209) (by decide +kernel))) rfl
theorem m_809 : Cond.selects "AlgolJudge$Tokens" ⟨"AlgolJudge$Tokens", "seesLeft", "()Z"⟩ ⟨"AlgolJudge$Tokens", "seesLeft", "()Z"⟩ ∈ gT := gT_i (tb_3 _ (List.mem_of_getElem? (i := 210) (by decide +kernel))) rfl
theorem m_810 : Cond.code ⟨"AlgolJudge$Tokens", "seesLeft", "()Z"⟩ prog_8_method_29_code 3 (some .boolean) ∈ gT := gT_i (tb_3 _ (List.mem_of_getElem? (i := 211) rfl)) rfl
theorem m_811 : Cond.methodLink "AlgolJudge$Tokens" 119 ⟨"AlgolJudge$Tokens", "sees", "(I)Z"⟩ ∈ gT := gT_i (tb_3 _ (List.mem_of_getElem? (i := 212) (by decide +kernel))) rfl
theorem m_812 : Cond.methodLink "AlgolJudge$Tokens" 122 ⟨"AlgolJudge$Tokens", "next", "()I"⟩ ∈ gT := gT_i (tb_3 _ (List.mem_of_getElem? (i := 213) (by decide +kernel))) rfl
theorem m_813 : Cond.methodLink "AlgolJudge$Blocks" 209 ⟨"AlgolJudge$Expressions", "subscripts", "()I"⟩ ∈ gT := gT_i (tb_3 _ (List.mem_of_getElem? (i := 214) (by decide +kernel))) rfl
theorem m_814 : Cond.instanceMethod ⟨"AlgolJudge$Expressions", "subscripts", "()I"⟩ ∈ gT := gT_i (tb_3 _ (List.mem_of_getElem? (i := 215) (by decide +kernel))) rfl
theorem m_815 : Cond.selects "AlgolJudge$Expressions" ⟨"AlgolJudge$Expressions", "subscripts", "()I"⟩ ⟨"AlgolJudge$Expressions", "subscripts", "()I"⟩ ∈ gT := gT_i (tb_3 _ (List.mem_of_getElem? (i := 216) (by decide +kernel))) rfl
theorem m_816 : Cond.code ⟨"AlgolJudge$Expressions", "subscripts", "()I"⟩ prog_4_method_16_code 2 (some .int) ∈ gT := gT_i (tb_3 _ (List.mem_of_getElem? (i := 217) rfl)) rfl
theorem m_817 : Cond.methodLink "AlgolJudge$Expressions" 45 ⟨"AlgolJudge$Tokens", "deepen", "(I)V"⟩ ∈ gT := gT_i (tb_3 _ (List.mem_of_getElem? (i := 218) (by decide +kernel))) rfl
theorem m_818 : Cond.methodLink "AlgolJudge$Expressions" 49 ⟨"AlgolJudge$Expressions", "expression", "(I)I"⟩ ∈ gT := gT_i (tb_3 _ (List.mem_of_getElem? (i := 219) (by decide +kernel))) rfl
theorem m_819 : Cond.instanceMethod ⟨"AlgolJudge$Expressions", "expression", "(I)I"⟩ ∈ gT := gT_i (tb_3 _ (List.mem_of_getElem? (i := 220) (by decide +kernel))) rfl
theorem m_820 : Cond.selects "AlgolJudge$Expressions" ⟨"AlgolJudge$Expressions", "expression", "(I)I"⟩ ⟨"AlgolJudge$Expressions", "expression", "(I)I"⟩ ∈ gT := gT_i (tb_3 _ (List.mem_of_getElem? (i := 221) (by decide +kernel))) rfl
theorem m_821 : Cond.code ⟨"AlgolJudge$Expressions", "expression", "(I)I"⟩ prog_4_method_2_code 4 (some .int) ∈ gT := gT_i (tb_3 _ (List.mem_of_getElem? (i := 222) rfl)) rfl
theorem m_822 : Cond.methodLink "AlgolJudge$Expressions" 23 ⟨"AlgolJudge$Tokens", "place", "()I"⟩ ∈ gT := gT_i (tb_3 _ (List.mem_of_getElem? (i := 223) (by decide +kernel))) rfl
theorem m_823 : Cond.methodLink "AlgolJudge$Expressions" 29 ⟨"AlgolJudge$Tokens", "sees", "(I)Z"⟩ ∈ gT := gT_i (tb_3 _ (List.mem_of_getElem? (i := 224) (by decide +kernel))) rfl
theorem m_824 : Cond.methodLink "AlgolJudge$Expressions" 33 ⟨"AlgolJudge$Expressions", "conditional", "()I"⟩ ∈ gT := gT_i (tb_3 _ (List.mem_of_getElem? (i := 225) (by decide +kernel))) rfl
theorem m_826 : Cond.instanceMethod ⟨"AlgolJudge$Expressions", "conditional", "()I"⟩ ∈ gT := gT_i (tb_3 _ (List.mem_of_getElem? (i := 227) (by decide +kernel))) rfl
theorem m_827 : Cond.code ⟨"AlgolJudge$Expressions", "conditional", "()I"⟩ prog_4_method_3_code 2 (some .int) ∈ gT := gT_i (tb_3 _ (List.mem_of_getElem? (i := 228) rfl)) rfl
theorem m_828 : Cond.methodLink "AlgolJudge$Expressions" 53 ⟨"AlgolJudge$Tokens", "take", "(I)V"⟩ ∈ gT := gT_i (tb_3 _ (List.mem_of_getElem? (i := 229) (by decide +kernel))) rfl
theorem m_829 : Cond.methodLink "AlgolJudge$Expressions" 36 ⟨"AlgolJudge$Expressions", "disjunction", "()I"⟩ ∈ gT := gT_i (tb_3 _ (List.mem_of_getElem? (i := 230) (by decide +kernel))) rfl
theorem m_831 : Cond.instanceMethod ⟨"AlgolJudge$Expressions", "disjunction", "()I"⟩ ∈ gT := gT_i (tb_3 _ (List.mem_of_getElem? (i := 232) (by decide +kernel))) rfl
theorem m_832 : Cond.code ⟨"AlgolJudge$Expressions", "disjunction", "()I"⟩ prog_4_method_4_code 4 (some .int) ∈ gT := gT_i (tb_3 _ (List.mem_of_getElem? (i := 233) rfl)) rfl
theorem m_833 : Cond.methodLink "AlgolJudge$Expressions" 59 ⟨"AlgolJudge$Expressions", "conjunction", "()I"⟩ ∈ gT := gT_i (tb_3 _ (List.mem_of_getElem? (i := 234) (by decide +kernel))) rfl
theorem m_835 : Cond.instanceMethod ⟨"AlgolJudge$Expressions", "conjunction", "()I"⟩ ∈ gT := gT_i (tb_3 _ (List.mem_of_getElem? (i := 236) (by decide +kernel))) rfl
theorem m_836 : Cond.code ⟨"AlgolJudge$Expressions", "conjunction", "()I"⟩ prog_4_method_5_code 4 (some .int) ∈ gT := gT_i (tb_3 _ (List.mem_of_getElem? (i := 237) rfl)) rfl
theorem m_837 : Cond.methodLink "AlgolJudge$Expressions" 65 ⟨"AlgolJudge$Expressions", "denial", "()I"⟩ ∈ gT := gT_i (tb_3 _ (List.mem_of_getElem? (i := 238) (by decide +kernel))) rfl
theorem m_839 : Cond.instanceMethod ⟨"AlgolJudge$Expressions", "denial", "()I"⟩ ∈ gT := gT_i (tb_4 _ (List.mem_of_getElem? (i := 0) (by decide +kernel))) rfl
theorem m_840 : Cond.code ⟨"AlgolJudge$Expressions", "denial", "()I"⟩ prog_4_method_6_code 2 (some .int) ∈ gT := gT_i (tb_4 _ (List.mem_of_getElem? (i := 1) rfl)) rfl
theorem m_841 : Cond.methodLink "AlgolJudge$Expressions" 68 ⟨"AlgolJudge$Expressions", "relation", "()I"⟩ ∈ gT := gT_i (tb_4 _ (List.mem_of_getElem? (i := 2) (by decide +kernel))) rfl
theorem m_843 : Cond.instanceMethod ⟨"AlgolJudge$Expressions", "relation", "()I"⟩ ∈ gT := gT_i (tb_4 _ (List.mem_of_getElem? (i := 4) (by decide +kernel))) rfl
theorem m_844 : Cond.code ⟨"AlgolJudge$Expressions", "relation", "()I"⟩ prog_4_method_7_code 3 (some .int) ∈ gT := gT_i (tb_4 _ (List.mem_of_getElem? (i := 5) rfl)) rfl
theorem m_845 : Cond.methodLink "AlgolJudge$Expressions" 71 ⟨"AlgolJudge$Expressions", "sum", "()I"⟩ ∈ gT := gT_i (tb_4 _ (List.mem_of_getElem? (i := 6) (by decide +kernel))) rfl
theorem m_847 : Cond.instanceMethod ⟨"AlgolJudge$Expressions", "sum", "()I"⟩ ∈ gT := gT_i (tb_4 _ (List.mem_of_getElem? (i := 8) (by decide +kernel))) rfl
theorem m_848 : Cond.code ⟨"AlgolJudge$Expressions", "sum", "()I"⟩ prog_4_method_8_code 5 (some .int) ∈ gT := gT_i (tb_4 _ (List.mem_of_getElem? (i := 9) rfl)) rfl
theorem m_849 : Cond.methodLink "AlgolJudge$Expressions" 80 ⟨"AlgolJudge$Expressions", "acceptPlusOrMinus", "()Z"⟩ ∈ gT := gT_i (tb_4 _ (List.mem_of_getElem? (i := 10) (by decide +kernel))) rfl
theorem m_851 : Cond.instanceMethod ⟨"AlgolJudge$Expressions", "acceptPlusOrMinus", "()Z"⟩ ∈ gT := gT_i (tb_4 _ (List.mem_of_getElem? (i := 12) (by decide +kernel))) rfl
theorem m_852 : Cond.code ⟨"AlgolJudge$Expressions", "acceptPlusOrMinus", "()Z"⟩ prog_4_method_9_code 1 (some .boolean) ∈ gT := gT_i (tb_4 _ (List.mem_of_getElem? (i := 13) rfl)) rfl
theorem m_853 : Cond.methodLink "AlgolJudge$Expressions" 62 ⟨"AlgolJudge$Tokens", "accept", "(I)Z"⟩ ∈ gT := gT_i (tb_4 _ (List.mem_of_getElem? (i := 14) (by decide +kernel))) rfl
theorem m_854 : Cond.methodLink "AlgolJudge$Expressions" 84 ⟨"AlgolJudge$Expressions", "term", "()I"⟩ ∈ gT := gT_i (tb_4 _ (List.mem_of_getElem? (i := 15) (by decide +kernel))) rfl
theorem m_856 : Cond.instanceMethod ⟨"AlgolJudge$Expressions", "term", "()I"⟩ ∈ gT := gT_i (tb_4 _ (List.mem_of_getElem? (i := 17) (by decide +kernel))) rfl
theorem m_857 : Cond.code ⟨"AlgolJudge$Expressions", "term", "()I"⟩ prog_4_method_10_code 4 (some .int) ∈ gT := gT_i (tb_4 _ (List.mem_of_getElem? (i := 18) rfl)) rfl
theorem m_858 : Cond.methodLink "AlgolJudge$Expressions" 87 ⟨"AlgolJudge$Expressions", "power", "()I"⟩ ∈ gT := gT_i (tb_4 _ (List.mem_of_getElem? (i := 19) (by decide +kernel))) rfl
theorem m_860 : Cond.instanceMethod ⟨"AlgolJudge$Expressions", "power", "()I"⟩ ∈ gT := gT_i (tb_4 _ (List.mem_of_getElem? (i := 21) (by decide +kernel))) rfl
