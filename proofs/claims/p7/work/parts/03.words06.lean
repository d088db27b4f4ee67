theorem m_1022 : Cond.instanceMethod ⟨"AlgolJudge$Blocks", "element", "()V"⟩ ∈ gT := gT_i (tb_4 _ (List.mem_of_getElem? (i := 183) (by decide +kernel))) rfl
theorem m_1023 : Cond.code ⟨"AlgolJudge$Blocks", "element", "()V"⟩ prog_2_method_27_code 1 (none) ∈ gT := gT_i (tb_4 _ (List.mem_of_getElem? (i := 184) rfl)) rfl
theorem m_1024 : Cond.methodLink "AlgolJudge$Blocks" 200 ⟨"AlgolJudge$Tokens", "advance", "()V"⟩ ∈ gT := gT_i (tb_4 _ (List.mem_of_getElem? (i := 185) (by decide +kernel))) rfl
theorem m_1025 : Cond.methodLink "AlgolJudge$Blocks" 203 ⟨"AlgolJudge$Expressions", "bracketed", "(I)I"⟩ ∈ gT := gT_i (tb_4 _ (List.mem_of_getElem? (i := 186) (by decide +kernel))) rfl
theorem m_1026 : Cond.methodLink "AlgolJudge$Blocks" 76 ⟨"AlgolJudge$Scopes", "close", "()V"⟩ ∈ gT := gT_i (tb_4 _ (List.mem_of_getElem? (i := 187) (by decide +kernel))) rfl
theorem m_1027 : Cond.instanceMethod ⟨"AlgolJudge$Scopes", "close", "()V"⟩ ∈ gT := gT_i (tb_4 _ (List.mem_of_getElem? (i := 188) (by decide +kernel))) rfl
theorem m_1028 : Cond.selects "AlgolJudge$Scopes" ⟨"AlgolJudge$Scopes", "close", "()V"⟩ ⟨"AlgolJudge$Scopes", "close", "()V"⟩ ∈ gT := gT_i (tb_4 _ (List.mem_of_getElem? (i := 189) (by decide +kernel))) rfl
theorem m_1029 : Cond.code ⟨"AlgolJudge$Scopes", "close", "()V"⟩ prog_6_method_15_code 1 (none) ∈ gT := gT_i (tb_4 _ (List.mem_of_getElem? (i := 190) rfl)) rfl
theorem m_1030 : Cond.methodLink "AlgolJudge$Blocks" 102 ⟨"AlgolJudge$Blocks", "segment", "(I)V"⟩ ∈ gT := gT_i (tb_4 _ (List.mem_of_getElem? (i := 191) (by decide +kernel))) rfl
theorem m_1032 : Cond.instanceMethod ⟨"AlgolJudge$Blocks", "segment", "(I)V"⟩ ∈ gT := gT_i (tb_4 _ (List.mem_of_getElem? (i := 193) (by decide +kernel))) rfl
theorem m_1033 : Cond.code ⟨"AlgolJudge$Blocks", "segment", "(I)V"⟩ prog_2_method_11_code 5 (none) ∈ gT := gT_i (tb_4 _ (List.mem_of_getElem? (i := 194) rfl)) rfl
theorem m_1034 : Cond.methodLink "AlgolJudge$Blocks" 115 ⟨"AlgolJudge$Scopes", "lookOutside", "()V"⟩ ∈ gT := gT_i (tb_4 _ (List.mem_of_getElem? (i := 195) (by decide +kernel))) rfl
theorem m_1035 : Cond.instanceMethod ⟨"AlgolJudge$Scopes", "lookOutside", "()V"⟩ ∈ gT := gT_i (tb_4 _ (List.mem_of_getElem? (i := 196) (by decide +kernel))) rfl
theorem m_1036 : Cond.selects "AlgolJudge$Scopes" ⟨"AlgolJudge$Scopes", "lookOutside", "()V"⟩ ⟨"AlgolJudge$Scopes", "lookOutside", "()V"⟩ ∈ gT := gT_i (tb_4 _ (List.mem_of_getElem? (i := 197) (by decide +kernel))) rfl
theorem m_1037 : Cond.code ⟨"AlgolJudge$Scopes", "lookOutside", "()V"⟩ prog_6_method_16_code 1 (none) ∈ gT := gT_i (tb_4 _ (List.mem_of_getElem? (i := 198) rfl)) rfl
theorem m_1038 : Cond.methodLink "AlgolJudge$Blocks" 122 ⟨"AlgolJudge$Scopes", "lookInside", "()V"⟩ ∈ gT := gT_i (tb_4 _ (List.mem_of_getElem? (i := 199) (by decide +kernel))) rfl
theorem m_1039 : Cond.instanceMethod ⟨"AlgolJudge$Scopes", "lookInside", "()V"⟩ ∈ gT := gT_i (tb_4 _ (List.mem_of_getElem? (i := 200) (by decide +kernel))) rfl
theorem m_1040 : Cond.selects "AlgolJudge$Scopes" ⟨"AlgolJudge$Scopes", "lookInside", "()V"⟩ ⟨"AlgolJudge$Scopes", "lookInside", "()V"⟩ ∈ gT := gT_i (tb_4 _ (List.mem_of_getElem? (i := 201) (by decide +kernel))) rfl
theorem m_1041 : Cond.code ⟨"AlgolJudge$Scopes", "lookInside", "()V"⟩ prog_6_method_17_code 1 (none) ∈ gT := gT_i (tb_4 _ (List.mem_of_getElem? (i := 202) rfl)) rfl
theorem m_1042 : Cond.methodLink "AlgolJudge$Blocks" 125 ⟨"AlgolJudge$Scopes", "setDimensions", "(II)V"⟩ ∈ gT := gT_i (tb_4 _ (List.mem_of_getElem? (i := 203) (by decide +kernel))) rfl
theorem m_1043 : Cond.instanceMethod ⟨"AlgolJudge$Scopes", "setDimensions", "(II)V"⟩ ∈ gT := gT_i (tb_4 _ (List.mem_of_getElem? (i := 204) (by decide +kernel))) rfl
theorem m_1044 : Cond.selects "AlgolJudge$Scopes" ⟨"AlgolJudge$Scopes", "setDimensions", "(II)V"⟩ ⟨"AlgolJudge$Scopes", "setDimensions", "(II)V"⟩ ∈ gT := gT_i (tb_4 _ (List.mem_of_getElem? (i := 205) (by decide +kernel))) rfl
theorem m_1045 : Cond.code ⟨"AlgolJudge$Scopes", "setDimensions", "(II)V"⟩ prog_6_method_24_code 4 (none) ∈ gT := gT_i (tb_4 _ (List.mem_of_getElem? (i := 206) rfl)) rfl
theorem m_1046 : Cond.methodLink "AlgolJudge$Scopes" 132 ⟨"AlgolJudge$Table", "size", "()I"⟩ ∈ gT := gT_i (tb_4 _ (List.mem_of_getElem? (i := 207) (by decide +kernel))) rfl
theorem m_1047 : Cond.instanceMethod ⟨"AlgolJudge$Table", "size", "()I"⟩ ∈ gT := gT_i (tb_4 _ (List.mem_of_getElem? (i := 208) (by decide +kernel))) rfl
theorem m_1048 : Cond.selects "AlgolJudge$Table" ⟨"AlgolJudge$Table", "size", "()I"⟩ ⟨"AlgolJudge$Table", "size", "()I"⟩ ∈ gT := gT_i (tb_4 _ (List.mem_of_getElem? (i := 209) (by decide +kernel))) rfl
theorem m_1049 : Cond.code ⟨"AlgolJudge$Table", "size", "()I"⟩ prog_7_method_3_code 1 (some .int) ∈ gT := gT_i (tb_4 _ (List.mem_of_getElem? (i := 210) rfl)) rfl
theorem m_1050 : Cond.methodLink "AlgolJudge$Blocks" 70 ⟨"AlgolJudge$Blocks", "statement", "()V"⟩ ∈ gT := gT_i (tb_4 _ (List.mem_of_getElem? (i := 211) (by decide +kernel))) rfl
theorem m_1052 : Cond.instanceMethod ⟨"AlgolJudge$Blocks", "statement", "()V"⟩ ∈ gT := gT_i (tb_4 _ (List.mem_of_getElem? (i := 213) (by decide +kernel))) rfl
theorem m_1053 : Cond.code ⟨"AlgolJudge$Blocks", "statement", "()V"⟩ prog_2_method_19_code 2 (none) ∈ gT := gT_i (tb_4 _ (List.mem_of_getElem? (i := 214) rfl)) rfl
theorem m_1054 : Cond.methodLink "AlgolJudge$Blocks" 176 ⟨"AlgolJudge$Blocks", "seesLabel", "()Z"⟩ ∈ gT := gT_i (tb_4 _ (List.mem_of_getElem? (i := 215) (by decide +kernel))) rfl
theorem m_1056 : Cond.instanceMethod ⟨"AlgolJudge$Blocks", "seesLabel", "()Z"⟩ ∈ gT := gT_i (tb_4 _ (List.mem_of_getElem? (i := 217) (by decide +kernel))) rfl
theorem m_1057 : Cond.code ⟨"AlgolJudge$Blocks", "seesLabel", "()Z"⟩ prog_2_method_20_code 1 (some .boolean) ∈ gT := gT_i (tb_4 _ (List.mem_of_getElem? (i := 218) rfl)) rfl
theorem m_1058 : Cond.methodLink "AlgolJudge" 75 ⟨"AlgolJudge$Tokens", "fault", "()I"⟩ ∈ gT := gT_i (tb_4 _ (List.mem_of_getElem? (i := 219) (by decide +kernel))) rfl
theorem m_1059 : Cond.methodLink "AlgolJudge" 79 ⟨"AlgolJudge$Scopes", "startMeaning", "()V"⟩ ∈ gT := gT_i (tb_4 _ (List.mem_of_getElem? (i := 220) (by decide +kernel))) rfl
theorem m_1060 : Cond.instanceMethod ⟨"AlgolJudge$Scopes", "startMeaning", "()V"⟩ ∈ gT := gT_i (tb_4 _ (List.mem_of_getElem? (i := 221) (by decide +kernel))) rfl
theorem m_1061 : Cond.selects "AlgolJudge$Scopes" ⟨"AlgolJudge$Scopes", "startMeaning", "()V"⟩ ⟨"AlgolJudge$Scopes", "startMeaning", "()V"⟩ ∈ gT := gT_i (tb_4 _ (List.mem_of_getElem? (i := 222) (by decide +kernel))) rfl
theorem m_1062 : Cond.code ⟨"AlgolJudge$Scopes", "startMeaning", "()V"⟩ prog_6_method_3_code 1 (none) ∈ gT := gT_i (tb_4 _ (List.mem_of_getElem? (i := 223) rfl)) rfl
theorem m_1063 : Cond.methodLink "AlgolJudge" 82 ⟨"AlgolJudge$Scopes", "wrong", "()I"⟩ ∈ gT := gT_i (tb_4 _ (List.mem_of_getElem? (i := 224) (by decide +kernel))) rfl
theorem m_1064 : Cond.instanceMethod ⟨"AlgolJudge$Scopes", "wrong", "()I"⟩ ∈ gT := gT_i (tb_4 _ (List.mem_of_getElem? (i := 225) (by decide +kernel))) rfl
theorem m_1065 : Cond.selects "AlgolJudge$Scopes" ⟨"AlgolJudge$Scopes", "wrong", "()I"⟩ ⟨"AlgolJudge$Scopes", "wrong", "()I"⟩ ∈ gT := gT_i (tb_4 _ (List.mem_of_getElem? (i := 226) (by decide +kernel))) rfl
theorem m_1066 : Cond.code ⟨"AlgolJudge$Scopes", "wrong", "()I"⟩ prog_6_method_5_code 1 (some .int) ∈ gT := gT_i (tb_4 _ (List.mem_of_getElem? (i := 227) rfl)) rfl
theorem m_1067 : Cond.methodLink "AlgolJudge" 85 ⟨"AlgolJudge$Book", "write", "(LAlgolJudge$Table;LAlgolJudge$Scopes;)V"⟩ ∈ gT := gT_i (tb_4 _ (List.mem_of_getElem? (i := 228) (by decide +kernel))) rfl
theorem m_1068 : Cond.instanceMethod ⟨"AlgolJudge$Book", "write", "(LAlgolJudge$Table;LAlgolJudge$Scopes;)V"⟩ ∈ gT := gT_i (tb_4 _ (List.mem_of_getElem? (i := 229) (by decide +kernel))) rfl
theorem m_1069 : Cond.selects "AlgolJudge$Book" ⟨"AlgolJudge$Book", "write", "(LAlgolJudge$Table;LAlgolJudge$Scopes;)V"⟩ ⟨"AlgolJudge$Book", "write", "(LAlgolJudge$Table;LAlgolJudge$Scopes;)V"⟩ ∈ gT := gT_i (tb_4 _ (List.mem_of_getElem? (i := 230) (by decide +kernel))) rfl
theorem m_1070 : Cond.code ⟨"AlgolJudge$Book", "write", "(LAlgolJudge$Table;LAlgolJudge$Scopes;)V"⟩ prog_3_method_5_code 4 (none) ∈ gT := gT_i (tb_4 _ (List.mem_of_getElem? (i := 231) rfl)) rfl
theorem m_1071 : Cond.methodLink "AlgolJudge$Book" 41 ⟨"AlgolJudge$Scopes", "size", "()I"⟩ ∈ gT := gT_i (tb_4 _ (List.mem_of_getElem? (i := 232) (by decide +kernel))) rfl
theorem m_1072 : Cond.instanceMethod ⟨"AlgolJudge$Scopes", "size", "()I"⟩ ∈ gT := gT_i (tb_4 _ (List.mem_of_getElem? (i := 233) (by decide +kernel))) rfl
theorem m_1073 : Cond.selects "AlgolJudge$Scopes" ⟨"AlgolJudge$Scopes", "size", "()I"⟩ ⟨"AlgolJudge$Scopes", "size", "()I"⟩ ∈ gT := gT_i (tb_4 _ (List.mem_of_getElem? (i := 234) (by decide +kernel))) rfl
theorem m_1074 : Cond.code ⟨"AlgolJudge$Scopes", "size", "()I"⟩ prog_6_method_6_code 1 (some .int) ∈ gT := gT_i (tb_4 _ (List.mem_of_getElem? (i := 235) rfl)) rfl
theorem m_1075 : Cond.methodLink "AlgolJudge$Book" 46 ⟨"AlgolJudge$Scopes", "isHead", "(I)Z"⟩ ∈ gT := gT_i (tb_4 _ (List.mem_of_getElem? (i := 236) (by decide +kernel))) rfl
theorem m_1076 : Cond.instanceMethod ⟨"AlgolJudge$Scopes", "isHead", "(I)Z"⟩ ∈ gT := gT_i (tb_4 _ (List.mem_of_getElem? (i := 237) (by decide +kernel))) rfl
theorem m_1077 : Cond.selects "AlgolJudge$Scopes" ⟨"AlgolJudge$Scopes", "isHead", "(I)Z"⟩ ⟨"AlgolJudge$Scopes", "isHead", "(I)Z"⟩ ∈ gT := gT_i (tb_4 _ (List.mem_of_getElem? (i := 238) (by decide +kernel))) rfl
theorem m_1078 : Cond.code ⟨"AlgolJudge$Scopes", "isHead", "(I)Z"⟩ prog_6_method_10_code 2 (some .boolean) ∈ gT := gT_i (tb_4 _ (List.mem_of_getElem? (i := 239) rfl)) rfl
theorem m_1079 : Cond.methodLink "AlgolJudge$Scopes" 73 ⟨"AlgolJudge$Table", "head", "(I)I"⟩ ∈ gT := gT_i (tb_5 _ (List.mem_of_getElem? (i := 0) (by decide +kernel))) rfl
theorem m_1080 : Cond.methodLink "AlgolJudge$Book" 50 ⟨"AlgolJudge$Book", "numberBlock", "(LAlgolJudge$Table;LAlgolJudge$Scopes;I)V"⟩ ∈ gT := gT_i (tb_5 _ (List.mem_of_getElem? (i := 1) (by decide +kernel))) rfl
theorem m_1082 : Cond.instanceMethod ⟨"AlgolJudge$Book", "numberBlock", "(LAlgolJudge$Table;LAlgolJudge$Scopes;I)V"⟩ ∈ gT := gT_i (tb_5 _ (List.mem_of_getElem? (i := 3) (by decide +kernel))) rfl
theorem m_1083 : Cond.code ⟨"AlgolJudge$Book", "numberBlock", "(LAlgolJudge$Table;LAlgolJudge$Scopes;I)V"⟩ prog_3_method_6_code 6 (none) ∈ gT := gT_i (tb_5 _ (List.mem_of_getElem? (i := 4) rfl)) rfl
theorem m_1084 : Cond.methodLink "AlgolJudge$Book" 67 ⟨"AlgolJudge$Scopes", "first", "(I)I"⟩ ∈ gT := gT_i (tb_5 _ (List.mem_of_getElem? (i := 5) (by decide +kernel))) rfl
theorem m_1085 : Cond.methodLink "AlgolJudge$Book" 70 ⟨"AlgolJudge$Book", "numberChain", "(LAlgolJudge$Table;I)V"⟩ ∈ gT := gT_i (tb_5 _ (List.mem_of_getElem? (i := 6) (by decide +kernel))) rfl
theorem m_1087 : Cond.instanceMethod ⟨"AlgolJudge$Book", "numberChain", "(LAlgolJudge$Table;I)V"⟩ ∈ gT := gT_i (tb_5 _ (List.mem_of_getElem? (i := 8) (by decide +kernel))) rfl
theorem m_1088 : Cond.code ⟨"AlgolJudge$Book", "numberChain", "(LAlgolJudge$Table;I)V"⟩ prog_3_method_7_code 5 (none) ∈ gT := gT_i (tb_5 _ (List.mem_of_getElem? (i := 9) rfl)) rfl
theorem m_1089 : Cond.methodLink "AlgolJudge$Book" 77 ⟨"AlgolJudge$Table", "next", "(I)I"⟩ ∈ gT := gT_i (tb_5 _ (List.mem_of_getElem? (i := 10) (by decide +kernel))) rfl
theorem m_1090 : Cond.methodLink "AlgolJudge$Book" 74 ⟨"AlgolJudge$Table", "head", "(I)I"⟩ ∈ gT := gT_i (tb_5 _ (List.mem_of_getElem? (i := 11) (by decide +kernel))) rfl
theorem m_1091 : Cond.methodLink "AlgolJudge$Book" 54 ⟨"AlgolJudge$Table", "size", "()I"⟩ ∈ gT := gT_i (tb_5 _ (List.mem_of_getElem? (i := 12) (by decide +kernel))) rfl
theorem m_1092 : Cond.methodLink "AlgolJudge$Book" 57 ⟨"AlgolJudge$Book", "copy", "(LAlgolJudge$Table;LAlgolJudge$Scopes;I)V"⟩ ∈ gT := gT_i (tb_5 _ (List.mem_of_getElem? (i := 13) (by decide +kernel))) rfl
theorem m_1094 : Cond.instanceMethod ⟨"AlgolJudge$Book", "copy", "(LAlgolJudge$Table;LAlgolJudge$Scopes;I)V"⟩ ∈ gT := gT_i (tb_5 _ (List.mem_of_getElem? (i := 15) (by decide +kernel))) rfl
theorem m_1095 : Cond.code ⟨"AlgolJudge$Book", "copy", "(LAlgolJudge$Table;LAlgolJudge$Scopes;I)V"⟩ prog_3_method_9_code 5 (none) ∈ gT := gT_i (tb_5 _ (List.mem_of_getElem? (i := 16) rfl)) rfl
theorem m_1096 : Cond.methodLink "AlgolJudge$Book" 64 ⟨"AlgolJudge$Book", "numberOf", "(I)I"⟩ ∈ gT := gT_i (tb_5 _ (List.mem_of_getElem? (i := 17) (by decide +kernel))) rfl
theorem m_1098 : Cond.instanceMethod ⟨"AlgolJudge$Book", "numberOf", "(I)I"⟩ ∈ gT := gT_i (tb_5 _ (List.mem_of_getElem? (i := 19) (by decide +kernel))) rfl
theorem m_1099 : Cond.code ⟨"AlgolJudge$Book", "numberOf", "(I)I"⟩ prog_3_method_8_code 2 (some .int) ∈ gT := gT_i (tb_5 _ (List.mem_of_getElem? (i := 20) rfl)) rfl
theorem m_1100 : Cond.methodLink "AlgolJudge$Book" 80 ⟨"AlgolJudge$Table", "kind", "(I)I"⟩ ∈ gT := gT_i (tb_5 _ (List.mem_of_getElem? (i := 21) (by decide +kernel))) rfl
theorem m_1101 : Cond.methodLink "AlgolJudge$Book" 83 ⟨"AlgolJudge$Table", "type", "(I)I"⟩ ∈ gT := gT_i (tb_5 _ (List.mem_of_getElem? (i := 22) (by decide +kernel))) rfl
theorem m_1102 : Cond.methodLink "AlgolJudge$Book" 86 ⟨"AlgolJudge$Table", "count", "(I)I"⟩ ∈ gT := gT_i (tb_5 _ (List.mem_of_getElem? (i := 23) (by decide +kernel))) rfl
theorem m_1103 : Cond.methodLink "AlgolJudge$Book" 89 ⟨"AlgolJudge$Table", "isMarked", "(I)Z"⟩ ∈ gT := gT_i (tb_5 _ (List.mem_of_getElem? (i := 24) (by decide +kernel))) rfl
theorem m_1104 : Cond.instanceMethod ⟨"AlgolJudge$Table", "isMarked", "(I)Z"⟩ ∈ gT := gT_i (tb_5 _ (List.mem_of_getElem? (i := 25) (by decide +kernel))) rfl
theorem m_1105 : Cond.selects "AlgolJudge$Table" ⟨"AlgolJudge$Table", "isMarked", "(I)Z"⟩ ⟨"AlgolJudge$Table", "isMarked", "(I)Z"⟩ ∈ gT := gT_i (tb_5 _ (List.mem_of_getElem? (i := 26) (by decide +kernel))) rfl
theorem m_1106 : Cond.code ⟨"AlgolJudge$Table", "isMarked", "(I)Z"⟩ prog_7_method_20_code 2 (some .boolean) ∈ gT := gT_i (tb_5 _ (List.mem_of_getElem? (i := 27) rfl)) rfl
theorem m_1107 : Cond.methodLink "AlgolJudge$Book" 92 ⟨"AlgolJudge$Table", "home", "(I)I"⟩ ∈ gT := gT_i (tb_5 _ (List.mem_of_getElem? (i := 28) (by decide +kernel))) rfl
theorem m_1108 : Cond.instanceMethod ⟨"AlgolJudge$Table", "home", "(I)I"⟩ ∈ gT := gT_i (tb_5 _ (List.mem_of_getElem? (i := 29) (by decide +kernel))) rfl
theorem m_1109 : Cond.selects "AlgolJudge$Table" ⟨"AlgolJudge$Table", "home", "(I)I"⟩ ⟨"AlgolJudge$Table", "home", "(I)I"⟩ ∈ gT := gT_i (tb_5 _ (List.mem_of_getElem? (i := 30) (by decide +kernel))) rfl
theorem m_1110 : Cond.code ⟨"AlgolJudge$Table", "home", "(I)I"⟩ prog_7_method_16_code 2 (some .int) ∈ gT := gT_i (tb_5 _ (List.mem_of_getElem? (i := 31) rfl)) rfl
theorem m_1111 : Cond.methodLink "AlgolJudge$Book" 95 ⟨"AlgolJudge$Scopes", "procedure", "(I)I"⟩ ∈ gT := gT_i (tb_5 _ (List.mem_of_getElem? (i := 32) (by decide +kernel))) rfl
theorem m_1112 : Cond.methodLink "AlgolJudge$Book" 60 ⟨"AlgolJudge$Scopes", "meaning", "(I)I"⟩ ∈ gT := gT_i (tb_5 _ (List.mem_of_getElem? (i := 33) (by decide +kernel))) rfl
theorem m_1113 : Cond.instanceMethod ⟨"AlgolJudge$Scopes", "meaning", "(I)I"⟩ ∈ gT := gT_i (tb_5 _ (List.mem_of_getElem? (i := 34) (by decide +kernel))) rfl
theorem m_1114 : Cond.selects "AlgolJudge$Scopes" ⟨"AlgolJudge$Scopes", "meaning", "(I)I"⟩ ⟨"AlgolJudge$Scopes", "meaning", "(I)I"⟩ ∈ gT := gT_i (tb_5 _ (List.mem_of_getElem? (i := 35) (by decide +kernel))) rfl
theorem m_1115 : Cond.code ⟨"AlgolJudge$Scopes", "meaning", "(I)I"⟩ prog_6_method_11_code 2 (some .int) ∈ gT := gT_i (tb_5 _ (List.mem_of_getElem? (i := 36) rfl)) rfl
theorem m_1116 : Cond.methodLink "AlgolJudgeLaw" 28 ⟨"AlgolJudge", "names", "()I"⟩ ∈ gT := gT_i (tb_5 _ (List.mem_of_getElem? (i := 37) (by decide +kernel))) rfl
theorem m_1117 : Cond.instanceMethod ⟨"AlgolJudge", "names", "()I"⟩ ∈ gT := gT_i (tb_5 _ (List.mem_of_getElem? (i := 38) (by decide +kernel))) rfl
theorem m_1118 : Cond.selects "AlgolJudge" ⟨"AlgolJudge", "names", "()I"⟩ ⟨"AlgolJudge", "names", "()I"⟩ ∈ gT := gT_i (tb_5 _ (List.mem_of_getElem? (i := 39) (by decide +kernel))) rfl
theorem m_1119 : Cond.code ⟨"AlgolJudge", "names", "()I"⟩ prog_1_method_5_code 1 (some .int) ∈ gT := gT_i (tb_5 _ (List.mem_of_getElem? (i := 40) rfl)) rfl
theorem m_1120 : Cond.methodLink "AlgolJudge" 88 ⟨"AlgolJudge$Book", "size", "()I"⟩ ∈ gT := gT_i (tb_5 _ (List.mem_of_getElem? (i := 41) (by decide +kernel))) rfl
theorem m_1121 : Cond.instanceMethod ⟨"AlgolJudge$Book", "size", "()I"⟩ ∈ gT := gT_i (tb_5 _ (List.mem_of_getElem? (i := 42) (by decide +kernel))) rfl
theorem m_1122 : Cond.selects "AlgolJudge$Book" ⟨"AlgolJudge$Book", "size", "()I"⟩ ⟨"AlgolJudge$Book", "size", "()I"⟩ ∈ gT := gT_i (tb_5 _ (List.mem_of_getElem? (i := 43) (by decide +kernel))) rfl
theorem m_1123 : Cond.code ⟨"AlgolJudge$Book", "size", "()I"⟩ prog_3_method_2_code 1 (some .int) ∈ gT := gT_i (tb_5 _ (List.mem_of_getElem? (i := 44) rfl)) rfl
theorem m_1124 : Cond.methodLink "AlgolJudgeLaw" 32 ⟨"AlgolJudge", "tell", "(II)I"⟩ ∈ gT := gT_i (tb_5 _ (List.mem_of_getElem? (i := 45) (by decide +kernel))) rfl
theorem m_1125 : Cond.instanceMethod ⟨"AlgolJudge", "tell", "(II)I"⟩ ∈ gT := gT_i (tb_5 _ (List.mem_of_getElem? (i := 46) (by decide +kernel))) rfl
theorem m_1126 : Cond.selects "AlgolJudge" ⟨"AlgolJudge", "tell", "(II)I"⟩ ⟨"AlgolJudge", "tell", "(II)I"⟩ ∈ gT := gT_i (tb_5 _ (List.mem_of_getElem? (i := 47) (by decide +kernel))) rfl
theorem m_1127 : Cond.code ⟨"AlgolJudge", "tell", "(II)I"⟩ prog_1_method_6_code 3 (some .int) ∈ gT := gT_i (tb_5 _ (List.mem_of_getElem? (i := 48) rfl)) rfl
theorem m_1128 : Cond.methodLink "AlgolJudge" 91 ⟨"AlgolJudge$Book", "about", "(II)I"⟩ ∈ gT := gT_i (tb_5 _ (List.mem_of_getElem? (i := 49) (by decide +kernel))) rfl
theorem m_1129 : Cond.instanceMethod ⟨"AlgolJudge$Book", "about", "(II)I"⟩ ∈ gT := gT_i (tb_5 _ (List.mem_of_getElem? (i := 50) (by decide +kernel))) rfl
theorem m_1130 : Cond.selects "AlgolJudge$Book" ⟨"AlgolJudge$Book", "about", "(II)I"⟩ ⟨"AlgolJudge$Book", "about", "(II)I"⟩ ∈ gT := gT_i (tb_5 _ (List.mem_of_getElem? (i := 51) (by decide +kernel))) rfl
theorem m_1131 : Cond.code ⟨"AlgolJudge$Book", "about", "(II)I"⟩ prog_3_method_3_code 3 (some .int) ∈ gT := gT_i (tb_5 _ (List.mem_of_getElem? (i := 52) rfl)) rfl
theorem m_1132 : Cond.methodLink "AlgolJudgeLaw" 37 ⟨"AlgolJudge", "means", "(I)I"⟩ ∈ gT := gT_i (tb_5 _ (List.mem_of_getElem? (i := 53) (by decide +kernel))) rfl
theorem m_1133 : Cond.instanceMethod ⟨"AlgolJudge", "means", "(I)I"⟩ ∈ gT := gT_i (tb_5 _ (List.mem_of_getElem? (i := 54) (by decide +kernel))) rfl
theorem m_1134 : Cond.selects "AlgolJudge" ⟨"AlgolJudge", "means", "(I)I"⟩ ⟨"AlgolJudge", "means", "(I)I"⟩ ∈ gT := gT_i (tb_5 _ (List.mem_of_getElem? (i := 55) (by decide +kernel))) rfl
theorem m_1135 : Cond.code ⟨"AlgolJudge", "means", "(I)I"⟩ prog_1_method_7_code 2 (some .int) ∈ gT := gT_i (tb_5 _ (List.mem_of_getElem? (i := 56) rfl)) rfl
theorem m_1136 : Cond.methodLink "AlgolJudge" 95 ⟨"AlgolJudge$Book", "meaning", "(I)I"⟩ ∈ gT := gT_i (tb_5 _ (List.mem_of_getElem? (i := 57) (by decide +kernel))) rfl
theorem m_1137 : Cond.instanceMethod ⟨"AlgolJudge$Book", "meaning", "(I)I"⟩ ∈ gT := gT_i (tb_5 _ (List.mem_of_getElem? (i := 58) (by decide +kernel))) rfl
theorem m_1138 : Cond.selects "AlgolJudge$Book" ⟨"AlgolJudge$Book", "meaning", "(I)I"⟩ ⟨"AlgolJudge$Book", "meaning", "(I)I"⟩ ∈ gT := gT_i (tb_5 _ (List.mem_of_getElem? (i := 59) (by decide +kernel))) rfl
theorem m_1139 : Cond.code ⟨"AlgolJudge$Book", "meaning", "(I)I"⟩ prog_3_method_4_code 2 (some .int) ∈ gT := gT_i (tb_5 _ (List.mem_of_getElem? (i := 60) rfl)) rfl
theorem m_1140 : Cond.classLink "AlgolJudgeLaw" 10 "AlgolJudgeModel" ∈ gT := gT_i (tb_5 _ (List.mem_of_getElem? (i := 61) (by decide +kernel))) rfl
theorem m_1141 : Cond.instantiable "AlgolJudgeModel" 50 ∈ gT := gT_i (tb_5 _ (List.mem_of_getElem? (i := 62) (by decide +kernel))) rfl
theorem m_1142 : Cond.methodLink "AlgolJudgeLaw" 12 ⟨"AlgolJudgeModel", "<init>", "()V"⟩ ∈ gT := gT_i (tb_5 _ (List.mem_of_getElem? (i := 63) (by decide +kernel))) rfl
theorem m_1143 : Cond.instanceMethod ⟨"AlgolJudgeModel", "<init>", "()V"⟩ ∈ gT := gT_i (tb_5 _ (List.mem_of_getElem? (i := 64) (by decide +kernel))) rfl
theorem m_1144 : Cond.code ⟨"AlgolJudgeModel", "<init>", "()V"⟩ prog_10_method_68_code 1 (none) ∈ gT := gT_i (tb_5 _ (List.mem_of_getElem? (i := 65) rfl)) rfl
theorem m_1145 : Cond.methodLink "AlgolJudgeModel" 460 ⟨"java/lang/Object", "<init>", "()V"⟩ ∈ gT := gT_i (tb_5 _ (List.mem_of_getElem? (i := 66) (by decide +kernel))) rfl
theorem m_1146 : Cond.fieldLink "AlgolJudgeModel" 15 "AlgolJudgeModel" "tape" "[B" ∈ gT := gT_i (tb_5 _ (List.mem_of_getElem? (i := 67) (by decide +kernel))) rfl
theorem m_1147 : Cond.fieldLink "AlgolJudgeModel" 478 "AlgolJudgeModel" "tapeMany" "I" ∈ gT := gT_i (tb_5 _ (List.mem_of_getElem? (i := 68) (by decide +kernel))) rfl
theorem m_1148 : Cond.fieldLink "AlgolJudgeModel" 23 "AlgolJudgeModel" "kind" "[I" ∈ gT := gT_i (tb_5 _ (List.mem_of_getElem? (i := 69) (by decide +kernel))) rfl
theorem m_1149 : Cond.fieldLink "AlgolJudgeModel" 19 "AlgolJudgeModel" "from" "[I" ∈ gT := gT_i (tb_5 _ (List.mem_of_getElem? (i := 70) (by decide +kernel))) rfl
theorem m_1150 : Cond.fieldLink "AlgolJudgeModel" 55 "AlgolJudgeModel" "to" "[I" ∈ gT := gT_i (tb_5 _ (List.mem_of_getElem? (i := 71) (by decide +kernel))) rfl
theorem m_1151 : Cond.fieldLink "AlgolJudgeModel" 49 "AlgolJudgeModel" "value" "[J" ∈ gT := gT_i (tb_5 _ (List.mem_of_getElem? (i := 72) (by decide +kernel))) rfl
theorem m_1152 : Cond.fieldLink "AlgolJudgeModel" 58 "AlgolJudgeModel" "at" "I" ∈ gT := gT_i (tb_5 _ (List.mem_of_getElem? (i := 73) (by decide +kernel))) rfl
theorem m_1153 : Cond.fieldLink "AlgolJudgeModel" 66 "AlgolJudgeModel" "sort" "[I" ∈ gT := gT_i (tb_5 _ (List.mem_of_getElem? (i := 74) (by decide +kernel))) rfl
theorem m_1154 : Cond.fieldLink "AlgolJudgeModel" 72 "AlgolJudgeModel" "start" "[I" ∈ gT := gT_i (tb_5 _ (List.mem_of_getElem? (i := 75) (by decide +kernel))) rfl
theorem m_1155 : Cond.fieldLink "AlgolJudgeModel" 75 "AlgolJudgeModel" "one" "[I" ∈ gT := gT_i (tb_5 _ (List.mem_of_getElem? (i := 76) (by decide +kernel))) rfl
theorem m_1156 : Cond.fieldLink "AlgolJudgeModel" 78 "AlgolJudgeModel" "two" "[I" ∈ gT := gT_i (tb_5 _ (List.mem_of_getElem? (i := 77) (by decide +kernel))) rfl
theorem m_1157 : Cond.fieldLink "AlgolJudgeModel" 81 "AlgolJudgeModel" "three" "[I" ∈ gT := gT_i (tb_5 _ (List.mem_of_getElem? (i := 78) (by decide +kernel))) rfl
theorem m_1158 : Cond.fieldLink "AlgolJudgeModel" 84 "AlgolJudgeModel" "four" "[I" ∈ gT := gT_i (tb_5 _ (List.mem_of_getElem? (i := 79) (by decide +kernel))) rfl
theorem m_1159 : Cond.fieldLink "AlgolJudgeModel" 87 "AlgolJudgeModel" "next" "[I" ∈ gT := gT_i (tb_5 _ (List.mem_of_getElem? (i := 80) (by decide +kernel))) rfl
theorem m_1160 : Cond.fieldLink "AlgolJudgeModel" 90 "AlgolJudgeModel" "where" "[I" ∈ gT := gT_i (tb_5 _ (List.mem_of_getElem? (i := 81) (by decide +kernel))) rfl
theorem m_1161 : Cond.fieldLink "AlgolJudgeModel" 69 "AlgolJudgeModel" "nodes" "I" ∈ gT := gT_i (tb_5 _ (List.mem_of_getElem? (i := 82) (by decide +kernel))) rfl
theorem m_1162 : Cond.fieldLink "AlgolJudgeModel" 118 "AlgolJudgeModel" "word" "[I" ∈ gT := gT_i (tb_5 _ (List.mem_of_getElem? (i := 83) (by decide +kernel))) rfl
theorem m_1163 : Cond.fieldLink "AlgolJudgeModel" 144 "AlgolJudgeModel" "what" "[I" ∈ gT := gT_i (tb_5 _ (List.mem_of_getElem? (i := 84) (by decide +kernel))) rfl
theorem m_1164 : Cond.fieldLink "AlgolJudgeModel" 147 "AlgolJudgeModel" "type" "[I" ∈ gT := gT_i (tb_5 _ (List.mem_of_getElem? (i := 85) (by decide +kernel))) rfl
theorem m_1165 : Cond.fieldLink "AlgolJudgeModel" 115 "AlgolJudgeModel" "home" "[I" ∈ gT := gT_i (tb_5 _ (List.mem_of_getElem? (i := 86) (by decide +kernel))) rfl
theorem m_1166 : Cond.fieldLink "AlgolJudgeModel" 150 "AlgolJudgeModel" "level" "[I" ∈ gT := gT_i (tb_5 _ (List.mem_of_getElem? (i := 87) (by decide +kernel))) rfl
theorem m_1167 : Cond.fieldLink "AlgolJudgeModel" 273 "AlgolJudgeModel" "slot" "[I" ∈ gT := gT_i (tb_5 _ (List.mem_of_getElem? (i := 88) (by decide +kernel))) rfl
theorem m_1168 : Cond.fieldLink "AlgolJudgeModel" 156 "AlgolJudgeModel" "more" "[I" ∈ gT := gT_i (tb_5 _ (List.mem_of_getElem? (i := 89) (by decide +kernel))) rfl
theorem m_1169 : Cond.fieldLink "AlgolJudgeModel" 159 "AlgolJudgeModel" "list" "[I" ∈ gT := gT_i (tb_5 _ (List.mem_of_getElem? (i := 90) (by decide +kernel))) rfl
theorem m_1170 : Cond.fieldLink "AlgolJudgeModel" 162 "AlgolJudgeModel" "byValue" "[Z" ∈ gT := gT_i (tb_5 _ (List.mem_of_getElem? (i := 91) (by decide +kernel))) rfl
theorem m_1171 : Cond.fieldLink "AlgolJudgeModel" 165 "AlgolJudgeModel" "specified" "[Z" ∈ gT := gT_i (tb_5 _ (List.mem_of_getElem? (i := 92) (by decide +kernel))) rfl
theorem m_1172 : Cond.fieldLink "AlgolJudgeModel" 168 "AlgolJudgeModel" "isOwn" "[Z" ∈ gT := gT_i (tb_5 _ (List.mem_of_getElem? (i := 93) (by decide +kernel))) rfl
theorem m_1173 : Cond.fieldLink "AlgolJudgeModel" 112 "AlgolJudgeModel" "names" "I" ∈ gT := gT_i (tb_5 _ (List.mem_of_getElem? (i := 94) (by decide +kernel))) rfl
theorem m_1174 : Cond.fieldLink "AlgolJudgeModel" 129 "AlgolJudgeModel" "around" "[I" ∈ gT := gT_i (tb_5 _ (List.mem_of_getElem? (i := 95) (by decide +kernel))) rfl
theorem m_1175 : Cond.fieldLink "AlgolJudgeModel" 153 "AlgolJudgeModel" "scopeLevel" "[I" ∈ gT := gT_i (tb_5 _ (List.mem_of_getElem? (i := 96) (by decide +kernel))) rfl
theorem m_1176 : Cond.fieldLink "AlgolJudgeModel" 174 "AlgolJudgeModel" "inside" "[I" ∈ gT := gT_i (tb_5 _ (List.mem_of_getElem? (i := 97) (by decide +kernel))) rfl
theorem m_1177 : Cond.fieldLink "AlgolJudgeModel" 171 "AlgolJudgeModel" "scopes" "I" ∈ gT := gT_i (tb_5 _ (List.mem_of_getElem? (i := 98) (by decide +kernel))) rfl
theorem m_1178 : Cond.fieldLink "AlgolJudgeModel" 93 "AlgolJudgeModel" "scope" "I" ∈ gT := gT_i (tb_5 _ (List.mem_of_getElem? (i := 99) (by decide +kernel))) rfl
