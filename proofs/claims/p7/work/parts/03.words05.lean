theorem m_861 : Cond.code ⟨"AlgolJudge$Expressions", "power", "()I"⟩ prog_4_method_12_code 4 (some .int) ∈ gT := gT_i (tb_4 _ (List.mem_of_getElem? (i := 22) rfl)) rfl
theorem m_862 : Cond.methodLink "AlgolJudge$Expressions" 93 ⟨"AlgolJudge$Expressions", "atom", "()I"⟩ ∈ gT := gT_i (tb_4 _ (List.mem_of_getElem? (i := 23) (by decide +kernel))) rfl
theorem m_864 : Cond.instanceMethod ⟨"AlgolJudge$Expressions", "atom", "()I"⟩ ∈ gT := gT_i (tb_4 _ (List.mem_of_getElem? (i := 25) (by decide +kernel))) rfl
theorem m_865 : Cond.code ⟨"AlgolJudge$Expressions", "atom", "()I"⟩ prog_4_method_13_code 1 (some .int) ∈ gT := gT_i (tb_4 _ (List.mem_of_getElem? (i := 26) rfl)) rfl
theorem m_866 : Cond.methodLink "AlgolJudge$Expressions" 74 ⟨"AlgolJudge$Tokens", "kind", "()I"⟩ ∈ gT := gT_i (tb_4 _ (List.mem_of_getElem? (i := 27) (by decide +kernel))) rfl
theorem m_867 : Cond.methodLink "AlgolJudge$Expressions" 77 ⟨"AlgolJudge$Tokens", "advance", "()V"⟩ ∈ gT := gT_i (tb_4 _ (List.mem_of_getElem? (i := 28) (by decide +kernel))) rfl
theorem m_868 : Cond.methodLink "AlgolJudge$Expressions" 96 ⟨"AlgolJudge$Expressions", "bracketed", "(I)I"⟩ ∈ gT := gT_i (tb_4 _ (List.mem_of_getElem? (i := 29) (by decide +kernel))) rfl
theorem m_869 : Cond.instanceMethod ⟨"AlgolJudge$Expressions", "bracketed", "(I)I"⟩ ∈ gT := gT_i (tb_4 _ (List.mem_of_getElem? (i := 30) (by decide +kernel))) rfl
theorem m_870 : Cond.selects "AlgolJudge$Expressions" ⟨"AlgolJudge$Expressions", "bracketed", "(I)I"⟩ ⟨"AlgolJudge$Expressions", "bracketed", "(I)I"⟩ ∈ gT := gT_i (tb_4 _ (List.mem_of_getElem? (i := 31) (by decide +kernel))) rfl
theorem m_871 : Cond.code ⟨"AlgolJudge$Expressions", "bracketed", "(I)I"⟩ prog_4_method_14_code 3 (some .int) ∈ gT := gT_i (tb_4 _ (List.mem_of_getElem? (i := 32) rfl)) rfl
theorem m_872 : Cond.methodLink "AlgolJudge$Expressions" 105 ⟨"AlgolJudge$Tokens", "riseWith", "(I)V"⟩ ∈ gT := gT_i (tb_4 _ (List.mem_of_getElem? (i := 33) (by decide +kernel))) rfl
theorem m_873 : Cond.instanceMethod ⟨"AlgolJudge$Tokens", "riseWith", "(I)V"⟩ ∈ gT := gT_i (tb_4 _ (List.mem_of_getElem? (i := 34) (by decide +kernel))) rfl
theorem m_874 : Cond.selects "AlgolJudge$Tokens" ⟨"AlgolJudge$Tokens", "riseWith", "(I)V"⟩ ⟨"AlgolJudge$Tokens", "riseWith", "(I)V"⟩ ∈ gT := gT_i (tb_4 _ (List.mem_of_getElem? (i := 35) (by decide +kernel))) rfl
theorem m_875 : Cond.code ⟨"AlgolJudge$Tokens", "riseWith", "(I)V"⟩ prog_8_method_28_code 2 (none) ∈ gT := gT_i (tb_4 _ (List.mem_of_getElem? (i := 36) rfl)) rfl
theorem m_876 : Cond.methodLink "AlgolJudge$Expressions" 99 ⟨"AlgolJudge$Expressions", "named", "()I"⟩ ∈ gT := gT_i (tb_4 _ (List.mem_of_getElem? (i := 37) (by decide +kernel))) rfl
theorem m_878 : Cond.instanceMethod ⟨"AlgolJudge$Expressions", "named", "()I"⟩ ∈ gT := gT_i (tb_4 _ (List.mem_of_getElem? (i := 39) (by decide +kernel))) rfl
theorem m_879 : Cond.code ⟨"AlgolJudge$Expressions", "named", "()I"⟩ prog_4_method_15_code 3 (some .int) ∈ gT := gT_i (tb_4 _ (List.mem_of_getElem? (i := 40) rfl)) rfl
theorem m_880 : Cond.methodLink "AlgolJudge$Expressions" 108 ⟨"AlgolJudge$Scopes", "use", "()I"⟩ ∈ gT := gT_i (tb_4 _ (List.mem_of_getElem? (i := 41) (by decide +kernel))) rfl
theorem m_881 : Cond.methodLink "AlgolJudge$Expressions" 113 ⟨"AlgolJudge$Expressions", "subscripts", "()I"⟩ ∈ gT := gT_i (tb_4 _ (List.mem_of_getElem? (i := 42) (by decide +kernel))) rfl
theorem m_882 : Cond.methodLink "AlgolJudge$Expressions" 116 ⟨"AlgolJudge$Rules", "element", "(III)I"⟩ ∈ gT := gT_i (tb_4 _ (List.mem_of_getElem? (i := 43) (by decide +kernel))) rfl
theorem m_883 : Cond.instanceMethod ⟨"AlgolJudge$Rules", "element", "(III)I"⟩ ∈ gT := gT_i (tb_4 _ (List.mem_of_getElem? (i := 44) (by decide +kernel))) rfl
theorem m_884 : Cond.selects "AlgolJudge$Rules" ⟨"AlgolJudge$Rules", "element", "(III)I"⟩ ⟨"AlgolJudge$Rules", "element", "(III)I"⟩ ∈ gT := gT_i (tb_4 _ (List.mem_of_getElem? (i := 45) (by decide +kernel))) rfl
theorem m_885 : Cond.code ⟨"AlgolJudge$Rules", "element", "(III)I"⟩ prog_5_method_3_code 4 (some .int) ∈ gT := gT_i (tb_4 _ (List.mem_of_getElem? (i := 46) rfl)) rfl
theorem m_886 : Cond.methodLink "AlgolJudge$Rules" 25 ⟨"AlgolJudge$Table", "isArray", "(I)Z"⟩ ∈ gT := gT_i (tb_4 _ (List.mem_of_getElem? (i := 47) (by decide +kernel))) rfl
theorem m_887 : Cond.instanceMethod ⟨"AlgolJudge$Table", "isArray", "(I)Z"⟩ ∈ gT := gT_i (tb_4 _ (List.mem_of_getElem? (i := 48) (by decide +kernel))) rfl
theorem m_888 : Cond.selects "AlgolJudge$Table" ⟨"AlgolJudge$Table", "isArray", "(I)Z"⟩ ⟨"AlgolJudge$Table", "isArray", "(I)Z"⟩ ∈ gT := gT_i (tb_4 _ (List.mem_of_getElem? (i := 49) (by decide +kernel))) rfl
theorem m_889 : Cond.code ⟨"AlgolJudge$Table", "isArray", "(I)Z"⟩ prog_7_method_22_code 3 (some .boolean) ∈ gT := gT_i (tb_4 _ (List.mem_of_getElem? (i := 50) rfl)) rfl
theorem m_890 : Cond.methodLink "AlgolJudge$Rules" 31 ⟨"AlgolJudge$Table", "kind", "(I)I"⟩ ∈ gT := gT_i (tb_4 _ (List.mem_of_getElem? (i := 51) (by decide +kernel))) rfl
theorem m_891 : Cond.methodLink "AlgolJudge$Rules" 35 ⟨"AlgolJudge$Table", "count", "(I)I"⟩ ∈ gT := gT_i (tb_4 _ (List.mem_of_getElem? (i := 52) (by decide +kernel))) rfl
theorem m_892 : Cond.instanceMethod ⟨"AlgolJudge$Table", "count", "(I)I"⟩ ∈ gT := gT_i (tb_4 _ (List.mem_of_getElem? (i := 53) (by decide +kernel))) rfl
theorem m_893 : Cond.selects "AlgolJudge$Table" ⟨"AlgolJudge$Table", "count", "(I)I"⟩ ⟨"AlgolJudge$Table", "count", "(I)I"⟩ ∈ gT := gT_i (tb_4 _ (List.mem_of_getElem? (i := 54) (by decide +kernel))) rfl
theorem m_894 : Cond.code ⟨"AlgolJudge$Table", "count", "(I)I"⟩ prog_7_method_14_code 2 (some .int) ∈ gT := gT_i (tb_4 _ (List.mem_of_getElem? (i := 55) rfl)) rfl
theorem m_895 : Cond.methodLink "AlgolJudge$Rules" 38 ⟨"AlgolJudge$Table", "type", "(I)I"⟩ ∈ gT := gT_i (tb_4 _ (List.mem_of_getElem? (i := 56) (by decide +kernel))) rfl
theorem m_896 : Cond.instanceMethod ⟨"AlgolJudge$Table", "type", "(I)I"⟩ ∈ gT := gT_i (tb_4 _ (List.mem_of_getElem? (i := 57) (by decide +kernel))) rfl
theorem m_897 : Cond.selects "AlgolJudge$Table" ⟨"AlgolJudge$Table", "type", "(I)I"⟩ ⟨"AlgolJudge$Table", "type", "(I)I"⟩ ∈ gT := gT_i (tb_4 _ (List.mem_of_getElem? (i := 58) (by decide +kernel))) rfl
theorem m_898 : Cond.code ⟨"AlgolJudge$Table", "type", "(I)I"⟩ prog_7_method_13_code 2 (some .int) ∈ gT := gT_i (tb_4 _ (List.mem_of_getElem? (i := 59) rfl)) rfl
theorem m_899 : Cond.methodLink "AlgolJudge$Expressions" 120 ⟨"AlgolJudge$Expressions", "actuals", "(I)I"⟩ ∈ gT := gT_i (tb_4 _ (List.mem_of_getElem? (i := 60) (by decide +kernel))) rfl
theorem m_900 : Cond.instanceMethod ⟨"AlgolJudge$Expressions", "actuals", "(I)I"⟩ ∈ gT := gT_i (tb_4 _ (List.mem_of_getElem? (i := 61) (by decide +kernel))) rfl
theorem m_901 : Cond.selects "AlgolJudge$Expressions" ⟨"AlgolJudge$Expressions", "actuals", "(I)I"⟩ ⟨"AlgolJudge$Expressions", "actuals", "(I)I"⟩ ∈ gT := gT_i (tb_4 _ (List.mem_of_getElem? (i := 62) (by decide +kernel))) rfl
theorem m_902 : Cond.code ⟨"AlgolJudge$Expressions", "actuals", "(I)I"⟩ prog_4_method_17_code 5 (some .int) ∈ gT := gT_i (tb_4 _ (List.mem_of_getElem? (i := 63) rfl)) rfl
theorem m_903 : Cond.methodLink "AlgolJudge$Expressions" 130 ⟨"AlgolJudge$Rules", "firstParameter", "(I)I"⟩ ∈ gT := gT_i (tb_4 _ (List.mem_of_getElem? (i := 64) (by decide +kernel))) rfl
theorem m_904 : Cond.instanceMethod ⟨"AlgolJudge$Rules", "firstParameter", "(I)I"⟩ ∈ gT := gT_i (tb_4 _ (List.mem_of_getElem? (i := 65) (by decide +kernel))) rfl
theorem m_905 : Cond.selects "AlgolJudge$Rules" ⟨"AlgolJudge$Rules", "firstParameter", "(I)I"⟩ ⟨"AlgolJudge$Rules", "firstParameter", "(I)I"⟩ ∈ gT := gT_i (tb_4 _ (List.mem_of_getElem? (i := 66) (by decide +kernel))) rfl
theorem m_906 : Cond.code ⟨"AlgolJudge$Rules", "firstParameter", "(I)I"⟩ prog_5_method_11_code 2 (some .int) ∈ gT := gT_i (tb_4 _ (List.mem_of_getElem? (i := 67) rfl)) rfl
theorem m_907 : Cond.methodLink "AlgolJudge$Rules" 61 ⟨"AlgolJudge$Table", "head", "(I)I"⟩ ∈ gT := gT_i (tb_4 _ (List.mem_of_getElem? (i := 68) (by decide +kernel))) rfl
theorem m_908 : Cond.instanceMethod ⟨"AlgolJudge$Table", "head", "(I)I"⟩ ∈ gT := gT_i (tb_4 _ (List.mem_of_getElem? (i := 69) (by decide +kernel))) rfl
theorem m_909 : Cond.selects "AlgolJudge$Table" ⟨"AlgolJudge$Table", "head", "(I)I"⟩ ⟨"AlgolJudge$Table", "head", "(I)I"⟩ ∈ gT := gT_i (tb_4 _ (List.mem_of_getElem? (i := 70) (by decide +kernel))) rfl
theorem m_910 : Cond.code ⟨"AlgolJudge$Table", "head", "(I)I"⟩ prog_7_method_18_code 2 (some .int) ∈ gT := gT_i (tb_4 _ (List.mem_of_getElem? (i := 71) rfl)) rfl
theorem m_911 : Cond.methodLink "AlgolJudge$Rules" 64 ⟨"AlgolJudge$Scopes", "first", "(I)I"⟩ ∈ gT := gT_i (tb_4 _ (List.mem_of_getElem? (i := 72) (by decide +kernel))) rfl
theorem m_912 : Cond.methodLink "AlgolJudge$Expressions" 133 ⟨"AlgolJudge$Expressions", "actual", "(I)V"⟩ ∈ gT := gT_i (tb_4 _ (List.mem_of_getElem? (i := 73) (by decide +kernel))) rfl
theorem m_914 : Cond.instanceMethod ⟨"AlgolJudge$Expressions", "actual", "(I)V"⟩ ∈ gT := gT_i (tb_4 _ (List.mem_of_getElem? (i := 75) (by decide +kernel))) rfl
theorem m_915 : Cond.code ⟨"AlgolJudge$Expressions", "actual", "(I)V"⟩ prog_4_method_18_code 6 (none) ∈ gT := gT_i (tb_4 _ (List.mem_of_getElem? (i := 76) rfl)) rfl
theorem m_916 : Cond.methodLink "AlgolJudge$Expressions" 139 ⟨"AlgolJudge$Rules", "takesExpression", "(I)Z"⟩ ∈ gT := gT_i (tb_4 _ (List.mem_of_getElem? (i := 77) (by decide +kernel))) rfl
theorem m_917 : Cond.instanceMethod ⟨"AlgolJudge$Rules", "takesExpression", "(I)Z"⟩ ∈ gT := gT_i (tb_4 _ (List.mem_of_getElem? (i := 78) (by decide +kernel))) rfl
theorem m_918 : Cond.selects "AlgolJudge$Rules" ⟨"AlgolJudge$Rules", "takesExpression", "(I)Z"⟩ ⟨"AlgolJudge$Rules", "takesExpression", "(I)Z"⟩ ∈ gT := gT_i (tb_4 _ (List.mem_of_getElem? (i := 79) (by decide +kernel))) rfl
theorem m_919 : Cond.code ⟨"AlgolJudge$Rules", "takesExpression", "(I)Z"⟩ prog_5_method_13_code 2 (some .boolean) ∈ gT := gT_i (tb_4 _ (List.mem_of_getElem? (i := 80) rfl)) rfl
theorem m_920 : Cond.methodLink "AlgolJudge$Expressions" 142 ⟨"AlgolJudge$Rules", "typeOf", "(I)I"⟩ ∈ gT := gT_i (tb_4 _ (List.mem_of_getElem? (i := 81) (by decide +kernel))) rfl
theorem m_921 : Cond.instanceMethod ⟨"AlgolJudge$Rules", "typeOf", "(I)I"⟩ ∈ gT := gT_i (tb_4 _ (List.mem_of_getElem? (i := 82) (by decide +kernel))) rfl
theorem m_922 : Cond.selects "AlgolJudge$Rules" ⟨"AlgolJudge$Rules", "typeOf", "(I)I"⟩ ⟨"AlgolJudge$Rules", "typeOf", "(I)I"⟩ ∈ gT := gT_i (tb_4 _ (List.mem_of_getElem? (i := 83) (by decide +kernel))) rfl
theorem m_923 : Cond.code ⟨"AlgolJudge$Rules", "typeOf", "(I)I"⟩ prog_5_method_15_code 2 (some .int) ∈ gT := gT_i (tb_4 _ (List.mem_of_getElem? (i := 84) rfl)) rfl
theorem m_924 : Cond.methodLink "AlgolJudge$Expressions" 145 ⟨"AlgolJudge$Expressions", "seesNameAlone", "()Z"⟩ ∈ gT := gT_i (tb_4 _ (List.mem_of_getElem? (i := 85) (by decide +kernel))) rfl
theorem m_926 : Cond.instanceMethod ⟨"AlgolJudge$Expressions", "seesNameAlone", "()Z"⟩ ∈ gT := gT_i (tb_4 _ (List.mem_of_getElem? (i := 87) (by decide +kernel))) rfl
theorem m_927 : Cond.code ⟨"AlgolJudge$Expressions", "seesNameAlone", "()Z"⟩ prog_4_method_19_code 1 (some .boolean) ∈ gT := gT_i (tb_4 _ (List.mem_of_getElem? (i := 88) rfl)) rfl
theorem m_928 : Cond.methodLink "AlgolJudge$Expressions" 157 ⟨"AlgolJudge$Tokens", "next", "()I"⟩ ∈ gT := gT_i (tb_4 _ (List.mem_of_getElem? (i := 89) (by decide +kernel))) rfl
theorem m_929 : Cond.methodLink "AlgolJudge$Expressions" 148 ⟨"AlgolJudge$Rules", "handOver", "(III)V"⟩ ∈ gT := gT_i (tb_4 _ (List.mem_of_getElem? (i := 90) (by decide +kernel))) rfl
theorem m_930 : Cond.instanceMethod ⟨"AlgolJudge$Rules", "handOver", "(III)V"⟩ ∈ gT := gT_i (tb_4 _ (List.mem_of_getElem? (i := 91) (by decide +kernel))) rfl
theorem m_931 : Cond.selects "AlgolJudge$Rules" ⟨"AlgolJudge$Rules", "handOver", "(III)V"⟩ ⟨"AlgolJudge$Rules", "handOver", "(III)V"⟩ ∈ gT := gT_i (tb_4 _ (List.mem_of_getElem? (i := 92) (by decide +kernel))) rfl
theorem m_932 : Cond.code ⟨"AlgolJudge$Rules", "handOver", "(III)V"⟩ prog_5_method_16_code 4 (none) ∈ gT := gT_i (tb_4 _ (List.mem_of_getElem? (i := 93) rfl)) rfl
theorem m_933 : Cond.methodLink "AlgolJudge$Rules" 44 ⟨"AlgolJudge$Table", "isSimple", "(I)Z"⟩ ∈ gT := gT_i (tb_4 _ (List.mem_of_getElem? (i := 94) (by decide +kernel))) rfl
theorem m_934 : Cond.instanceMethod ⟨"AlgolJudge$Table", "isSimple", "(I)Z"⟩ ∈ gT := gT_i (tb_4 _ (List.mem_of_getElem? (i := 95) (by decide +kernel))) rfl
theorem m_935 : Cond.selects "AlgolJudge$Table" ⟨"AlgolJudge$Table", "isSimple", "(I)Z"⟩ ⟨"AlgolJudge$Table", "isSimple", "(I)Z"⟩ ∈ gT := gT_i (tb_4 _ (List.mem_of_getElem? (i := 96) (by decide +kernel))) rfl
theorem m_936 : Cond.code ⟨"AlgolJudge$Table", "isSimple", "(I)Z"⟩ prog_7_method_24_code 3 (some .boolean) ∈ gT := gT_i (tb_4 _ (List.mem_of_getElem? (i := 97) rfl)) rfl
theorem m_937 : Cond.methodLink "AlgolJudge$Rules" 47 ⟨"AlgolJudge$Rules", "result", "(III)I"⟩ ∈ gT := gT_i (tb_4 _ (List.mem_of_getElem? (i := 98) (by decide +kernel))) rfl
theorem m_938 : Cond.instanceMethod ⟨"AlgolJudge$Rules", "result", "(III)I"⟩ ∈ gT := gT_i (tb_4 _ (List.mem_of_getElem? (i := 99) (by decide +kernel))) rfl
theorem m_939 : Cond.selects "AlgolJudge$Rules" ⟨"AlgolJudge$Rules", "result", "(III)I"⟩ ⟨"AlgolJudge$Rules", "result", "(III)I"⟩ ∈ gT := gT_i (tb_4 _ (List.mem_of_getElem? (i := 100) (by decide +kernel))) rfl
theorem m_940 : Cond.code ⟨"AlgolJudge$Rules", "result", "(III)I"⟩ prog_5_method_4_code 4 (some .int) ∈ gT := gT_i (tb_4 _ (List.mem_of_getElem? (i := 101) rfl)) rfl
theorem m_941 : Cond.methodLink "AlgolJudge$Rules" 41 ⟨"AlgolJudge$Table", "isFunction", "(I)Z"⟩ ∈ gT := gT_i (tb_4 _ (List.mem_of_getElem? (i := 102) (by decide +kernel))) rfl
theorem m_942 : Cond.instanceMethod ⟨"AlgolJudge$Table", "isFunction", "(I)Z"⟩ ∈ gT := gT_i (tb_4 _ (List.mem_of_getElem? (i := 103) (by decide +kernel))) rfl
theorem m_943 : Cond.selects "AlgolJudge$Table" ⟨"AlgolJudge$Table", "isFunction", "(I)Z"⟩ ⟨"AlgolJudge$Table", "isFunction", "(I)Z"⟩ ∈ gT := gT_i (tb_4 _ (List.mem_of_getElem? (i := 104) (by decide +kernel))) rfl
theorem m_944 : Cond.code ⟨"AlgolJudge$Table", "isFunction", "(I)Z"⟩ prog_7_method_21_code 2 (some .boolean) ∈ gT := gT_i (tb_4 _ (List.mem_of_getElem? (i := 105) rfl)) rfl
theorem m_945 : Cond.methodLink "AlgolJudge$Expressions" 151 ⟨"AlgolJudge$Rules", "takesAnything", "(I)Z"⟩ ∈ gT := gT_i (tb_4 _ (List.mem_of_getElem? (i := 106) (by decide +kernel))) rfl
theorem m_946 : Cond.instanceMethod ⟨"AlgolJudge$Rules", "takesAnything", "(I)Z"⟩ ∈ gT := gT_i (tb_4 _ (List.mem_of_getElem? (i := 107) (by decide +kernel))) rfl
theorem m_947 : Cond.selects "AlgolJudge$Rules" ⟨"AlgolJudge$Rules", "takesAnything", "(I)Z"⟩ ⟨"AlgolJudge$Rules", "takesAnything", "(I)Z"⟩ ∈ gT := gT_i (tb_4 _ (List.mem_of_getElem? (i := 108) (by decide +kernel))) rfl
theorem m_948 : Cond.code ⟨"AlgolJudge$Rules", "takesAnything", "(I)Z"⟩ prog_5_method_14_code 2 (some .boolean) ∈ gT := gT_i (tb_4 _ (List.mem_of_getElem? (i := 109) rfl)) rfl
theorem m_949 : Cond.methodLink "AlgolJudge$Expressions" 154 ⟨"AlgolJudge$Scopes", "blame", "(I)V"⟩ ∈ gT := gT_i (tb_4 _ (List.mem_of_getElem? (i := 110) (by decide +kernel))) rfl
theorem m_950 : Cond.methodLink "AlgolJudge$Expressions" 136 ⟨"AlgolJudge$Rules", "nextParameter", "(I)I"⟩ ∈ gT := gT_i (tb_4 _ (List.mem_of_getElem? (i := 111) (by decide +kernel))) rfl
theorem m_951 : Cond.instanceMethod ⟨"AlgolJudge$Rules", "nextParameter", "(I)I"⟩ ∈ gT := gT_i (tb_4 _ (List.mem_of_getElem? (i := 112) (by decide +kernel))) rfl
theorem m_952 : Cond.selects "AlgolJudge$Rules" ⟨"AlgolJudge$Rules", "nextParameter", "(I)I"⟩ ⟨"AlgolJudge$Rules", "nextParameter", "(I)I"⟩ ∈ gT := gT_i (tb_4 _ (List.mem_of_getElem? (i := 113) (by decide +kernel))) rfl
theorem m_953 : Cond.code ⟨"AlgolJudge$Rules", "nextParameter", "(I)I"⟩ prog_5_method_12_code 2 (some .int) ∈ gT := gT_i (tb_4 _ (List.mem_of_getElem? (i := 114) rfl)) rfl
theorem m_954 : Cond.methodLink "AlgolJudge$Rules" 67 ⟨"AlgolJudge$Table", "next", "(I)I"⟩ ∈ gT := gT_i (tb_4 _ (List.mem_of_getElem? (i := 115) (by decide +kernel))) rfl
theorem m_955 : Cond.methodLink "AlgolJudge$Expressions" 123 ⟨"AlgolJudge$Rules", "result", "(III)I"⟩ ∈ gT := gT_i (tb_4 _ (List.mem_of_getElem? (i := 116) (by decide +kernel))) rfl
theorem m_956 : Cond.methodLink "AlgolJudge$Expressions" 126 ⟨"AlgolJudge$Rules", "value", "(II)I"⟩ ∈ gT := gT_i (tb_4 _ (List.mem_of_getElem? (i := 117) (by decide +kernel))) rfl
theorem m_957 : Cond.instanceMethod ⟨"AlgolJudge$Rules", "value", "(II)I"⟩ ∈ gT := gT_i (tb_4 _ (List.mem_of_getElem? (i := 118) (by decide +kernel))) rfl
theorem m_958 : Cond.selects "AlgolJudge$Rules" ⟨"AlgolJudge$Rules", "value", "(II)I"⟩ ⟨"AlgolJudge$Rules", "value", "(II)I"⟩ ∈ gT := gT_i (tb_4 _ (List.mem_of_getElem? (i := 119) (by decide +kernel))) rfl
theorem m_959 : Cond.code ⟨"AlgolJudge$Rules", "value", "(II)I"⟩ prog_5_method_5_code 3 (some .int) ∈ gT := gT_i (tb_4 _ (List.mem_of_getElem? (i := 120) rfl)) rfl
theorem m_960 : Cond.methodLink "AlgolJudge$Expressions" 102 ⟨"AlgolJudge$Tokens", "fail", "()V"⟩ ∈ gT := gT_i (tb_4 _ (List.mem_of_getElem? (i := 121) (by decide +kernel))) rfl
theorem m_961 : Cond.methodLink "AlgolJudge$Expressions" 39 ⟨"AlgolJudge$Rules", "need", "(III)V"⟩ ∈ gT := gT_i (tb_4 _ (List.mem_of_getElem? (i := 122) (by decide +kernel))) rfl
theorem m_962 : Cond.instanceMethod ⟨"AlgolJudge$Rules", "need", "(III)V"⟩ ∈ gT := gT_i (tb_4 _ (List.mem_of_getElem? (i := 123) (by decide +kernel))) rfl
theorem m_963 : Cond.selects "AlgolJudge$Rules" ⟨"AlgolJudge$Rules", "need", "(III)V"⟩ ⟨"AlgolJudge$Rules", "need", "(III)V"⟩ ∈ gT := gT_i (tb_4 _ (List.mem_of_getElem? (i := 124) (by decide +kernel))) rfl
theorem m_964 : Cond.code ⟨"AlgolJudge$Rules", "need", "(III)V"⟩ prog_5_method_2_code 4 (none) ∈ gT := gT_i (tb_4 _ (List.mem_of_getElem? (i := 125) rfl)) rfl
theorem m_965 : Cond.methodLink "AlgolJudge$Expressions" 90 ⟨"AlgolJudge$Expressions", "acceptTimesOrDiv", "()Z"⟩ ∈ gT := gT_i (tb_4 _ (List.mem_of_getElem? (i := 126) (by decide +kernel))) rfl
theorem m_967 : Cond.instanceMethod ⟨"AlgolJudge$Expressions", "acceptTimesOrDiv", "()Z"⟩ ∈ gT := gT_i (tb_4 _ (List.mem_of_getElem? (i := 128) (by decide +kernel))) rfl
theorem m_968 : Cond.code ⟨"AlgolJudge$Expressions", "acceptTimesOrDiv", "()Z"⟩ prog_4_method_11_code 1 (some .boolean) ∈ gT := gT_i (tb_4 _ (List.mem_of_getElem? (i := 129) rfl)) rfl
theorem m_969 : Cond.methodLink "AlgolJudge$Expressions" 56 ⟨"AlgolJudge$Tokens", "rise", "()V"⟩ ∈ gT := gT_i (tb_4 _ (List.mem_of_getElem? (i := 130) (by decide +kernel))) rfl
theorem m_970 : Cond.instanceMethod ⟨"AlgolJudge$Tokens", "rise", "()V"⟩ ∈ gT := gT_i (tb_4 _ (List.mem_of_getElem? (i := 131) (by decide +kernel))) rfl
theorem m_971 : Cond.selects "AlgolJudge$Tokens" ⟨"AlgolJudge$Tokens", "rise", "()V"⟩ ⟨"AlgolJudge$Tokens", "rise", "()V"⟩ ∈ gT := gT_i (tb_4 _ (List.mem_of_getElem? (i := 132) (by decide +kernel))) rfl
theorem m_972 : Cond.code ⟨"AlgolJudge$Tokens", "rise", "()V"⟩ prog_8_method_27_code 1 (none) ∈ gT := gT_i (tb_4 _ (List.mem_of_getElem? (i := 133) rfl)) rfl
theorem m_973 : Cond.methodLink "AlgolJudge$Blocks" 212 ⟨"AlgolJudge$Rules", "element", "(III)I"⟩ ∈ gT := gT_i (tb_4 _ (List.mem_of_getElem? (i := 134) (by decide +kernel))) rfl
theorem m_974 : Cond.methodLink "AlgolJudge$Blocks" 216 ⟨"AlgolJudge$Rules", "target", "(II)I"⟩ ∈ gT := gT_i (tb_4 _ (List.mem_of_getElem? (i := 135) (by decide +kernel))) rfl
theorem m_975 : Cond.instanceMethod ⟨"AlgolJudge$Rules", "target", "(II)I"⟩ ∈ gT := gT_i (tb_4 _ (List.mem_of_getElem? (i := 136) (by decide +kernel))) rfl
theorem m_976 : Cond.selects "AlgolJudge$Rules" ⟨"AlgolJudge$Rules", "target", "(II)I"⟩ ⟨"AlgolJudge$Rules", "target", "(II)I"⟩ ∈ gT := gT_i (tb_4 _ (List.mem_of_getElem? (i := 137) (by decide +kernel))) rfl
theorem m_977 : Cond.code ⟨"AlgolJudge$Rules", "target", "(II)I"⟩ prog_5_method_6_code 3 (some .int) ∈ gT := gT_i (tb_4 _ (List.mem_of_getElem? (i := 138) rfl)) rfl
theorem m_978 : Cond.methodLink "AlgolJudge$Rules" 51 ⟨"AlgolJudge$Scopes", "isWithin", "(I)Z"⟩ ∈ gT := gT_i (tb_4 _ (List.mem_of_getElem? (i := 139) (by decide +kernel))) rfl
theorem m_979 : Cond.instanceMethod ⟨"AlgolJudge$Scopes", "isWithin", "(I)Z"⟩ ∈ gT := gT_i (tb_4 _ (List.mem_of_getElem? (i := 140) (by decide +kernel))) rfl
theorem m_980 : Cond.selects "AlgolJudge$Scopes" ⟨"AlgolJudge$Scopes", "isWithin", "(I)Z"⟩ ⟨"AlgolJudge$Scopes", "isWithin", "(I)Z"⟩ ∈ gT := gT_i (tb_4 _ (List.mem_of_getElem? (i := 141) (by decide +kernel))) rfl
theorem m_981 : Cond.code ⟨"AlgolJudge$Scopes", "isWithin", "(I)Z"⟩ prog_6_method_29_code 4 (some .boolean) ∈ gT := gT_i (tb_4 _ (List.mem_of_getElem? (i := 142) rfl)) rfl
theorem m_982 : Cond.methodLink "AlgolJudge$Scopes" 89 ⟨"AlgolJudge$Scopes", "parent", "(I)I"⟩ ∈ gT := gT_i (tb_4 _ (List.mem_of_getElem? (i := 143) (by decide +kernel))) rfl
theorem m_984 : Cond.instanceMethod ⟨"AlgolJudge$Scopes", "parent", "(I)I"⟩ ∈ gT := gT_i (tb_4 _ (List.mem_of_getElem? (i := 145) (by decide +kernel))) rfl
theorem m_985 : Cond.code ⟨"AlgolJudge$Scopes", "parent", "(I)I"⟩ prog_6_method_8_code 2 (some .int) ∈ gT := gT_i (tb_4 _ (List.mem_of_getElem? (i := 146) rfl)) rfl
theorem m_986 : Cond.methodLink "AlgolJudge$Blocks" 219 ⟨"AlgolJudge$Rules", "need", "(III)V"⟩ ∈ gT := gT_i (tb_4 _ (List.mem_of_getElem? (i := 147) (by decide +kernel))) rfl
theorem m_987 : Cond.methodLink "AlgolJudge$Blocks" 118 ⟨"AlgolJudge$Expressions", "expression", "(I)I"⟩ ∈ gT := gT_i (tb_4 _ (List.mem_of_getElem? (i := 148) (by decide +kernel))) rfl
theorem m_988 : Cond.methodLink "AlgolJudge$Blocks" 188 ⟨"AlgolJudge$Blocks", "call", "()V"⟩ ∈ gT := gT_i (tb_4 _ (List.mem_of_getElem? (i := 149) (by decide +kernel))) rfl
theorem m_990 : Cond.instanceMethod ⟨"AlgolJudge$Blocks", "call", "()V"⟩ ∈ gT := gT_i (tb_4 _ (List.mem_of_getElem? (i := 151) (by decide +kernel))) rfl
theorem m_991 : Cond.code ⟨"AlgolJudge$Blocks", "call", "()V"⟩ prog_2_method_23_code 4 (none) ∈ gT := gT_i (tb_4 _ (List.mem_of_getElem? (i := 152) rfl)) rfl
theorem m_992 : Cond.methodLink "AlgolJudge$Blocks" 223 ⟨"AlgolJudge$Expressions", "actuals", "(I)I"⟩ ∈ gT := gT_i (tb_4 _ (List.mem_of_getElem? (i := 153) (by decide +kernel))) rfl
theorem m_993 : Cond.methodLink "AlgolJudge$Blocks" 226 ⟨"AlgolJudge$Rules", "call", "(III)V"⟩ ∈ gT := gT_i (tb_4 _ (List.mem_of_getElem? (i := 154) (by decide +kernel))) rfl
theorem m_994 : Cond.instanceMethod ⟨"AlgolJudge$Rules", "call", "(III)V"⟩ ∈ gT := gT_i (tb_4 _ (List.mem_of_getElem? (i := 155) (by decide +kernel))) rfl
theorem m_995 : Cond.selects "AlgolJudge$Rules" ⟨"AlgolJudge$Rules", "call", "(III)V"⟩ ⟨"AlgolJudge$Rules", "call", "(III)V"⟩ ∈ gT := gT_i (tb_4 _ (List.mem_of_getElem? (i := 156) (by decide +kernel))) rfl
theorem m_996 : Cond.code ⟨"AlgolJudge$Rules", "call", "(III)V"⟩ prog_5_method_10_code 4 (none) ∈ gT := gT_i (tb_4 _ (List.mem_of_getElem? (i := 157) rfl)) rfl
theorem m_997 : Cond.methodLink "AlgolJudge$Blocks" 191 ⟨"AlgolJudge$Blocks", "jump", "()V"⟩ ∈ gT := gT_i (tb_4 _ (List.mem_of_getElem? (i := 158) (by decide +kernel))) rfl
theorem m_999 : Cond.instanceMethod ⟨"AlgolJudge$Blocks", "jump", "()V"⟩ ∈ gT := gT_i (tb_4 _ (List.mem_of_getElem? (i := 160) (by decide +kernel))) rfl
theorem m_1000 : Cond.code ⟨"AlgolJudge$Blocks", "jump", "()V"⟩ prog_2_method_24_code 2 (none) ∈ gT := gT_i (tb_4 _ (List.mem_of_getElem? (i := 161) rfl)) rfl
theorem m_1001 : Cond.methodLink "AlgolJudge$Blocks" 228 ⟨"AlgolJudge$Rules", "switchOfLabels", "(II)V"⟩ ∈ gT := gT_i (tb_4 _ (List.mem_of_getElem? (i := 162) (by decide +kernel))) rfl
theorem m_1002 : Cond.instanceMethod ⟨"AlgolJudge$Rules", "switchOfLabels", "(II)V"⟩ ∈ gT := gT_i (tb_4 _ (List.mem_of_getElem? (i := 163) (by decide +kernel))) rfl
theorem m_1003 : Cond.selects "AlgolJudge$Rules" ⟨"AlgolJudge$Rules", "switchOfLabels", "(II)V"⟩ ⟨"AlgolJudge$Rules", "switchOfLabels", "(II)V"⟩ ∈ gT := gT_i (tb_4 _ (List.mem_of_getElem? (i := 164) (by decide +kernel))) rfl
theorem m_1004 : Cond.code ⟨"AlgolJudge$Rules", "switchOfLabels", "(II)V"⟩ prog_5_method_9_code 3 (none) ∈ gT := gT_i (tb_4 _ (List.mem_of_getElem? (i := 165) rfl)) rfl
theorem m_1005 : Cond.methodLink "AlgolJudge$Blocks" 79 ⟨"AlgolJudge$Tokens", "riseWith", "(I)V"⟩ ∈ gT := gT_i (tb_4 _ (List.mem_of_getElem? (i := 166) (by decide +kernel))) rfl
theorem m_1006 : Cond.methodLink "AlgolJudge$Blocks" 194 ⟨"AlgolJudge$Blocks", "choice", "()V"⟩ ∈ gT := gT_i (tb_4 _ (List.mem_of_getElem? (i := 167) (by decide +kernel))) rfl
theorem m_1008 : Cond.instanceMethod ⟨"AlgolJudge$Blocks", "choice", "()V"⟩ ∈ gT := gT_i (tb_4 _ (List.mem_of_getElem? (i := 169) (by decide +kernel))) rfl
theorem m_1009 : Cond.code ⟨"AlgolJudge$Blocks", "choice", "()V"⟩ prog_2_method_25_code 1 (none) ∈ gT := gT_i (tb_4 _ (List.mem_of_getElem? (i := 170) rfl)) rfl
theorem m_1010 : Cond.methodLink "AlgolJudge$Blocks" 164 ⟨"AlgolJudge$Tokens", "rise", "()V"⟩ ∈ gT := gT_i (tb_4 _ (List.mem_of_getElem? (i := 171) (by decide +kernel))) rfl
theorem m_1011 : Cond.methodLink "AlgolJudge$Blocks" 197 ⟨"AlgolJudge$Blocks", "loop", "()V"⟩ ∈ gT := gT_i (tb_4 _ (List.mem_of_getElem? (i := 172) (by decide +kernel))) rfl
theorem m_1013 : Cond.instanceMethod ⟨"AlgolJudge$Blocks", "loop", "()V"⟩ ∈ gT := gT_i (tb_4 _ (List.mem_of_getElem? (i := 174) (by decide +kernel))) rfl
theorem m_1014 : Cond.code ⟨"AlgolJudge$Blocks", "loop", "()V"⟩ prog_2_method_26_code 3 (none) ∈ gT := gT_i (tb_4 _ (List.mem_of_getElem? (i := 175) rfl)) rfl
theorem m_1015 : Cond.methodLink "AlgolJudge$Blocks" 231 ⟨"AlgolJudge$Rules", "counted", "(II)V"⟩ ∈ gT := gT_i (tb_4 _ (List.mem_of_getElem? (i := 176) (by decide +kernel))) rfl
theorem m_1016 : Cond.instanceMethod ⟨"AlgolJudge$Rules", "counted", "(II)V"⟩ ∈ gT := gT_i (tb_4 _ (List.mem_of_getElem? (i := 177) (by decide +kernel))) rfl
theorem m_1017 : Cond.selects "AlgolJudge$Rules" ⟨"AlgolJudge$Rules", "counted", "(II)V"⟩ ⟨"AlgolJudge$Rules", "counted", "(II)V"⟩ ∈ gT := gT_i (tb_4 _ (List.mem_of_getElem? (i := 178) (by decide +kernel))) rfl
theorem m_1018 : Cond.code ⟨"AlgolJudge$Rules", "counted", "(II)V"⟩ prog_5_method_7_code 3 (none) ∈ gT := gT_i (tb_4 _ (List.mem_of_getElem? (i := 179) rfl)) rfl
theorem m_1019 : Cond.methodLink "AlgolJudge$Rules" 54 ⟨"AlgolJudge$Rules", "need", "(III)V"⟩ ∈ gT := gT_i (tb_4 _ (List.mem_of_getElem? (i := 180) (by decide +kernel))) rfl
theorem m_1020 : Cond.methodLink "AlgolJudge$Blocks" 234 ⟨"AlgolJudge$Blocks", "element", "()V"⟩ ∈ gT := gT_i (tb_4 _ (List.mem_of_getElem? (i := 181) (by decide +kernel))) rfl
