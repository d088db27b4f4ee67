theorem m_150 : Cond.methodLink "AlgolJudge$Tokens" 38 ⟨"AlgolJudge$Tokens", "listWords", "()V"⟩ ∈ gT := gT_i (tb_1 _ (List.mem_of_getElem? (i := 31) (by decide +kernel))) rfl
theorem m_152 : Cond.instanceMethod ⟨"AlgolJudge$Tokens", "listWords", "()V"⟩ ∈ gT := gT_i (tb_1 _ (List.mem_of_getElem? (i := 33) (by decide +kernel))) rfl
theorem m_153 : Cond.code ⟨"AlgolJudge$Tokens", "listWords", "()V"⟩ prog_8_method_2_code 4 (none) ∈ gT := gT_i (tb_1 _ (List.mem_of_getElem? (i := 34) rfl)) rfl
theorem m_155 : Cond.methodLink "AlgolJudge$Tokens" 43 ⟨"java/lang/String", "length", "()I"⟩ ∈ gT := gT_i (tb_1 _ (List.mem_of_getElem? (i := 36) (by decide +kernel))) rfl
theorem m_156 : Cond.instanceMethod ⟨"java/lang/String", "length", "()I"⟩ ∈ gT := gT_i (tb_1 _ (List.mem_of_getElem? (i := 37) (by decide +kernel))) rfl
theorem m_157 : Cond.selects "java/lang/String" ⟨"java/lang/String", "length", "()I"⟩ ⟨"java/lang/String", "length", "()I"⟩ ∈ gT := gT_i (tb_1 _ (List.mem_of_getElem? (i := 38) (by decide +kernel))) rfl
theorem m_158 : Cond.code ⟨"java/lang/String", "length", "()I"⟩ prog_13_method_54_code 1 (some .int) ∈ gT := gT_i (tb_1 _ (List.mem_of_getElem? (i := 39) rfl)) rfl
theorem m_159 : Cond.methodLink "java/lang/String" 335 ⟨"java/lang/String", "coder", "()B"⟩ ∈ gT := gT_i (tb_1 _ (List.mem_of_getElem? (i := 40) (by decide +kernel))) rfl
theorem m_160 : Cond.instanceMethod ⟨"java/lang/String", "coder", "()B"⟩ ∈ gT := gT_i (tb_1 _ (List.mem_of_getElem? (i := 41) (by decide +kernel))) rfl
theorem m_161 : Cond.selects "java/lang/String" ⟨"java/lang/String", "coder", "()B"⟩ ⟨"java/lang/String", "coder", "()B"⟩ ∈ gT := gT_i (tb_1 _ (List.mem_of_getElem? (i := 42) (by decide +kernel))) rfl
theorem m_162 : Cond.code ⟨"java/lang/String", "coder", "()B"⟩ prog_13_method_152_code 1 (some .byte) ∈ gT := gT_i (tb_1 _ (List.mem_of_getElem? (i := 43) rfl)) rfl
theorem m_163 : Cond.fieldLink "java/lang/String" 38 "java/lang/String" "COMPACT_STRINGS" "Z" ∈ gT := gT_i (tb_1 _ (List.mem_of_getElem? (i := 44) (by decide +kernel))) rfl
theorem m_165 : Cond.methodLink "AlgolJudge$Tokens" 49 ⟨"java/lang/String", "charAt", "(I)C"⟩ ∈ gT := gT_i (tb_1 _ (List.mem_of_getElem? (i := 46) (by decide +kernel))) rfl
theorem m_166 : Cond.instanceMethod ⟨"java/lang/String", "charAt", "(I)C"⟩ ∈ gT := gT_i (tb_1 _ (List.mem_of_getElem? (i := 47) (by decide +kernel))) rfl
theorem m_167 : Cond.selects "java/lang/String" ⟨"java/lang/String", "charAt", "(I)C"⟩ ⟨"java/lang/String", "charAt", "(I)C"⟩ ∈ gT := gT_i (tb_1 _ (List.mem_of_getElem? (i := 48) (by decide +kernel))) rfl
theorem m_168 : Cond.code ⟨"java/lang/String", "charAt", "(I)C"⟩ prog_13_method_56_code 2 (some .char) ∈ gT := gT_i (tb_1 _ (List.mem_of_getElem? (i := 49) rfl)) rfl
theorem m_169 : Cond.methodLink "java/lang/String" 492 ⟨"java/lang/String", "isLatin1", "()Z"⟩ ∈ gT := gT_i (tb_1 _ (List.mem_of_getElem? (i := 50) (by decide +kernel))) rfl
theorem m_170 : Cond.instanceMethod ⟨"java/lang/String", "isLatin1", "()Z"⟩ ∈ gT := gT_i (tb_1 _ (List.mem_of_getElem? (i := 51) (by decide +kernel))) rfl
theorem m_171 : Cond.selects "java/lang/String" ⟨"java/lang/String", "isLatin1", "()Z"⟩ ⟨"java/lang/String", "isLatin1", "()Z"⟩ ∈ gT := gT_i (tb_1 _ (List.mem_of_getElem? (i := 52) (by decide +kernel))) rfl
theorem m_172 : Cond.code ⟨"java/lang/String", "isLatin1", "()Z"⟩ prog_13_method_154_code 1 (some .boolean) ∈ gT := gT_i (tb_1 _ (List.mem_of_getElem? (i := 53) rfl)) rfl
theorem m_173 : Cond.methodLink "java/lang/String" 495 ⟨"java/lang/StringLatin1", "charAt", "([BI)C"⟩ ∈ gT := gT_i (tb_1 _ (List.mem_of_getElem? (i := 54) (by decide +kernel))) rfl
theorem m_174 : Cond.static ⟨"java/lang/StringLatin1", "charAt", "([BI)C"⟩ ∈ gT := gT_i (tb_1 _ (List.mem_of_getElem? (i := 55) (by decide +kernel))) rfl
theorem m_175 : Cond.code ⟨"java/lang/StringLatin1", "charAt", "([BI)C"⟩ prog_14_method_2_code 2 (some .char) ∈ gT := gT_i (tb_1 _ (List.mem_of_getElem? (i := 56) rfl)) rfl
theorem m_176 : Cond.methodLink "java/lang/StringLatin1" 9 ⟨"java/lang/String", "checkIndex", "(II)V"⟩ ∈ gT := gT_i (tb_1 _ (List.mem_of_getElem? (i := 57) (by decide +kernel))) rfl
theorem m_177 : Cond.static ⟨"java/lang/String", "checkIndex", "(II)V"⟩ ∈ gT := gT_i (tb_1 _ (List.mem_of_getElem? (i := 58) (by decide +kernel))) rfl
theorem m_178 : Cond.code ⟨"java/lang/String", "checkIndex", "(II)V"⟩ prog_13_method_155_code 2 (none) ∈ gT := gT_i (tb_1 _ (List.mem_of_getElem? (i := 59) rfl)) rfl
theorem m_179 : Cond.fieldLink "java/lang/String" 1053 "jdk/internal/util/Preconditions" "SIOOBE_FORMATTER" "Ljava/util/function/BiFunction;" ∈ gT := gT_i (tb_1 _ (List.mem_of_getElem? (i := 60) (by decide +kernel))) rfl
theorem m_181 : Cond.methodLink "java/lang/String" 1059 ⟨"jdk/internal/util/Preconditions", "checkIndex", "(IILjava/util/function/BiFunction;)I"⟩ ∈ gT := gT_i (tb_1 _ (List.mem_of_getElem? (i := 62) (by decide +kernel))) rfl
theorem m_182 : Cond.static ⟨"jdk/internal/util/Preconditions", "checkIndex", "(IILjava/util/function/BiFunction;)I"⟩ ∈ gT := gT_i (tb_1 _ (List.mem_of_getElem? (i := 63) (by decide +kernel))) rfl
theorem m_183 : Cond.code ⟨"jdk/internal/util/Preconditions", "checkIndex", "(IILjava/util/function/BiFunction;)I"⟩ prog_17_method_11_code 3 (some .int) ∈ gT := gT_i (tb_1 _ (List.mem_of_getElem? (i := 64) rfl)) rfl
theorem m_184 : Cond.methodLink "java/lang/String" 498 ⟨"java/lang/StringUTF16", "charAt", "([BI)C"⟩ ∈ gT := gT_i (tb_1 _ (List.mem_of_getElem? (i := 65) (by decide +kernel))) rfl
theorem m_185 : Cond.static ⟨"java/lang/StringUTF16", "charAt", "([BI)C"⟩ ∈ gT := gT_i (tb_1 _ (List.mem_of_getElem? (i := 66) (by decide +kernel))) rfl
theorem m_186 : Cond.code ⟨"java/lang/StringUTF16", "charAt", "([BI)C"⟩ prog_15_method_83_code 2 (some .char) ∈ gT := gT_i (tb_1 _ (List.mem_of_getElem? (i := 67) rfl)) rfl
theorem m_187 : Cond.methodLink "java/lang/StringUTF16" 67 ⟨"java/lang/StringUTF16", "checkIndex", "(I[B)V"⟩ ∈ gT := gT_i (tb_1 _ (List.mem_of_getElem? (i := 68) (by decide +kernel))) rfl
theorem m_188 : Cond.static ⟨"java/lang/StringUTF16", "checkIndex", "(I[B)V"⟩ ∈ gT := gT_i (tb_1 _ (List.mem_of_getElem? (i := 69) (by decide +kernel))) rfl
theorem m_189 : Cond.code ⟨"java/lang/StringUTF16", "checkIndex", "(I[B)V"⟩ prog_15_method_91_code 2 (none) ∈ gT := gT_i (tb_1 _ (List.mem_of_getElem? (i := 70) rfl)) rfl
theorem m_190 : Cond.methodLink "java/lang/StringUTF16" 48 ⟨"java/lang/StringUTF16", "length", "([B)I"⟩ ∈ gT := gT_i (tb_1 _ (List.mem_of_getElem? (i := 71) (by decide +kernel))) rfl
theorem m_191 : Cond.static ⟨"java/lang/StringUTF16", "length", "([B)I"⟩ ∈ gT := gT_i (tb_1 _ (List.mem_of_getElem? (i := 72) (by decide +kernel))) rfl
theorem m_192 : Cond.code ⟨"java/lang/StringUTF16", "length", "([B)I"⟩ prog_15_method_6_code 1 (some .int) ∈ gT := gT_i (tb_1 _ (List.mem_of_getElem? (i := 73) rfl)) rfl
theorem m_193 : Cond.methodLink "java/lang/StringUTF16" 414 ⟨"java/lang/String", "checkIndex", "(II)V"⟩ ∈ gT := gT_i (tb_1 _ (List.mem_of_getElem? (i := 74) (by decide +kernel))) rfl
theorem m_194 : Cond.methodLink "java/lang/StringUTF16" 71 ⟨"java/lang/StringUTF16", "getChar", "([BI)C"⟩ ∈ gT := gT_i (tb_1 _ (List.mem_of_getElem? (i := 75) (by decide +kernel))) rfl
theorem m_195 : Cond.static ⟨"java/lang/StringUTF16", "getChar", "([BI)C"⟩ ∈ gT := gT_i (tb_1 _ (List.mem_of_getElem? (i := 76) (by decide +kernel))) rfl
theorem m_196 : Cond.code ⟨"java/lang/StringUTF16", "getChar", "([BI)C"⟩ prog_15_method_5_code 2 (some .char) ∈ gT := gT_i (tb_1 _ (List.mem_of_getElem? (i := 77) rfl)) rfl
theorem m_197 : Cond.fieldLink "java/lang/StringUTF16" 44 "java/lang/StringUTF16" "$assertionsDisabled" "Z" ∈ gT := gT_i (tb_1 _ (List.mem_of_getElem? (i := 78) (by decide +kernel))) rfl
theorem m_199 : Cond.fieldLink "java/lang/StringUTF16" 59 "java/lang/StringUTF16" "HI_BYTE_SHIFT" "I" ∈ gT := gT_i (tb_1 _ (List.mem_of_getElem? (i := 80) (by decide +kernel))) rfl
theorem m_201 : Cond.fieldLink "java/lang/StringUTF16" 63 "java/lang/StringUTF16" "LO_BYTE_SHIFT" "I" ∈ gT := gT_i (tb_1 _ (List.mem_of_getElem? (i := 82) (by decide +kernel))) rfl
theorem m_203 : Cond.methodLink "AlgolJudge$Tokens" 53 ⟨"AlgolJudge$Tokens", "longer", "(JI)J"⟩ ∈ gT := gT_i (tb_1 _ (List.mem_of_getElem? (i := 84) (by decide +kernel))) rfl
theorem m_204 : Cond.static ⟨"AlgolJudge$Tokens", "longer", "(JI)J"⟩ ∈ gT := gT_i (tb_1 _ (List.mem_of_getElem? (i := 85) (by decide +kernel))) rfl
theorem m_205 : Cond.code ⟨"AlgolJudge$Tokens", "longer", "(JI)J"⟩ prog_8_method_13_code 3 (some .long) ∈ gT := gT_i (tb_1 _ (List.mem_of_getElem? (i := 86) rfl)) rfl
theorem m_206 : Cond.constantLong "AlgolJudge$Tokens" 104 37 ∈ gT := gT_i (tb_1 _ (List.mem_of_getElem? (i := 87) (by decide +kernel))) rfl
theorem m_207 : Cond.methodLink "AlgolJudge$Tokens" 68 ⟨"AlgolJudge$Tokens", "isLetter", "(I)Z"⟩ ∈ gT := gT_i (tb_1 _ (List.mem_of_getElem? (i := 88) (by decide +kernel))) rfl
theorem m_208 : Cond.static ⟨"AlgolJudge$Tokens", "isLetter", "(I)Z"⟩ ∈ gT := gT_i (tb_1 _ (List.mem_of_getElem? (i := 89) (by decide +kernel))) rfl
theorem m_209 : Cond.code ⟨"AlgolJudge$Tokens", "isLetter", "(I)Z"⟩ prog_8_method_10_code 1 (some .boolean) ∈ gT := gT_i (tb_1 _ (List.mem_of_getElem? (i := 90) rfl)) rfl
theorem m_210 : Cond.fieldLink "AlgolJudge$Tokens" 9 "AlgolJudge$Tokens" "kinds" "[I" ∈ gT := gT_i (tb_1 _ (List.mem_of_getElem? (i := 91) (by decide +kernel))) rfl
theorem m_211 : Cond.fieldLink "AlgolJudge$Tokens" 15 "AlgolJudge$Tokens" "places" "[I" ∈ gT := gT_i (tb_1 _ (List.mem_of_getElem? (i := 92) (by decide +kernel))) rfl
theorem m_212 : Cond.fieldLink "AlgolJudge$Tokens" 18 "AlgolJudge$Tokens" "keys" "[J" ∈ gT := gT_i (tb_1 _ (List.mem_of_getElem? (i := 93) (by decide +kernel))) rfl
theorem m_213 : Cond.fieldLink "AlgolJudge$Tokens" 22 "AlgolJudge$Tokens" "wordKeys" "[J" ∈ gT := gT_i (tb_1 _ (List.mem_of_getElem? (i := 94) (by decide +kernel))) rfl
theorem m_214 : Cond.fieldLink "AlgolJudge$Tokens" 25 "AlgolJudge$Tokens" "count" "I" ∈ gT := gT_i (tb_1 _ (List.mem_of_getElem? (i := 95) (by decide +kernel))) rfl
theorem m_215 : Cond.fieldLink "AlgolJudge$Tokens" 29 "AlgolJudge$Tokens" "at" "I" ∈ gT := gT_i (tb_1 _ (List.mem_of_getElem? (i := 96) (by decide +kernel))) rfl
theorem m_216 : Cond.fieldLink "AlgolJudge$Tokens" 32 "AlgolJudge$Tokens" "depth" "I" ∈ gT := gT_i (tb_1 _ (List.mem_of_getElem? (i := 97) (by decide +kernel))) rfl
theorem m_217 : Cond.fieldLink "AlgolJudge$Tokens" 35 "AlgolJudge$Tokens" "fault" "I" ∈ gT := gT_i (tb_1 _ (List.mem_of_getElem? (i := 98) (by decide +kernel))) rfl
theorem m_218 : Cond.laysFinal "AlgolJudge$Tokens" "AlgolJudge$Tokens" "kinds" "[I" ∈ gT := gT_i (tb_1 _ (List.mem_of_getElem? (i := 99) (by decide +kernel))) rfl
theorem m_220 : Cond.laysFinal "AlgolJudge$Tokens" "AlgolJudge$Tokens" "places" "[I" ∈ gT := gT_i (tb_1 _ (List.mem_of_getElem? (i := 101) (by decide +kernel))) rfl
theorem m_222 : Cond.laysFinal "AlgolJudge$Tokens" "AlgolJudge$Tokens" "keys" "[J" ∈ gT := gT_i (tb_1 _ (List.mem_of_getElem? (i := 103) (by decide +kernel))) rfl
theorem m_224 : Cond.laysFinal "AlgolJudge$Tokens" "AlgolJudge$Tokens" "wordKeys" "[J" ∈ gT := gT_i (tb_1 _ (List.mem_of_getElem? (i := 105) (by decide +kernel))) rfl
theorem m_226 : Cond.lays "AlgolJudge$Tokens" "AlgolJudge$Tokens" "count" "I" ∈ gT := gT_i (tb_1 _ (List.mem_of_getElem? (i := 107) (by decide +kernel))) rfl
theorem m_228 : Cond.lays "AlgolJudge$Tokens" "AlgolJudge$Tokens" "at" "I" ∈ gT := gT_i (tb_1 _ (List.mem_of_getElem? (i := 109) (by decide +kernel))) rfl
theorem m_230 : Cond.lays "AlgolJudge$Tokens" "AlgolJudge$Tokens" "depth" "I" ∈ gT := gT_i (tb_1 _ (List.mem_of_getElem? (i := 111) (by decide +kernel))) rfl
theorem m_232 : Cond.lays "AlgolJudge$Tokens" "AlgolJudge$Tokens" "fault" "I" ∈ gT := gT_i (tb_1 _ (List.mem_of_getElem? (i := 113) (by decide +kernel))) rfl
theorem m_235 : Cond.arrayClass .int ∈ gT := gT_i (tb_1 _ (List.mem_of_getElem? (i := 116) (by decide +kernel))) rfl
theorem m_236 : Cond.arrayClass .long ∈ gT := gT_i (tb_1 _ (List.mem_of_getElem? (i := 117) (by decide +kernel))) rfl
theorem m_237 : Cond.arrayClass .byte ∈ gT := gT_i (tb_1 _ (List.mem_of_getElem? (i := 118) (by decide +kernel))) rfl
theorem m_238 : Cond.classLink "AlgolJudge" 12 "AlgolJudge$Table" ∈ gT := gT_i (tb_1 _ (List.mem_of_getElem? (i := 119) (by decide +kernel))) rfl
theorem m_239 : Cond.instantiable "AlgolJudge$Table" 11 ∈ gT := gT_i (tb_1 _ (List.mem_of_getElem? (i := 120) (by decide +kernel))) rfl
theorem m_240 : Cond.methodLink "AlgolJudge" 14 ⟨"AlgolJudge$Table", "<init>", "()V"⟩ ∈ gT := gT_i (tb_1 _ (List.mem_of_getElem? (i := 121) (by decide +kernel))) rfl
theorem m_241 : Cond.instanceMethod ⟨"AlgolJudge$Table", "<init>", "()V"⟩ ∈ gT := gT_i (tb_1 _ (List.mem_of_getElem? (i := 122) (by decide +kernel))) rfl
theorem m_242 : Cond.code ⟨"AlgolJudge$Table", "<init>", "()V"⟩ prog_7_method_1_code 1 (none) ∈ gT := gT_i (tb_1 _ (List.mem_of_getElem? (i := 123) rfl)) rfl
theorem m_243 : Cond.methodLink "AlgolJudge$Table" 3 ⟨"java/lang/Object", "<init>", "()V"⟩ ∈ gT := gT_i (tb_1 _ (List.mem_of_getElem? (i := 124) (by decide +kernel))) rfl
theorem m_244 : Cond.fieldLink "AlgolJudge$Table" 9 "AlgolJudge$Table" "keys" "[J" ∈ gT := gT_i (tb_1 _ (List.mem_of_getElem? (i := 125) (by decide +kernel))) rfl
theorem m_245 : Cond.fieldLink "AlgolJudge$Table" 15 "AlgolJudge$Table" "kinds" "[I" ∈ gT := gT_i (tb_1 _ (List.mem_of_getElem? (i := 126) (by decide +kernel))) rfl
theorem m_246 : Cond.fieldLink "AlgolJudge$Table" 19 "AlgolJudge$Table" "types" "[I" ∈ gT := gT_i (tb_1 _ (List.mem_of_getElem? (i := 127) (by decide +kernel))) rfl
theorem m_247 : Cond.fieldLink "AlgolJudge$Table" 22 "AlgolJudge$Table" "counts" "[I" ∈ gT := gT_i (tb_1 _ (List.mem_of_getElem? (i := 128) (by decide +kernel))) rfl
theorem m_248 : Cond.fieldLink "AlgolJudge$Table" 25 "AlgolJudge$Table" "places" "[I" ∈ gT := gT_i (tb_1 _ (List.mem_of_getElem? (i := 129) (by decide +kernel))) rfl
theorem m_249 : Cond.fieldLink "AlgolJudge$Table" 28 "AlgolJudge$Table" "homes" "[I" ∈ gT := gT_i (tb_1 _ (List.mem_of_getElem? (i := 130) (by decide +kernel))) rfl
theorem m_250 : Cond.fieldLink "AlgolJudge$Table" 31 "AlgolJudge$Table" "nexts" "[I" ∈ gT := gT_i (tb_1 _ (List.mem_of_getElem? (i := 131) (by decide +kernel))) rfl
theorem m_251 : Cond.fieldLink "AlgolJudge$Table" 34 "AlgolJudge$Table" "heads" "[I" ∈ gT := gT_i (tb_1 _ (List.mem_of_getElem? (i := 132) (by decide +kernel))) rfl
theorem m_252 : Cond.fieldLink "AlgolJudge$Table" 37 "AlgolJudge$Table" "valuePlaces" "[I" ∈ gT := gT_i (tb_1 _ (List.mem_of_getElem? (i := 133) (by decide +kernel))) rfl
theorem m_253 : Cond.fieldLink "AlgolJudge$Table" 40 "AlgolJudge$Table" "owns" "[Z" ∈ gT := gT_i (tb_1 _ (List.mem_of_getElem? (i := 134) (by decide +kernel))) rfl
theorem m_254 : Cond.fieldLink "AlgolJudge$Table" 44 "AlgolJudge$Table" "size" "I" ∈ gT := gT_i (tb_1 _ (List.mem_of_getElem? (i := 135) (by decide +kernel))) rfl
theorem m_255 : Cond.laysFinal "AlgolJudge$Table" "AlgolJudge$Table" "keys" "[J" ∈ gT := gT_i (tb_1 _ (List.mem_of_getElem? (i := 136) (by decide +kernel))) rfl
theorem m_257 : Cond.laysFinal "AlgolJudge$Table" "AlgolJudge$Table" "kinds" "[I" ∈ gT := gT_i (tb_1 _ (List.mem_of_getElem? (i := 138) (by decide +kernel))) rfl
theorem m_259 : Cond.laysFinal "AlgolJudge$Table" "AlgolJudge$Table" "types" "[I" ∈ gT := gT_i (tb_1 _ (List.mem_of_getElem? (i := 140) (by decide +kernel))) rfl
theorem m_261 : Cond.laysFinal "AlgolJudge$Table" "AlgolJudge$Table" "counts" "[I" ∈ gT := gT_i (tb_1 _ (List.mem_of_getElem? (i := 142) (by decide +kernel))) rfl
theorem m_263 : Cond.laysFinal "AlgolJudge$Table" "AlgolJudge$Table" "places" "[I" ∈ gT := gT_i (tb_1 _ (List.mem_of_getElem? (i := 144) (by decide +kernel))) rfl
theorem m_265 : Cond.laysFinal "AlgolJudge$Table" "AlgolJudge$Table" "homes" "[I" ∈ gT := gT_i (tb_1 _ (List.mem_of_getElem? (i := 146) (by decide +kernel))) rfl
theorem m_267 : Cond.laysFinal "AlgolJudge$Table" "AlgolJudge$Table" "nexts" "[I" ∈ gT := gT_i (tb_1 _ (List.mem_of_getElem? (i := 148) (by decide +kernel))) rfl
theorem m_269 : Cond.laysFinal "AlgolJudge$Table" "AlgolJudge$Table" "heads" "[I" ∈ gT := gT_i (tb_1 _ (List.mem_of_getElem? (i := 150) (by decide +kernel))) rfl
theorem m_271 : Cond.laysFinal "AlgolJudge$Table" "AlgolJudge$Table" "valuePlaces" "[I" ∈ gT := gT_i (tb_1 _ (List.mem_of_getElem? (i := 152) (by decide +kernel))) rfl
theorem m_273 : Cond.laysFinal "AlgolJudge$Table" "AlgolJudge$Table" "owns" "[Z" ∈ gT := gT_i (tb_1 _ (List.mem_of_getElem? (i := 154) (by decide +kernel))) rfl
theorem m_275 : Cond.lays "AlgolJudge$Table" "AlgolJudge$Table" "size" "I" ∈ gT := gT_i (tb_1 _ (List.mem_of_getElem? (i := 156) (by decide +kernel))) rfl
theorem m_278 : Cond.arrayClass .boolean ∈ gT := gT_i (tb_1 _ (List.mem_of_getElem? (i := 159) (by decide +kernel))) rfl
theorem m_279 : Cond.classLink "AlgolJudge" 15 "AlgolJudge$Scopes" ∈ gT := gT_i (tb_1 _ (List.mem_of_getElem? (i := 160) (by decide +kernel))) rfl
theorem m_280 : Cond.instantiable "AlgolJudge$Scopes" 13 ∈ gT := gT_i (tb_1 _ (List.mem_of_getElem? (i := 161) (by decide +kernel))) rfl
theorem m_281 : Cond.methodLink "AlgolJudge" 17 ⟨"AlgolJudge$Scopes", "<init>", "(LAlgolJudge$Tokens;LAlgolJudge$Table;)V"⟩ ∈ gT := gT_i (tb_1 _ (List.mem_of_getElem? (i := 162) (by decide +kernel))) rfl
theorem m_282 : Cond.instanceMethod ⟨"AlgolJudge$Scopes", "<init>", "(LAlgolJudge$Tokens;LAlgolJudge$Table;)V"⟩ ∈ gT := gT_i (tb_1 _ (List.mem_of_getElem? (i := 163) (by decide +kernel))) rfl
theorem m_283 : Cond.code ⟨"AlgolJudge$Scopes", "<init>", "(LAlgolJudge$Tokens;LAlgolJudge$Table;)V"⟩ prog_6_method_1_code 3 (none) ∈ gT := gT_i (tb_1 _ (List.mem_of_getElem? (i := 164) rfl)) rfl
theorem m_284 : Cond.methodLink "AlgolJudge$Scopes" 3 ⟨"java/lang/Object", "<init>", "()V"⟩ ∈ gT := gT_i (tb_1 _ (List.mem_of_getElem? (i := 165) (by decide +kernel))) rfl
theorem m_285 : Cond.fieldLink "AlgolJudge$Scopes" 9 "AlgolJudge$Scopes" "tokens" "LAlgolJudge$Tokens;" ∈ gT := gT_i (tb_1 _ (List.mem_of_getElem? (i := 166) (by decide +kernel))) rfl
theorem m_286 : Cond.fieldLink "AlgolJudge$Scopes" 15 "AlgolJudge$Scopes" "table" "LAlgolJudge$Table;" ∈ gT := gT_i (tb_1 _ (List.mem_of_getElem? (i := 167) (by decide +kernel))) rfl
theorem m_287 : Cond.fieldLink "AlgolJudge$Scopes" 19 "AlgolJudge$Scopes" "parents" "[I" ∈ gT := gT_i (tb_1 _ (List.mem_of_getElem? (i := 168) (by decide +kernel))) rfl
theorem m_288 : Cond.fieldLink "AlgolJudge$Scopes" 23 "AlgolJudge$Scopes" "firsts" "[I" ∈ gT := gT_i (tb_1 _ (List.mem_of_getElem? (i := 169) (by decide +kernel))) rfl
theorem m_289 : Cond.fieldLink "AlgolJudge$Scopes" 26 "AlgolJudge$Scopes" "lasts" "[I" ∈ gT := gT_i (tb_1 _ (List.mem_of_getElem? (i := 170) (by decide +kernel))) rfl
theorem m_290 : Cond.fieldLink "AlgolJudge$Scopes" 29 "AlgolJudge$Scopes" "procedures" "[I" ∈ gT := gT_i (tb_1 _ (List.mem_of_getElem? (i := 171) (by decide +kernel))) rfl
theorem m_291 : Cond.fieldLink "AlgolJudge$Scopes" 32 "AlgolJudge$Scopes" "meanings" "[I" ∈ gT := gT_i (tb_1 _ (List.mem_of_getElem? (i := 172) (by decide +kernel))) rfl
theorem m_292 : Cond.fieldLink "AlgolJudge$Scopes" 35 "AlgolJudge$Scopes" "size" "I" ∈ gT := gT_i (tb_1 _ (List.mem_of_getElem? (i := 173) (by decide +kernel))) rfl
theorem m_293 : Cond.fieldLink "AlgolJudge$Scopes" 39 "AlgolJudge$Scopes" "opened" "I" ∈ gT := gT_i (tb_1 _ (List.mem_of_getElem? (i := 174) (by decide +kernel))) rfl
theorem m_294 : Cond.fieldLink "AlgolJudge$Scopes" 42 "AlgolJudge$Scopes" "current" "I" ∈ gT := gT_i (tb_1 _ (List.mem_of_getElem? (i := 175) (by decide +kernel))) rfl
theorem m_295 : Cond.fieldLink "AlgolJudge$Scopes" 45 "AlgolJudge$Scopes" "looking" "I" ∈ gT := gT_i (tb_1 _ (List.mem_of_getElem? (i := 176) (by decide +kernel))) rfl
theorem m_296 : Cond.fieldLink "AlgolJudge$Scopes" 48 "AlgolJudge$Scopes" "wrong" "I" ∈ gT := gT_i (tb_1 _ (List.mem_of_getElem? (i := 177) (by decide +kernel))) rfl
theorem m_297 : Cond.fieldLink "AlgolJudge$Scopes" 51 "AlgolJudge$Scopes" "settled" "Z" ∈ gT := gT_i (tb_1 _ (List.mem_of_getElem? (i := 178) (by decide +kernel))) rfl
theorem m_298 : Cond.laysFinal "AlgolJudge$Scopes" "AlgolJudge$Scopes" "tokens" "LAlgolJudge$Tokens;" ∈ gT := gT_i (tb_1 _ (List.mem_of_getElem? (i := 179) (by decide +kernel))) rfl
theorem m_300 : Cond.laysFinal "AlgolJudge$Scopes" "AlgolJudge$Scopes" "table" "LAlgolJudge$Table;" ∈ gT := gT_i (tb_1 _ (List.mem_of_getElem? (i := 181) (by decide +kernel))) rfl
theorem m_302 : Cond.laysFinal "AlgolJudge$Scopes" "AlgolJudge$Scopes" "parents" "[I" ∈ gT := gT_i (tb_1 _ (List.mem_of_getElem? (i := 183) (by decide +kernel))) rfl
theorem m_304 : Cond.laysFinal "AlgolJudge$Scopes" "AlgolJudge$Scopes" "firsts" "[I" ∈ gT := gT_i (tb_1 _ (List.mem_of_getElem? (i := 185) (by decide +kernel))) rfl
theorem m_306 : Cond.laysFinal "AlgolJudge$Scopes" "AlgolJudge$Scopes" "lasts" "[I" ∈ gT := gT_i (tb_1 _ (List.mem_of_getElem? (i := 187) (by decide +kernel))) rfl
theorem m_308 : Cond.laysFinal "AlgolJudge$Scopes" "AlgolJudge$Scopes" "procedures" "[I" ∈ gT := gT_i (tb_1 _ (List.mem_of_getElem? (i := 189) (by decide +kernel))) rfl
theorem m_310 : Cond.laysFinal "AlgolJudge$Scopes" "AlgolJudge$Scopes" "meanings" "[I" ∈ gT := gT_i (tb_1 _ (List.mem_of_getElem? (i := 191) (by decide +kernel))) rfl
theorem m_312 : Cond.lays "AlgolJudge$Scopes" "AlgolJudge$Scopes" "size" "I" ∈ gT := gT_i (tb_1 _ (List.mem_of_getElem? (i := 193) (by decide +kernel))) rfl
theorem m_314 : Cond.lays "AlgolJudge$Scopes" "AlgolJudge$Scopes" "opened" "I" ∈ gT := gT_i (tb_1 _ (List.mem_of_getElem? (i := 195) (by decide +kernel))) rfl
theorem m_316 : Cond.lays "AlgolJudge$Scopes" "AlgolJudge$Scopes" "current" "I" ∈ gT := gT_i (tb_1 _ (List.mem_of_getElem? (i := 197) (by decide +kernel))) rfl
theorem m_318 : Cond.lays "AlgolJudge$Scopes" "AlgolJudge$Scopes" "looking" "I" ∈ gT := gT_i (tb_1 _ (List.mem_of_getElem? (i := 199) (by decide +kernel))) rfl
theorem m_320 : Cond.lays "AlgolJudge$Scopes" "AlgolJudge$Scopes" "wrong" "I" ∈ gT := gT_i (tb_1 _ (List.mem_of_getElem? (i := 201) (by decide +kernel))) rfl
theorem m_322 : Cond.lays "AlgolJudge$Scopes" "AlgolJudge$Scopes" "settled" "Z" ∈ gT := gT_i (tb_1 _ (List.mem_of_getElem? (i := 203) (by decide +kernel))) rfl
theorem m_325 : Cond.classLink "AlgolJudge" 36 "AlgolJudge$Blocks" ∈ gT := gT_i (tb_1 _ (List.mem_of_getElem? (i := 206) (by decide +kernel))) rfl
theorem m_326 : Cond.instantiable "AlgolJudge$Blocks" 5 ∈ gT := gT_i (tb_1 _ (List.mem_of_getElem? (i := 207) (by decide +kernel))) rfl
theorem m_327 : Cond.classLink "AlgolJudge" 38 "AlgolJudge$Rules" ∈ gT := gT_i (tb_1 _ (List.mem_of_getElem? (i := 208) (by decide +kernel))) rfl
theorem m_328 : Cond.instantiable "AlgolJudge$Rules" 2 ∈ gT := gT_i (tb_1 _ (List.mem_of_getElem? (i := 209) (by decide +kernel))) rfl
theorem m_329 : Cond.methodLink "AlgolJudge" 40 ⟨"AlgolJudge$Rules", "<init>", "(LAlgolJudge$Table;LAlgolJudge$Scopes;)V"⟩ ∈ gT := gT_i (tb_1 _ (List.mem_of_getElem? (i := 210) (by decide +kernel))) rfl
theorem m_330 : Cond.instanceMethod ⟨"AlgolJudge$Rules", "<init>", "(LAlgolJudge$Table;LAlgolJudge$Scopes;)V"⟩ ∈ gT := gT_i (tb_1 _ (List.mem_of_getElem? (i := 211) (by decide +kernel))) rfl
theorem m_331 : Cond.code ⟨"AlgolJudge$Rules", "<init>", "(LAlgolJudge$Table;LAlgolJudge$Scopes;)V"⟩ prog_5_method_1_code 3 (none) ∈ gT := gT_i (tb_1 _ (List.mem_of_getElem? (i := 212) rfl)) rfl
theorem m_332 : Cond.methodLink "AlgolJudge$Rules" 3 ⟨"java/lang/Object", "<init>", "()V"⟩ ∈ gT := gT_i (tb_1 _ (List.mem_of_getElem? (i := 213) (by decide +kernel))) rfl
theorem m_333 : Cond.fieldLink "AlgolJudge$Rules" 9 "AlgolJudge$Rules" "table" "LAlgolJudge$Table;" ∈ gT := gT_i (tb_1 _ (List.mem_of_getElem? (i := 214) (by decide +kernel))) rfl
theorem m_334 : Cond.fieldLink "AlgolJudge$Rules" 15 "AlgolJudge$Rules" "scopes" "LAlgolJudge$Scopes;" ∈ gT := gT_i (tb_1 _ (List.mem_of_getElem? (i := 215) (by decide +kernel))) rfl
theorem m_335 : Cond.laysFinal "AlgolJudge$Rules" "AlgolJudge$Rules" "table" "LAlgolJudge$Table;" ∈ gT := gT_i (tb_1 _ (List.mem_of_getElem? (i := 216) (by decide +kernel))) rfl
theorem m_337 : Cond.laysFinal "AlgolJudge$Rules" "AlgolJudge$Rules" "scopes" "LAlgolJudge$Scopes;" ∈ gT := gT_i (tb_1 _ (List.mem_of_getElem? (i := 218) (by decide +kernel))) rfl
theorem m_340 : Cond.methodLink "AlgolJudge" 43 ⟨"AlgolJudge$Blocks", "<init>", "(LAlgolJudge$Tokens;LAlgolJudge$Scopes;LAlgolJudge$Rules;)V"⟩ ∈ gT := gT_i (tb_1 _ (List.mem_of_getElem? (i := 221) (by decide +kernel))) rfl
theorem m_341 : Cond.instanceMethod ⟨"AlgolJudge$Blocks", "<init>", "(LAlgolJudge$Tokens;LAlgolJudge$Scopes;LAlgolJudge$Rules;)V"⟩ ∈ gT := gT_i (tb_1 _ (List.mem_of_getElem? (i := 222) (by decide +kernel))) rfl
theorem m_342 : Cond.code ⟨"AlgolJudge$Blocks", "<init>", "(LAlgolJudge$Tokens;LAlgolJudge$Scopes;LAlgolJudge$Rules;)V"⟩ prog_2_method_1_code 4 (none) ∈ gT := gT_i (tb_1 _ (List.mem_of_getElem? (i := 223) rfl)) rfl
theorem m_343 : Cond.methodLink "AlgolJudge$Blocks" 3 ⟨"java/lang/Object", "<init>", "()V"⟩ ∈ gT := gT_i (tb_1 _ (List.mem_of_getElem? (i := 224) (by decide +kernel))) rfl
theorem m_344 : Cond.classLink "AlgolJudge$Blocks" 23 "AlgolJudge$Expressions" ∈ gT := gT_i (tb_1 _ (List.mem_of_getElem? (i := 225) (by decide +kernel))) rfl
