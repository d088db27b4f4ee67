theorem m_531 : Cond.static ⟨"java/lang/StringUTF16", "indexOfSupplementary", "([BIII)I"⟩ ∈ gT := gT_i (tb_2 _ (List.mem_of_getElem? (i := 172) (by decide +kernel))) rfl
theorem m_532 : Cond.code ⟨"java/lang/StringUTF16", "indexOfSupplementary", "([BIII)I"⟩ prog_15_method_49_code 7 (some .int) ∈ gT := gT_i (tb_2 _ (List.mem_of_getElem? (i := 173) rfl)) rfl
theorem m_533 : Cond.methodLink "java/lang/StringUTF16" 164 ⟨"java/lang/Character", "isValidCodePoint", "(I)Z"⟩ ∈ gT := gT_i (tb_2 _ (List.mem_of_getElem? (i := 174) (by decide +kernel))) rfl
theorem m_534 : Cond.static ⟨"java/lang/Character", "isValidCodePoint", "(I)Z"⟩ ∈ gT := gT_i (tb_2 _ (List.mem_of_getElem? (i := 175) (by decide +kernel))) rfl
theorem m_535 : Cond.code ⟨"java/lang/Character", "isValidCodePoint", "(I)Z"⟩ prog_11_method_11_code 2 (some .boolean) ∈ gT := gT_i (tb_2 _ (List.mem_of_getElem? (i := 176) rfl)) rfl
theorem m_536 : Cond.methodLink "java/lang/StringUTF16" 157 ⟨"java/lang/Character", "highSurrogate", "(I)C"⟩ ∈ gT := gT_i (tb_2 _ (List.mem_of_getElem? (i := 177) (by decide +kernel))) rfl
theorem m_537 : Cond.static ⟨"java/lang/Character", "highSurrogate", "(I)C"⟩ ∈ gT := gT_i (tb_2 _ (List.mem_of_getElem? (i := 178) (by decide +kernel))) rfl
theorem m_538 : Cond.code ⟨"java/lang/Character", "highSurrogate", "(I)C"⟩ prog_11_method_28_code 1 (some .char) ∈ gT := gT_i (tb_2 _ (List.mem_of_getElem? (i := 179) rfl)) rfl
theorem m_539 : Cond.constant "java/lang/Character" 110 55232 ∈ gT := gT_i (tb_2 _ (List.mem_of_getElem? (i := 180) (by decide +kernel))) rfl
theorem m_540 : Cond.methodLink "java/lang/StringUTF16" 161 ⟨"java/lang/Character", "lowSurrogate", "(I)C"⟩ ∈ gT := gT_i (tb_2 _ (List.mem_of_getElem? (i := 181) (by decide +kernel))) rfl
theorem m_541 : Cond.static ⟨"java/lang/Character", "lowSurrogate", "(I)C"⟩ ∈ gT := gT_i (tb_2 _ (List.mem_of_getElem? (i := 182) (by decide +kernel))) rfl
theorem m_542 : Cond.code ⟨"java/lang/Character", "lowSurrogate", "(I)C"⟩ prog_11_method_29_code 1 (some .char) ∈ gT := gT_i (tb_2 _ (List.mem_of_getElem? (i := 183) rfl)) rfl
theorem m_543 : Cond.constant "java/lang/Character" 76 56320 ∈ gT := gT_i (tb_2 _ (List.mem_of_getElem? (i := 184) (by decide +kernel))) rfl
theorem m_544 : Cond.methodLink "AlgolJudge$Tokens" 101 ⟨"AlgolJudge$Tokens", "withEqual", "(I)I"⟩ ∈ gT := gT_i (tb_2 _ (List.mem_of_getElem? (i := 185) (by decide +kernel))) rfl
theorem m_545 : Cond.static ⟨"AlgolJudge$Tokens", "withEqual", "(I)I"⟩ ∈ gT := gT_i (tb_2 _ (List.mem_of_getElem? (i := 186) (by decide +kernel))) rfl
theorem m_546 : Cond.code ⟨"AlgolJudge$Tokens", "withEqual", "(I)I"⟩ prog_8_method_9_code 1 (some .int) ∈ gT := gT_i (tb_2 _ (List.mem_of_getElem? (i := 187) rfl)) rfl
theorem m_547 : Cond.methodLink "AlgolJudge$Tokens" 65 ⟨"AlgolJudge$Tokens", "rewind", "()V"⟩ ∈ gT := gT_i (tb_2 _ (List.mem_of_getElem? (i := 188) (by decide +kernel))) rfl
theorem m_548 : Cond.instanceMethod ⟨"AlgolJudge$Tokens", "rewind", "()V"⟩ ∈ gT := gT_i (tb_2 _ (List.mem_of_getElem? (i := 189) (by decide +kernel))) rfl
theorem m_549 : Cond.selects "AlgolJudge$Tokens" ⟨"AlgolJudge$Tokens", "rewind", "()V"⟩ ⟨"AlgolJudge$Tokens", "rewind", "()V"⟩ ∈ gT := gT_i (tb_2 _ (List.mem_of_getElem? (i := 190) (by decide +kernel))) rfl
theorem m_550 : Cond.code ⟨"AlgolJudge$Tokens", "rewind", "()V"⟩ prog_8_method_15_code 1 (none) ∈ gT := gT_i (tb_2 _ (List.mem_of_getElem? (i := 191) rfl)) rfl
theorem m_551 : Cond.methodLink "AlgolJudge" 69 ⟨"AlgolJudge$Scopes", "startDeclaring", "()V"⟩ ∈ gT := gT_i (tb_2 _ (List.mem_of_getElem? (i := 192) (by decide +kernel))) rfl
theorem m_552 : Cond.instanceMethod ⟨"AlgolJudge$Scopes", "startDeclaring", "()V"⟩ ∈ gT := gT_i (tb_2 _ (List.mem_of_getElem? (i := 193) (by decide +kernel))) rfl
theorem m_553 : Cond.selects "AlgolJudge$Scopes" ⟨"AlgolJudge$Scopes", "startDeclaring", "()V"⟩ ⟨"AlgolJudge$Scopes", "startDeclaring", "()V"⟩ ∈ gT := gT_i (tb_2 _ (List.mem_of_getElem? (i := 194) (by decide +kernel))) rfl
theorem m_554 : Cond.code ⟨"AlgolJudge$Scopes", "startDeclaring", "()V"⟩ prog_6_method_2_code 1 (none) ∈ gT := gT_i (tb_2 _ (List.mem_of_getElem? (i := 195) rfl)) rfl
theorem m_555 : Cond.methodLink "AlgolJudge$Scopes" 55 ⟨"AlgolJudge$Table", "clear", "()V"⟩ ∈ gT := gT_i (tb_2 _ (List.mem_of_getElem? (i := 196) (by decide +kernel))) rfl
theorem m_556 : Cond.instanceMethod ⟨"AlgolJudge$Table", "clear", "()V"⟩ ∈ gT := gT_i (tb_2 _ (List.mem_of_getElem? (i := 197) (by decide +kernel))) rfl
theorem m_557 : Cond.selects "AlgolJudge$Table" ⟨"AlgolJudge$Table", "clear", "()V"⟩ ⟨"AlgolJudge$Table", "clear", "()V"⟩ ∈ gT := gT_i (tb_2 _ (List.mem_of_getElem? (i := 198) (by decide +kernel))) rfl
theorem m_558 : Cond.code ⟨"AlgolJudge$Table", "clear", "()V"⟩ prog_7_method_2_code 1 (none) ∈ gT := gT_i (tb_2 _ (List.mem_of_getElem? (i := 199) rfl)) rfl
theorem m_559 : Cond.methodLink "AlgolJudge$Scopes" 60 ⟨"java/util/Arrays", "fill", "([II)V"⟩ ∈ gT := gT_i (tb_2 _ (List.mem_of_getElem? (i := 200) (by decide +kernel))) rfl
theorem m_560 : Cond.static ⟨"java/util/Arrays", "fill", "([II)V"⟩ ∈ gT := gT_i (tb_2 _ (List.mem_of_getElem? (i := 201) (by decide +kernel))) rfl
theorem m_561 : Cond.code ⟨"java/util/Arrays", "fill", "([II)V"⟩ prog_16_method_103_code 4 (none) ∈ gT := gT_i (tb_2 _ (List.mem_of_getElem? (i := 202) rfl)) rfl
theorem m_562 : Cond.methodLink "AlgolJudge$Scopes" 66 ⟨"AlgolJudge$Scopes", "start", "()V"⟩ ∈ gT := gT_i (tb_2 _ (List.mem_of_getElem? (i := 203) (by decide +kernel))) rfl
theorem m_564 : Cond.instanceMethod ⟨"AlgolJudge$Scopes", "start", "()V"⟩ ∈ gT := gT_i (tb_2 _ (List.mem_of_getElem? (i := 205) (by decide +kernel))) rfl
theorem m_565 : Cond.code ⟨"AlgolJudge$Scopes", "start", "()V"⟩ prog_6_method_4_code 1 (none) ∈ gT := gT_i (tb_2 _ (List.mem_of_getElem? (i := 206) rfl)) rfl
theorem m_566 : Cond.methodLink "AlgolJudge" 72 ⟨"AlgolJudge$Blocks", "program", "()V"⟩ ∈ gT := gT_i (tb_2 _ (List.mem_of_getElem? (i := 207) (by decide +kernel))) rfl
theorem m_567 : Cond.instanceMethod ⟨"AlgolJudge$Blocks", "program", "()V"⟩ ∈ gT := gT_i (tb_2 _ (List.mem_of_getElem? (i := 208) (by decide +kernel))) rfl
theorem m_568 : Cond.selects "AlgolJudge$Blocks" ⟨"AlgolJudge$Blocks", "program", "()V"⟩ ⟨"AlgolJudge$Blocks", "program", "()V"⟩ ∈ gT := gT_i (tb_2 _ (List.mem_of_getElem? (i := 209) (by decide +kernel))) rfl
theorem m_569 : Cond.code ⟨"AlgolJudge$Blocks", "program", "()V"⟩ prog_2_method_2_code 1 (none) ∈ gT := gT_i (tb_2 _ (List.mem_of_getElem? (i := 210) rfl)) rfl
theorem m_570 : Cond.methodLink "AlgolJudge$Blocks" 36 ⟨"AlgolJudge$Tokens", "rewind", "()V"⟩ ∈ gT := gT_i (tb_2 _ (List.mem_of_getElem? (i := 211) (by decide +kernel))) rfl
theorem m_571 : Cond.methodLink "AlgolJudge$Blocks" 41 ⟨"AlgolJudge$Blocks", "block", "()V"⟩ ∈ gT := gT_i (tb_2 _ (List.mem_of_getElem? (i := 212) (by decide +kernel))) rfl
theorem m_573 : Cond.instanceMethod ⟨"AlgolJudge$Blocks", "block", "()V"⟩ ∈ gT := gT_i (tb_2 _ (List.mem_of_getElem? (i := 214) (by decide +kernel))) rfl
theorem m_574 : Cond.code ⟨"AlgolJudge$Blocks", "block", "()V"⟩ prog_2_method_3_code 2 (none) ∈ gT := gT_i (tb_2 _ (List.mem_of_getElem? (i := 215) rfl)) rfl
theorem m_575 : Cond.methodLink "AlgolJudge$Blocks" 51 ⟨"AlgolJudge$Tokens", "deepen", "(I)V"⟩ ∈ gT := gT_i (tb_2 _ (List.mem_of_getElem? (i := 216) (by decide +kernel))) rfl
theorem m_576 : Cond.instanceMethod ⟨"AlgolJudge$Tokens", "deepen", "(I)V"⟩ ∈ gT := gT_i (tb_2 _ (List.mem_of_getElem? (i := 217) (by decide +kernel))) rfl
theorem m_577 : Cond.selects "AlgolJudge$Tokens" ⟨"AlgolJudge$Tokens", "deepen", "(I)V"⟩ ⟨"AlgolJudge$Tokens", "deepen", "(I)V"⟩ ∈ gT := gT_i (tb_2 _ (List.mem_of_getElem? (i := 218) (by decide +kernel))) rfl
theorem m_578 : Cond.code ⟨"AlgolJudge$Tokens", "deepen", "(I)V"⟩ prog_8_method_26_code 2 (none) ∈ gT := gT_i (tb_2 _ (List.mem_of_getElem? (i := 219) rfl)) rfl
theorem m_579 : Cond.methodLink "AlgolJudge$Tokens" 112 ⟨"AlgolJudge$Tokens", "fail", "()V"⟩ ∈ gT := gT_i (tb_2 _ (List.mem_of_getElem? (i := 220) (by decide +kernel))) rfl
theorem m_580 : Cond.instanceMethod ⟨"AlgolJudge$Tokens", "fail", "()V"⟩ ∈ gT := gT_i (tb_2 _ (List.mem_of_getElem? (i := 221) (by decide +kernel))) rfl
theorem m_581 : Cond.selects "AlgolJudge$Tokens" ⟨"AlgolJudge$Tokens", "fail", "()V"⟩ ⟨"AlgolJudge$Tokens", "fail", "()V"⟩ ∈ gT := gT_i (tb_2 _ (List.mem_of_getElem? (i := 222) (by decide +kernel))) rfl
theorem m_582 : Cond.code ⟨"AlgolJudge$Tokens", "fail", "()V"⟩ prog_8_method_25_code 1 (none) ∈ gT := gT_i (tb_2 _ (List.mem_of_getElem? (i := 223) rfl)) rfl
theorem m_583 : Cond.methodLink "AlgolJudge$Tokens" 115 ⟨"AlgolJudge$Tokens", "take", "(I)V"⟩ ∈ gT := gT_i (tb_2 _ (List.mem_of_getElem? (i := 224) (by decide +kernel))) rfl
theorem m_584 : Cond.instanceMethod ⟨"AlgolJudge$Tokens", "take", "(I)V"⟩ ∈ gT := gT_i (tb_2 _ (List.mem_of_getElem? (i := 225) (by decide +kernel))) rfl
theorem m_585 : Cond.selects "AlgolJudge$Tokens" ⟨"AlgolJudge$Tokens", "take", "(I)V"⟩ ⟨"AlgolJudge$Tokens", "take", "(I)V"⟩ ∈ gT := gT_i (tb_2 _ (List.mem_of_getElem? (i := 226) (by decide +kernel))) rfl
theorem m_586 : Cond.code ⟨"AlgolJudge$Tokens", "take", "(I)V"⟩ prog_8_method_24_code 2 (none) ∈ gT := gT_i (tb_2 _ (List.mem_of_getElem? (i := 227) rfl)) rfl
theorem m_587 : Cond.methodLink "AlgolJudge$Tokens" 106 ⟨"AlgolJudge$Tokens", "kind", "()I"⟩ ∈ gT := gT_i (tb_2 _ (List.mem_of_getElem? (i := 228) (by decide +kernel))) rfl
theorem m_588 : Cond.instanceMethod ⟨"AlgolJudge$Tokens", "kind", "()I"⟩ ∈ gT := gT_i (tb_2 _ (List.mem_of_getElem? (i := 229) (by decide +kernel))) rfl
theorem m_589 : Cond.selects "AlgolJudge$Tokens" ⟨"AlgolJudge$Tokens", "kind", "()I"⟩ ⟨"AlgolJudge$Tokens", "kind", "()I"⟩ ∈ gT := gT_i (tb_2 _ (List.mem_of_getElem? (i := 230) (by decide +kernel))) rfl
theorem m_590 : Cond.code ⟨"AlgolJudge$Tokens", "kind", "()I"⟩ prog_8_method_17_code 1 (some .int) ∈ gT := gT_i (tb_2 _ (List.mem_of_getElem? (i := 231) rfl)) rfl
theorem m_591 : Cond.methodLink "AlgolJudge$Tokens" 109 ⟨"AlgolJudge$Tokens", "advance", "()V"⟩ ∈ gT := gT_i (tb_2 _ (List.mem_of_getElem? (i := 232) (by decide +kernel))) rfl
theorem m_592 : Cond.instanceMethod ⟨"AlgolJudge$Tokens", "advance", "()V"⟩ ∈ gT := gT_i (tb_2 _ (List.mem_of_getElem? (i := 233) (by decide +kernel))) rfl
theorem m_593 : Cond.selects "AlgolJudge$Tokens" ⟨"AlgolJudge$Tokens", "advance", "()V"⟩ ⟨"AlgolJudge$Tokens", "advance", "()V"⟩ ∈ gT := gT_i (tb_2 _ (List.mem_of_getElem? (i := 234) (by decide +kernel))) rfl
theorem m_594 : Cond.code ⟨"AlgolJudge$Tokens", "advance", "()V"⟩ prog_8_method_22_code 1 (none) ∈ gT := gT_i (tb_2 _ (List.mem_of_getElem? (i := 235) rfl)) rfl
theorem m_595 : Cond.methodLink "AlgolJudge$Blocks" 55 ⟨"AlgolJudge$Scopes", "openBlock", "()V"⟩ ∈ gT := gT_i (tb_2 _ (List.mem_of_getElem? (i := 236) (by decide +kernel))) rfl
theorem m_596 : Cond.instanceMethod ⟨"AlgolJudge$Scopes", "openBlock", "()V"⟩ ∈ gT := gT_i (tb_2 _ (List.mem_of_getElem? (i := 237) (by decide +kernel))) rfl
theorem m_597 : Cond.selects "AlgolJudge$Scopes" ⟨"AlgolJudge$Scopes", "openBlock", "()V"⟩ ⟨"AlgolJudge$Scopes", "openBlock", "()V"⟩ ∈ gT := gT_i (tb_2 _ (List.mem_of_getElem? (i := 238) (by decide +kernel))) rfl
theorem m_598 : Cond.code ⟨"AlgolJudge$Scopes", "openBlock", "()V"⟩ prog_6_method_12_code 1 (none) ∈ gT := gT_i (tb_2 _ (List.mem_of_getElem? (i := 239) rfl)) rfl
theorem m_599 : Cond.methodLink "AlgolJudge$Scopes" 69 ⟨"AlgolJudge$Scopes", "procedure", "(I)I"⟩ ∈ gT := gT_i (tb_3 _ (List.mem_of_getElem? (i := 0) (by decide +kernel))) rfl
theorem m_600 : Cond.instanceMethod ⟨"AlgolJudge$Scopes", "procedure", "(I)I"⟩ ∈ gT := gT_i (tb_3 _ (List.mem_of_getElem? (i := 1) (by decide +kernel))) rfl
theorem m_601 : Cond.selects "AlgolJudge$Scopes" ⟨"AlgolJudge$Scopes", "procedure", "(I)I"⟩ ⟨"AlgolJudge$Scopes", "procedure", "(I)I"⟩ ∈ gT := gT_i (tb_3 _ (List.mem_of_getElem? (i := 2) (by decide +kernel))) rfl
theorem m_602 : Cond.code ⟨"AlgolJudge$Scopes", "procedure", "(I)I"⟩ prog_6_method_9_code 2 (some .int) ∈ gT := gT_i (tb_3 _ (List.mem_of_getElem? (i := 3) rfl)) rfl
theorem m_603 : Cond.methodLink "AlgolJudge$Scopes" 76 ⟨"AlgolJudge$Scopes", "open", "(I)V"⟩ ∈ gT := gT_i (tb_3 _ (List.mem_of_getElem? (i := 4) (by decide +kernel))) rfl
theorem m_605 : Cond.instanceMethod ⟨"AlgolJudge$Scopes", "open", "(I)V"⟩ ∈ gT := gT_i (tb_3 _ (List.mem_of_getElem? (i := 6) (by decide +kernel))) rfl
theorem m_606 : Cond.code ⟨"AlgolJudge$Scopes", "open", "(I)V"⟩ prog_6_method_14_code 2 (none) ∈ gT := gT_i (tb_3 _ (List.mem_of_getElem? (i := 7) rfl)) rfl
theorem m_607 : Cond.methodLink "AlgolJudge$Scopes" 84 ⟨"AlgolJudge$Tokens", "fail", "()V"⟩ ∈ gT := gT_i (tb_3 _ (List.mem_of_getElem? (i := 8) (by decide +kernel))) rfl
theorem m_608 : Cond.methodLink "AlgolJudge$Blocks" 60 ⟨"AlgolJudge$Blocks", "seesDeclaration", "()Z"⟩ ∈ gT := gT_i (tb_3 _ (List.mem_of_getElem? (i := 9) (by decide +kernel))) rfl
theorem m_610 : Cond.instanceMethod ⟨"AlgolJudge$Blocks", "seesDeclaration", "()Z"⟩ ∈ gT := gT_i (tb_3 _ (List.mem_of_getElem? (i := 11) (by decide +kernel))) rfl
theorem m_611 : Cond.code ⟨"AlgolJudge$Blocks", "seesDeclaration", "()Z"⟩ prog_2_method_4_code 1 (some .boolean) ∈ gT := gT_i (tb_3 _ (List.mem_of_getElem? (i := 12) rfl)) rfl
theorem m_612 : Cond.methodLink "AlgolJudge$Blocks" 82 ⟨"AlgolJudge$Blocks", "seesType", "()Z"⟩ ∈ gT := gT_i (tb_3 _ (List.mem_of_getElem? (i := 13) (by decide +kernel))) rfl
theorem m_614 : Cond.instanceMethod ⟨"AlgolJudge$Blocks", "seesType", "()Z"⟩ ∈ gT := gT_i (tb_3 _ (List.mem_of_getElem? (i := 15) (by decide +kernel))) rfl
theorem m_615 : Cond.code ⟨"AlgolJudge$Blocks", "seesType", "()Z"⟩ prog_2_method_5_code 1 (some .boolean) ∈ gT := gT_i (tb_3 _ (List.mem_of_getElem? (i := 16) rfl)) rfl
theorem m_616 : Cond.methodLink "AlgolJudge$Blocks" 44 ⟨"AlgolJudge$Tokens", "sees", "(I)Z"⟩ ∈ gT := gT_i (tb_3 _ (List.mem_of_getElem? (i := 17) (by decide +kernel))) rfl
theorem m_617 : Cond.instanceMethod ⟨"AlgolJudge$Tokens", "sees", "(I)Z"⟩ ∈ gT := gT_i (tb_3 _ (List.mem_of_getElem? (i := 18) (by decide +kernel))) rfl
theorem m_618 : Cond.selects "AlgolJudge$Tokens" ⟨"AlgolJudge$Tokens", "sees", "(I)Z"⟩ ⟨"AlgolJudge$Tokens", "sees", "(I)Z"⟩ ∈ gT := gT_i (tb_3 _ (List.mem_of_getElem? (i := 19) (by decide +kernel))) rfl
theorem m_619 : Cond.code ⟨"AlgolJudge$Tokens", "sees", "(I)Z"⟩ prog_8_method_21_code 2 (some .boolean) ∈ gT := gT_i (tb_3 _ (List.mem_of_getElem? (i := 20) rfl)) rfl
theorem m_620 : Cond.methodLink "AlgolJudge$Blocks" 64 ⟨"AlgolJudge$Blocks", "declaration", "()V"⟩ ∈ gT := gT_i (tb_3 _ (List.mem_of_getElem? (i := 21) (by decide +kernel))) rfl
theorem m_622 : Cond.instanceMethod ⟨"AlgolJudge$Blocks", "declaration", "()V"⟩ ∈ gT := gT_i (tb_3 _ (List.mem_of_getElem? (i := 23) (by decide +kernel))) rfl
theorem m_623 : Cond.code ⟨"AlgolJudge$Blocks", "declaration", "()V"⟩ prog_2_method_6_code 1 (none) ∈ gT := gT_i (tb_3 _ (List.mem_of_getElem? (i := 24) rfl)) rfl
theorem m_624 : Cond.methodLink "AlgolJudge$Blocks" 85 ⟨"AlgolJudge$Blocks", "switchList", "()V"⟩ ∈ gT := gT_i (tb_3 _ (List.mem_of_getElem? (i := 25) (by decide +kernel))) rfl
theorem m_626 : Cond.instanceMethod ⟨"AlgolJudge$Blocks", "switchList", "()V"⟩ ∈ gT := gT_i (tb_3 _ (List.mem_of_getElem? (i := 27) (by decide +kernel))) rfl
theorem m_627 : Cond.code ⟨"AlgolJudge$Blocks", "switchList", "()V"⟩ prog_2_method_12_code 2 (none) ∈ gT := gT_i (tb_3 _ (List.mem_of_getElem? (i := 28) rfl)) rfl
theorem m_628 : Cond.methodLink "AlgolJudge$Blocks" 67 ⟨"AlgolJudge$Tokens", "take", "(I)V"⟩ ∈ gT := gT_i (tb_3 _ (List.mem_of_getElem? (i := 29) (by decide +kernel))) rfl
theorem m_629 : Cond.methodLink "AlgolJudge$Blocks" 112 ⟨"AlgolJudge$Scopes", "declare", "(II)I"⟩ ∈ gT := gT_i (tb_3 _ (List.mem_of_getElem? (i := 30) (by decide +kernel))) rfl
theorem m_630 : Cond.instanceMethod ⟨"AlgolJudge$Scopes", "declare", "(II)I"⟩ ∈ gT := gT_i (tb_3 _ (List.mem_of_getElem? (i := 31) (by decide +kernel))) rfl
theorem m_631 : Cond.selects "AlgolJudge$Scopes" ⟨"AlgolJudge$Scopes", "declare", "(II)I"⟩ ⟨"AlgolJudge$Scopes", "declare", "(II)I"⟩ ∈ gT := gT_i (tb_3 _ (List.mem_of_getElem? (i := 32) (by decide +kernel))) rfl
theorem m_632 : Cond.code ⟨"AlgolJudge$Scopes", "declare", "(II)I"⟩ prog_6_method_20_code 7 (some .int) ∈ gT := gT_i (tb_3 _ (List.mem_of_getElem? (i := 33) rfl)) rfl
theorem m_633 : Cond.methodLink "AlgolJudge$Scopes" 98 ⟨"AlgolJudge$Tokens", "key", "()J"⟩ ∈ gT := gT_i (tb_3 _ (List.mem_of_getElem? (i := 34) (by decide +kernel))) rfl
theorem m_634 : Cond.instanceMethod ⟨"AlgolJudge$Tokens", "key", "()J"⟩ ∈ gT := gT_i (tb_3 _ (List.mem_of_getElem? (i := 35) (by decide +kernel))) rfl
theorem m_635 : Cond.selects "AlgolJudge$Tokens" ⟨"AlgolJudge$Tokens", "key", "()J"⟩ ⟨"AlgolJudge$Tokens", "key", "()J"⟩ ∈ gT := gT_i (tb_3 _ (List.mem_of_getElem? (i := 36) (by decide +kernel))) rfl
theorem m_636 : Cond.code ⟨"AlgolJudge$Tokens", "key", "()J"⟩ prog_8_method_20_code 1 (some .long) ∈ gT := gT_i (tb_3 _ (List.mem_of_getElem? (i := 37) rfl)) rfl
theorem m_637 : Cond.methodLink "AlgolJudge$Scopes" 102 ⟨"AlgolJudge$Tokens", "place", "()I"⟩ ∈ gT := gT_i (tb_3 _ (List.mem_of_getElem? (i := 38) (by decide +kernel))) rfl
theorem m_638 : Cond.instanceMethod ⟨"AlgolJudge$Tokens", "place", "()I"⟩ ∈ gT := gT_i (tb_3 _ (List.mem_of_getElem? (i := 39) (by decide +kernel))) rfl
theorem m_639 : Cond.selects "AlgolJudge$Tokens" ⟨"AlgolJudge$Tokens", "place", "()I"⟩ ⟨"AlgolJudge$Tokens", "place", "()I"⟩ ∈ gT := gT_i (tb_3 _ (List.mem_of_getElem? (i := 40) (by decide +kernel))) rfl
theorem m_640 : Cond.code ⟨"AlgolJudge$Tokens", "place", "()I"⟩ prog_8_method_19_code 1 (some .int) ∈ gT := gT_i (tb_3 _ (List.mem_of_getElem? (i := 41) rfl)) rfl
theorem m_641 : Cond.methodLink "AlgolJudge$Scopes" 106 ⟨"AlgolJudge$Tokens", "take", "(I)V"⟩ ∈ gT := gT_i (tb_3 _ (List.mem_of_getElem? (i := 42) (by decide +kernel))) rfl
theorem m_642 : Cond.methodLink "AlgolJudge$Scopes" 109 ⟨"AlgolJudge$Tokens", "fault", "()I"⟩ ∈ gT := gT_i (tb_3 _ (List.mem_of_getElem? (i := 43) (by decide +kernel))) rfl
theorem m_643 : Cond.instanceMethod ⟨"AlgolJudge$Tokens", "fault", "()I"⟩ ∈ gT := gT_i (tb_3 _ (List.mem_of_getElem? (i := 44) (by decide +kernel))) rfl
theorem m_644 : Cond.selects "AlgolJudge$Tokens" ⟨"AlgolJudge$Tokens", "fault", "()I"⟩ ⟨"AlgolJudge$Tokens", "fault", "()I"⟩ ∈ gT := gT_i (tb_3 _ (List.mem_of_getElem? (i := 45) (by decide +kernel))) rfl
theorem m_645 : Cond.code ⟨"AlgolJudge$Tokens", "fault", "()I"⟩ prog_8_method_16_code 1 (some .int) ∈ gT := gT_i (tb_3 _ (List.mem_of_getElem? (i := 46) rfl)) rfl
theorem m_646 : Cond.methodLink "AlgolJudge$Scopes" 112 ⟨"AlgolJudge$Table", "find", "(IJ)I"⟩ ∈ gT := gT_i (tb_3 _ (List.mem_of_getElem? (i := 47) (by decide +kernel))) rfl
theorem m_647 : Cond.instanceMethod ⟨"AlgolJudge$Table", "find", "(IJ)I"⟩ ∈ gT := gT_i (tb_3 _ (List.mem_of_getElem? (i := 48) (by decide +kernel))) rfl
theorem m_648 : Cond.selects "AlgolJudge$Table" ⟨"AlgolJudge$Table", "find", "(IJ)I"⟩ ⟨"AlgolJudge$Table", "find", "(IJ)I"⟩ ∈ gT := gT_i (tb_3 _ (List.mem_of_getElem? (i := 49) (by decide +kernel))) rfl
theorem m_649 : Cond.code ⟨"AlgolJudge$Table", "find", "(IJ)I"⟩ prog_7_method_11_code 6 (some .int) ∈ gT := gT_i (tb_3 _ (List.mem_of_getElem? (i := 50) rfl)) rfl
theorem m_650 : Cond.methodLink "AlgolJudge$Scopes" 116 ⟨"AlgolJudge$Scopes", "noteWrong", "(I)V"⟩ ∈ gT := gT_i (tb_3 _ (List.mem_of_getElem? (i := 51) (by decide +kernel))) rfl
theorem m_652 : Cond.instanceMethod ⟨"AlgolJudge$Scopes", "noteWrong", "(I)V"⟩ ∈ gT := gT_i (tb_3 _ (List.mem_of_getElem? (i := 53) (by decide +kernel))) rfl
theorem m_653 : Cond.code ⟨"AlgolJudge$Scopes", "noteWrong", "(I)V"⟩ prog_6_method_18_code 2 (none) ∈ gT := gT_i (tb_3 _ (List.mem_of_getElem? (i := 54) rfl)) rfl
theorem m_654 : Cond.methodLink "AlgolJudge$Scopes" 92 ⟨"java/lang/Math", "min", "(II)I"⟩ ∈ gT := gT_i (tb_3 _ (List.mem_of_getElem? (i := 55) (by decide +kernel))) rfl
theorem m_655 : Cond.methodLink "AlgolJudge$Scopes" 119 ⟨"AlgolJudge$Table", "add", "(JIIII)I"⟩ ∈ gT := gT_i (tb_3 _ (List.mem_of_getElem? (i := 56) (by decide +kernel))) rfl
theorem m_656 : Cond.instanceMethod ⟨"AlgolJudge$Table", "add", "(JIIII)I"⟩ ∈ gT := gT_i (tb_3 _ (List.mem_of_getElem? (i := 57) (by decide +kernel))) rfl
theorem m_657 : Cond.selects "AlgolJudge$Table" ⟨"AlgolJudge$Table", "add", "(JIIII)I"⟩ ⟨"AlgolJudge$Table", "add", "(JIIII)I"⟩ ∈ gT := gT_i (tb_3 _ (List.mem_of_getElem? (i := 58) (by decide +kernel))) rfl
theorem m_658 : Cond.code ⟨"AlgolJudge$Table", "add", "(JIIII)I"⟩ prog_7_method_4_code 8 (some .int) ∈ gT := gT_i (tb_3 _ (List.mem_of_getElem? (i := 59) rfl)) rfl
theorem m_659 : Cond.methodLink "AlgolJudge$Scopes" 123 ⟨"AlgolJudge$Table", "chain", "(II)V"⟩ ∈ gT := gT_i (tb_3 _ (List.mem_of_getElem? (i := 60) (by decide +kernel))) rfl
theorem m_660 : Cond.instanceMethod ⟨"AlgolJudge$Table", "chain", "(II)V"⟩ ∈ gT := gT_i (tb_3 _ (List.mem_of_getElem? (i := 61) (by decide +kernel))) rfl
theorem m_661 : Cond.selects "AlgolJudge$Table" ⟨"AlgolJudge$Table", "chain", "(II)V"⟩ ⟨"AlgolJudge$Table", "chain", "(II)V"⟩ ∈ gT := gT_i (tb_3 _ (List.mem_of_getElem? (i := 62) (by decide +kernel))) rfl
theorem m_662 : Cond.code ⟨"AlgolJudge$Table", "chain", "(II)V"⟩ prog_7_method_5_code 3 (none) ∈ gT := gT_i (tb_3 _ (List.mem_of_getElem? (i := 63) rfl)) rfl
theorem m_663 : Cond.methodLink "AlgolJudge$Blocks" 73 ⟨"AlgolJudge$Tokens", "accept", "(I)Z"⟩ ∈ gT := gT_i (tb_3 _ (List.mem_of_getElem? (i := 64) (by decide +kernel))) rfl
theorem m_664 : Cond.instanceMethod ⟨"AlgolJudge$Tokens", "accept", "(I)Z"⟩ ∈ gT := gT_i (tb_3 _ (List.mem_of_getElem? (i := 65) (by decide +kernel))) rfl
theorem m_665 : Cond.selects "AlgolJudge$Tokens" ⟨"AlgolJudge$Tokens", "accept", "(I)Z"⟩ ⟨"AlgolJudge$Tokens", "accept", "(I)Z"⟩ ∈ gT := gT_i (tb_3 _ (List.mem_of_getElem? (i := 66) (by decide +kernel))) rfl
theorem m_666 : Cond.code ⟨"AlgolJudge$Tokens", "accept", "(I)Z"⟩ prog_8_method_23_code 2 (some .boolean) ∈ gT := gT_i (tb_3 _ (List.mem_of_getElem? (i := 67) rfl)) rfl
theorem m_667 : Cond.methodLink "AlgolJudge$Blocks" 48 ⟨"AlgolJudge$Tokens", "fail", "()V"⟩ ∈ gT := gT_i (tb_3 _ (List.mem_of_getElem? (i := 68) (by decide +kernel))) rfl
theorem m_668 : Cond.methodLink "AlgolJudge$Blocks" 129 ⟨"AlgolJudge$Blocks", "labelUse", "()V"⟩ ∈ gT := gT_i (tb_3 _ (List.mem_of_getElem? (i := 69) (by decide +kernel))) rfl
theorem m_670 : Cond.instanceMethod ⟨"AlgolJudge$Blocks", "labelUse", "()V"⟩ ∈ gT := gT_i (tb_3 _ (List.mem_of_getElem? (i := 71) (by decide +kernel))) rfl
theorem m_671 : Cond.code ⟨"AlgolJudge$Blocks", "labelUse", "()V"⟩ prog_2_method_13_code 2 (none) ∈ gT := gT_i (tb_3 _ (List.mem_of_getElem? (i := 72) rfl)) rfl
theorem m_672 : Cond.methodLink "AlgolJudge$Blocks" 132 ⟨"AlgolJudge$Tokens", "place", "()I"⟩ ∈ gT := gT_i (tb_3 _ (List.mem_of_getElem? (i := 73) (by decide +kernel))) rfl
theorem m_673 : Cond.methodLink "AlgolJudge$Blocks" 135 ⟨"AlgolJudge$Scopes", "use", "()I"⟩ ∈ gT := gT_i (tb_3 _ (List.mem_of_getElem? (i := 74) (by decide +kernel))) rfl
theorem m_674 : Cond.instanceMethod ⟨"AlgolJudge$Scopes", "use", "()I"⟩ ∈ gT := gT_i (tb_3 _ (List.mem_of_getElem? (i := 75) (by decide +kernel))) rfl
theorem m_675 : Cond.selects "AlgolJudge$Scopes" ⟨"AlgolJudge$Scopes", "use", "()I"⟩ ⟨"AlgolJudge$Scopes", "use", "()I"⟩ ∈ gT := gT_i (tb_3 _ (List.mem_of_getElem? (i := 76) (by decide +kernel))) rfl
theorem m_676 : Cond.code ⟨"AlgolJudge$Scopes", "use", "()I"⟩ prog_6_method_21_code 5 (some .int) ∈ gT := gT_i (tb_3 _ (List.mem_of_getElem? (i := 77) rfl)) rfl
theorem m_677 : Cond.methodLink "AlgolJudge$Scopes" 126 ⟨"AlgolJudge$Scopes", "find", "(J)I"⟩ ∈ gT := gT_i (tb_3 _ (List.mem_of_getElem? (i := 78) (by decide +kernel))) rfl
theorem m_679 : Cond.instanceMethod ⟨"AlgolJudge$Scopes", "find", "(J)I"⟩ ∈ gT := gT_i (tb_3 _ (List.mem_of_getElem? (i := 80) (by decide +kernel))) rfl
theorem m_680 : Cond.code ⟨"AlgolJudge$Scopes", "find", "(J)I"⟩ prog_6_method_22_code 6 (some .int) ∈ gT := gT_i (tb_3 _ (List.mem_of_getElem? (i := 81) rfl)) rfl
theorem m_681 : Cond.methodLink "AlgolJudge$Blocks" 138 ⟨"AlgolJudge$Rules", "label", "(II)V"⟩ ∈ gT := gT_i (tb_3 _ (List.mem_of_getElem? (i := 82) (by decide +kernel))) rfl
theorem m_682 : Cond.instanceMethod ⟨"AlgolJudge$Rules", "label", "(II)V"⟩ ∈ gT := gT_i (tb_3 _ (List.mem_of_getElem? (i := 83) (by decide +kernel))) rfl
theorem m_683 : Cond.selects "AlgolJudge$Rules" ⟨"AlgolJudge$Rules", "label", "(II)V"⟩ ⟨"AlgolJudge$Rules", "label", "(II)V"⟩ ∈ gT := gT_i (tb_3 _ (List.mem_of_getElem? (i := 84) (by decide +kernel))) rfl
theorem m_684 : Cond.code ⟨"AlgolJudge$Rules", "label", "(II)V"⟩ prog_5_method_8_code 3 (none) ∈ gT := gT_i (tb_3 _ (List.mem_of_getElem? (i := 85) rfl)) rfl
theorem m_685 : Cond.methodLink "AlgolJudge$Rules" 58 ⟨"AlgolJudge$Table", "isLabel", "(I)Z"⟩ ∈ gT := gT_i (tb_3 _ (List.mem_of_getElem? (i := 86) (by decide +kernel))) rfl
theorem m_686 : Cond.instanceMethod ⟨"AlgolJudge$Table", "isLabel", "(I)Z"⟩ ∈ gT := gT_i (tb_3 _ (List.mem_of_getElem? (i := 87) (by decide +kernel))) rfl
theorem m_687 : Cond.selects "AlgolJudge$Table" ⟨"AlgolJudge$Table", "isLabel", "(I)Z"⟩ ⟨"AlgolJudge$Table", "isLabel", "(I)Z"⟩ ∈ gT := gT_i (tb_3 _ (List.mem_of_getElem? (i := 88) (by decide +kernel))) rfl
theorem m_688 : Cond.code ⟨"AlgolJudge$Table", "isLabel", "(I)Z"⟩ prog_7_method_23_code 3 (some .boolean) ∈ gT := gT_i (tb_3 _ (List.mem_of_getElem? (i := 89) rfl)) rfl
theorem m_689 : Cond.methodLink "AlgolJudge$Table" 48 ⟨"AlgolJudge$Table", "kind", "(I)I"⟩ ∈ gT := gT_i (tb_3 _ (List.mem_of_getElem? (i := 90) (by decide +kernel))) rfl
theorem m_690 : Cond.instanceMethod ⟨"AlgolJudge$Table", "kind", "(I)I"⟩ ∈ gT := gT_i (tb_3 _ (List.mem_of_getElem? (i := 91) (by decide +kernel))) rfl
