theorem m_345 : Cond.instantiable "AlgolJudge$Expressions" 3 ∈ gT := gT_i (tb_1 _ (List.mem_of_getElem? (i := 226) (by decide +kernel))) rfl
theorem m_346 : Cond.methodLink "AlgolJudge$Blocks" 25 ⟨"AlgolJudge$Expressions", "<init>", "(LAlgolJudge$Tokens;LAlgolJudge$Scopes;LAlgolJudge$Rules;)V"⟩ ∈ gT := gT_i (tb_1 _ (List.mem_of_getElem? (i := 227) (by decide +kernel))) rfl
theorem m_347 : Cond.instanceMethod ⟨"AlgolJudge$Expressions", "<init>", "(LAlgolJudge$Tokens;LAlgolJudge$Scopes;LAlgolJudge$Rules;)V"⟩ ∈ gT := gT_i (tb_1 _ (List.mem_of_getElem? (i := 228) (by decide +kernel))) rfl
theorem m_348 : Cond.code ⟨"AlgolJudge$Expressions", "<init>", "(LAlgolJudge$Tokens;LAlgolJudge$Scopes;LAlgolJudge$Rules;)V"⟩ prog_4_method_1_code 4 (none) ∈ gT := gT_i (tb_1 _ (List.mem_of_getElem? (i := 229) rfl)) rfl
theorem m_349 : Cond.methodLink "AlgolJudge$Expressions" 3 ⟨"java/lang/Object", "<init>", "()V"⟩ ∈ gT := gT_i (tb_1 _ (List.mem_of_getElem? (i := 230) (by decide +kernel))) rfl
theorem m_350 : Cond.fieldLink "AlgolJudge$Expressions" 9 "AlgolJudge$Expressions" "tokens" "LAlgolJudge$Tokens;" ∈ gT := gT_i (tb_1 _ (List.mem_of_getElem? (i := 231) (by decide +kernel))) rfl
theorem m_351 : Cond.fieldLink "AlgolJudge$Expressions" 15 "AlgolJudge$Expressions" "scopes" "LAlgolJudge$Scopes;" ∈ gT := gT_i (tb_1 _ (List.mem_of_getElem? (i := 232) (by decide +kernel))) rfl
theorem m_352 : Cond.fieldLink "AlgolJudge$Expressions" 19 "AlgolJudge$Expressions" "rules" "LAlgolJudge$Rules;" ∈ gT := gT_i (tb_1 _ (List.mem_of_getElem? (i := 233) (by decide +kernel))) rfl
theorem m_353 : Cond.laysFinal "AlgolJudge$Expressions" "AlgolJudge$Expressions" "tokens" "LAlgolJudge$Tokens;" ∈ gT := gT_i (tb_1 _ (List.mem_of_getElem? (i := 234) (by decide +kernel))) rfl
theorem m_355 : Cond.laysFinal "AlgolJudge$Expressions" "AlgolJudge$Expressions" "scopes" "LAlgolJudge$Scopes;" ∈ gT := gT_i (tb_1 _ (List.mem_of_getElem? (i := 236) (by decide +kernel))) rfl
theorem m_357 : Cond.laysFinal "AlgolJudge$Expressions" "AlgolJudge$Expressions" "rules" "LAlgolJudge$Rules;" ∈ gT := gT_i (tb_1 _ (List.mem_of_getElem? (i := 238) (by decide +kernel))) rfl
theorem m_360 : Cond.fieldLink "AlgolJudge$Blocks" 9 "AlgolJudge$Blocks" "tokens" "LAlgolJudge$Tokens;" ∈ gT := gT_i (tb_2 _ (List.mem_of_getElem? (i := 1) (by decide +kernel))) rfl
theorem m_361 : Cond.fieldLink "AlgolJudge$Blocks" 15 "AlgolJudge$Blocks" "scopes" "LAlgolJudge$Scopes;" ∈ gT := gT_i (tb_2 _ (List.mem_of_getElem? (i := 2) (by decide +kernel))) rfl
theorem m_362 : Cond.fieldLink "AlgolJudge$Blocks" 19 "AlgolJudge$Blocks" "rules" "LAlgolJudge$Rules;" ∈ gT := gT_i (tb_2 _ (List.mem_of_getElem? (i := 3) (by decide +kernel))) rfl
theorem m_363 : Cond.fieldLink "AlgolJudge$Blocks" 28 "AlgolJudge$Blocks" "expressions" "LAlgolJudge$Expressions;" ∈ gT := gT_i (tb_2 _ (List.mem_of_getElem? (i := 4) (by decide +kernel))) rfl
theorem m_364 : Cond.fieldLink "AlgolJudge$Blocks" 32 "AlgolJudge$Blocks" "stored" "I" ∈ gT := gT_i (tb_2 _ (List.mem_of_getElem? (i := 5) (by decide +kernel))) rfl
theorem m_365 : Cond.laysFinal "AlgolJudge$Blocks" "AlgolJudge$Blocks" "tokens" "LAlgolJudge$Tokens;" ∈ gT := gT_i (tb_2 _ (List.mem_of_getElem? (i := 6) (by decide +kernel))) rfl
theorem m_367 : Cond.laysFinal "AlgolJudge$Blocks" "AlgolJudge$Blocks" "scopes" "LAlgolJudge$Scopes;" ∈ gT := gT_i (tb_2 _ (List.mem_of_getElem? (i := 8) (by decide +kernel))) rfl
theorem m_369 : Cond.laysFinal "AlgolJudge$Blocks" "AlgolJudge$Blocks" "rules" "LAlgolJudge$Rules;" ∈ gT := gT_i (tb_2 _ (List.mem_of_getElem? (i := 10) (by decide +kernel))) rfl
theorem m_371 : Cond.laysFinal "AlgolJudge$Blocks" "AlgolJudge$Blocks" "expressions" "LAlgolJudge$Expressions;" ∈ gT := gT_i (tb_2 _ (List.mem_of_getElem? (i := 12) (by decide +kernel))) rfl
theorem m_373 : Cond.lays "AlgolJudge$Blocks" "AlgolJudge$Blocks" "stored" "I" ∈ gT := gT_i (tb_2 _ (List.mem_of_getElem? (i := 14) (by decide +kernel))) rfl
theorem m_376 : Cond.classLink "AlgolJudge" 50 "AlgolJudge$Book" ∈ gT := gT_i (tb_2 _ (List.mem_of_getElem? (i := 17) (by decide +kernel))) rfl
theorem m_377 : Cond.instantiable "AlgolJudge$Book" 9 ∈ gT := gT_i (tb_2 _ (List.mem_of_getElem? (i := 18) (by decide +kernel))) rfl
theorem m_378 : Cond.methodLink "AlgolJudge" 52 ⟨"AlgolJudge$Book", "<init>", "()V"⟩ ∈ gT := gT_i (tb_2 _ (List.mem_of_getElem? (i := 19) (by decide +kernel))) rfl
theorem m_379 : Cond.instanceMethod ⟨"AlgolJudge$Book", "<init>", "()V"⟩ ∈ gT := gT_i (tb_2 _ (List.mem_of_getElem? (i := 20) (by decide +kernel))) rfl
theorem m_380 : Cond.code ⟨"AlgolJudge$Book", "<init>", "()V"⟩ prog_3_method_1_code 1 (none) ∈ gT := gT_i (tb_2 _ (List.mem_of_getElem? (i := 21) rfl)) rfl
theorem m_381 : Cond.methodLink "AlgolJudge$Book" 3 ⟨"java/lang/Object", "<init>", "()V"⟩ ∈ gT := gT_i (tb_2 _ (List.mem_of_getElem? (i := 22) (by decide +kernel))) rfl
theorem m_382 : Cond.fieldLink "AlgolJudge$Book" 9 "AlgolJudge$Book" "kinds" "[I" ∈ gT := gT_i (tb_2 _ (List.mem_of_getElem? (i := 23) (by decide +kernel))) rfl
theorem m_383 : Cond.fieldLink "AlgolJudge$Book" 15 "AlgolJudge$Book" "types" "[I" ∈ gT := gT_i (tb_2 _ (List.mem_of_getElem? (i := 24) (by decide +kernel))) rfl
theorem m_384 : Cond.fieldLink "AlgolJudge$Book" 18 "AlgolJudge$Book" "counts" "[I" ∈ gT := gT_i (tb_2 _ (List.mem_of_getElem? (i := 25) (by decide +kernel))) rfl
theorem m_385 : Cond.fieldLink "AlgolJudge$Book" 21 "AlgolJudge$Book" "marks" "[I" ∈ gT := gT_i (tb_2 _ (List.mem_of_getElem? (i := 26) (by decide +kernel))) rfl
theorem m_386 : Cond.fieldLink "AlgolJudge$Book" 24 "AlgolJudge$Book" "owners" "[I" ∈ gT := gT_i (tb_2 _ (List.mem_of_getElem? (i := 27) (by decide +kernel))) rfl
theorem m_387 : Cond.fieldLink "AlgolJudge$Book" 27 "AlgolJudge$Book" "meanings" "[I" ∈ gT := gT_i (tb_2 _ (List.mem_of_getElem? (i := 28) (by decide +kernel))) rfl
theorem m_388 : Cond.fieldLink "AlgolJudge$Book" 30 "AlgolJudge$Book" "numbers" "[I" ∈ gT := gT_i (tb_2 _ (List.mem_of_getElem? (i := 29) (by decide +kernel))) rfl
theorem m_389 : Cond.fieldLink "AlgolJudge$Book" 33 "AlgolJudge$Book" "written" "Z" ∈ gT := gT_i (tb_2 _ (List.mem_of_getElem? (i := 30) (by decide +kernel))) rfl
theorem m_390 : Cond.fieldLink "AlgolJudge$Book" 37 "AlgolJudge$Book" "size" "I" ∈ gT := gT_i (tb_2 _ (List.mem_of_getElem? (i := 31) (by decide +kernel))) rfl
theorem m_391 : Cond.laysFinal "AlgolJudge$Book" "AlgolJudge$Book" "kinds" "[I" ∈ gT := gT_i (tb_2 _ (List.mem_of_getElem? (i := 32) (by decide +kernel))) rfl
theorem m_393 : Cond.laysFinal "AlgolJudge$Book" "AlgolJudge$Book" "types" "[I" ∈ gT := gT_i (tb_2 _ (List.mem_of_getElem? (i := 34) (by decide +kernel))) rfl
theorem m_395 : Cond.laysFinal "AlgolJudge$Book" "AlgolJudge$Book" "counts" "[I" ∈ gT := gT_i (tb_2 _ (List.mem_of_getElem? (i := 36) (by decide +kernel))) rfl
theorem m_397 : Cond.laysFinal "AlgolJudge$Book" "AlgolJudge$Book" "marks" "[I" ∈ gT := gT_i (tb_2 _ (List.mem_of_getElem? (i := 38) (by decide +kernel))) rfl
theorem m_399 : Cond.laysFinal "AlgolJudge$Book" "AlgolJudge$Book" "owners" "[I" ∈ gT := gT_i (tb_2 _ (List.mem_of_getElem? (i := 40) (by decide +kernel))) rfl
theorem m_401 : Cond.laysFinal "AlgolJudge$Book" "AlgolJudge$Book" "meanings" "[I" ∈ gT := gT_i (tb_2 _ (List.mem_of_getElem? (i := 42) (by decide +kernel))) rfl
theorem m_403 : Cond.laysFinal "AlgolJudge$Book" "AlgolJudge$Book" "numbers" "[I" ∈ gT := gT_i (tb_2 _ (List.mem_of_getElem? (i := 44) (by decide +kernel))) rfl
theorem m_405 : Cond.lays "AlgolJudge$Book" "AlgolJudge$Book" "written" "Z" ∈ gT := gT_i (tb_2 _ (List.mem_of_getElem? (i := 46) (by decide +kernel))) rfl
theorem m_407 : Cond.lays "AlgolJudge$Book" "AlgolJudge$Book" "size" "I" ∈ gT := gT_i (tb_2 _ (List.mem_of_getElem? (i := 48) (by decide +kernel))) rfl
theorem m_410 : Cond.fieldLink "AlgolJudge" 20 "AlgolJudge" "tape" "[B" ∈ gT := gT_i (tb_2 _ (List.mem_of_getElem? (i := 51) (by decide +kernel))) rfl
theorem m_411 : Cond.fieldLink "AlgolJudge" 24 "AlgolJudge" "tokens" "LAlgolJudge$Tokens;" ∈ gT := gT_i (tb_2 _ (List.mem_of_getElem? (i := 52) (by decide +kernel))) rfl
theorem m_412 : Cond.fieldLink "AlgolJudge" 28 "AlgolJudge" "table" "LAlgolJudge$Table;" ∈ gT := gT_i (tb_2 _ (List.mem_of_getElem? (i := 53) (by decide +kernel))) rfl
theorem m_413 : Cond.fieldLink "AlgolJudge" 32 "AlgolJudge" "scopes" "LAlgolJudge$Scopes;" ∈ gT := gT_i (tb_2 _ (List.mem_of_getElem? (i := 54) (by decide +kernel))) rfl
theorem m_414 : Cond.fieldLink "AlgolJudge" 46 "AlgolJudge" "blocks" "LAlgolJudge$Blocks;" ∈ gT := gT_i (tb_2 _ (List.mem_of_getElem? (i := 55) (by decide +kernel))) rfl
theorem m_415 : Cond.fieldLink "AlgolJudge" 53 "AlgolJudge" "book" "LAlgolJudge$Book;" ∈ gT := gT_i (tb_2 _ (List.mem_of_getElem? (i := 56) (by decide +kernel))) rfl
theorem m_416 : Cond.fieldLink "AlgolJudge" 57 "AlgolJudge" "length" "I" ∈ gT := gT_i (tb_2 _ (List.mem_of_getElem? (i := 57) (by decide +kernel))) rfl
theorem m_417 : Cond.laysFinal "AlgolJudge" "AlgolJudge" "tape" "[B" ∈ gT := gT_i (tb_2 _ (List.mem_of_getElem? (i := 58) (by decide +kernel))) rfl
theorem m_419 : Cond.laysFinal "AlgolJudge" "AlgolJudge" "tokens" "LAlgolJudge$Tokens;" ∈ gT := gT_i (tb_2 _ (List.mem_of_getElem? (i := 60) (by decide +kernel))) rfl
theorem m_421 : Cond.laysFinal "AlgolJudge" "AlgolJudge" "table" "LAlgolJudge$Table;" ∈ gT := gT_i (tb_2 _ (List.mem_of_getElem? (i := 62) (by decide +kernel))) rfl
theorem m_423 : Cond.laysFinal "AlgolJudge" "AlgolJudge" "scopes" "LAlgolJudge$Scopes;" ∈ gT := gT_i (tb_2 _ (List.mem_of_getElem? (i := 64) (by decide +kernel))) rfl
theorem m_425 : Cond.laysFinal "AlgolJudge" "AlgolJudge" "blocks" "LAlgolJudge$Blocks;" ∈ gT := gT_i (tb_2 _ (List.mem_of_getElem? (i := 66) (by decide +kernel))) rfl
theorem m_427 : Cond.laysFinal "AlgolJudge" "AlgolJudge" "book" "LAlgolJudge$Book;" ∈ gT := gT_i (tb_2 _ (List.mem_of_getElem? (i := 68) (by decide +kernel))) rfl
theorem m_429 : Cond.lays "AlgolJudge" "AlgolJudge" "length" "I" ∈ gT := gT_i (tb_2 _ (List.mem_of_getElem? (i := 70) (by decide +kernel))) rfl
theorem m_432 : Cond.methodLink "AlgolJudgeLaw" 13 ⟨"AlgolJudge", "feed", "(IIIII)I"⟩ ∈ gT := gT_i (tb_2 _ (List.mem_of_getElem? (i := 73) (by decide +kernel))) rfl
theorem m_433 : Cond.instanceMethod ⟨"AlgolJudge", "feed", "(IIIII)I"⟩ ∈ gT := gT_i (tb_2 _ (List.mem_of_getElem? (i := 74) (by decide +kernel))) rfl
theorem m_434 : Cond.selects "AlgolJudge" ⟨"AlgolJudge", "feed", "(IIIII)I"⟩ ⟨"AlgolJudge", "feed", "(IIIII)I"⟩ ∈ gT := gT_i (tb_2 _ (List.mem_of_getElem? (i := 75) (by decide +kernel))) rfl
theorem m_435 : Cond.code ⟨"AlgolJudge", "feed", "(IIIII)I"⟩ prog_1_method_2_code 6 (some .int) ∈ gT := gT_i (tb_2 _ (List.mem_of_getElem? (i := 76) rfl)) rfl
theorem m_436 : Cond.methodLink "AlgolJudge" 61 ⟨"AlgolJudge", "append", "(I)V"⟩ ∈ gT := gT_i (tb_2 _ (List.mem_of_getElem? (i := 77) (by decide +kernel))) rfl
theorem m_438 : Cond.instanceMethod ⟨"AlgolJudge", "append", "(I)V"⟩ ∈ gT := gT_i (tb_2 _ (List.mem_of_getElem? (i := 79) (by decide +kernel))) rfl
theorem m_439 : Cond.code ⟨"AlgolJudge", "append", "(I)V"⟩ prog_1_method_8_code 3 (none) ∈ gT := gT_i (tb_2 _ (List.mem_of_getElem? (i := 80) rfl)) rfl
theorem m_440 : Cond.methodLink "AlgolJudgeLaw" 18 ⟨"AlgolJudge", "end", "(I)I"⟩ ∈ gT := gT_i (tb_2 _ (List.mem_of_getElem? (i := 81) (by decide +kernel))) rfl
theorem m_441 : Cond.instanceMethod ⟨"AlgolJudge", "end", "(I)I"⟩ ∈ gT := gT_i (tb_2 _ (List.mem_of_getElem? (i := 82) (by decide +kernel))) rfl
theorem m_442 : Cond.selects "AlgolJudge" ⟨"AlgolJudge", "end", "(I)I"⟩ ⟨"AlgolJudge", "end", "(I)I"⟩ ∈ gT := gT_i (tb_2 _ (List.mem_of_getElem? (i := 83) (by decide +kernel))) rfl
theorem m_443 : Cond.code ⟨"AlgolJudge", "end", "(I)I"⟩ prog_1_method_3_code 2 (some .int) ∈ gT := gT_i (tb_2 _ (List.mem_of_getElem? (i := 84) rfl)) rfl
theorem m_444 : Cond.methodLink "AlgolJudgeLaw" 23 ⟨"AlgolJudge", "judge", "()I"⟩ ∈ gT := gT_i (tb_2 _ (List.mem_of_getElem? (i := 85) (by decide +kernel))) rfl
theorem m_445 : Cond.instanceMethod ⟨"AlgolJudge", "judge", "()I"⟩ ∈ gT := gT_i (tb_2 _ (List.mem_of_getElem? (i := 86) (by decide +kernel))) rfl
theorem m_446 : Cond.selects "AlgolJudge" ⟨"AlgolJudge", "judge", "()I"⟩ ⟨"AlgolJudge", "judge", "()I"⟩ ∈ gT := gT_i (tb_2 _ (List.mem_of_getElem? (i := 87) (by decide +kernel))) rfl
theorem m_447 : Cond.code ⟨"AlgolJudge", "judge", "()I"⟩ prog_1_method_4_code 1 (some .int) ∈ gT := gT_i (tb_2 _ (List.mem_of_getElem? (i := 88) rfl)) rfl
theorem m_448 : Cond.methodLink "AlgolJudge" 65 ⟨"AlgolJudge$Tokens", "scan", "([BI)V"⟩ ∈ gT := gT_i (tb_2 _ (List.mem_of_getElem? (i := 89) (by decide +kernel))) rfl
theorem m_449 : Cond.instanceMethod ⟨"AlgolJudge$Tokens", "scan", "([BI)V"⟩ ∈ gT := gT_i (tb_2 _ (List.mem_of_getElem? (i := 90) (by decide +kernel))) rfl
theorem m_450 : Cond.selects "AlgolJudge$Tokens" ⟨"AlgolJudge$Tokens", "scan", "([BI)V"⟩ ⟨"AlgolJudge$Tokens", "scan", "([BI)V"⟩ ∈ gT := gT_i (tb_2 _ (List.mem_of_getElem? (i := 91) (by decide +kernel))) rfl
theorem m_451 : Cond.code ⟨"AlgolJudge$Tokens", "scan", "([BI)V"⟩ prog_8_method_3_code 5 (none) ∈ gT := gT_i (tb_2 _ (List.mem_of_getElem? (i := 92) rfl)) rfl
theorem m_452 : Cond.methodLink "AlgolJudge$Tokens" 57 ⟨"AlgolJudge$Tokens", "scanFrom", "([BII)I"⟩ ∈ gT := gT_i (tb_2 _ (List.mem_of_getElem? (i := 93) (by decide +kernel))) rfl
theorem m_454 : Cond.instanceMethod ⟨"AlgolJudge$Tokens", "scanFrom", "([BII)I"⟩ ∈ gT := gT_i (tb_2 _ (List.mem_of_getElem? (i := 95) (by decide +kernel))) rfl
theorem m_455 : Cond.code ⟨"AlgolJudge$Tokens", "scanFrom", "([BII)I"⟩ prog_8_method_4_code 5 (some .int) ∈ gT := gT_i (tb_2 _ (List.mem_of_getElem? (i := 96) rfl)) rfl
theorem m_456 : Cond.methodLink "AlgolJudge$Tokens" 72 ⟨"AlgolJudge$Tokens", "scanWord", "([BII)I"⟩ ∈ gT := gT_i (tb_2 _ (List.mem_of_getElem? (i := 97) (by decide +kernel))) rfl
theorem m_458 : Cond.instanceMethod ⟨"AlgolJudge$Tokens", "scanWord", "([BII)I"⟩ ∈ gT := gT_i (tb_2 _ (List.mem_of_getElem? (i := 99) (by decide +kernel))) rfl
theorem m_459 : Cond.code ⟨"AlgolJudge$Tokens", "scanWord", "([BII)I"⟩ prog_8_method_5_code 7 (some .int) ∈ gT := gT_i (tb_2 _ (List.mem_of_getElem? (i := 100) rfl)) rfl
theorem m_460 : Cond.methodLink "AlgolJudge$Tokens" 84 ⟨"AlgolJudge$Tokens", "isLetterOrDigit", "(I)Z"⟩ ∈ gT := gT_i (tb_2 _ (List.mem_of_getElem? (i := 101) (by decide +kernel))) rfl
theorem m_461 : Cond.static ⟨"AlgolJudge$Tokens", "isLetterOrDigit", "(I)Z"⟩ ∈ gT := gT_i (tb_2 _ (List.mem_of_getElem? (i := 102) (by decide +kernel))) rfl
theorem m_462 : Cond.code ⟨"AlgolJudge$Tokens", "isLetterOrDigit", "(I)Z"⟩ prog_8_method_12_code 1 (some .boolean) ∈ gT := gT_i (tb_2 _ (List.mem_of_getElem? (i := 103) rfl)) rfl
theorem m_463 : Cond.methodLink "AlgolJudge$Tokens" 75 ⟨"AlgolJudge$Tokens", "isDigit", "(I)Z"⟩ ∈ gT := gT_i (tb_2 _ (List.mem_of_getElem? (i := 104) (by decide +kernel))) rfl
theorem m_464 : Cond.static ⟨"AlgolJudge$Tokens", "isDigit", "(I)Z"⟩ ∈ gT := gT_i (tb_2 _ (List.mem_of_getElem? (i := 105) (by decide +kernel))) rfl
theorem m_465 : Cond.code ⟨"AlgolJudge$Tokens", "isDigit", "(I)Z"⟩ prog_8_method_11_code 1 (some .boolean) ∈ gT := gT_i (tb_2 _ (List.mem_of_getElem? (i := 106) rfl)) rfl
theorem m_466 : Cond.methodLink "AlgolJudge$Tokens" 87 ⟨"AlgolJudge$Tokens", "kindOfWord", "(JI)I"⟩ ∈ gT := gT_i (tb_2 _ (List.mem_of_getElem? (i := 107) (by decide +kernel))) rfl
theorem m_468 : Cond.instanceMethod ⟨"AlgolJudge$Tokens", "kindOfWord", "(JI)I"⟩ ∈ gT := gT_i (tb_2 _ (List.mem_of_getElem? (i := 109) (by decide +kernel))) rfl
theorem m_469 : Cond.code ⟨"AlgolJudge$Tokens", "kindOfWord", "(JI)I"⟩ prog_8_method_6_code 5 (some .int) ∈ gT := gT_i (tb_2 _ (List.mem_of_getElem? (i := 110) rfl)) rfl
theorem m_470 : Cond.methodLink "AlgolJudge$Tokens" 61 ⟨"AlgolJudge$Tokens", "add", "(IIJ)V"⟩ ∈ gT := gT_i (tb_2 _ (List.mem_of_getElem? (i := 111) (by decide +kernel))) rfl
theorem m_472 : Cond.instanceMethod ⟨"AlgolJudge$Tokens", "add", "(IIJ)V"⟩ ∈ gT := gT_i (tb_2 _ (List.mem_of_getElem? (i := 113) (by decide +kernel))) rfl
theorem m_473 : Cond.code ⟨"AlgolJudge$Tokens", "add", "(IIJ)V"⟩ prog_8_method_14_code 5 (none) ∈ gT := gT_i (tb_2 _ (List.mem_of_getElem? (i := 114) rfl)) rfl
theorem m_474 : Cond.methodLink "AlgolJudge$Tokens" 78 ⟨"AlgolJudge$Tokens", "scanNumber", "([BII)I"⟩ ∈ gT := gT_i (tb_2 _ (List.mem_of_getElem? (i := 115) (by decide +kernel))) rfl
theorem m_476 : Cond.instanceMethod ⟨"AlgolJudge$Tokens", "scanNumber", "([BII)I"⟩ ∈ gT := gT_i (tb_2 _ (List.mem_of_getElem? (i := 117) (by decide +kernel))) rfl
theorem m_477 : Cond.code ⟨"AlgolJudge$Tokens", "scanNumber", "([BII)I"⟩ prog_8_method_7_code 7 (some .int) ∈ gT := gT_i (tb_2 _ (List.mem_of_getElem? (i := 118) rfl)) rfl
theorem m_478 : Cond.constantLong "AlgolJudge$Tokens" 91 34359738367 ∈ gT := gT_i (tb_2 _ (List.mem_of_getElem? (i := 119) (by decide +kernel))) rfl
theorem m_479 : Cond.constantLong "AlgolJudge$Tokens" 93 10 ∈ gT := gT_i (tb_2 _ (List.mem_of_getElem? (i := 120) (by decide +kernel))) rfl
theorem m_480 : Cond.methodLink "AlgolJudge$Tokens" 81 ⟨"AlgolJudge$Tokens", "scanSign", "([BII)I"⟩ ∈ gT := gT_i (tb_2 _ (List.mem_of_getElem? (i := 121) (by decide +kernel))) rfl
theorem m_482 : Cond.instanceMethod ⟨"AlgolJudge$Tokens", "scanSign", "([BII)I"⟩ ∈ gT := gT_i (tb_2 _ (List.mem_of_getElem? (i := 123) (by decide +kernel))) rfl
theorem m_483 : Cond.code ⟨"AlgolJudge$Tokens", "scanSign", "([BII)I"⟩ prog_8_method_8_code 7 (some .int) ∈ gT := gT_i (tb_2 _ (List.mem_of_getElem? (i := 124) rfl)) rfl
theorem m_485 : Cond.methodLink "AlgolJudge$Tokens" 97 ⟨"java/lang/String", "indexOf", "(I)I"⟩ ∈ gT := gT_i (tb_2 _ (List.mem_of_getElem? (i := 126) (by decide +kernel))) rfl
theorem m_486 : Cond.instanceMethod ⟨"java/lang/String", "indexOf", "(I)I"⟩ ∈ gT := gT_i (tb_2 _ (List.mem_of_getElem? (i := 127) (by decide +kernel))) rfl
theorem m_487 : Cond.selects "java/lang/String" ⟨"java/lang/String", "indexOf", "(I)I"⟩ ⟨"java/lang/String", "indexOf", "(I)I"⟩ ∈ gT := gT_i (tb_2 _ (List.mem_of_getElem? (i := 128) (by decide +kernel))) rfl
theorem m_488 : Cond.code ⟨"java/lang/String", "indexOf", "(I)I"⟩ prog_13_method_79_code 2 (some .int) ∈ gT := gT_i (tb_2 _ (List.mem_of_getElem? (i := 129) rfl)) rfl
theorem m_489 : Cond.methodLink "java/lang/String" 633 ⟨"java/lang/String", "indexOf", "(II)I"⟩ ∈ gT := gT_i (tb_2 _ (List.mem_of_getElem? (i := 130) (by decide +kernel))) rfl
theorem m_490 : Cond.instanceMethod ⟨"java/lang/String", "indexOf", "(II)I"⟩ ∈ gT := gT_i (tb_2 _ (List.mem_of_getElem? (i := 131) (by decide +kernel))) rfl
theorem m_491 : Cond.selects "java/lang/String" ⟨"java/lang/String", "indexOf", "(II)I"⟩ ⟨"java/lang/String", "indexOf", "(II)I"⟩ ∈ gT := gT_i (tb_2 _ (List.mem_of_getElem? (i := 132) (by decide +kernel))) rfl
theorem m_492 : Cond.code ⟨"java/lang/String", "indexOf", "(II)I"⟩ prog_13_method_80_code 3 (some .int) ∈ gT := gT_i (tb_2 _ (List.mem_of_getElem? (i := 133) rfl)) rfl
theorem m_493 : Cond.methodLink "java/lang/String" 505 ⟨"java/lang/String", "length", "()I"⟩ ∈ gT := gT_i (tb_2 _ (List.mem_of_getElem? (i := 134) (by decide +kernel))) rfl
theorem m_494 : Cond.methodLink "java/lang/String" 637 ⟨"java/lang/StringLatin1", "indexOf", "([BIII)I"⟩ ∈ gT := gT_i (tb_2 _ (List.mem_of_getElem? (i := 135) (by decide +kernel))) rfl
theorem m_495 : Cond.static ⟨"java/lang/StringLatin1", "indexOf", "([BIII)I"⟩ ∈ gT := gT_i (tb_2 _ (List.mem_of_getElem? (i := 136) (by decide +kernel))) rfl
theorem m_496 : Cond.code ⟨"java/lang/StringLatin1", "indexOf", "([BIII)I"⟩ prog_14_method_22_code 4 (some .int) ∈ gT := gT_i (tb_2 _ (List.mem_of_getElem? (i := 137) rfl)) rfl
theorem m_497 : Cond.methodLink "java/lang/StringLatin1" 88 ⟨"java/lang/StringLatin1", "canEncode", "(I)Z"⟩ ∈ gT := gT_i (tb_2 _ (List.mem_of_getElem? (i := 138) (by decide +kernel))) rfl
theorem m_498 : Cond.static ⟨"java/lang/StringLatin1", "canEncode", "(I)Z"⟩ ∈ gT := gT_i (tb_2 _ (List.mem_of_getElem? (i := 139) (by decide +kernel))) rfl
theorem m_499 : Cond.code ⟨"java/lang/StringLatin1", "canEncode", "(I)Z"⟩ prog_14_method_4_code 1 (some .boolean) ∈ gT := gT_i (tb_2 _ (List.mem_of_getElem? (i := 140) rfl)) rfl
theorem m_500 : Cond.methodLink "java/lang/StringLatin1" 92 ⟨"java/lang/Math", "max", "(II)I"⟩ ∈ gT := gT_i (tb_2 _ (List.mem_of_getElem? (i := 141) (by decide +kernel))) rfl
theorem m_501 : Cond.static ⟨"java/lang/Math", "max", "(II)I"⟩ ∈ gT := gT_i (tb_2 _ (List.mem_of_getElem? (i := 142) (by decide +kernel))) rfl
theorem m_502 : Cond.code ⟨"java/lang/Math", "max", "(II)I"⟩ prog_12_method_65_code 2 (some .int) ∈ gT := gT_i (tb_2 _ (List.mem_of_getElem? (i := 143) rfl)) rfl
theorem m_503 : Cond.methodLink "java/lang/StringLatin1" 38 ⟨"java/lang/Math", "min", "(II)I"⟩ ∈ gT := gT_i (tb_2 _ (List.mem_of_getElem? (i := 144) (by decide +kernel))) rfl
theorem m_504 : Cond.static ⟨"java/lang/Math", "min", "(II)I"⟩ ∈ gT := gT_i (tb_2 _ (List.mem_of_getElem? (i := 145) (by decide +kernel))) rfl
theorem m_505 : Cond.code ⟨"java/lang/Math", "min", "(II)I"⟩ prog_12_method_69_code 2 (some .int) ∈ gT := gT_i (tb_2 _ (List.mem_of_getElem? (i := 146) rfl)) rfl
theorem m_506 : Cond.methodLink "java/lang/StringLatin1" 95 ⟨"java/lang/StringLatin1", "indexOfChar", "([BIII)I"⟩ ∈ gT := gT_i (tb_2 _ (List.mem_of_getElem? (i := 147) (by decide +kernel))) rfl
theorem m_507 : Cond.static ⟨"java/lang/StringLatin1", "indexOfChar", "([BIII)I"⟩ ∈ gT := gT_i (tb_2 _ (List.mem_of_getElem? (i := 148) (by decide +kernel))) rfl
theorem m_508 : Cond.code ⟨"java/lang/StringLatin1", "indexOfChar", "([BIII)I"⟩ prog_14_method_23_code 6 (some .int) ∈ gT := gT_i (tb_2 _ (List.mem_of_getElem? (i := 149) rfl)) rfl
theorem m_509 : Cond.methodLink "java/lang/String" 640 ⟨"java/lang/StringUTF16", "indexOf", "([BIII)I"⟩ ∈ gT := gT_i (tb_2 _ (List.mem_of_getElem? (i := 150) (by decide +kernel))) rfl
theorem m_510 : Cond.static ⟨"java/lang/StringUTF16", "indexOf", "([BIII)I"⟩ ∈ gT := gT_i (tb_2 _ (List.mem_of_getElem? (i := 151) (by decide +kernel))) rfl
theorem m_511 : Cond.code ⟨"java/lang/StringUTF16", "indexOf", "([BIII)I"⟩ prog_15_method_40_code 4 (some .int) ∈ gT := gT_i (tb_2 _ (List.mem_of_getElem? (i := 152) rfl)) rfl
theorem m_512 : Cond.methodLink "java/lang/StringUTF16" 224 ⟨"java/lang/Math", "max", "(II)I"⟩ ∈ gT := gT_i (tb_2 _ (List.mem_of_getElem? (i := 153) (by decide +kernel))) rfl
theorem m_513 : Cond.methodLink "java/lang/StringUTF16" 183 ⟨"java/lang/Math", "min", "(II)I"⟩ ∈ gT := gT_i (tb_2 _ (List.mem_of_getElem? (i := 154) (by decide +kernel))) rfl
theorem m_514 : Cond.constant "java/lang/StringUTF16" 227 65536 ∈ gT := gT_i (tb_2 _ (List.mem_of_getElem? (i := 155) (by decide +kernel))) rfl
theorem m_515 : Cond.methodLink "java/lang/StringUTF16" 228 ⟨"java/lang/StringUTF16", "indexOfChar", "([BIII)I"⟩ ∈ gT := gT_i (tb_2 _ (List.mem_of_getElem? (i := 156) (by decide +kernel))) rfl
theorem m_516 : Cond.static ⟨"java/lang/StringUTF16", "indexOfChar", "([BIII)I"⟩ ∈ gT := gT_i (tb_2 _ (List.mem_of_getElem? (i := 157) (by decide +kernel))) rfl
theorem m_517 : Cond.code ⟨"java/lang/StringUTF16", "indexOfChar", "([BIII)I"⟩ prog_15_method_47_code 4 (some .int) ∈ gT := gT_i (tb_2 _ (List.mem_of_getElem? (i := 158) rfl)) rfl
theorem m_518 : Cond.methodLink "java/lang/StringUTF16" 96 ⟨"java/lang/StringUTF16", "checkBoundsBeginEnd", "(II[B)V"⟩ ∈ gT := gT_i (tb_2 _ (List.mem_of_getElem? (i := 159) (by decide +kernel))) rfl
theorem m_519 : Cond.static ⟨"java/lang/StringUTF16", "checkBoundsBeginEnd", "(II[B)V"⟩ ∈ gT := gT_i (tb_2 _ (List.mem_of_getElem? (i := 160) (by decide +kernel))) rfl
theorem m_520 : Cond.code ⟨"java/lang/StringUTF16", "checkBoundsBeginEnd", "(II[B)V"⟩ prog_15_method_93_code 3 (none) ∈ gT := gT_i (tb_2 _ (List.mem_of_getElem? (i := 161) rfl)) rfl
theorem m_521 : Cond.methodLink "java/lang/StringUTF16" 241 ⟨"java/lang/String", "checkBoundsBeginEnd", "(III)V"⟩ ∈ gT := gT_i (tb_2 _ (List.mem_of_getElem? (i := 162) (by decide +kernel))) rfl
theorem m_522 : Cond.static ⟨"java/lang/String", "checkBoundsBeginEnd", "(III)V"⟩ ∈ gT := gT_i (tb_2 _ (List.mem_of_getElem? (i := 163) (by decide +kernel))) rfl
theorem m_523 : Cond.code ⟨"java/lang/String", "checkBoundsBeginEnd", "(III)V"⟩ prog_13_method_158_code 3 (none) ∈ gT := gT_i (tb_2 _ (List.mem_of_getElem? (i := 164) rfl)) rfl
theorem m_524 : Cond.methodLink "java/lang/String" 1062 ⟨"jdk/internal/util/Preconditions", "checkFromToIndex", "(IIILjava/util/function/BiFunction;)I"⟩ ∈ gT := gT_i (tb_2 _ (List.mem_of_getElem? (i := 165) (by decide +kernel))) rfl
theorem m_525 : Cond.static ⟨"jdk/internal/util/Preconditions", "checkFromToIndex", "(IIILjava/util/function/BiFunction;)I"⟩ ∈ gT := gT_i (tb_2 _ (List.mem_of_getElem? (i := 166) (by decide +kernel))) rfl
theorem m_526 : Cond.code ⟨"jdk/internal/util/Preconditions", "checkFromToIndex", "(IIILjava/util/function/BiFunction;)I"⟩ prog_17_method_12_code 4 (some .int) ∈ gT := gT_i (tb_2 _ (List.mem_of_getElem? (i := 167) rfl)) rfl
theorem m_527 : Cond.methodLink "java/lang/StringUTF16" 244 ⟨"java/lang/StringUTF16", "indexOfCharUnsafe", "([BIII)I"⟩ ∈ gT := gT_i (tb_2 _ (List.mem_of_getElem? (i := 168) (by decide +kernel))) rfl
theorem m_528 : Cond.static ⟨"java/lang/StringUTF16", "indexOfCharUnsafe", "([BIII)I"⟩ ∈ gT := gT_i (tb_2 _ (List.mem_of_getElem? (i := 169) (by decide +kernel))) rfl
theorem m_529 : Cond.code ⟨"java/lang/StringUTF16", "indexOfCharUnsafe", "([BIII)I"⟩ prog_15_method_48_code 5 (some .int) ∈ gT := gT_i (tb_2 _ (List.mem_of_getElem? (i := 170) rfl)) rfl
theorem m_530 : Cond.methodLink "java/lang/StringUTF16" 232 ⟨"java/lang/StringUTF16", "indexOfSupplementary", "([BIII)I"⟩ ∈ gT := gT_i (tb_2 _ (List.mem_of_getElem? (i := 171) (by decide +kernel))) rfl
