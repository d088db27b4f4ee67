theorem m_1403 : Cond.code ⟨"AlgolJudgeModel", "wrong", "(I)V"⟩ prog_10_method_11_code 2 (none) ∈ gT := gT_i (tb_6 _ (List.mem_of_getElem? (i := 84) rfl)) rfl
theorem m_1404 : Cond.methodLink "AlgolJudgeModel" 136 ⟨"AlgolJudgeModel", "declareIn", "(IIII)I"⟩ ∈ gT := gT_i (tb_6 _ (List.mem_of_getElem? (i := 85) (by decide +kernel))) rfl
theorem m_1406 : Cond.instanceMethod ⟨"AlgolJudgeModel", "declareIn", "(IIII)I"⟩ ∈ gT := gT_i (tb_6 _ (List.mem_of_getElem? (i := 87) (by decide +kernel))) rfl
theorem m_1407 : Cond.code ⟨"AlgolJudgeModel", "declareIn", "(IIII)I"⟩ prog_10_method_17_code 5 (some .int) ∈ gT := gT_i (tb_6 _ (List.mem_of_getElem? (i := 88) rfl)) rfl
theorem m_1409 : Cond.methodLink "AlgolJudgeModel" 236 ⟨"AlgolJudgeModel", "aSwitch", "()Z"⟩ ∈ gT := gT_i (tb_6 _ (List.mem_of_getElem? (i := 90) (by decide +kernel))) rfl
theorem m_1411 : Cond.instanceMethod ⟨"AlgolJudgeModel", "aSwitch", "()Z"⟩ ∈ gT := gT_i (tb_6 _ (List.mem_of_getElem? (i := 92) (by decide +kernel))) rfl
theorem m_1412 : Cond.code ⟨"AlgolJudgeModel", "aSwitch", "()Z"⟩ prog_10_method_27_code 5 (some .boolean) ∈ gT := gT_i (tb_6 _ (List.mem_of_getElem? (i := 93) rfl)) rfl
theorem m_1414 : Cond.methodLink "AlgolJudgeModel" 239 ⟨"AlgolJudgeModel", "aProcedure", "(I)Z"⟩ ∈ gT := gT_i (tb_6 _ (List.mem_of_getElem? (i := 95) (by decide +kernel))) rfl
theorem m_1416 : Cond.instanceMethod ⟨"AlgolJudgeModel", "aProcedure", "(I)Z"⟩ ∈ gT := gT_i (tb_6 _ (List.mem_of_getElem? (i := 97) (by decide +kernel))) rfl
theorem m_1417 : Cond.code ⟨"AlgolJudgeModel", "aProcedure", "(I)Z"⟩ prog_10_method_28_code 6 (some .boolean) ∈ gT := gT_i (tb_6 _ (List.mem_of_getElem? (i := 98) rfl)) rfl
theorem m_1419 : Cond.methodLink "AlgolJudgeModel" 284 ⟨"AlgolJudgeModel", "parameters", "(I)Z"⟩ ∈ gT := gT_i (tb_6 _ (List.mem_of_getElem? (i := 100) (by decide +kernel))) rfl
theorem m_1421 : Cond.instanceMethod ⟨"AlgolJudgeModel", "parameters", "(I)Z"⟩ ∈ gT := gT_i (tb_6 _ (List.mem_of_getElem? (i := 102) (by decide +kernel))) rfl
theorem m_1422 : Cond.code ⟨"AlgolJudgeModel", "parameters", "(I)Z"⟩ prog_10_method_29_code 3 (some .boolean) ∈ gT := gT_i (tb_6 _ (List.mem_of_getElem? (i := 103) rfl)) rfl
theorem m_1424 : Cond.methodLink "AlgolJudgeModel" 215 ⟨"AlgolJudgeModel", "take", "(Ljava/lang/String;)Z"⟩ ∈ gT := gT_i (tb_6 _ (List.mem_of_getElem? (i := 105) (by decide +kernel))) rfl
theorem m_1426 : Cond.instanceMethod ⟨"AlgolJudgeModel", "take", "(Ljava/lang/String;)Z"⟩ ∈ gT := gT_i (tb_6 _ (List.mem_of_getElem? (i := 107) (by decide +kernel))) rfl
theorem m_1427 : Cond.code ⟨"AlgolJudgeModel", "take", "(Ljava/lang/String;)Z"⟩ prog_10_method_12_code 2 (some .boolean) ∈ gT := gT_i (tb_6 _ (List.mem_of_getElem? (i := 108) rfl)) rfl
theorem m_1432 : Cond.methodLink "AlgolJudgeModel" 295 ⟨"AlgolJudgeModel", "specify", "(I)Z"⟩ ∈ gT := gT_i (tb_6 _ (List.mem_of_getElem? (i := 113) (by decide +kernel))) rfl
theorem m_1434 : Cond.instanceMethod ⟨"AlgolJudgeModel", "specify", "(I)Z"⟩ ∈ gT := gT_i (tb_6 _ (List.mem_of_getElem? (i := 115) (by decide +kernel))) rfl
theorem m_1435 : Cond.code ⟨"AlgolJudgeModel", "specify", "(I)Z"⟩ prog_10_method_30_code 4 (some .boolean) ∈ gT := gT_i (tb_6 _ (List.mem_of_getElem? (i := 116) rfl)) rfl
theorem m_1436 : Cond.methodLink "AlgolJudgeModel" 227 ⟨"AlgolJudgeModel", "plain", "()I"⟩ ∈ gT := gT_i (tb_6 _ (List.mem_of_getElem? (i := 117) (by decide +kernel))) rfl
theorem m_1438 : Cond.instanceMethod ⟨"AlgolJudgeModel", "plain", "()I"⟩ ∈ gT := gT_i (tb_6 _ (List.mem_of_getElem? (i := 119) (by decide +kernel))) rfl
theorem m_1439 : Cond.code ⟨"AlgolJudgeModel", "plain", "()I"⟩ prog_10_method_31_code 1 (some .int) ∈ gT := gT_i (tb_6 _ (List.mem_of_getElem? (i := 120) rfl)) rfl
theorem m_1441 : Cond.methodLink "AlgolJudgeModel" 303 ⟨"AlgolJudgeModel", "aGoto", "()I"⟩ ∈ gT := gT_i (tb_6 _ (List.mem_of_getElem? (i := 122) (by decide +kernel))) rfl
theorem m_1443 : Cond.instanceMethod ⟨"AlgolJudgeModel", "aGoto", "()I"⟩ ∈ gT := gT_i (tb_6 _ (List.mem_of_getElem? (i := 124) (by decide +kernel))) rfl
theorem m_1444 : Cond.code ⟨"AlgolJudgeModel", "aGoto", "()I"⟩ prog_10_method_32_code 2 (some .int) ∈ gT := gT_i (tb_6 _ (List.mem_of_getElem? (i := 125) rfl)) rfl
theorem m_1447 : Cond.methodLink "AlgolJudgeModel" 324 ⟨"AlgolJudgeModel", "bracket", "(Ljava/lang/String;Ljava/lang/String;)I"⟩ ∈ gT := gT_i (tb_6 _ (List.mem_of_getElem? (i := 128) (by decide +kernel))) rfl
theorem m_1449 : Cond.instanceMethod ⟨"AlgolJudgeModel", "bracket", "(Ljava/lang/String;Ljava/lang/String;)I"⟩ ∈ gT := gT_i (tb_6 _ (List.mem_of_getElem? (i := 130) (by decide +kernel))) rfl
theorem m_1450 : Cond.code ⟨"AlgolJudgeModel", "bracket", "(Ljava/lang/String;Ljava/lang/String;)I"⟩ prog_10_method_33_code 4 (some .int) ∈ gT := gT_i (tb_6 _ (List.mem_of_getElem? (i := 131) rfl)) rfl
theorem m_1451 : Cond.methodLink "AlgolJudgeModel" 266 ⟨"AlgolJudgeModel", "expression", "()I"⟩ ∈ gT := gT_i (tb_6 _ (List.mem_of_getElem? (i := 132) (by decide +kernel))) rfl
theorem m_1453 : Cond.instanceMethod ⟨"AlgolJudgeModel", "expression", "()I"⟩ ∈ gT := gT_i (tb_6 _ (List.mem_of_getElem? (i := 134) (by decide +kernel))) rfl
theorem m_1454 : Cond.code ⟨"AlgolJudgeModel", "expression", "()I"⟩ prog_10_method_44_code 2 (some .int) ∈ gT := gT_i (tb_6 _ (List.mem_of_getElem? (i := 135) rfl)) rfl
theorem m_1456 : Cond.methodLink "AlgolJudgeModel" 358 ⟨"AlgolJudgeModel", "either", "()I"⟩ ∈ gT := gT_i (tb_6 _ (List.mem_of_getElem? (i := 137) (by decide +kernel))) rfl
theorem m_1458 : Cond.instanceMethod ⟨"AlgolJudgeModel", "either", "()I"⟩ ∈ gT := gT_i (tb_6 _ (List.mem_of_getElem? (i := 139) (by decide +kernel))) rfl
theorem m_1459 : Cond.code ⟨"AlgolJudgeModel", "either", "()I"⟩ prog_10_method_46_code 2 (some .int) ∈ gT := gT_i (tb_6 _ (List.mem_of_getElem? (i := 140) rfl)) rfl
theorem m_1460 : Cond.methodLink "AlgolJudgeModel" 361 ⟨"AlgolJudgeModel", "both", "()I"⟩ ∈ gT := gT_i (tb_6 _ (List.mem_of_getElem? (i := 141) (by decide +kernel))) rfl
theorem m_1462 : Cond.instanceMethod ⟨"AlgolJudgeModel", "both", "()I"⟩ ∈ gT := gT_i (tb_6 _ (List.mem_of_getElem? (i := 143) (by decide +kernel))) rfl
theorem m_1463 : Cond.code ⟨"AlgolJudgeModel", "both", "()I"⟩ prog_10_method_47_code 2 (some .int) ∈ gT := gT_i (tb_6 _ (List.mem_of_getElem? (i := 144) rfl)) rfl
theorem m_1464 : Cond.methodLink "AlgolJudgeModel" 369 ⟨"AlgolJudgeModel", "denial", "()I"⟩ ∈ gT := gT_i (tb_6 _ (List.mem_of_getElem? (i := 145) (by decide +kernel))) rfl
theorem m_1466 : Cond.instanceMethod ⟨"AlgolJudgeModel", "denial", "()I"⟩ ∈ gT := gT_i (tb_6 _ (List.mem_of_getElem? (i := 147) (by decide +kernel))) rfl
theorem m_1467 : Cond.code ⟨"AlgolJudgeModel", "denial", "()I"⟩ prog_10_method_48_code 2 (some .int) ∈ gT := gT_i (tb_6 _ (List.mem_of_getElem? (i := 148) rfl)) rfl
theorem m_1469 : Cond.methodLink "AlgolJudgeModel" 376 ⟨"AlgolJudgeModel", "relation", "()I"⟩ ∈ gT := gT_i (tb_6 _ (List.mem_of_getElem? (i := 150) (by decide +kernel))) rfl
theorem m_1471 : Cond.instanceMethod ⟨"AlgolJudgeModel", "relation", "()I"⟩ ∈ gT := gT_i (tb_6 _ (List.mem_of_getElem? (i := 152) (by decide +kernel))) rfl
theorem m_1472 : Cond.code ⟨"AlgolJudgeModel", "relation", "()I"⟩ prog_10_method_49_code 3 (some .int) ∈ gT := gT_i (tb_6 _ (List.mem_of_getElem? (i := 153) rfl)) rfl
theorem m_1473 : Cond.methodLink "AlgolJudgeModel" 379 ⟨"AlgolJudgeModel", "sum", "()I"⟩ ∈ gT := gT_i (tb_6 _ (List.mem_of_getElem? (i := 154) (by decide +kernel))) rfl
theorem m_1475 : Cond.instanceMethod ⟨"AlgolJudgeModel", "sum", "()I"⟩ ∈ gT := gT_i (tb_6 _ (List.mem_of_getElem? (i := 156) (by decide +kernel))) rfl
theorem m_1476 : Cond.code ⟨"AlgolJudgeModel", "sum", "()I"⟩ prog_10_method_50_code 5 (some .int) ∈ gT := gT_i (tb_6 _ (List.mem_of_getElem? (i := 157) rfl)) rfl
theorem m_1479 : Cond.methodLink "AlgolJudgeModel" 398 ⟨"AlgolJudgeModel", "term", "()I"⟩ ∈ gT := gT_i (tb_6 _ (List.mem_of_getElem? (i := 160) (by decide +kernel))) rfl
theorem m_1481 : Cond.instanceMethod ⟨"AlgolJudgeModel", "term", "()I"⟩ ∈ gT := gT_i (tb_6 _ (List.mem_of_getElem? (i := 162) (by decide +kernel))) rfl
theorem m_1482 : Cond.code ⟨"AlgolJudgeModel", "term", "()I"⟩ prog_10_method_51_code 2 (some .int) ∈ gT := gT_i (tb_6 _ (List.mem_of_getElem? (i := 163) rfl)) rfl
theorem m_1483 : Cond.methodLink "AlgolJudgeModel" 401 ⟨"AlgolJudgeModel", "power", "()I"⟩ ∈ gT := gT_i (tb_6 _ (List.mem_of_getElem? (i := 164) (by decide +kernel))) rfl
theorem m_1485 : Cond.instanceMethod ⟨"AlgolJudgeModel", "power", "()I"⟩ ∈ gT := gT_i (tb_6 _ (List.mem_of_getElem? (i := 166) (by decide +kernel))) rfl
theorem m_1486 : Cond.code ⟨"AlgolJudgeModel", "power", "()I"⟩ prog_10_method_52_code 2 (some .int) ∈ gT := gT_i (tb_6 _ (List.mem_of_getElem? (i := 167) rfl)) rfl
theorem m_1487 : Cond.methodLink "AlgolJudgeModel" 408 ⟨"AlgolJudgeModel", "atom", "()I"⟩ ∈ gT := gT_i (tb_6 _ (List.mem_of_getElem? (i := 168) (by decide +kernel))) rfl
theorem m_1489 : Cond.instanceMethod ⟨"AlgolJudgeModel", "atom", "()I"⟩ ∈ gT := gT_i (tb_6 _ (List.mem_of_getElem? (i := 170) (by decide +kernel))) rfl
theorem m_1490 : Cond.code ⟨"AlgolJudgeModel", "atom", "()I"⟩ prog_10_method_53_code 4 (some .int) ∈ gT := gT_i (tb_6 _ (List.mem_of_getElem? (i := 171) rfl)) rfl
theorem m_1493 : Cond.methodLink "AlgolJudgeModel" 352 ⟨"AlgolJudgeModel", "subscripts", "(I)Z"⟩ ∈ gT := gT_i (tb_6 _ (List.mem_of_getElem? (i := 174) (by decide +kernel))) rfl
theorem m_1495 : Cond.instanceMethod ⟨"AlgolJudgeModel", "subscripts", "(I)Z"⟩ ∈ gT := gT_i (tb_6 _ (List.mem_of_getElem? (i := 176) (by decide +kernel))) rfl
theorem m_1496 : Cond.code ⟨"AlgolJudgeModel", "subscripts", "(I)Z"⟩ prog_10_method_42_code 2 (some .boolean) ∈ gT := gT_i (tb_6 _ (List.mem_of_getElem? (i := 177) rfl)) rfl
theorem m_1497 : Cond.methodLink "AlgolJudgeModel" 349 ⟨"AlgolJudgeModel", "actuals", "()I"⟩ ∈ gT := gT_i (tb_6 _ (List.mem_of_getElem? (i := 178) (by decide +kernel))) rfl
theorem m_1499 : Cond.instanceMethod ⟨"AlgolJudgeModel", "actuals", "()I"⟩ ∈ gT := gT_i (tb_6 _ (List.mem_of_getElem? (i := 180) (by decide +kernel))) rfl
theorem m_1500 : Cond.code ⟨"AlgolJudgeModel", "actuals", "()I"⟩ prog_10_method_43_code 5 (some .int) ∈ gT := gT_i (tb_6 _ (List.mem_of_getElem? (i := 181) rfl)) rfl
theorem m_1502 : Cond.methodLink "AlgolJudgeModel" 366 ⟨"AlgolJudgeModel", "pair", "(II)I"⟩ ∈ gT := gT_i (tb_6 _ (List.mem_of_getElem? (i := 183) (by decide +kernel))) rfl
theorem m_1504 : Cond.instanceMethod ⟨"AlgolJudgeModel", "pair", "(II)I"⟩ ∈ gT := gT_i (tb_6 _ (List.mem_of_getElem? (i := 185) (by decide +kernel))) rfl
theorem m_1505 : Cond.code ⟨"AlgolJudgeModel", "pair", "(II)I"⟩ prog_10_method_45_code 4 (some .int) ∈ gT := gT_i (tb_6 _ (List.mem_of_getElem? (i := 186) rfl)) rfl
theorem m_1518 : Cond.methodLink "AlgolJudgeModel" 308 ⟨"AlgolJudgeModel", "anIf", "()I"⟩ ∈ gT := gT_i (tb_6 _ (List.mem_of_getElem? (i := 199) (by decide +kernel))) rfl
theorem m_1520 : Cond.instanceMethod ⟨"AlgolJudgeModel", "anIf", "()I"⟩ ∈ gT := gT_i (tb_6 _ (List.mem_of_getElem? (i := 201) (by decide +kernel))) rfl
theorem m_1521 : Cond.code ⟨"AlgolJudgeModel", "anIf", "()I"⟩ prog_10_method_35_code 2 (some .int) ∈ gT := gT_i (tb_6 _ (List.mem_of_getElem? (i := 202) rfl)) rfl
theorem m_1523 : Cond.methodLink "AlgolJudgeModel" 330 ⟨"AlgolJudgeModel", "behindWord", "()I"⟩ ∈ gT := gT_i (tb_6 _ (List.mem_of_getElem? (i := 204) (by decide +kernel))) rfl
theorem m_1525 : Cond.instanceMethod ⟨"AlgolJudgeModel", "behindWord", "()I"⟩ ∈ gT := gT_i (tb_6 _ (List.mem_of_getElem? (i := 206) (by decide +kernel))) rfl
theorem m_1526 : Cond.code ⟨"AlgolJudgeModel", "behindWord", "()I"⟩ prog_10_method_34_code 2 (some .int) ∈ gT := gT_i (tb_6 _ (List.mem_of_getElem? (i := 207) rfl)) rfl
theorem m_1527 : Cond.methodLink "AlgolJudgeModel" 313 ⟨"AlgolJudgeModel", "aFor", "()I"⟩ ∈ gT := gT_i (tb_6 _ (List.mem_of_getElem? (i := 208) (by decide +kernel))) rfl
theorem m_1529 : Cond.instanceMethod ⟨"AlgolJudgeModel", "aFor", "()I"⟩ ∈ gT := gT_i (tb_6 _ (List.mem_of_getElem? (i := 210) (by decide +kernel))) rfl
theorem m_1530 : Cond.code ⟨"AlgolJudgeModel", "aFor", "()I"⟩ prog_10_method_36_code 4 (some .int) ∈ gT := gT_i (tb_6 _ (List.mem_of_getElem? (i := 211) rfl)) rfl
theorem m_1531 : Cond.methodLink "AlgolJudgeModel" 335 ⟨"AlgolJudgeModel", "element", "(I)Z"⟩ ∈ gT := gT_i (tb_6 _ (List.mem_of_getElem? (i := 212) (by decide +kernel))) rfl
theorem m_1533 : Cond.instanceMethod ⟨"AlgolJudgeModel", "element", "(I)Z"⟩ ∈ gT := gT_i (tb_6 _ (List.mem_of_getElem? (i := 214) (by decide +kernel))) rfl
theorem m_1534 : Cond.code ⟨"AlgolJudgeModel", "element", "(I)Z"⟩ prog_10_method_37_code 2 (some .boolean) ∈ gT := gT_i (tb_6 _ (List.mem_of_getElem? (i := 215) rfl)) rfl
theorem m_1540 : Cond.methodLink "AlgolJudgeModel" 318 ⟨"AlgolJudgeModel", "aPrint", "()I"⟩ ∈ gT := gT_i (tb_6 _ (List.mem_of_getElem? (i := 221) (by decide +kernel))) rfl
theorem m_1542 : Cond.instanceMethod ⟨"AlgolJudgeModel", "aPrint", "()I"⟩ ∈ gT := gT_i (tb_6 _ (List.mem_of_getElem? (i := 223) (by decide +kernel))) rfl
theorem m_1543 : Cond.code ⟨"AlgolJudgeModel", "aPrint", "()I"⟩ prog_10_method_38_code 2 (some .int) ∈ gT := gT_i (tb_6 _ (List.mem_of_getElem? (i := 224) rfl)) rfl
theorem m_1544 : Cond.methodLink "AlgolJudgeModel" 321 ⟨"AlgolJudgeModel", "byName", "()I"⟩ ∈ gT := gT_i (tb_6 _ (List.mem_of_getElem? (i := 225) (by decide +kernel))) rfl
theorem m_1546 : Cond.instanceMethod ⟨"AlgolJudgeModel", "byName", "()I"⟩ ∈ gT := gT_i (tb_6 _ (List.mem_of_getElem? (i := 227) (by decide +kernel))) rfl
theorem m_1547 : Cond.code ⟨"AlgolJudgeModel", "byName", "()I"⟩ prog_10_method_40_code 2 (some .int) ∈ gT := gT_i (tb_6 _ (List.mem_of_getElem? (i := 228) rfl)) rfl
theorem m_1548 : Cond.methodLink "AlgolJudgeModel" 346 ⟨"AlgolJudgeModel", "assignment", "()I"⟩ ∈ gT := gT_i (tb_6 _ (List.mem_of_getElem? (i := 229) (by decide +kernel))) rfl
theorem m_1550 : Cond.instanceMethod ⟨"AlgolJudgeModel", "assignment", "()I"⟩ ∈ gT := gT_i (tb_6 _ (List.mem_of_getElem? (i := 231) (by decide +kernel))) rfl
theorem m_1551 : Cond.code ⟨"AlgolJudgeModel", "assignment", "()I"⟩ prog_10_method_41_code 4 (some .int) ∈ gT := gT_i (tb_6 _ (List.mem_of_getElem? (i := 232) rfl)) rfl
theorem m_1552 : Cond.methodLink "AlgolJudgeModel" 355 ⟨"AlgolJudgeModel", "isLeft", "()Z"⟩ ∈ gT := gT_i (tb_6 _ (List.mem_of_getElem? (i := 233) (by decide +kernel))) rfl
theorem m_1554 : Cond.instanceMethod ⟨"AlgolJudgeModel", "isLeft", "()Z"⟩ ∈ gT := gT_i (tb_6 _ (List.mem_of_getElem? (i := 235) (by decide +kernel))) rfl
theorem m_1555 : Cond.code ⟨"AlgolJudgeModel", "isLeft", "()Z"⟩ prog_10_method_39_code 3 (some .boolean) ∈ gT := gT_i (tb_6 _ (List.mem_of_getElem? (i := 236) rfl)) rfl
theorem m_1556 : Cond.methodLink "AlgolJudgeModel" 244 ⟨"AlgolJudgeModel", "arrays", "(II)Z"⟩ ∈ gT := gT_i (tb_6 _ (List.mem_of_getElem? (i := 237) (by decide +kernel))) rfl
theorem m_1558 : Cond.instanceMethod ⟨"AlgolJudgeModel", "arrays", "(II)Z"⟩ ∈ gT := gT_i (tb_6 _ (List.mem_of_getElem? (i := 239) (by decide +kernel))) rfl
theorem m_1559 : Cond.code ⟨"AlgolJudgeModel", "arrays", "(II)Z"⟩ prog_10_method_25_code 8 (some .boolean) ∈ gT := gT_i (tb_7 _ (List.mem_of_getElem? (i := 0) rfl)) rfl
theorem m_1560 : Cond.methodLink "AlgolJudgeModel" 255 ⟨"AlgolJudgeModel", "bounds", "(I)Z"⟩ ∈ gT := gT_i (tb_7 _ (List.mem_of_getElem? (i := 1) (by decide +kernel))) rfl
theorem m_1562 : Cond.instanceMethod ⟨"AlgolJudgeModel", "bounds", "(I)Z"⟩ ∈ gT := gT_i (tb_7 _ (List.mem_of_getElem? (i := 3) (by decide +kernel))) rfl
theorem m_1563 : Cond.code ⟨"AlgolJudgeModel", "bounds", "(I)Z"⟩ prog_10_method_26_code 2 (some .boolean) ∈ gT := gT_i (tb_7 _ (List.mem_of_getElem? (i := 4) rfl)) rfl
theorem m_1565 : Cond.methodLink "AlgolJudgeModel" 224 ⟨"AlgolJudgeModel", "behind", "(III)I"⟩ ∈ gT := gT_i (tb_7 _ (List.mem_of_getElem? (i := 6) (by decide +kernel))) rfl
theorem m_1567 : Cond.instanceMethod ⟨"AlgolJudgeModel", "behind", "(III)I"⟩ ∈ gT := gT_i (tb_7 _ (List.mem_of_getElem? (i := 8) (by decide +kernel))) rfl
theorem m_1568 : Cond.code ⟨"AlgolJudgeModel", "behind", "(III)I"⟩ prog_10_method_21_code 4 (some .int) ∈ gT := gT_i (tb_7 _ (List.mem_of_getElem? (i := 9) rfl)) rfl
theorem m_1570 : Cond.methodLink "AlgolJudgeModel" 494 ⟨"AlgolJudgeModel", "checkAll", "(I)V"⟩ ∈ gT := gT_i (tb_7 _ (List.mem_of_getElem? (i := 11) (by decide +kernel))) rfl
theorem m_1572 : Cond.instanceMethod ⟨"AlgolJudgeModel", "checkAll", "(I)V"⟩ ∈ gT := gT_i (tb_7 _ (List.mem_of_getElem? (i := 13) (by decide +kernel))) rfl
theorem m_1573 : Cond.code ⟨"AlgolJudgeModel", "checkAll", "(I)V"⟩ prog_10_method_67_code 5 (none) ∈ gT := gT_i (tb_7 _ (List.mem_of_getElem? (i := 14) rfl)) rfl
theorem m_1574 : Cond.methodLink "AlgolJudgeModel" 454 ⟨"AlgolJudgeModel", "check", "(I)V"⟩ ∈ gT := gT_i (tb_7 _ (List.mem_of_getElem? (i := 15) (by decide +kernel))) rfl
theorem m_1576 : Cond.instanceMethod ⟨"AlgolJudgeModel", "check", "(I)V"⟩ ∈ gT := gT_i (tb_7 _ (List.mem_of_getElem? (i := 17) (by decide +kernel))) rfl
theorem m_1577 : Cond.code ⟨"AlgolJudgeModel", "check", "(I)V"⟩ prog_10_method_66_code 6 (none) ∈ gT := gT_i (tb_7 _ (List.mem_of_getElem? (i := 18) rfl)) rfl
theorem m_1578 : Cond.methodLink "AlgolJudgeModel" 421 ⟨"AlgolJudgeModel", "need", "(II)V"⟩ ∈ gT := gT_i (tb_7 _ (List.mem_of_getElem? (i := 19) (by decide +kernel))) rfl
theorem m_1580 : Cond.instanceMethod ⟨"AlgolJudgeModel", "need", "(II)V"⟩ ∈ gT := gT_i (tb_7 _ (List.mem_of_getElem? (i := 21) (by decide +kernel))) rfl
theorem m_1581 : Cond.code ⟨"AlgolJudgeModel", "need", "(II)V"⟩ prog_10_method_54_code 4 (none) ∈ gT := gT_i (tb_7 _ (List.mem_of_getElem? (i := 22) rfl)) rfl
theorem m_1582 : Cond.methodLink "AlgolJudgeModel" 417 ⟨"AlgolJudgeModel", "typeOf", "(I)I"⟩ ∈ gT := gT_i (tb_7 _ (List.mem_of_getElem? (i := 23) (by decide +kernel))) rfl
theorem m_1584 : Cond.instanceMethod ⟨"AlgolJudgeModel", "typeOf", "(I)I"⟩ ∈ gT := gT_i (tb_7 _ (List.mem_of_getElem? (i := 25) (by decide +kernel))) rfl
theorem m_1585 : Cond.code ⟨"AlgolJudgeModel", "typeOf", "(I)I"⟩ prog_10_method_56_code 4 (some .int) ∈ gT := gT_i (tb_7 _ (List.mem_of_getElem? (i := 26) rfl)) rfl
theorem m_1586 : Cond.methodLink "AlgolJudgeModel" 425 ⟨"AlgolJudgeModel", "row", "(II)V"⟩ ∈ gT := gT_i (tb_7 _ (List.mem_of_getElem? (i := 27) (by decide +kernel))) rfl
theorem m_1588 : Cond.instanceMethod ⟨"AlgolJudgeModel", "row", "(II)V"⟩ ∈ gT := gT_i (tb_7 _ (List.mem_of_getElem? (i := 29) (by decide +kernel))) rfl
theorem m_1589 : Cond.code ⟨"AlgolJudgeModel", "row", "(II)V"⟩ prog_10_method_59_code 4 (none) ∈ gT := gT_i (tb_7 _ (List.mem_of_getElem? (i := 30) rfl)) rfl
theorem m_1590 : Cond.methodLink "AlgolJudgeModel" 442 ⟨"AlgolJudgeModel", "isBoolean", "(I)Z"⟩ ∈ gT := gT_i (tb_7 _ (List.mem_of_getElem? (i := 31) (by decide +kernel))) rfl
theorem m_1591 : Cond.static ⟨"AlgolJudgeModel", "isBoolean", "(I)Z"⟩ ∈ gT := gT_i (tb_7 _ (List.mem_of_getElem? (i := 32) (by decide +kernel))) rfl
theorem m_1592 : Cond.code ⟨"AlgolJudgeModel", "isBoolean", "(I)Z"⟩ prog_10_method_57_code 1 (some .boolean) ∈ gT := gT_i (tb_7 _ (List.mem_of_getElem? (i := 33) rfl)) rfl
theorem m_1593 : Cond.methodLink "AlgolJudgeModel" 445 ⟨"AlgolJudgeModel", "isInteger", "(I)Z"⟩ ∈ gT := gT_i (tb_7 _ (List.mem_of_getElem? (i := 34) (by decide +kernel))) rfl
theorem m_1594 : Cond.static ⟨"AlgolJudgeModel", "isInteger", "(I)Z"⟩ ∈ gT := gT_i (tb_7 _ (List.mem_of_getElem? (i := 35) (by decide +kernel))) rfl
theorem m_1595 : Cond.code ⟨"AlgolJudgeModel", "isInteger", "(I)Z"⟩ prog_10_method_58_code 1 (some .boolean) ∈ gT := gT_i (tb_7 _ (List.mem_of_getElem? (i := 36) rfl)) rfl
theorem m_1596 : Cond.methodLink "AlgolJudgeModel" 428 ⟨"AlgolJudgeModel", "reference", "(I)I"⟩ ∈ gT := gT_i (tb_7 _ (List.mem_of_getElem? (i := 37) (by decide +kernel))) rfl
theorem m_1598 : Cond.instanceMethod ⟨"AlgolJudgeModel", "reference", "(I)I"⟩ ∈ gT := gT_i (tb_7 _ (List.mem_of_getElem? (i := 39) (by decide +kernel))) rfl
theorem m_1599 : Cond.code ⟨"AlgolJudgeModel", "reference", "(I)I"⟩ prog_10_method_60_code 3 (some .int) ∈ gT := gT_i (tb_7 _ (List.mem_of_getElem? (i := 40) rfl)) rfl
theorem m_1600 : Cond.methodLink "AlgolJudgeModel" 434 ⟨"AlgolJudgeModel", "mean", "(II)I"⟩ ∈ gT := gT_i (tb_7 _ (List.mem_of_getElem? (i := 41) (by decide +kernel))) rfl
theorem m_1602 : Cond.instanceMethod ⟨"AlgolJudgeModel", "mean", "(II)I"⟩ ∈ gT := gT_i (tb_7 _ (List.mem_of_getElem? (i := 43) (by decide +kernel))) rfl
theorem m_1603 : Cond.code ⟨"AlgolJudgeModel", "mean", "(II)I"⟩ prog_10_method_15_code 5 (some .int) ∈ gT := gT_i (tb_7 _ (List.mem_of_getElem? (i := 44) rfl)) rfl
theorem m_1604 : Cond.methodLink "AlgolJudgeModel" 437 ⟨"AlgolJudgeModel", "not", "(I)I"⟩ ∈ gT := gT_i (tb_7 _ (List.mem_of_getElem? (i := 45) (by decide +kernel))) rfl
theorem m_1606 : Cond.instanceMethod ⟨"AlgolJudgeModel", "not", "(I)I"⟩ ∈ gT := gT_i (tb_7 _ (List.mem_of_getElem? (i := 47) (by decide +kernel))) rfl
theorem m_1607 : Cond.code ⟨"AlgolJudgeModel", "not", "(I)I"⟩ prog_10_method_55_code 2 (some .int) ∈ gT := gT_i (tb_7 _ (List.mem_of_getElem? (i := 48) rfl)) rfl
theorem m_1608 : Cond.methodLink "AlgolJudgeModel" 431 ⟨"AlgolJudgeModel", "indexed", "(I)I"⟩ ∈ gT := gT_i (tb_7 _ (List.mem_of_getElem? (i := 49) (by decide +kernel))) rfl
theorem m_1610 : Cond.instanceMethod ⟨"AlgolJudgeModel", "indexed", "(I)I"⟩ ∈ gT := gT_i (tb_7 _ (List.mem_of_getElem? (i := 51) (by decide +kernel))) rfl
theorem m_1611 : Cond.code ⟨"AlgolJudgeModel", "indexed", "(I)I"⟩ prog_10_method_61_code 3 (some .int) ∈ gT := gT_i (tb_7 _ (List.mem_of_getElem? (i := 52) rfl)) rfl
theorem m_1612 : Cond.methodLink "AlgolJudgeModel" 439 ⟨"AlgolJudgeModel", "call", "(II)V"⟩ ∈ gT := gT_i (tb_7 _ (List.mem_of_getElem? (i := 53) (by decide +kernel))) rfl
theorem m_1614 : Cond.instanceMethod ⟨"AlgolJudgeModel", "call", "(II)V"⟩ ∈ gT := gT_i (tb_7 _ (List.mem_of_getElem? (i := 55) (by decide +kernel))) rfl
theorem m_1615 : Cond.code ⟨"AlgolJudgeModel", "call", "(II)V"⟩ prog_10_method_62_code 6 (none) ∈ gT := gT_i (tb_7 _ (List.mem_of_getElem? (i := 56) rfl)) rfl
theorem m_1616 : Cond.methodLink "AlgolJudgeModel" 448 ⟨"AlgolJudgeModel", "actual", "(II)V"⟩ ∈ gT := gT_i (tb_7 _ (List.mem_of_getElem? (i := 57) (by decide +kernel))) rfl
theorem m_1618 : Cond.instanceMethod ⟨"AlgolJudgeModel", "actual", "(II)V"⟩ ∈ gT := gT_i (tb_7 _ (List.mem_of_getElem? (i := 59) (by decide +kernel))) rfl
theorem m_1619 : Cond.code ⟨"AlgolJudgeModel", "actual", "(II)V"⟩ prog_10_method_63_code 5 (none) ∈ gT := gT_i (tb_7 _ (List.mem_of_getElem? (i := 60) rfl)) rfl
theorem m_1620 : Cond.methodLink "AlgolJudgeModel" 457 ⟨"AlgolJudgeModel", "left", "(I)I"⟩ ∈ gT := gT_i (tb_7 _ (List.mem_of_getElem? (i := 61) (by decide +kernel))) rfl
theorem m_1622 : Cond.instanceMethod ⟨"AlgolJudgeModel", "left", "(I)I"⟩ ∈ gT := gT_i (tb_7 _ (List.mem_of_getElem? (i := 63) (by decide +kernel))) rfl
theorem m_1623 : Cond.code ⟨"AlgolJudgeModel", "left", "(I)I"⟩ prog_10_method_65_code 3 (some .int) ∈ gT := gT_i (tb_7 _ (List.mem_of_getElem? (i := 64) rfl)) rfl
theorem m_1624 : Cond.methodLink "AlgolJudgeModel" 451 ⟨"AlgolJudgeModel", "isAround", "(II)Z"⟩ ∈ gT := gT_i (tb_7 _ (List.mem_of_getElem? (i := 65) (by decide +kernel))) rfl
theorem m_1626 : Cond.instanceMethod ⟨"AlgolJudgeModel", "isAround", "(II)Z"⟩ ∈ gT := gT_i (tb_7 _ (List.mem_of_getElem? (i := 67) (by decide +kernel))) rfl
theorem m_1627 : Cond.code ⟨"AlgolJudgeModel", "isAround", "(II)Z"⟩ prog_10_method_64_code 4 (some .boolean) ∈ gT := gT_i (tb_7 _ (List.mem_of_getElem? (i := 68) rfl)) rfl
theorem m_1628 : Cond.methodLink "AlgolJudgeModel" 497 ⟨"AlgolJudgeModel", "keep", "()V"⟩ ∈ gT := gT_i (tb_7 _ (List.mem_of_getElem? (i := 69) (by decide +kernel))) rfl
theorem m_1630 : Cond.instanceMethod ⟨"AlgolJudgeModel", "keep", "()V"⟩ ∈ gT := gT_i (tb_7 _ (List.mem_of_getElem? (i := 71) (by decide +kernel))) rfl
theorem m_1631 : Cond.code ⟨"AlgolJudgeModel", "keep", "()V"⟩ prog_10_method_73_code 5 (none) ∈ gT := gT_i (tb_7 _ (List.mem_of_getElem? (i := 72) rfl)) rfl
theorem m_1632 : Cond.methodLink "AlgolJudgeModel" 500 ⟨"AlgolJudgeModel", "give", "(I)V"⟩ ∈ gT := gT_i (tb_7 _ (List.mem_of_getElem? (i := 73) (by decide +kernel))) rfl
theorem m_1634 : Cond.instanceMethod ⟨"AlgolJudgeModel", "give", "(I)V"⟩ ∈ gT := gT_i (tb_7 _ (List.mem_of_getElem? (i := 75) (by decide +kernel))) rfl
theorem m_1635 : Cond.code ⟨"AlgolJudgeModel", "give", "(I)V"⟩ prog_10_method_72_code 2 (none) ∈ gT := gT_i (tb_7 _ (List.mem_of_getElem? (i := 76) rfl)) rfl
theorem m_1636 : Cond.methodLink "AlgolJudgeModel" 503 ⟨"java/util/Arrays", "fill", "([II)V"⟩ ∈ gT := gT_i (tb_7 _ (List.mem_of_getElem? (i := 77) (by decide +kernel))) rfl
theorem m_1637 : Cond.methodLink "AlgolJudgeLaw" 31 ⟨"AlgolJudgeModel", "names", "()I"⟩ ∈ gT := gT_i (tb_7 _ (List.mem_of_getElem? (i := 78) (by decide +kernel))) rfl
