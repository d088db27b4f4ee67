theorem m_minl : Cond.code Lib.MathLoose.min_long.x Lib.MathLoose.min_long.code 4 (some .long) ∈ gT := gT_i (tb_6 _ (List.mem_of_getElem? (i := 14) (by decide +kernel))) rfl
