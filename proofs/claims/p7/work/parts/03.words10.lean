set_option maxRecDepth 100000 in
theorem i_Tokens : ∀ w ∈ u_ws "AlgolJudge$Tokens" T_Tokens 8, w ∈ gT := by
  rw [show u_ws "AlgolJudge$Tokens" T_Tokens 8 = [Cond.laysFinal "AlgolJudge$Tokens" "AlgolJudge$Tokens" "kinds" "[I", Cond.laysFinal "AlgolJudge$Tokens" "AlgolJudge$Tokens" "places" "[I", Cond.laysFinal "AlgolJudge$Tokens" "AlgolJudge$Tokens" "keys" "[J", Cond.laysFinal "AlgolJudge$Tokens" "AlgolJudge$Tokens" "wordKeys" "[J", Cond.lays "AlgolJudge$Tokens" "AlgolJudge$Tokens" "count" "I", Cond.lays "AlgolJudge$Tokens" "AlgolJudge$Tokens" "at" "I", Cond.lays "AlgolJudge$Tokens" "AlgolJudge$Tokens" "depth" "I", Cond.lays "AlgolJudge$Tokens" "AlgolJudge$Tokens" "fault" "I"] from rfl]
  exact List.forall_mem_cons.mpr ⟨m_218, List.forall_mem_cons.mpr ⟨m_220, List.forall_mem_cons.mpr ⟨m_222, List.forall_mem_cons.mpr ⟨m_224, List.forall_mem_cons.mpr ⟨m_226, List.forall_mem_cons.mpr ⟨m_228, List.forall_mem_cons.mpr ⟨m_230, List.forall_mem_cons.mpr ⟨m_232, fun _ h => absurd h List.not_mem_nil⟩⟩⟩⟩⟩⟩⟩⟩
theorem df_Tokens : ∀ j, j < 8 → defaultValue (t_Tokens j) = vp_V [.null, .null, .null, .null, .int 0, .int 0, .int 0, .int 0] j := fun j hj => match j, hj with
  | 0, _ => rfl
  | 1, _ => rfl
  | 2, _ => rfl
  | 3, _ => rfl
  | 4, _ => rfl
  | 5, _ => rfl
  | 6, _ => rfl
  | 7, _ => rfl
  | n + 8, h => absurd h (by omega)
set_option maxRecDepth 100000 in
theorem i_Table : ∀ w ∈ u_ws "AlgolJudge$Table" T_Table 11, w ∈ gT := by
  rw [show u_ws "AlgolJudge$Table" T_Table 11 = [Cond.laysFinal "AlgolJudge$Table" "AlgolJudge$Table" "keys" "[J", Cond.laysFinal "AlgolJudge$Table" "AlgolJudge$Table" "kinds" "[I", Cond.laysFinal "AlgolJudge$Table" "AlgolJudge$Table" "types" "[I", Cond.laysFinal "AlgolJudge$Table" "AlgolJudge$Table" "counts" "[I", Cond.laysFinal "AlgolJudge$Table" "AlgolJudge$Table" "places" "[I", Cond.laysFinal "AlgolJudge$Table" "AlgolJudge$Table" "homes" "[I", Cond.laysFinal "AlgolJudge$Table" "AlgolJudge$Table" "nexts" "[I", Cond.laysFinal "AlgolJudge$Table" "AlgolJudge$Table" "heads" "[I", Cond.laysFinal "AlgolJudge$Table" "AlgolJudge$Table" "valuePlaces" "[I", Cond.laysFinal "AlgolJudge$Table" "AlgolJudge$Table" "owns" "[Z", Cond.lays "AlgolJudge$Table" "AlgolJudge$Table" "size" "I"] from rfl]
  exact List.forall_mem_cons.mpr ⟨m_255, List.forall_mem_cons.mpr ⟨m_257, List.forall_mem_cons.mpr ⟨m_259, List.forall_mem_cons.mpr ⟨m_261, List.forall_mem_cons.mpr ⟨m_263, List.forall_mem_cons.mpr ⟨m_265, List.forall_mem_cons.mpr ⟨m_267, List.forall_mem_cons.mpr ⟨m_269, List.forall_mem_cons.mpr ⟨m_271, List.forall_mem_cons.mpr ⟨m_273, List.forall_mem_cons.mpr ⟨m_275, fun _ h => absurd h List.not_mem_nil⟩⟩⟩⟩⟩⟩⟩⟩⟩⟩⟩
theorem df_Table : ∀ j, j < 11 → defaultValue (t_Table j) = vp_V [.null, .null, .null, .null, .null, .null, .null, .null, .null, .null, .int 0] j := fun j hj => match j, hj with
  | 0, _ => rfl
  | 1, _ => rfl
  | 2, _ => rfl
  | 3, _ => rfl
  | 4, _ => rfl
  | 5, _ => rfl
  | 6, _ => rfl
  | 7, _ => rfl
  | 8, _ => rfl
  | 9, _ => rfl
  | 10, _ => rfl
  | n + 11, h => absurd h (by omega)
set_option maxRecDepth 100000 in
theorem i_Scopes : ∀ w ∈ u_ws "AlgolJudge$Scopes" T_Scopes 13, w ∈ gT := by
  rw [show u_ws "AlgolJudge$Scopes" T_Scopes 13 = [Cond.laysFinal "AlgolJudge$Scopes" "AlgolJudge$Scopes" "tokens" "LAlgolJudge$Tokens;", Cond.laysFinal "AlgolJudge$Scopes" "AlgolJudge$Scopes" "table" "LAlgolJudge$Table;", Cond.laysFinal "AlgolJudge$Scopes" "AlgolJudge$Scopes" "parents" "[I", Cond.laysFinal "AlgolJudge$Scopes" "AlgolJudge$Scopes" "firsts" "[I", Cond.laysFinal "AlgolJudge$Scopes" "AlgolJudge$Scopes" "lasts" "[I", Cond.laysFinal "AlgolJudge$Scopes" "AlgolJudge$Scopes" "procedures" "[I", Cond.laysFinal "AlgolJudge$Scopes" "AlgolJudge$Scopes" "meanings" "[I", Cond.lays "AlgolJudge$Scopes" "AlgolJudge$Scopes" "size" "I", Cond.lays "AlgolJudge$Scopes" "AlgolJudge$Scopes" "opened" "I", Cond.lays "AlgolJudge$Scopes" "AlgolJudge$Scopes" "current" "I", Cond.lays "AlgolJudge$Scopes" "AlgolJudge$Scopes" "looking" "I", Cond.lays "AlgolJudge$Scopes" "AlgolJudge$Scopes" "wrong" "I", Cond.lays "AlgolJudge$Scopes" "AlgolJudge$Scopes" "settled" "Z"] from rfl]
  exact List.forall_mem_cons.mpr ⟨m_298, List.forall_mem_cons.mpr ⟨m_300, List.forall_mem_cons.mpr ⟨m_302, List.forall_mem_cons.mpr ⟨m_304, List.forall_mem_cons.mpr ⟨m_306, List.forall_mem_cons.mpr ⟨m_308, List.forall_mem_cons.mpr ⟨m_310, List.forall_mem_cons.mpr ⟨m_312, List.forall_mem_cons.mpr ⟨m_314, List.forall_mem_cons.mpr ⟨m_316, List.forall_mem_cons.mpr ⟨m_318, List.forall_mem_cons.mpr ⟨m_320, List.forall_mem_cons.mpr ⟨m_322, fun _ h => absurd h List.not_mem_nil⟩⟩⟩⟩⟩⟩⟩⟩⟩⟩⟩⟩⟩
theorem df_Scopes : ∀ j, j < 13 → defaultValue (t_Scopes j) = vp_V [.null, .null, .null, .null, .null, .null, .null, .int 0, .int 0, .int 0, .int 0, .int 0, .int 0] j := fun j hj => match j, hj with
  | 0, _ => rfl
  | 1, _ => rfl
  | 2, _ => rfl
  | 3, _ => rfl
  | 4, _ => rfl
  | 5, _ => rfl
  | 6, _ => rfl
  | 7, _ => rfl
  | 8, _ => rfl
  | 9, _ => rfl
  | 10, _ => rfl
  | 11, _ => rfl
  | 12, _ => rfl
  | n + 13, h => absurd h (by omega)
set_option maxRecDepth 100000 in
theorem i_Rules : ∀ w ∈ u_ws "AlgolJudge$Rules" T_Rules 2, w ∈ gT := by
  rw [show u_ws "AlgolJudge$Rules" T_Rules 2 = [Cond.laysFinal "AlgolJudge$Rules" "AlgolJudge$Rules" "table" "LAlgolJudge$Table;", Cond.laysFinal "AlgolJudge$Rules" "AlgolJudge$Rules" "scopes" "LAlgolJudge$Scopes;"] from rfl]
  exact List.forall_mem_cons.mpr ⟨m_335, List.forall_mem_cons.mpr ⟨m_337, fun _ h => absurd h List.not_mem_nil⟩⟩
theorem df_Rules : ∀ j, j < 2 → defaultValue (t_Rules j) = vp_V [.null, .null] j := fun j hj => match j, hj with
  | 0, _ => rfl
  | 1, _ => rfl
  | n + 2, h => absurd h (by omega)
set_option maxRecDepth 100000 in
theorem i_Expr : ∀ w ∈ u_ws "AlgolJudge$Expressions" T_Expr 3, w ∈ gT := by
  rw [show u_ws "AlgolJudge$Expressions" T_Expr 3 = [Cond.laysFinal "AlgolJudge$Expressions" "AlgolJudge$Expressions" "tokens" "LAlgolJudge$Tokens;", Cond.laysFinal "AlgolJudge$Expressions" "AlgolJudge$Expressions" "scopes" "LAlgolJudge$Scopes;", Cond.laysFinal "AlgolJudge$Expressions" "AlgolJudge$Expressions" "rules" "LAlgolJudge$Rules;"] from rfl]
  exact List.forall_mem_cons.mpr ⟨m_353, List.forall_mem_cons.mpr ⟨m_355, List.forall_mem_cons.mpr ⟨m_357, fun _ h => absurd h List.not_mem_nil⟩⟩⟩
theorem df_Expr : ∀ j, j < 3 → defaultValue (t_Expr j) = vp_V [.null, .null, .null] j := fun j hj => match j, hj with
  | 0, _ => rfl
  | 1, _ => rfl
  | 2, _ => rfl
  | n + 3, h => absurd h (by omega)
set_option maxRecDepth 100000 in
theorem i_Blocks : ∀ w ∈ u_ws "AlgolJudge$Blocks" T_Blocks 5, w ∈ gT := by
  rw [show u_ws "AlgolJudge$Blocks" T_Blocks 5 = [Cond.laysFinal "AlgolJudge$Blocks" "AlgolJudge$Blocks" "tokens" "LAlgolJudge$Tokens;", Cond.laysFinal "AlgolJudge$Blocks" "AlgolJudge$Blocks" "scopes" "LAlgolJudge$Scopes;", Cond.laysFinal "AlgolJudge$Blocks" "AlgolJudge$Blocks" "rules" "LAlgolJudge$Rules;", Cond.laysFinal "AlgolJudge$Blocks" "AlgolJudge$Blocks" "expressions" "LAlgolJudge$Expressions;", Cond.lays "AlgolJudge$Blocks" "AlgolJudge$Blocks" "stored" "I"] from rfl]
  exact List.forall_mem_cons.mpr ⟨m_365, List.forall_mem_cons.mpr ⟨m_367, List.forall_mem_cons.mpr ⟨m_369, List.forall_mem_cons.mpr ⟨m_371, List.forall_mem_cons.mpr ⟨m_373, fun _ h => absurd h List.not_mem_nil⟩⟩⟩⟩⟩
theorem df_Blocks : ∀ j, j < 5 → defaultValue (t_Blocks j) = vp_V [.null, .null, .null, .null, .int 0] j := fun j hj => match j, hj with
  | 0, _ => rfl
  | 1, _ => rfl
  | 2, _ => rfl
  | 3, _ => rfl
  | 4, _ => rfl
  | n + 5, h => absurd h (by omega)
set_option maxRecDepth 100000 in
theorem i_Book : ∀ w ∈ u_ws "AlgolJudge$Book" T_Book 9, w ∈ gT := by
  rw [show u_ws "AlgolJudge$Book" T_Book 9 = [Cond.laysFinal "AlgolJudge$Book" "AlgolJudge$Book" "kinds" "[I", Cond.laysFinal "AlgolJudge$Book" "AlgolJudge$Book" "types" "[I", Cond.laysFinal "AlgolJudge$Book" "AlgolJudge$Book" "counts" "[I", Cond.laysFinal "AlgolJudge$Book" "AlgolJudge$Book" "marks" "[I", Cond.laysFinal "AlgolJudge$Book" "AlgolJudge$Book" "owners" "[I", Cond.laysFinal "AlgolJudge$Book" "AlgolJudge$Book" "meanings" "[I", Cond.laysFinal "AlgolJudge$Book" "AlgolJudge$Book" "numbers" "[I", Cond.lays "AlgolJudge$Book" "AlgolJudge$Book" "written" "Z", Cond.lays "AlgolJudge$Book" "AlgolJudge$Book" "size" "I"] from rfl]
  exact List.forall_mem_cons.mpr ⟨m_391, List.forall_mem_cons.mpr ⟨m_393, List.forall_mem_cons.mpr ⟨m_395, List.forall_mem_cons.mpr ⟨m_397, List.forall_mem_cons.mpr ⟨m_399, List.forall_mem_cons.mpr ⟨m_401, List.forall_mem_cons.mpr ⟨m_403, List.forall_mem_cons.mpr ⟨m_405, List.forall_mem_cons.mpr ⟨m_407, fun _ h => absurd h List.not_mem_nil⟩⟩⟩⟩⟩⟩⟩⟩⟩
theorem df_Book : ∀ j, j < 9 → defaultValue (t_Book j) = vp_V [.null, .null, .null, .null, .null, .null, .null, .int 0, .int 0] j := fun j hj => match j, hj with
  | 0, _ => rfl
  | 1, _ => rfl
  | 2, _ => rfl
  | 3, _ => rfl
  | 4, _ => rfl
  | 5, _ => rfl
  | 6, _ => rfl
  | 7, _ => rfl
  | 8, _ => rfl
  | n + 9, h => absurd h (by omega)
set_option maxRecDepth 100000 in
theorem i_Judge : ∀ w ∈ u_ws "AlgolJudge" T_Judge 7, w ∈ gT := by
  rw [show u_ws "AlgolJudge" T_Judge 7 = [Cond.laysFinal "AlgolJudge" "AlgolJudge" "tape" "[B", Cond.laysFinal "AlgolJudge" "AlgolJudge" "tokens" "LAlgolJudge$Tokens;", Cond.laysFinal "AlgolJudge" "AlgolJudge" "table" "LAlgolJudge$Table;", Cond.laysFinal "AlgolJudge" "AlgolJudge" "scopes" "LAlgolJudge$Scopes;", Cond.laysFinal "AlgolJudge" "AlgolJudge" "blocks" "LAlgolJudge$Blocks;", Cond.laysFinal "AlgolJudge" "AlgolJudge" "book" "LAlgolJudge$Book;", Cond.lays "AlgolJudge" "AlgolJudge" "length" "I"] from rfl]
  exact List.forall_mem_cons.mpr ⟨m_417, List.forall_mem_cons.mpr ⟨m_419, List.forall_mem_cons.mpr ⟨m_421, List.forall_mem_cons.mpr ⟨m_423, List.forall_mem_cons.mpr ⟨m_425, List.forall_mem_cons.mpr ⟨m_427, List.forall_mem_cons.mpr ⟨m_429, fun _ h => absurd h List.not_mem_nil⟩⟩⟩⟩⟩⟩⟩
theorem df_Judge : ∀ j, j < 7 → defaultValue (t_Judge j) = vp_V [.null, .null, .null, .null, .null, .null, .int 0] j := fun j hj => match j, hj with
  | 0, _ => rfl
  | 1, _ => rfl
  | 2, _ => rfl
  | 3, _ => rfl
  | 4, _ => rfl
  | 5, _ => rfl
  | 6, _ => rfl
  | n + 7, h => absurd h (by omega)
set_option maxRecDepth 100000 in
theorem i_Model : ∀ w ∈ u_ws "AlgolJudgeModel" T_Model 50, w ∈ gT := by
  rw [show u_ws "AlgolJudgeModel" T_Model 50 = [Cond.laysFinal "AlgolJudgeModel" "AlgolJudgeModel" "tape" "[B", Cond.lays "AlgolJudgeModel" "AlgolJudgeModel" "tapeMany" "I", Cond.laysFinal "AlgolJudgeModel" "AlgolJudgeModel" "kind" "[I", Cond.laysFinal "AlgolJudgeModel" "AlgolJudgeModel" "from" "[I", Cond.laysFinal "AlgolJudgeModel" "AlgolJudgeModel" "to" "[I", Cond.laysFinal "AlgolJudgeModel" "AlgolJudgeModel" "value" "[J", Cond.lays "AlgolJudgeModel" "AlgolJudgeModel" "at" "I", Cond.laysFinal "AlgolJudgeModel" "AlgolJudgeModel" "sort" "[I", Cond.laysFinal "AlgolJudgeModel" "AlgolJudgeModel" "start" "[I", Cond.laysFinal "AlgolJudgeModel" "AlgolJudgeModel" "one" "[I", Cond.laysFinal "AlgolJudgeModel" "AlgolJudgeModel" "two" "[I", Cond.laysFinal "AlgolJudgeModel" "AlgolJudgeModel" "three" "[I", Cond.laysFinal "AlgolJudgeModel" "AlgolJudgeModel" "four" "[I", Cond.laysFinal "AlgolJudgeModel" "AlgolJudgeModel" "next" "[I", Cond.laysFinal "AlgolJudgeModel" "AlgolJudgeModel" "where" "[I", Cond.lays "AlgolJudgeModel" "AlgolJudgeModel" "nodes" "I", Cond.laysFinal "AlgolJudgeModel" "AlgolJudgeModel" "word" "[I", Cond.laysFinal "AlgolJudgeModel" "AlgolJudgeModel" "what" "[I", Cond.laysFinal "AlgolJudgeModel" "AlgolJudgeModel" "type" "[I", Cond.laysFinal "AlgolJudgeModel" "AlgolJudgeModel" "home" "[I", Cond.laysFinal "AlgolJudgeModel" "AlgolJudgeModel" "level" "[I", Cond.laysFinal "AlgolJudgeModel" "AlgolJudgeModel" "slot" "[I", Cond.laysFinal "AlgolJudgeModel" "AlgolJudgeModel" "more" "[I", Cond.laysFinal "AlgolJudgeModel" "AlgolJudgeModel" "list" "[I", Cond.laysFinal "AlgolJudgeModel" "AlgolJudgeModel" "byValue" "[Z", Cond.laysFinal "AlgolJudgeModel" "AlgolJudgeModel" "specified" "[Z", Cond.laysFinal "AlgolJudgeModel" "AlgolJudgeModel" "isOwn" "[Z", Cond.lays "AlgolJudgeModel" "AlgolJudgeModel" "names" "I", Cond.laysFinal "AlgolJudgeModel" "AlgolJudgeModel" "around" "[I", Cond.laysFinal "AlgolJudgeModel" "AlgolJudgeModel" "scopeLevel" "[I", Cond.laysFinal "AlgolJudgeModel" "AlgolJudgeModel" "inside" "[I", Cond.lays "AlgolJudgeModel" "AlgolJudgeModel" "scopes" "I", Cond.lays "AlgolJudgeModel" "AlgolJudgeModel" "scope" "I", Cond.lays "AlgolJudgeModel" "AlgolJudgeModel" "fault" "I", Cond.lays "AlgolJudgeModel" "AlgolJudgeModel" "worst" "I", Cond.lays "AlgolJudgeModel" "AlgolJudgeModel" "deep" "I", Cond.laysFinal "AlgolJudgeModel" "AlgolJudgeModel" "owned" "[I", Cond.laysFinal "AlgolJudgeModel" "AlgolJudgeModel" "declared" "[Z", Cond.laysFinal "AlgolJudgeModel" "AlgolJudgeModel" "first" "[I", Cond.laysFinal "AlgolJudgeModel" "AlgolJudgeModel" "last" "[I", Cond.lays "AlgolJudgeModel" "AlgolJudgeModel" "procedure" "I", Cond.lays "AlgolJudgeModel" "AlgolJudgeModel" "firstSegment" "I", Cond.lays "AlgolJudgeModel" "AlgolJudgeModel" "latestSegment" "I", Cond.laysFinal "AlgolJudgeModel" "AlgolJudgeModel" "manyOf" "[I", Cond.laysFinal "AlgolJudgeModel" "AlgolJudgeModel" "firstOf" "[I", Cond.laysFinal "AlgolJudgeModel" "AlgolJudgeModel" "valued" "[I", Cond.laysFinal "AlgolJudgeModel" "AlgolJudgeModel" "number" "[I", Cond.laysFinal "AlgolJudgeModel" "AlgolJudgeModel" "meaning" "[I", Cond.laysFinal "AlgolJudgeModel" "AlgolJudgeModel" "told" "[I", Cond.lays "AlgolJudgeModel" "AlgolJudgeModel" "many" "I"] from rfl]
  exact List.forall_mem_cons.mpr ⟨m_1196, List.forall_mem_cons.mpr ⟨m_1198, List.forall_mem_cons.mpr ⟨m_1200, List.forall_mem_cons.mpr ⟨m_1202, List.forall_mem_cons.mpr ⟨m_1204, List.forall_mem_cons.mpr ⟨m_1206, List.forall_mem_cons.mpr ⟨m_1208, List.forall_mem_cons.mpr ⟨m_1210, List.forall_mem_cons.mpr ⟨m_1212, List.forall_mem_cons.mpr ⟨m_1214, List.forall_mem_cons.mpr ⟨m_1216, List.forall_mem_cons.mpr ⟨m_1218, List.forall_mem_cons.mpr ⟨m_1220, List.forall_mem_cons.mpr ⟨m_1222, List.forall_mem_cons.mpr ⟨m_1224, List.forall_mem_cons.mpr ⟨m_1226, List.forall_mem_cons.mpr ⟨m_1228, List.forall_mem_cons.mpr ⟨m_1230, List.forall_mem_cons.mpr ⟨m_1232, List.forall_mem_cons.mpr ⟨m_1234, List.forall_mem_cons.mpr ⟨m_1236, List.forall_mem_cons.mpr ⟨m_1238, List.forall_mem_cons.mpr ⟨m_1240, List.forall_mem_cons.mpr ⟨m_1242, List.forall_mem_cons.mpr ⟨m_1244, List.forall_mem_cons.mpr ⟨m_1246, List.forall_mem_cons.mpr ⟨m_1248, List.forall_mem_cons.mpr ⟨m_1250, List.forall_mem_cons.mpr ⟨m_1252, List.forall_mem_cons.mpr ⟨m_1254, List.forall_mem_cons.mpr ⟨m_1256, List.forall_mem_cons.mpr ⟨m_1258, List.forall_mem_cons.mpr ⟨m_1260, List.forall_mem_cons.mpr ⟨m_1262, List.forall_mem_cons.mpr ⟨m_1264, List.forall_mem_cons.mpr ⟨m_1266, List.forall_mem_cons.mpr ⟨m_1268, List.forall_mem_cons.mpr ⟨m_1270, List.forall_mem_cons.mpr ⟨m_1272, List.forall_mem_cons.mpr ⟨m_1274, List.forall_mem_cons.mpr ⟨m_1276, List.forall_mem_cons.mpr ⟨m_1278, List.forall_mem_cons.mpr ⟨m_1280, List.forall_mem_cons.mpr ⟨m_1282, List.forall_mem_cons.mpr ⟨m_1284, List.forall_mem_cons.mpr ⟨m_1286, List.forall_mem_cons.mpr ⟨m_1288, List.forall_mem_cons.mpr ⟨m_1290, List.forall_mem_cons.mpr ⟨m_1292, List.forall_mem_cons.mpr ⟨m_1294, fun _ h => absurd h List.not_mem_nil⟩⟩⟩⟩⟩⟩⟩⟩⟩⟩⟩⟩⟩⟩⟩⟩⟩⟩⟩⟩⟩⟩⟩⟩⟩⟩⟩⟩⟩⟩⟩⟩⟩⟩⟩⟩⟩⟩⟩⟩⟩⟩⟩⟩⟩⟩⟩⟩⟩⟩
theorem df_Model : ∀ j, j < 50 → defaultValue (t_Model j) = vp_V [.null, .int 0, .null, .null, .null, .null, .int 0, .null, .null, .null, .null, .null, .null, .null, .null, .int 0, .null, .null, .null, .null, .null, .null, .null, .null, .null, .null, .null, .int 0, .null, .null, .null, .int 0, .int 0, .int 0, .int 0, .int 0, .null, .null, .null, .null, .int 0, .int 0, .int 0, .null, .null, .null, .null, .null, .null, .int 0] j := fun j hj => match j, hj with
  | 0, _ => rfl
  | 1, _ => rfl
  | 2, _ => rfl
  | 3, _ => rfl
  | 4, _ => rfl
  | 5, _ => rfl
  | 6, _ => rfl
  | 7, _ => rfl
  | 8, _ => rfl
  | 9, _ => rfl
  | 10, _ => rfl
  | 11, _ => rfl
  | 12, _ => rfl
  | 13, _ => rfl
  | 14, _ => rfl
  | 15, _ => rfl
  | 16, _ => rfl
  | 17, _ => rfl
  | 18, _ => rfl
  | 19, _ => rfl
  | 20, _ => rfl
  | 21, _ => rfl
  | 22, _ => rfl
  | 23, _ => rfl
  | 24, _ => rfl
  | 25, _ => rfl
  | 26, _ => rfl
  | 27, _ => rfl
  | 28, _ => rfl
  | 29, _ => rfl
  | 30, _ => rfl
  | 31, _ => rfl
  | 32, _ => rfl
  | 33, _ => rfl
  | 34, _ => rfl
  | 35, _ => rfl
  | 36, _ => rfl
  | 37, _ => rfl
  | 38, _ => rfl
  | 39, _ => rfl
  | 40, _ => rfl
  | 41, _ => rfl
  | 42, _ => rfl
  | 43, _ => rfl
  | 44, _ => rfl
  | 45, _ => rfl
  | 46, _ => rfl
  | 47, _ => rfl
  | 48, _ => rfl
  | 49, _ => rfl
  | n + 50, h => absurd h (by omega)
