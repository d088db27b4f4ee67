/-! the words that pass to every method: all of the tables that stay -/
theorem gT_ex : ∃ g : List Cond, g = lw_tbl.filter goodWord := ⟨_, rfl⟩
noncomputable def gT : List Cond := Classical.choose gT_ex
theorem gT_eq : gT = lw_tbl.filter goodWord := Classical.choose_spec gT_ex
theorem gT_in {w : Cond} (i : Nat) (h : lw_tbl[i]? = some w) (hg : goodWord w = true) : w ∈ gT := by rw [gT_eq]; exact List.mem_filter.mpr ⟨List.mem_of_getElem? h, hg⟩
theorem gT_i {w : Cond} (h : w ∈ lw_tbl) (hg : goodWord w = true) : w ∈ gT := by rw [gT_eq]; exact List.mem_filter.mpr ⟨h, hg⟩
theorem tb_0 : ∀ w ∈ k2_sels lw_privs, w ∈ lw_tbl := fun w h => List.mem_append_left _ h
theorem tb_1 : ∀ w ∈ tables_1_1, w ∈ lw_tbl := fun w h => List.mem_append_right _ (show w ∈ tables_1 from List.mem_append_left _ h)
theorem tb_2 : ∀ w ∈ tables_1_2, w ∈ lw_tbl := fun w h => List.mem_append_right _ (show w ∈ tables_1 from List.mem_append_right _ (List.mem_append_left _ h))
theorem tb_3 : ∀ w ∈ tables_1_3, w ∈ lw_tbl := fun w h => List.mem_append_right _ (show w ∈ tables_1 from List.mem_append_right _ (List.mem_append_right _ (List.mem_append_left _ h)))
theorem tb_4 : ∀ w ∈ tables_1_4, w ∈ lw_tbl := fun w h => List.mem_append_right _ (show w ∈ tables_1 from List.mem_append_right _ (List.mem_append_right _ (List.mem_append_right _ (List.mem_append_left _ h))))
theorem tb_5 : ∀ w ∈ tables_1_5, w ∈ lw_tbl := fun w h => List.mem_append_right _ (show w ∈ tables_1 from List.mem_append_right _ (List.mem_append_right _ (List.mem_append_right _ (List.mem_append_right _ (List.mem_append_left _ h)))))
theorem tb_6 : ∀ w ∈ tables_1_6, w ∈ lw_tbl := fun w h => List.mem_append_right _ (show w ∈ tables_1 from List.mem_append_right _ (List.mem_append_right _ (List.mem_append_right _ (List.mem_append_right _ (List.mem_append_right _ (List.mem_append_left _ h))))))
theorem tb_7 : ∀ w ∈ tables_1_7, w ∈ lw_tbl := fun w h => List.mem_append_right _ (show w ∈ tables_1 from List.mem_append_right _ (List.mem_append_right _ (List.mem_append_right _ (List.mem_append_right _ (List.mem_append_right _ (List.mem_append_right _ (h)))))))
theorem gT_gd : ∀ w ∈ gT, (w.onTables && w.keeps) = true ∨ ∃ ty, w = .arrayClass ty := fun w h => good_of_word (List.mem_filter.mp (gT_eq ▸ h)).2
theorem gT_ok {w : Cond} (h : w ∈ gT) : w ∈ gT ∧ ((w.onTables && w.keeps) = true ∨ ∃ ty, w = .arrayClass ty) := ⟨h, gT_gd w h⟩
theorem gT_ws {y : MethodName} {b : ByteArray} {n : Nat} {r : Option FieldType} (h : Cond.code y b n r ∈ gT) : GoodIn gT (.code y b n r :: gT) := fun w hw => (List.mem_cons.mp hw).elim (fun e => e ▸ gT_ok h) (fun e => gT_ok e)
theorem gT_V {own C : String} {idx : Nat} {y : MethodName} {ws : List Cond} (h1 : Cond.methodLink own idx y ∈ gT) (h2 : Cond.instanceMethod y ∈ gT) (h3 : Cond.selects C y y ∈ gT) (h4 : Cond.initialized C ∈ gT) (hw : GoodIn gT ws) : GoodIn gT (wsV own idx C y ws) := fun w h => by
  rcases List.mem_append.mp h with e | e
  · simp only [List.mem_cons, List.not_mem_nil, or_false] at e
    rcases e with e | e | e | e <;> subst e <;> first | exact gT_ok h1 | exact gT_ok h2 | exact gT_ok h3 | exact gT_ok h4
  · exact hw w e
theorem gT_S {own : String} {idx : Nat} {y : MethodName} {ws : List Cond} (h1 : Cond.methodLink own idx y ∈ gT) (h2 : Cond.static y ∈ gT) (h4 : Cond.initialized y.cls ∈ gT) (hw : GoodIn gT ws) : GoodIn gT (va_wsS own idx y ws) := fun w h => by
  rcases List.mem_append.mp h with e | e
  · simp only [List.mem_cons, List.not_mem_nil, or_false] at e
    rcases e with e | e | e <;> subst e <;> first | exact gT_ok h1 | exact gT_ok h2 | exact gT_ok h4
  · exact hw w e
/-! the classes whose objects the worlds hold -/
def T_Tokens : u_T := fun k => match k with
  | 0 => ("AlgolJudge$Tokens", "kinds", "[I", true)
  | 1 => ("AlgolJudge$Tokens", "places", "[I", true)
  | 2 => ("AlgolJudge$Tokens", "keys", "[J", true)
  | 3 => ("AlgolJudge$Tokens", "wordKeys", "[J", true)
  | 4 => ("AlgolJudge$Tokens", "count", "I", false)
  | 5 => ("AlgolJudge$Tokens", "at", "I", false)
  | 6 => ("AlgolJudge$Tokens", "depth", "I", false)
  | _ => ("AlgolJudge$Tokens", "fault", "I", false)
def t_Tokens : Nat → FieldType := fun k => match k with
  | 0 => .array .int
  | 1 => .array .int
  | 2 => .array .long
  | 3 => .array .long
  | 4 => .int
  | 5 => .int
  | 6 => .int
  | _ => .int
def T_Table : u_T := fun k => match k with
  | 0 => ("AlgolJudge$Table", "keys", "[J", true)
  | 1 => ("AlgolJudge$Table", "kinds", "[I", true)
  | 2 => ("AlgolJudge$Table", "types", "[I", true)
  | 3 => ("AlgolJudge$Table", "counts", "[I", true)
  | 4 => ("AlgolJudge$Table", "places", "[I", true)
  | 5 => ("AlgolJudge$Table", "homes", "[I", true)
  | 6 => ("AlgolJudge$Table", "nexts", "[I", true)
  | 7 => ("AlgolJudge$Table", "heads", "[I", true)
  | 8 => ("AlgolJudge$Table", "valuePlaces", "[I", true)
  | 9 => ("AlgolJudge$Table", "owns", "[Z", true)
  | _ => ("AlgolJudge$Table", "size", "I", false)
def t_Table : Nat → FieldType := fun k => match k with
  | 0 => .array .long
  | 1 => .array .int
  | 2 => .array .int
  | 3 => .array .int
  | 4 => .array .int
  | 5 => .array .int
  | 6 => .array .int
  | 7 => .array .int
  | 8 => .array .int
  | 9 => .array .boolean
  | _ => .int
def T_Scopes : u_T := fun k => match k with
  | 0 => ("AlgolJudge$Scopes", "tokens", "LAlgolJudge$Tokens;", true)
  | 1 => ("AlgolJudge$Scopes", "table", "LAlgolJudge$Table;", true)
  | 2 => ("AlgolJudge$Scopes", "parents", "[I", true)
  | 3 => ("AlgolJudge$Scopes", "firsts", "[I", true)
  | 4 => ("AlgolJudge$Scopes", "lasts", "[I", true)
  | 5 => ("AlgolJudge$Scopes", "procedures", "[I", true)
  | 6 => ("AlgolJudge$Scopes", "meanings", "[I", true)
  | 7 => ("AlgolJudge$Scopes", "size", "I", false)
  | 8 => ("AlgolJudge$Scopes", "opened", "I", false)
  | 9 => ("AlgolJudge$Scopes", "current", "I", false)
  | 10 => ("AlgolJudge$Scopes", "looking", "I", false)
  | 11 => ("AlgolJudge$Scopes", "wrong", "I", false)
  | _ => ("AlgolJudge$Scopes", "settled", "Z", false)
def t_Scopes : Nat → FieldType := fun k => match k with
  | 0 => .object "AlgolJudge$Tokens"
  | 1 => .object "AlgolJudge$Table"
  | 2 => .array .int
  | 3 => .array .int
  | 4 => .array .int
  | 5 => .array .int
  | 6 => .array .int
  | 7 => .int
  | 8 => .int
  | 9 => .int
  | 10 => .int
  | 11 => .int
  | _ => .boolean
def T_Rules : u_T := fun k => match k with
  | 0 => ("AlgolJudge$Rules", "table", "LAlgolJudge$Table;", true)
  | _ => ("AlgolJudge$Rules", "scopes", "LAlgolJudge$Scopes;", true)
def t_Rules : Nat → FieldType := fun k => match k with
  | 0 => .object "AlgolJudge$Table"
  | _ => .object "AlgolJudge$Scopes"
def T_Expr : u_T := fun k => match k with
  | 0 => ("AlgolJudge$Expressions", "tokens", "LAlgolJudge$Tokens;", true)
  | 1 => ("AlgolJudge$Expressions", "scopes", "LAlgolJudge$Scopes;", true)
  | _ => ("AlgolJudge$Expressions", "rules", "LAlgolJudge$Rules;", true)
def t_Expr : Nat → FieldType := fun k => match k with
  | 0 => .object "AlgolJudge$Tokens"
  | 1 => .object "AlgolJudge$Scopes"
  | _ => .object "AlgolJudge$Rules"
def T_Blocks : u_T := fun k => match k with
  | 0 => ("AlgolJudge$Blocks", "tokens", "LAlgolJudge$Tokens;", true)
  | 1 => ("AlgolJudge$Blocks", "scopes", "LAlgolJudge$Scopes;", true)
  | 2 => ("AlgolJudge$Blocks", "rules", "LAlgolJudge$Rules;", true)
  | 3 => ("AlgolJudge$Blocks", "expressions", "LAlgolJudge$Expressions;", true)
  | _ => ("AlgolJudge$Blocks", "stored", "I", false)
def t_Blocks : Nat → FieldType := fun k => match k with
  | 0 => .object "AlgolJudge$Tokens"
  | 1 => .object "AlgolJudge$Scopes"
  | 2 => .object "AlgolJudge$Rules"
  | 3 => .object "AlgolJudge$Expressions"
  | _ => .int
def T_Book : u_T := fun k => match k with
  | 0 => ("AlgolJudge$Book", "kinds", "[I", true)
  | 1 => ("AlgolJudge$Book", "types", "[I", true)
  | 2 => ("AlgolJudge$Book", "counts", "[I", true)
  | 3 => ("AlgolJudge$Book", "marks", "[I", true)
  | 4 => ("AlgolJudge$Book", "owners", "[I", true)
  | 5 => ("AlgolJudge$Book", "meanings", "[I", true)
  | 6 => ("AlgolJudge$Book", "numbers", "[I", true)
  | 7 => ("AlgolJudge$Book", "written", "Z", false)
  | _ => ("AlgolJudge$Book", "size", "I", false)
def t_Book : Nat → FieldType := fun k => match k with
  | 0 => .array .int
  | 1 => .array .int
  | 2 => .array .int
  | 3 => .array .int
  | 4 => .array .int
  | 5 => .array .int
  | 6 => .array .int
  | 7 => .boolean
  | _ => .int
def T_Judge : u_T := fun k => match k with
  | 0 => ("AlgolJudge", "tape", "[B", true)
  | 1 => ("AlgolJudge", "tokens", "LAlgolJudge$Tokens;", true)
  | 2 => ("AlgolJudge", "table", "LAlgolJudge$Table;", true)
  | 3 => ("AlgolJudge", "scopes", "LAlgolJudge$Scopes;", true)
  | 4 => ("AlgolJudge", "blocks", "LAlgolJudge$Blocks;", true)
  | 5 => ("AlgolJudge", "book", "LAlgolJudge$Book;", true)
  | _ => ("AlgolJudge", "length", "I", false)
def t_Judge : Nat → FieldType := fun k => match k with
  | 0 => .array .byte
  | 1 => .object "AlgolJudge$Tokens"
  | 2 => .object "AlgolJudge$Table"
  | 3 => .object "AlgolJudge$Scopes"
  | 4 => .object "AlgolJudge$Blocks"
  | 5 => .object "AlgolJudge$Book"
  | _ => .int
def T_Model : u_T := fun k => match k with
  | 0 => ("AlgolJudgeModel", "tape", "[B", true)
  | 1 => ("AlgolJudgeModel", "tapeMany", "I", false)
  | 2 => ("AlgolJudgeModel", "kind", "[I", true)
  | 3 => ("AlgolJudgeModel", "from", "[I", true)
  | 4 => ("AlgolJudgeModel", "to", "[I", true)
  | 5 => ("AlgolJudgeModel", "value", "[J", true)
  | 6 => ("AlgolJudgeModel", "at", "I", false)
  | 7 => ("AlgolJudgeModel", "sort", "[I", true)
  | 8 => ("AlgolJudgeModel", "start", "[I", true)
  | 9 => ("AlgolJudgeModel", "one", "[I", true)
  | 10 => ("AlgolJudgeModel", "two", "[I", true)
  | 11 => ("AlgolJudgeModel", "three", "[I", true)
  | 12 => ("AlgolJudgeModel", "four", "[I", true)
  | 13 => ("AlgolJudgeModel", "next", "[I", true)
  | 14 => ("AlgolJudgeModel", "where", "[I", true)
  | 15 => ("AlgolJudgeModel", "nodes", "I", false)
  | 16 => ("AlgolJudgeModel", "word", "[I", true)
  | 17 => ("AlgolJudgeModel", "what", "[I", true)
  | 18 => ("AlgolJudgeModel", "type", "[I", true)
  | 19 => ("AlgolJudgeModel", "home", "[I", true)
  | 20 => ("AlgolJudgeModel", "level", "[I", true)
  | 21 => ("AlgolJudgeModel", "slot", "[I", true)
  | 22 => ("AlgolJudgeModel", "more", "[I", true)
  | 23 => ("AlgolJudgeModel", "list", "[I", true)
  | 24 => ("AlgolJudgeModel", "byValue", "[Z", true)
  | 25 => ("AlgolJudgeModel", "specified", "[Z", true)
  | 26 => ("AlgolJudgeModel", "isOwn", "[Z", true)
  | 27 => ("AlgolJudgeModel", "names", "I", false)
  | 28 => ("AlgolJudgeModel", "around", "[I", true)
  | 29 => ("AlgolJudgeModel", "scopeLevel", "[I", true)
  | 30 => ("AlgolJudgeModel", "inside", "[I", true)
  | 31 => ("AlgolJudgeModel", "scopes", "I", false)
  | 32 => ("AlgolJudgeModel", "scope", "I", false)
  | 33 => ("AlgolJudgeModel", "fault", "I", false)
  | 34 => ("AlgolJudgeModel", "worst", "I", false)
  | 35 => ("AlgolJudgeModel", "deep", "I", false)
  | 36 => ("AlgolJudgeModel", "owned", "[I", true)
  | 37 => ("AlgolJudgeModel", "declared", "[Z", true)
  | 38 => ("AlgolJudgeModel", "first", "[I", true)
  | 39 => ("AlgolJudgeModel", "last", "[I", true)
  | 40 => ("AlgolJudgeModel", "procedure", "I", false)
  | 41 => ("AlgolJudgeModel", "firstSegment", "I", false)
  | 42 => ("AlgolJudgeModel", "latestSegment", "I", false)
  | 43 => ("AlgolJudgeModel", "manyOf", "[I", true)
  | 44 => ("AlgolJudgeModel", "firstOf", "[I", true)
  | 45 => ("AlgolJudgeModel", "valued", "[I", true)
  | 46 => ("AlgolJudgeModel", "number", "[I", true)
  | 47 => ("AlgolJudgeModel", "meaning", "[I", true)
  | 48 => ("AlgolJudgeModel", "told", "[I", true)
  | _ => ("AlgolJudgeModel", "many", "I", false)
def t_Model : Nat → FieldType := fun k => match k with
  | 0 => .array .byte
  | 1 => .int
  | 2 => .array .int
  | 3 => .array .int
  | 4 => .array .int
  | 5 => .array .long
  | 6 => .int
  | 7 => .array .int
  | 8 => .array .int
  | 9 => .array .int
  | 10 => .array .int
  | 11 => .array .int
  | 12 => .array .int
  | 13 => .array .int
  | 14 => .array .int
  | 15 => .int
  | 16 => .array .int
  | 17 => .array .int
  | 18 => .array .int
  | 19 => .array .int
  | 20 => .array .int
  | 21 => .array .int
  | 22 => .array .int
  | 23 => .array .int
  | 24 => .array .boolean
  | 25 => .array .boolean
  | 26 => .array .boolean
  | 27 => .int
  | 28 => .array .int
  | 29 => .array .int
  | 30 => .array .int
  | 31 => .int
  | 32 => .int
  | 33 => .int
  | 34 => .int
  | 35 => .int
  | 36 => .array .int
  | 37 => .array .boolean
  | 38 => .array .int
  | 39 => .array .int
  | 40 => .int
  | 41 => .int
  | 42 => .int
  | 43 => .array .int
  | 44 => .array .int
  | 45 => .array .int
  | 46 => .array .int
  | 47 => .array .int
  | 48 => .array .int
  | _ => .int
abbrev cls9 : List vw_C := [("AlgolJudge$Tokens", T_Tokens, 8), ("AlgolJudge$Table", T_Table, 11), ("AlgolJudge$Scopes", T_Scopes, 13), ("AlgolJudge$Rules", T_Rules, 2), ("AlgolJudge$Expressions", T_Expr, 3), ("AlgolJudge$Blocks", T_Blocks, 5), ("AlgolJudge$Book", T_Book, 9), ("AlgolJudge", T_Judge, 7), ("AlgolJudgeModel", T_Model, 50)]
theorem n_Tokens : ∀ a, a < 8 → ∀ b, b < 8 → a ≠ b → (T_Tokens a).2.1 ≠ (T_Tokens b).2.1 := by decide +kernel
theorem t_Tokens_ok : ∀ k, k < 8 → parseFieldDescriptor (T_Tokens k).2.2.1 = some (t_Tokens k) := by decide +kernel
theorem n_Table : ∀ a, a < 11 → ∀ b, b < 11 → a ≠ b → (T_Table a).2.1 ≠ (T_Table b).2.1 := by decide +kernel
theorem t_Table_ok : ∀ k, k < 11 → parseFieldDescriptor (T_Table k).2.2.1 = some (t_Table k) := by decide +kernel
theorem n_Scopes : ∀ a, a < 13 → ∀ b, b < 13 → a ≠ b → (T_Scopes a).2.1 ≠ (T_Scopes b).2.1 := by decide +kernel
theorem t_Scopes_ok : ∀ k, k < 13 → parseFieldDescriptor (T_Scopes k).2.2.1 = some (t_Scopes k) := by decide +kernel
theorem n_Rules : ∀ a, a < 2 → ∀ b, b < 2 → a ≠ b → (T_Rules a).2.1 ≠ (T_Rules b).2.1 := by decide +kernel
theorem t_Rules_ok : ∀ k, k < 2 → parseFieldDescriptor (T_Rules k).2.2.1 = some (t_Rules k) := by decide +kernel
theorem n_Expr : ∀ a, a < 3 → ∀ b, b < 3 → a ≠ b → (T_Expr a).2.1 ≠ (T_Expr b).2.1 := by decide +kernel
theorem t_Expr_ok : ∀ k, k < 3 → parseFieldDescriptor (T_Expr k).2.2.1 = some (t_Expr k) := by decide +kernel
theorem n_Blocks : ∀ a, a < 5 → ∀ b, b < 5 → a ≠ b → (T_Blocks a).2.1 ≠ (T_Blocks b).2.1 := by decide +kernel
theorem t_Blocks_ok : ∀ k, k < 5 → parseFieldDescriptor (T_Blocks k).2.2.1 = some (t_Blocks k) := by decide +kernel
theorem n_Book : ∀ a, a < 9 → ∀ b, b < 9 → a ≠ b → (T_Book a).2.1 ≠ (T_Book b).2.1 := by decide +kernel
theorem t_Book_ok : ∀ k, k < 9 → parseFieldDescriptor (T_Book k).2.2.1 = some (t_Book k) := by decide +kernel
theorem n_Judge : ∀ a, a < 7 → ∀ b, b < 7 → a ≠ b → (T_Judge a).2.1 ≠ (T_Judge b).2.1 := by decide +kernel
theorem t_Judge_ok : ∀ k, k < 7 → parseFieldDescriptor (T_Judge k).2.2.1 = some (t_Judge k) := by decide +kernel
theorem n_Model : ∀ a, a < 50 → ∀ b, b < 50 → a ≠ b → (T_Model a).2.1 ≠ (T_Model b).2.1 := by decide +kernel
theorem t_Model_ok : ∀ k, k < 50 → parseFieldDescriptor (T_Model k).2.2.1 = some (t_Model k) := by decide +kernel
/-! worlds: what holds at a method's entry, and behind it -/
abbrev xT (kI kJ kB kZ : ClassId) : List (ClassId × FieldType) := [(kI, .int), (kJ, .long), (kB, .byte), (kZ, .boolean)]
def xP (D : va_G) (tys : List (ClassId × FieldType)) (E : (Nat → Prop) → State → Prop) (ws : va_W) (sz : Nat) (U : State) : Prop := U.heap.size = sz ∧ va_P D cls9 ws U.heap ∧ va_K D cls9 tys U ∧ va_D (fun _ => True) ws ∧ E (va_A ws sz) U
def xQ (D : va_G) (tys : List (ClassId × FieldType)) (A : Nat → Prop) (ws : va_W) (t : State) : Prop := va_P D cls9 ws t.heap ∧ va_K D cls9 tys t ∧ va_D A ws
/-- what else holds of the start: it stays over a call, and of fewer cells -/
def xOk (E : (Nat → Prop) → State → Prop) : Prop := (∀ (A : Nat → Prop) (a : Array Value) (U : State) (g : JFrame) (mk : MethodId), E A U → E A (U.calling g mk a)) ∧ ∀ (A B : Nat → Prop) (s U : State), E A s → s.WarmedH U.vm → (∀ q : Nat, q < s.heap.size → ¬ A q → U.heap[q]? = s.heap[q]?) → (∀ q, B q → A q) → E B U
def xN : (Nat → Prop) → State → Prop := fun _ _ => True
theorem xOk_N : xOk xN := ⟨fun _ _ _ _ _ _ => trivial, fun _ _ _ _ _ _ _ _ => trivial⟩
theorem xBlind {D : va_G} {tys : List (ClassId × FieldType)} {E : (Nat → Prop) → State → Prop} {ws : va_W} {sz : Nat} {av : List Value} (hE : xOk E) : FrameBlind (va_Pc av (xP D tys E ws sz)) := fun a U g mk q => by
  obtain ⟨q0, q1, qP, qK, qD, qE⟩ := q
  exact ⟨q0, q1, qP, va_K.moved (u := U) (U := U.calling g mk a) (Vm.Alike.refl U.vm) qK, qD, hE.1 _ a U g mk qE⟩
theorem xAt {D : va_G} {tys : List (ClassId × FieldType)} {E : (Nat → Prop) → State → Prop} {wc : va_W} {av : List Value} {s : State} {H : Heap} {A : Nat → Prop} {locs : List Loc} (hE : xOk E) (hK : va_K D cls9 tys s) (hP : va_P D cls9 wc H) (hD : va_D A wc) (hS : va_S A s.heap H locs) (hF : ∀ q, va_A wc H.size q → A q) (e : E A s) : ∀ U : State, U.heap = H → s.WarmedH U.vm → va_Pc av (xP D tys E wc H.size) av.toArray U := fun U hU hW =>
  ⟨rfl, by rw [hU], by rw [hU]; exact hP, va_K.moved hW.alike hK, hD.weaken (fun _ _ _ _ => trivial), hE.2 A _ s U e hW (fun q h1 h2 => by rw [hU]; exact hS.2.1 q h1 h2) hF⟩
theorem xAtN {D : va_G} {tys : List (ClassId × FieldType)} {wc : va_W} {av : List Value} {s : State} {H : Heap} {A : Nat → Prop} (hK : va_K D cls9 tys s) (hP : va_P D cls9 wc H) (hD : va_D A wc) : ∀ U : State, U.heap = H → s.WarmedH U.vm → va_Pc av (xP D tys xN wc H.size) av.toArray U := fun U hU hW =>
  ⟨rfl, by rw [hU], by rw [hU]; exact hP, va_K.moved hW.alike hK, hD.weaken (fun _ _ _ _ => trivial), trivial⟩
theorem xJoin {A0 : Nat → Prop} {D : va_G} {tys : List (ClassId × FieldType)} {ws wc wr w1 : va_W} {H H1 : Heap} {t : State} (hP : va_P D cls9 ws H) (hD : va_D A0 ws) (isC isR : List Nat) (hC : isC.map (fun i => ws[i]?) = wc.map some) (hR : isR.map (fun i => ws[i]?) = wr.map some) (hn : va_nd isR = true) (hdis : ∀ i ∈ isR, i ∉ isC)
    (hk : ∀ q : Nat, q < H.size → ¬ va_A wc H.size q → H1[q]? = H[q]?) (hF : ∀ q, va_A wc H.size q → A0 q) (ht : t.heap = H1) (hB : xQ D tys (va_A wc H.size) w1 t) : va_P D cls9 (wr ++ w1) H1 ∧ va_D A0 (wr ++ w1) :=
  va_join hP hD isC isR hC hR hn hdis hk hF (ht ▸ hB.1) hB.2.2
theorem xEnd {D : va_G} {tys : List (ClassId × FieldType)} {A : Nat → Prop} {ws : va_W} {s t : State} {H : Heap} (hK : va_K D cls9 tys s) (hP : va_P D cls9 ws H) (hD : va_D A ws) (ht : t.heap = H) (hW : s.WarmedH t.vm) : xQ D tys A ws t := ⟨by rw [ht]; exact hP, va_K.moved hW.alike hK, hD⟩
theorem xtopi {p : Program} {l : Launch} {e : Env} {R : Room} {s : State} {m : MethodId} {args : Array Value} {below : List Frame} {meth : Method} {c : Code} {H : Heap} {locs : List Loc} {cells slots : Nat} {Q : State → Prop} {pc : Nat} {ls : Array Slot} {rest : List Value} {x v : Int32} (h : x = v) (k : W p l e R s m args below meth c H locs cells slots Q (F0 m pc ls (.int v :: rest))) : W p l e R s m args below meth c H locs cells slots Q (F0 m pc ls (.int x :: rest)) := by subst h; exact k
theorem xtopl {p : Program} {l : Launch} {e : Env} {R : Room} {s : State} {m : MethodId} {args : Array Value} {below : List Frame} {meth : Method} {c : Code} {H : Heap} {locs : List Loc} {cells slots : Nat} {Q : State → Prop} {pc : Nat} {ls : Array Slot} {rest : List Value} {x v : Int64} (h : x = v) (k : W p l e R s m args below meth c H locs cells slots Q (F0 m pc ls (.long v :: rest))) : W p l e R s m args below meth c H locs cells slots Q (F0 m pc ls (.long x :: rest)) := by subst h; exact k
theorem zadd {x y : Int32} (h1 : -2147483648 ≤ x.toInt + y.toInt) (h2 : x.toInt + y.toInt < 2147483648) : (x + y).toInt = x.toInt + y.toInt := by
  rw [Int32.toInt_add]
  exact Int.bmod_eq_of_le (by omega) (by omega)
theorem zsub {x y : Int32} (h1 : -2147483648 ≤ x.toInt - y.toInt) (h2 : x.toInt - y.toInt < 2147483648) : (x - y).toInt = x.toInt - y.toInt := by
  rw [Int32.toInt_sub]
  exact Int.bmod_eq_of_le (by omega) (by omega)
theorem zaddc {x y : Int32} {k : Int} (hk : y.toInt = k) (h1 : -2147483648 ≤ x.toInt + k) (h2 : x.toInt + k < 2147483648) : (x + y).toInt = x.toInt + k := by
  subst hk
  exact zadd h1 h2
theorem zaddd {x y : Int32} {k : Int} (hk : x.toInt = k) (h1 : -2147483648 ≤ k + y.toInt) (h2 : k + y.toInt < 2147483648) : (x + y).toInt = k + y.toInt := by
  subst hk
  exact zadd h1 h2
theorem zsubc {x y : Int32} {k : Int} (hk : y.toInt = k) (h1 : -2147483648 ≤ x.toInt - k) (h2 : x.toInt - k < 2147483648) : (x - y).toInt = x.toInt - k := by
  subst hk
  exact zsub h1 h2
theorem zsubd {x y : Int32} {k : Int} (hk : x.toInt = k) (h1 : -2147483648 ≤ k - y.toInt) (h2 : k - y.toInt < 2147483648) : (x - y).toInt = k - y.toInt := by
  subst hk
  exact zsub h1 h2
theorem zpl {f : Nat → Int32} {k : Nat} {x : Int32} (h : ∀ j : Nat, 0 ≤ (f j).toInt) (hx : 0 ≤ x.toInt) : ∀ j : Nat, 0 ≤ (upd f k x j).toInt := by
  intro j
  unfold upd
  split
  · exact hx
  · exact h j
theorem zI_0 : (0 : Int32).toInt = 0 := rfl
theorem zI_4 : (4 : Int32).toInt = 4 := rfl
theorem gT_sub : ∀ w ∈ gT, w ∈ lw_tbl := fun w h => (List.mem_filter.mp (gT_eq ▸ h)).1
theorem zl_neg {x : Int32} (h : x < 0) : ¬ ((0 : Int64) ≤ x.toInt64 ∧ x.toInt64 ≤ 0) := by
  intro q
  have q1 := Int64.le_iff_toInt_le.mp q.1
  rw [Int32.toInt_toInt64] at q1
  have h1 := Int32.lt_iff_toInt_lt.mp h
  rw [zI_0] at h1
  have z : (0 : Int64).toInt = 0 := rfl
  omega
theorem zl_pos {x : Int32} (h : 0 < x) : ¬ ((0 : Int64) ≤ x.toInt64 ∧ x.toInt64 ≤ 0) := by
  intro q
  have q1 := Int64.le_iff_toInt_le.mp q.2
  rw [Int32.toInt_toInt64] at q1
  have h1 := Int32.lt_iff_toInt_lt.mp h
  rw [zI_0] at h1
  have z : (0 : Int64).toInt = 0 := rfl
  omega
theorem zl_neg4 {x : Int32} (h : x < 0) : ¬ ((0 : Int64) ≤ x.toInt64 ∧ x.toInt64 ≤ 4) := by
  intro q
  have q1 := Int64.le_iff_toInt_le.mp q.1
  rw [Int32.toInt_toInt64] at q1
  have h1 := Int32.lt_iff_toInt_lt.mp h
  rw [zI_0] at h1
  have z : (0 : Int64).toInt = 0 := rfl
  omega
theorem zl_gt4 {x : Int32} (h : 4 < x) : ¬ ((0 : Int64) ≤ x.toInt64 ∧ x.toInt64 ≤ 4) := by
  intro q
  have q1 := Int64.le_iff_toInt_le.mp q.2
  rw [Int32.toInt_toInt64] at q1
  have h1 := Int32.lt_iff_toInt_lt.mp h
  rw [zI_4] at h1
  have z : (4 : Int64).toInt = 4 := rfl
  omega
theorem zl_mid {x : Int32} (h : ¬ x < 0 ∧ ¬ 4 < x) : (0 : Int64) ≤ x.toInt64 ∧ x.toInt64 ≤ 4 := by
  have h1 := h.1
  have h2 := h.2
  rw [Int32.lt_iff_toInt_lt, zI_0] at h1
  rw [Int32.lt_iff_toInt_lt, zI_4] at h2
  have z : (0 : Int64).toInt = 0 := rfl
  have z4 : (4 : Int64).toInt = 4 := rfl
  exact ⟨Int64.le_iff_toInt_le.mpr (by rw [Int32.toInt_toInt64]; omega), Int64.le_iff_toInt_le.mpr (by rw [Int32.toInt_toInt64]; omega)⟩
theorem zl_no {v : Int64} : ¬ ((0 : Int64) ≤ v ∧ v ≤ (-2)) := by
  intro q
  have q1 := Int64.le_iff_toInt_le.mp q.1
  have q2 := Int64.le_iff_toInt_le.mp q.2
  have z : (0 : Int64).toInt = 0 := rfl
  have z4 : (-2 : Int64).toInt = -2 := by decide +kernel
  omega
theorem zI_tri (x : Int32) : x < 0 ∨ x = 0 ∨ 0 < x := by
  rcases Int.lt_trichotomy x.toInt 0 with h | h | h
  · exact Or.inl (Int32.lt_iff_toInt_lt.mpr (by rw [zI_0]; exact h))
  · exact Or.inr (Or.inl (Int32.toInt_inj.mp (by rw [zI_0]; exact h)))
  · exact Or.inr (Or.inr (Int32.lt_iff_toInt_lt.mpr (by rw [zI_0]; exact h)))
theorem zI_five (x : Int32) : x < 0 ∨ 4 < x ∨ (¬ x < 0 ∧ ¬ 4 < x) := by
  by_cases h : x < 0
  · exact Or.inl h
  · by_cases h2 : 4 < x
    · exact Or.inr (Or.inl h2)
    · exact Or.inr (Or.inr ⟨h, h2⟩)
theorem zI_and7 (x : Int32) : x &&& 7 = 0 ∨ x &&& 7 = 1 ∨ x &&& 7 = 2 ∨ x &&& 7 = 3 ∨ x &&& 7 = 4 ∨ x &&& 7 = 5 ∨ x &&& 7 = 6 ∨ x &&& 7 = 7 := by
  obtain ⟨j, hj, e⟩ := pk_andE x (m := 7) 3 (by decide)
  rcases (show j = 0 ∨ j = 1 ∨ j = 2 ∨ j = 3 ∨ j = 4 ∨ j = 5 ∨ j = 6 ∨ j = 7 by omega) with rfl | rfl | rfl | rfl | rfl | rfl | rfl | rfl
  · exact Or.inl e
  · exact Or.inr (Or.inl e)
  · exact Or.inr (Or.inr (Or.inl e))
  · exact Or.inr (Or.inr (Or.inr (Or.inl e)))
  · exact Or.inr (Or.inr (Or.inr (Or.inr (Or.inl e))))
  · exact Or.inr (Or.inr (Or.inr (Or.inr (Or.inr (Or.inl e)))))
  · exact Or.inr (Or.inr (Or.inr (Or.inr (Or.inr (Or.inr (Or.inl e))))))
  · exact Or.inr (Or.inr (Or.inr (Or.inr (Or.inr (Or.inr (Or.inr e))))))
theorem xLoop {p : Program} {l : Launch} {e : Env} {R : Room} {s : State} {m : MethodId} {args : Array Value} {below : List Frame} {meth : Method} {c : Code} {cells slots : Nat} {Q : State → Prop} {pc : Nat} {stk : List Value} (I : Nat → Heap → List Loc → Array Slot → Prop)
    (step : ∀ (n : Nat) (H : Heap) (locs : List Loc) (ls : Array Slot), I n H locs ls → (∀ (n' : Nat) (H' : Heap) (locs' : List Loc) (ls' : Array Slot), n' < n → I n' H' locs' ls' → W p l e R s m args below meth c H' locs' cells slots Q (F0 m pc ls' stk)) → W p l e R s m args below meth c H locs cells slots Q (F0 m pc ls stk))
    (n : Nat) (H : Heap) (locs : List Loc) (ls : Array Slot) (h : I n H locs ls) : W p l e R s m args below meth c H locs cells slots Q (F0 m pc ls stk) := by
  induction n using Nat.strongRecOn generalizing H locs ls with
  | _ n ih => exact step n H locs ls h (fun n' H' locs' ls' hn h' => ih n' hn H' locs' ls' h')
section XNA
variable {p : Program} {l : Launch} {e : Env} {R : Room} {s : State} {m : MethodId} {args : Array Value} {below : List Frame} {meth : Method} {c : Code} {H : Heap} {locs : List Loc} {cells slots : Nat} {Q : State → Prop}
variable {cc : ByteArray} {pc : Nat} {ls : Array Slot} {rest : List Value} {A : Nat → Prop} {H0 : Heap} {D : va_G} {tys : List (ClassId × FieldType)} {ws : va_W}
/-- a new array, of a class that the world knows already -/
theorem xa_newa (hexec : p.tables.exec = Jvm.exec) (hb : c.code = cc) {atype : ArrayType} (harr : (Cond.arrayClass (newarray.typeOf atype)).before args s = true) {ty : FieldType} (hty : newarray.typeOf atype = ty) (hra : ∀ k : ClassId, va_RA s k ty → s.vm.findClass ("[" ++ ty.toString) = some k) (hK : va_K D cls9 tys s) (t0 : Nat) {kA : ClassId} (ht0 : tys[t0]? = some (kA, ty)) (hP : va_P D cls9 ws H) (hD : va_D A ws) (hS : va_S A H0 H locs) (hA : ∀ q, H0.size ≤ q → A q)
    {n : Int32} {N' : Nat} {a0 : vp_A} (ha : ∀ cA : ClassId, vp_cell cA a0 = arrV cA N' (fun _ => defaultValue ty)) (hn : ¬ n < 0) (hN : n.toNatClampNeg = N') (hbytes : N' * componentBytes ty ≤ 536870912) (hcells : cells + 1 ≤ R.cells) (hslots : slots + N' ≤ R.slots) (hdg : decode cc pc = .ok (.newarray atype, 2))
    (kk : ∀ (q : Nat) (H1 : Heap), va_P D cls9 (ws ++ [(q, .inl (kA, a0))]) H1 → va_D A (ws ++ [(q, .inl (kA, a0))]) → va_S A H0 H1 locs →
      W p l e R s m args below meth c H1 locs (cells + 1) (slots + N') Q (F0 m (pc + 2) ls (.ref q :: rest))) : W p l e R s m args below meth c H locs cells slots Q (F0 m pc ls (.int n :: rest)) := by
  refine va_newa hexec hb harr hty hK hP hD hS hA ha hn hN hbytes hcells hslots hdg (fun q cA H1 hK1 hP1 hD1 hS1 => ?_)
  have h1 := hra _ ((hK1.2 tys.length (cA, ty) (by simp)).2)
  have h2 := hra _ ((hK.2 t0 (kA, ty) ht0).2)
  have e1 : cA = kA := Option.some.inj (h1.symm.trans h2)
  subst e1
  exact kk q H1 hP1 hD1 hS1
end XNA

/-! the text constants: place i of the list; what holds of each, and of String's own statics -/
def sL : List (String × Nat × String × List Int32) := [("AlgolJudge$Tokens", 41, "begin end integer boolean array procedure value own switch label if then else for do step until while goto true false not and or div print", [98, 101, 103, 105, 110, 32, 101, 110, 100, 32, 105, 110, 116, 101, 103, 101, 114, 32, 98, 111, 111, 108, 101, 97, 110, 32, 97, 114, 114, 97, 121, 32, 112, 114, 111, 99, 101, 100, 117, 114, 101, 32, 118, 97, 108, 117, 101, 32, 111, 119, 110, 32, 115, 119, 105, 116, 99, 104, 32, 108, 97, 98, 101, 108, 32, 105, 102, 32, 116, 104, 101, 110, 32, 101, 108, 115, 101, 32, 102, 111, 114, 32, 100, 111, 32, 115, 116, 101, 112, 32, 117, 110, 116, 105, 108, 32, 119, 104, 105, 108, 101, 32, 103, 111, 116, 111, 32, 116, 114, 117, 101, 32, 102, 97, 108, 115, 101, 32, 110, 111, 116, 32, 97, 110, 100, 32, 111, 114, 32, 100, 105, 118, 32, 112, 114, 105, 110, 116]), ("AlgolJudge$Tokens", 95, "+-*^()[],;:<=>#", [43, 45, 42, 94, 40, 41, 91, 93, 44, 59, 58, 60, 61, 62, 35]), ("AlgolJudgeModel", 3, " begin end integer boolean array procedure value own switch label if then else for do step until while goto true false not and or div print ", [32, 98, 101, 103, 105, 110, 32, 101, 110, 100, 32, 105, 110, 116, 101, 103, 101, 114, 32, 98, 111, 111, 108, 101, 97, 110, 32, 97, 114, 114, 97, 121, 32, 112, 114, 111, 99, 101, 100, 117, 114, 101, 32, 118, 97, 108, 117, 101, 32, 111, 119, 110, 32, 115, 119, 105, 116, 99, 104, 32, 108, 97, 98, 101, 108, 32, 105, 102, 32, 116, 104, 101, 110, 32, 101, 108, 115, 101, 32, 102, 111, 114, 32, 100, 111, 32, 115, 116, 101, 112, 32, 117, 110, 116, 105, 108, 32, 119, 104, 105, 108, 101, 32, 103, 111, 116, 111, 32, 116, 114, 117, 101, 32, 102, 97, 108, 115, 101, 32, 110, 111, 116, 32, 97, 110, 100, 32, 111, 114, 32, 100, 105, 118, 32, 112, 114, 105, 110, 116, 32]), ("AlgolJudgeModel", 181, "begin", [98, 101, 103, 105, 110]), ("AlgolJudgeModel", 196, "own", [111, 119, 110]), ("AlgolJudgeModel", 177, "integer", [105, 110, 116, 101, 103, 101, 114]), ("AlgolJudgeModel", 179, "boolean", [98, 111, 111, 108, 101, 97, 110]), ("AlgolJudgeModel", 201, "procedure", [112, 114, 111, 99, 101, 100, 117, 114, 101]), ("AlgolJudgeModel", 202, "switch", [115, 119, 105, 116, 99, 104]), ("AlgolJudgeModel", 253, ",", [44]), ("AlgolJudgeModel", 271, ":=", [58, 61]), ("AlgolJudgeModel", 282, "(", [40]), ("AlgolJudgeModel", 287, ")", [41]), ("AlgolJudgeModel", 213, ";", [59]), ("AlgolJudgeModel", 289, "value", [118, 97, 108, 117, 101]), ("AlgolJudgeModel", 293, "label", [108, 97, 98, 101, 108]), ("AlgolJudgeModel", 242, "array", [97, 114, 114, 97, 121]), ("AlgolJudgeModel", 301, "goto", [103, 111, 116, 111]), ("AlgolJudgeModel", 264, "[", [91]), ("AlgolJudgeModel", 269, "]", [93]), ("AlgolJudgeModel", 306, "if", [105, 102]), ("AlgolJudgeModel", 374, "not", [110, 111, 116]), ("AlgolJudgeModel", 394, "+", [43]), ("AlgolJudgeModel", 396, "-", [45]), ("AlgolJudgeModel", 413, "true", [116, 114, 117, 101]), ("AlgolJudgeModel", 415, "false", [102, 97, 108, 115, 101]), ("AlgolJudgeModel", 411, "^", [94]), ("AlgolJudgeModel", 404, "*", [42]), ("AlgolJudgeModel", 406, "div", [100, 105, 118]), ("AlgolJudgeModel", 382, "<", [60]), ("AlgolJudgeModel", 384, "<=", [60, 61]), ("AlgolJudgeModel", 386, "=", [61]), ("AlgolJudgeModel", 388, ">=", [62, 61]), ("AlgolJudgeModel", 390, ">", [62]), ("AlgolJudgeModel", 392, "#", [35]), ("AlgolJudgeModel", 372, "and", [97, 110, 100]), ("AlgolJudgeModel", 364, "or", [111, 114]), ("AlgolJudgeModel", 328, "then", [116, 104, 101, 110]), ("AlgolJudgeModel", 333, "else", [101, 108, 115, 101]), ("AlgolJudgeModel", 311, "for", [102, 111, 114]), ("AlgolJudgeModel", 340, "step", [115, 116, 101, 112]), ("AlgolJudgeModel", 342, "while", [119, 104, 105, 108, 101]), ("AlgolJudgeModel", 344, "until", [117, 110, 116, 105, 108]), ("AlgolJudgeModel", 338, "do", [100, 111]), ("AlgolJudgeModel", 316, "print", [112, 114, 105, 110, 116]), ("AlgolJudgeModel", 218, ":", [58]), ("AlgolJudgeModel", 230, "end", [101, 110, 100])]
def sX (i : Nat) : String × Nat × String × List Int32 := sL.getD i ("", 0, "", [])
def sN (i : Nat) : Nat := (sX i).2.2.2.length
theorem sN_le : ∀ i, i < 47 → sN i ≤ 140 := by decide +kernel
theorem sN_toInt (i : Nat) (h : i < 47) : (nI (sN i)).toInt = sN i := nI_toInt (Nat.lt_of_le_of_lt (sN_le i h) (by decide))
def xE (sA sV : Nat → Nat) (A : Nat → Prop) (U : State) : Prop := (∀ i : Nat, i < 47 → vk_R (sX i).1 (sX i).2.1 (sX i).2.2.1 (sA i) U ∧ va_O "java/lang/String" (sA i) A U U.heap ∧ va_OF "java/lang/String" "coder" "B" (.int 0) (sA i) A U U.heap ∧ va_OF "java/lang/String" "value" "[B" (.ref (sV i)) (sA i) A U U.heap ∧ va_T .byte (sV i) (sN i) (fun j => .int ((sX i).2.2.2.getD j 0)) A U U.heap) ∧ va_Z "java/lang/String" "COMPACT_STRINGS" "Z" (.int 1) A U U.heap ∧ va_Zq "jdk/internal/util/Preconditions" "SIOOBE_FORMATTER" "Ljava/util/function/BiFunction;" A U U.heap
theorem xOk_E (sA sV : Nat → Nat) : xOk (xE sA sV) := by
  refine ⟨fun A a U g mk h => ?_, fun A B s U h hW hk hAB => ?_⟩
  · obtain ⟨h1, h7, h8⟩ := h
    exact ⟨fun i hi => ⟨(h1 i hi).1.same rfl, va_O.moved (Vm.Alike.refl U.vm) (h1 i hi).2.1, va_OF.moved (Vm.Alike.refl U.vm) (h1 i hi).2.2.1, va_OF.moved (Vm.Alike.refl U.vm) (h1 i hi).2.2.2.1, va_T.moved (Vm.Alike.refl U.vm) (h1 i hi).2.2.2.2⟩, va_Z.moved (Vm.Alike.refl U.vm) h7, va_Zq.moved (Vm.Alike.refl U.vm) h8⟩
  · obtain ⟨h1, h7, h8⟩ := h
    exact ⟨fun i hi => ⟨(h1 i hi).1.warm hW, va_O.moved hW.alike (((h1 i hi).2.1.kept hk).narrow hAB), va_OF.moved hW.alike (((h1 i hi).2.2.1.kept hk).narrow hAB), va_OF.moved hW.alike (((h1 i hi).2.2.2.1.kept hk).narrow hAB), va_T.moved hW.alike (((h1 i hi).2.2.2.2.kept hk).narrow hAB)⟩, va_Z.moved hW.alike ((h7.kept hk).narrow hAB), va_Zq.moved hW.alike ((h8.kept hk).narrow hAB)⟩
section XES
variable {s : State} {A : Nat → Prop} {sA sV : Nat → Nat}
theorem xE_c (h : xE sA sV A s) (i : Nat) (hi : i < 47) : va_OF "java/lang/String" "coder" "B" (.int 0) (sA i) A s s.heap := (h.1 i hi).2.2.1
theorem xE_v (h : xE sA sV A s) (i : Nat) (hi : i < 47) : va_OF "java/lang/String" "value" "[B" (.ref (sV i)) (sA i) A s s.heap := (h.1 i hi).2.2.2.1
theorem xE_T (h : xE sA sV A s) (i : Nat) (hi : i < 47) : va_T .byte (sV i) (sN i) (fun j => .int ((sX i).2.2.2.getD j 0)) A s s.heap := (h.1 i hi).2.2.2.2
theorem xE_Z (h : xE sA sV A s) : va_Z "java/lang/String" "COMPACT_STRINGS" "Z" (.int 1) A s s.heap := h.2.1
theorem xE_Zq (h : xE sA sV A s) : va_Z "jdk/internal/util/Preconditions" "SIOOBE_FORMATTER" "Ljava/util/function/BiFunction;" .null A s s.heap ∨ ∃ t : Nat, va_Z "jdk/internal/util/Preconditions" "SIOOBE_FORMATTER" "Ljava/util/function/BiFunction;" (.ref t) A s s.heap := h.2.2
theorem xE_O (h : xE sA sV A s) (i : Nat) (hi : i < 47) {H : Heap} {locs : List Loc} (hS : va_S A s.heap H locs) : ∃ cell : Cell, H[sA i]? = some cell ∧ cell.vm.isStatics = false ∧ s.vm.findClass "java/lang/String" = some cell.cls := by
  obtain ⟨cell, h1, h2, h3, -⟩ := (h.1 i hi).2.1.kept hS.2.1
  exact ⟨cell, h1, h2, h3⟩
theorem xE_r0 (h : xE sA sV A s) : vk_R "AlgolJudge$Tokens" 41 "begin end integer boolean array procedure value own switch label if then else for do step until while goto true false not and or div print" (sA 0) s := (h.1 0 (by decide)).1
theorem xE_r1 (h : xE sA sV A s) : vk_R "AlgolJudge$Tokens" 95 "+-*^()[],;:<=>#" (sA 1) s := (h.1 1 (by decide)).1
theorem xE_r2 (h : xE sA sV A s) : vk_R "AlgolJudgeModel" 3 " begin end integer boolean array procedure value own switch label if then else for do step until while goto true false not and or div print " (sA 2) s := (h.1 2 (by decide)).1
theorem xE_r3 (h : xE sA sV A s) : vk_R "AlgolJudgeModel" 181 "begin" (sA 3) s := (h.1 3 (by decide)).1
theorem xE_r4 (h : xE sA sV A s) : vk_R "AlgolJudgeModel" 196 "own" (sA 4) s := (h.1 4 (by decide)).1
theorem xE_r5 (h : xE sA sV A s) : vk_R "AlgolJudgeModel" 177 "integer" (sA 5) s := (h.1 5 (by decide)).1
theorem xE_r6 (h : xE sA sV A s) : vk_R "AlgolJudgeModel" 179 "boolean" (sA 6) s := (h.1 6 (by decide)).1
theorem xE_r7 (h : xE sA sV A s) : vk_R "AlgolJudgeModel" 201 "procedure" (sA 7) s := (h.1 7 (by decide)).1
theorem xE_r8 (h : xE sA sV A s) : vk_R "AlgolJudgeModel" 202 "switch" (sA 8) s := (h.1 8 (by decide)).1
theorem xE_r9 (h : xE sA sV A s) : vk_R "AlgolJudgeModel" 253 "," (sA 9) s := (h.1 9 (by decide)).1
theorem xE_r10 (h : xE sA sV A s) : vk_R "AlgolJudgeModel" 271 ":=" (sA 10) s := (h.1 10 (by decide)).1
theorem xE_r11 (h : xE sA sV A s) : vk_R "AlgolJudgeModel" 282 "(" (sA 11) s := (h.1 11 (by decide)).1
theorem xE_r12 (h : xE sA sV A s) : vk_R "AlgolJudgeModel" 287 ")" (sA 12) s := (h.1 12 (by decide)).1
theorem xE_r13 (h : xE sA sV A s) : vk_R "AlgolJudgeModel" 213 ";" (sA 13) s := (h.1 13 (by decide)).1
theorem xE_r14 (h : xE sA sV A s) : vk_R "AlgolJudgeModel" 289 "value" (sA 14) s := (h.1 14 (by decide)).1
theorem xE_r15 (h : xE sA sV A s) : vk_R "AlgolJudgeModel" 293 "label" (sA 15) s := (h.1 15 (by decide)).1
theorem xE_r16 (h : xE sA sV A s) : vk_R "AlgolJudgeModel" 242 "array" (sA 16) s := (h.1 16 (by decide)).1
theorem xE_r17 (h : xE sA sV A s) : vk_R "AlgolJudgeModel" 301 "goto" (sA 17) s := (h.1 17 (by decide)).1
theorem xE_r18 (h : xE sA sV A s) : vk_R "AlgolJudgeModel" 264 "[" (sA 18) s := (h.1 18 (by decide)).1
theorem xE_r19 (h : xE sA sV A s) : vk_R "AlgolJudgeModel" 269 "]" (sA 19) s := (h.1 19 (by decide)).1
theorem xE_r20 (h : xE sA sV A s) : vk_R "AlgolJudgeModel" 306 "if" (sA 20) s := (h.1 20 (by decide)).1
theorem xE_r21 (h : xE sA sV A s) : vk_R "AlgolJudgeModel" 374 "not" (sA 21) s := (h.1 21 (by decide)).1
theorem xE_r22 (h : xE sA sV A s) : vk_R "AlgolJudgeModel" 394 "+" (sA 22) s := (h.1 22 (by decide)).1
theorem xE_r23 (h : xE sA sV A s) : vk_R "AlgolJudgeModel" 396 "-" (sA 23) s := (h.1 23 (by decide)).1
theorem xE_r24 (h : xE sA sV A s) : vk_R "AlgolJudgeModel" 413 "true" (sA 24) s := (h.1 24 (by decide)).1
theorem xE_r25 (h : xE sA sV A s) : vk_R "AlgolJudgeModel" 415 "false" (sA 25) s := (h.1 25 (by decide)).1
theorem xE_r26 (h : xE sA sV A s) : vk_R "AlgolJudgeModel" 411 "^" (sA 26) s := (h.1 26 (by decide)).1
theorem xE_r27 (h : xE sA sV A s) : vk_R "AlgolJudgeModel" 404 "*" (sA 27) s := (h.1 27 (by decide)).1
theorem xE_r28 (h : xE sA sV A s) : vk_R "AlgolJudgeModel" 406 "div" (sA 28) s := (h.1 28 (by decide)).1
theorem xE_r29 (h : xE sA sV A s) : vk_R "AlgolJudgeModel" 382 "<" (sA 29) s := (h.1 29 (by decide)).1
theorem xE_r30 (h : xE sA sV A s) : vk_R "AlgolJudgeModel" 384 "<=" (sA 30) s := (h.1 30 (by decide)).1
theorem xE_r31 (h : xE sA sV A s) : vk_R "AlgolJudgeModel" 386 "=" (sA 31) s := (h.1 31 (by decide)).1
theorem xE_r32 (h : xE sA sV A s) : vk_R "AlgolJudgeModel" 388 ">=" (sA 32) s := (h.1 32 (by decide)).1
theorem xE_r33 (h : xE sA sV A s) : vk_R "AlgolJudgeModel" 390 ">" (sA 33) s := (h.1 33 (by decide)).1
theorem xE_r34 (h : xE sA sV A s) : vk_R "AlgolJudgeModel" 392 "#" (sA 34) s := (h.1 34 (by decide)).1
theorem xE_r35 (h : xE sA sV A s) : vk_R "AlgolJudgeModel" 372 "and" (sA 35) s := (h.1 35 (by decide)).1
theorem xE_r36 (h : xE sA sV A s) : vk_R "AlgolJudgeModel" 364 "or" (sA 36) s := (h.1 36 (by decide)).1
theorem xE_r37 (h : xE sA sV A s) : vk_R "AlgolJudgeModel" 328 "then" (sA 37) s := (h.1 37 (by decide)).1
theorem xE_r38 (h : xE sA sV A s) : vk_R "AlgolJudgeModel" 333 "else" (sA 38) s := (h.1 38 (by decide)).1
theorem xE_r39 (h : xE sA sV A s) : vk_R "AlgolJudgeModel" 311 "for" (sA 39) s := (h.1 39 (by decide)).1
theorem xE_r40 (h : xE sA sV A s) : vk_R "AlgolJudgeModel" 340 "step" (sA 40) s := (h.1 40 (by decide)).1
theorem xE_r41 (h : xE sA sV A s) : vk_R "AlgolJudgeModel" 342 "while" (sA 41) s := (h.1 41 (by decide)).1
theorem xE_r42 (h : xE sA sV A s) : vk_R "AlgolJudgeModel" 344 "until" (sA 42) s := (h.1 42 (by decide)).1
theorem xE_r43 (h : xE sA sV A s) : vk_R "AlgolJudgeModel" 338 "do" (sA 43) s := (h.1 43 (by decide)).1
theorem xE_r44 (h : xE sA sV A s) : vk_R "AlgolJudgeModel" 316 "print" (sA 44) s := (h.1 44 (by decide)).1
theorem xE_r45 (h : xE sA sV A s) : vk_R "AlgolJudgeModel" 218 ":" (sA 45) s := (h.1 45 (by decide)).1
theorem xE_r46 (h : xE sA sV A s) : vk_R "AlgolJudgeModel" 230 "end" (sA 46) s := (h.1 46 (by decide)).1
end XES
