def zt : List Cond := lw_tbl.filter goodWord
theorem zt_in {w : Cond} (h : w ∈ lw_tbl) (hg : goodWord w = true) : w ∈ zt := List.mem_filter.mpr ⟨h, hg⟩
theorem zt_sub {w : Cond} (h : w ∈ zt) : w ∈ lw_tbl := (List.mem_filter.mp h).1
theorem zt_good : ∀ w ∈ zt, (w.onTables && w.keeps) = true ∨ ∃ ty, w = .arrayClass ty := fun w h => good_of_word (List.mem_filter.mp h).2
def R_Rows : String := "FrameQueries$Rows"
def F_Rows : u_T := fun k => match k with
  | 0 => ("FrameQueries$Rows", "columns", "I", true)
  | 1 => ("FrameQueries$Rows", "values", "[J", true)
  | 2 => ("FrameQueries$Rows", "slots", "[I", true)
  | 3 => ("FrameQueries$Rows", "spare", "[I", true)
  | _ => ("FrameQueries$Rows", "count", "I", false)
def t_Rows : Nat → FieldType := fun k => match k with
  | 0 => .int
  | 1 => .array .long
  | 2 => .array .int
  | 3 => .array .int
  | _ => .int
theorem n_Rows : ∀ a, a < 5 → ∀ b, b < 5 → a ≠ b → (F_Rows a).2.1 ≠ (F_Rows b).2.1 := by decide +kernel
theorem t_Rows_ok : ∀ k, k < 5 → parseFieldDescriptor (F_Rows k).2.2.1 = some (t_Rows k) := by decide +kernel
def R_Keys : String := "FrameQueries$Keys"
def F_Keys : u_T := fun k => match k with
  | 0 => ("FrameQueries$Keys", "columns", "[I", true)
  | 1 => ("FrameQueries$Keys", "down", "[Z", true)
  | _ => ("FrameQueries$Keys", "count", "I", false)
def t_Keys : Nat → FieldType := fun k => match k with
  | 0 => .array .int
  | 1 => .array .boolean
  | _ => .int
theorem n_Keys : ∀ a, a < 3 → ∀ b, b < 3 → a ≠ b → (F_Keys a).2.1 ≠ (F_Keys b).2.1 := by decide +kernel
theorem t_Keys_ok : ∀ k, k < 3 → parseFieldDescriptor (F_Keys k).2.2.1 = some (t_Keys k) := by decide +kernel
def R_Window : String := "FrameQueries$Window"
def F_Window : u_T := fun k => match k with
  | 0 => ("FrameQueries$Window", "keys", "LFrameQueries$Keys;", true)
  | 1 => ("FrameQueries$Window", "function", "I", false)
  | 2 => ("FrameQueries$Window", "argument", "I", false)
  | 3 => ("FrameQueries$Window", "number", "I", false)
  | 4 => ("FrameQueries$Window", "partition", "I", false)
  | 5 => ("FrameQueries$Window", "order", "I", false)
  | 6 => ("FrameQueries$Window", "down", "Z", false)
  | 7 => ("FrameQueries$Window", "range", "Z", false)
  | 8 => ("FrameQueries$Window", "low", "I", false)
  | _ => ("FrameQueries$Window", "high", "I", false)
def t_Window : Nat → FieldType := fun k => match k with
  | 0 => .object "FrameQueries$Keys"
  | 1 => .int
  | 2 => .int
  | 3 => .int
  | 4 => .int
  | 5 => .int
  | 6 => .boolean
  | 7 => .boolean
  | 8 => .int
  | _ => .int
theorem n_Window : ∀ a, a < 10 → ∀ b, b < 10 → a ≠ b → (F_Window a).2.1 ≠ (F_Window b).2.1 := by decide +kernel
theorem t_Window_ok : ∀ k, k < 10 → parseFieldDescriptor (F_Window k).2.2.1 = some (t_Window k) := by decide +kernel
def R_Query : String := "FrameQueries$Query"
def F_Query : u_T := fun k => match k with
  | 0 => ("FrameQueries$Query", "windows", "[LFrameQueries$Window;", true)
  | 1 => ("FrameQueries$Query", "order", "LFrameQueries$Keys;", true)
  | 2 => ("FrameQueries$Query", "windowCount", "I", false)
  | 3 => ("FrameQueries$Query", "filterColumn", "I", false)
  | 4 => ("FrameQueries$Query", "filterOp", "I", false)
  | 5 => ("FrameQueries$Query", "filterNumber", "I", false)
  | 6 => ("FrameQueries$Query", "joinLeft", "I", false)
  | _ => ("FrameQueries$Query", "joinRight", "I", false)
def t_Query : Nat → FieldType := fun k => match k with
  | 0 => .array (.object "FrameQueries$Window")
  | 1 => .object "FrameQueries$Keys"
  | 2 => .int
  | 3 => .int
  | 4 => .int
  | 5 => .int
  | 6 => .int
  | _ => .int
theorem n_Query : ∀ a, a < 8 → ∀ b, b < 8 → a ≠ b → (F_Query a).2.1 ≠ (F_Query b).2.1 := by decide +kernel
theorem t_Query_ok : ∀ k, k < 8 → parseFieldDescriptor (F_Query k).2.2.1 = some (t_Query k) := by decide +kernel
def R_Meter : String := "FrameQueries$Meter"
def F_Meter : u_T := fun k => match k with
  | 0 => ("FrameQueries$Meter", "frames", "I", true)
  | 1 => ("FrameQueries$Meter", "transferred", "I", false)
  | 2 => ("FrameQueries$Meter", "mostHeld", "I", false)
  | _ => ("FrameQueries$Meter", "sortsMade", "I", false)
def t_Meter : Nat → FieldType := fun k => match k with
  | 0 => .int
  | 1 => .int
  | 2 => .int
  | _ => .int
theorem n_Meter : ∀ a, a < 4 → ∀ b, b < 4 → a ≠ b → (F_Meter a).2.1 ≠ (F_Meter b).2.1 := by decide +kernel
theorem t_Meter_ok : ∀ k, k < 4 → parseFieldDescriptor (F_Meter k).2.2.1 = some (t_Meter k) := by decide +kernel
def R_Matcher : String := "FrameQueries$Matcher"
def F_Matcher : u_T := fun k => match k with
  | 0 => ("FrameQueries$Matcher", "meter", "LFrameQueries$Meter;", true)
  | 1 => ("FrameQueries$Matcher", "left", "LFrameQueries$Rows;", true)
  | 2 => ("FrameQueries$Matcher", "right", "LFrameQueries$Rows;", true)
  | 3 => ("FrameQueries$Matcher", "parts", "I", true)
  | 4 => ("FrameQueries$Matcher", "leftColumn", "I", false)
  | _ => ("FrameQueries$Matcher", "rightColumn", "I", false)
def t_Matcher : Nat → FieldType := fun k => match k with
  | 0 => .object "FrameQueries$Meter"
  | 1 => .object "FrameQueries$Rows"
  | 2 => .object "FrameQueries$Rows"
  | 3 => .int
  | 4 => .int
  | _ => .int
theorem n_Matcher : ∀ a, a < 6 → ∀ b, b < 6 → a ≠ b → (F_Matcher a).2.1 ≠ (F_Matcher b).2.1 := by decide +kernel
theorem t_Matcher_ok : ∀ k, k < 6 → parseFieldDescriptor (F_Matcher k).2.2.1 = some (t_Matcher k) := by decide +kernel
def R_Reckoner : String := "FrameQueries$Reckoner"
def F_Reckoner : u_T := fun k => match k with
  | 0 => ("FrameQueries$Reckoner", "list", "LFrameQueries$Rows;", true)
  | 1 => ("FrameQueries$Reckoner", "window", "LFrameQueries$Window;", false)
  | 2 => ("FrameQueries$Reckoner", "start", "I", false)
  | 3 => ("FrameQueries$Reckoner", "end", "I", false)
  | 4 => ("FrameQueries$Reckoner", "firstPeer", "I", false)
  | 5 => ("FrameQueries$Reckoner", "peerGroups", "I", false)
  | 6 => ("FrameQueries$Reckoner", "frameStart", "I", false)
  | _ => ("FrameQueries$Reckoner", "frameEnd", "I", false)
def t_Reckoner : Nat → FieldType := fun k => match k with
  | 0 => .object "FrameQueries$Rows"
  | 1 => .object "FrameQueries$Window"
  | 2 => .int
  | 3 => .int
  | 4 => .int
  | 5 => .int
  | 6 => .int
  | _ => .int
theorem n_Reckoner : ∀ a, a < 8 → ∀ b, b < 8 → a ≠ b → (F_Reckoner a).2.1 ≠ (F_Reckoner b).2.1 := by decide +kernel
theorem t_Reckoner_ok : ∀ k, k < 8 → parseFieldDescriptor (F_Reckoner k).2.2.1 = some (t_Reckoner k) := by decide +kernel
def R_Runner : String := "FrameQueries$Runner"
def F_Runner : u_T := fun k => match k with
  | 0 => ("FrameQueries$Runner", "meter", "LFrameQueries$Meter;", true)
  | 1 => ("FrameQueries$Runner", "list", "LFrameQueries$Rows;", true)
  | 2 => ("FrameQueries$Runner", "left", "LFrameQueries$Rows;", true)
  | 3 => ("FrameQueries$Runner", "right", "LFrameQueries$Rows;", true)
  | 4 => ("FrameQueries$Runner", "kept", "LFrameQueries$Rows;", true)
  | 5 => ("FrameQueries$Runner", "matcher", "LFrameQueries$Matcher;", true)
  | 6 => ("FrameQueries$Runner", "reckoner", "LFrameQueries$Reckoner;", true)
  | _ => ("FrameQueries$Runner", "ordered", "LFrameQueries$Keys;", false)
def t_Runner : Nat → FieldType := fun k => match k with
  | 0 => .object "FrameQueries$Meter"
  | 1 => .object "FrameQueries$Rows"
  | 2 => .object "FrameQueries$Rows"
  | 3 => .object "FrameQueries$Rows"
  | 4 => .object "FrameQueries$Rows"
  | 5 => .object "FrameQueries$Matcher"
  | 6 => .object "FrameQueries$Reckoner"
  | _ => .object "FrameQueries$Keys"
theorem n_Runner : ∀ a, a < 8 → ∀ b, b < 8 → a ≠ b → (F_Runner a).2.1 ≠ (F_Runner b).2.1 := by decide +kernel
theorem t_Runner_ok : ∀ k, k < 8 → parseFieldDescriptor (F_Runner k).2.2.1 = some (t_Runner k) := by decide +kernel
def R_FQ : String := "FrameQueries"
def F_FQ : u_T := fun k => match k with
  | 0 => ("FrameQueries", "tables", "[LFrameQueries$Rows;", true)
  | 1 => ("FrameQueries", "query", "LFrameQueries$Query;", true)
  | _ => ("FrameQueries", "runner", "LFrameQueries$Runner;", true)
def t_FQ : Nat → FieldType := fun k => match k with
  | 0 => .array (.object "FrameQueries$Rows")
  | 1 => .object "FrameQueries$Query"
  | _ => .object "FrameQueries$Runner"
theorem n_FQ : ∀ a, a < 3 → ∀ b, b < 3 → a ≠ b → (F_FQ a).2.1 ≠ (F_FQ b).2.1 := by decide +kernel
theorem t_FQ_ok : ∀ k, k < 3 → parseFieldDescriptor (F_FQ k).2.2.1 = some (t_FQ k) := by decide +kernel
def R_Mo : String := "FrameQueriesModel"
def F_Mo : u_T := fun k => match k with
  | 0 => ("FrameQueriesModel", "m", "I", true)
  | 1 => ("FrameQueriesModel", "size", "[I", true)
  | 2 => ("FrameQueriesModel", "given", "[I", true)
  | 3 => ("FrameQueriesModel", "holes", "[I", true)
  | 4 => ("FrameQueriesModel", "filters", "Z", false)
  | 5 => ("FrameQueriesModel", "test", "[I", true)
  | 6 => ("FrameQueriesModel", "joins", "Z", false)
  | 7 => ("FrameQueriesModel", "joinX", "I", false)
  | 8 => ("FrameQueriesModel", "joinY", "I", false)
  | 9 => ("FrameQueriesModel", "windows", "I", false)
  | 10 => ("FrameQueriesModel", "wFunction", "[I", true)
  | 11 => ("FrameQueriesModel", "wArgument", "[I", true)
  | 12 => ("FrameQueriesModel", "wNumber", "[I", true)
  | 13 => ("FrameQueriesModel", "wPart", "[I", true)
  | 14 => ("FrameQueriesModel", "wOrder", "[I", true)
  | 15 => ("FrameQueriesModel", "wDown", "[Z", true)
  | 16 => ("FrameQueriesModel", "wRange", "[Z", true)
  | 17 => ("FrameQueriesModel", "wLow", "[I", true)
  | 18 => ("FrameQueriesModel", "wHigh", "[I", true)
  | 19 => ("FrameQueriesModel", "orders", "Z", false)
  | 20 => ("FrameQueriesModel", "orderColumn", "I", false)
  | 21 => ("FrameQueriesModel", "orderDown", "Z", false)
  | 22 => ("FrameQueriesModel", "kept", "I", false)
  | 23 => ("FrameQueriesModel", "keeps", "[I", true)
  | 24 => ("FrameQueriesModel", "n", "I", false)
  | 25 => ("FrameQueriesModel", "value", "[I", true)
  | 26 => ("FrameQueriesModel", "hole", "[Z", true)
  | 27 => ("FrameQueriesModel", "first", "[I", true)
  | 28 => ("FrameQueriesModel", "second", "[I", true)
  | 29 => ("FrameQueriesModel", "list", "[I", true)
  | 30 => ("FrameQueriesModel", "keys", "I", false)
  | 31 => ("FrameQueriesModel", "keyColumn", "[I", true)
  | 32 => ("FrameQueriesModel", "keyDown", "[Z", true)
  | 33 => ("FrameQueriesModel", "transferred", "I", false)
  | 34 => ("FrameQueriesModel", "most", "I", false)
  | 35 => ("FrameQueriesModel", "sorted", "I", false)
  | 36 => ("FrameQueriesModel", "error", "I", false)
  | 37 => ("FrameQueriesModel", "shown", "I", false)
  | 38 => ("FrameQueriesModel", "frameFirst", "I", false)
  | 39 => ("FrameQueriesModel", "frameLast", "I", false)
  | 40 => ("FrameQueriesModel", "frameCount", "I", false)
  | 41 => ("FrameQueriesModel", "frameLeast", "I", false)
  | 42 => ("FrameQueriesModel", "frameGreatest", "I", false)
  | _ => ("FrameQueriesModel", "frameSum", "J", false)
def t_Mo : Nat → FieldType := fun k => match k with
  | 0 => .int
  | 1 => .array .int
  | 2 => .array .int
  | 3 => .array .int
  | 4 => .boolean
  | 5 => .array .int
  | 6 => .boolean
  | 7 => .int
  | 8 => .int
  | 9 => .int
  | 10 => .array .int
  | 11 => .array .int
  | 12 => .array .int
  | 13 => .array .int
  | 14 => .array .int
  | 15 => .array .boolean
  | 16 => .array .boolean
  | 17 => .array .int
  | 18 => .array .int
  | 19 => .boolean
  | 20 => .int
  | 21 => .boolean
  | 22 => .int
  | 23 => .array .int
  | 24 => .int
  | 25 => .array .int
  | 26 => .array .boolean
  | 27 => .array .int
  | 28 => .array .int
  | 29 => .array .int
  | 30 => .int
  | 31 => .array .int
  | 32 => .array .boolean
  | 33 => .int
  | 34 => .int
  | 35 => .int
  | 36 => .int
  | 37 => .int
  | 38 => .int
  | 39 => .int
  | 40 => .int
  | 41 => .int
  | 42 => .int
  | _ => .long
theorem n_Mo : ∀ a, a < 44 → ∀ b, b < 44 → a ≠ b → (F_Mo a).2.1 ≠ (F_Mo b).2.1 := by decide +kernel
theorem t_Mo_ok : ∀ k, k < 44 → parseFieldDescriptor (F_Mo k).2.2.1 = some (t_Mo k) := by decide +kernel
def R_Law : String := "FrameQueriesLaw"
abbrev vwCl : List vw_C := [(R_Rows, F_Rows, 5), (R_Keys, F_Keys, 3), (R_Window, F_Window, 10), (R_Query, F_Query, 8), (R_Meter, F_Meter, 4), (R_Matcher, F_Matcher, 6), (R_Reckoner, F_Reckoner, 8), (R_Runner, F_Runner, 8), (R_FQ, F_FQ, 3), (R_Mo, F_Mo, 44)]
set_option maxRecDepth 20000 in
theorem hin_Rows : ∀ w ∈ u_ws R_Rows F_Rows 5, w ∈ zt := by
  have h : (u_ws R_Rows F_Rows 5).all (fun w => decide (w ∈ lw_tbl) && goodWord w) = true := by decide +kernel
  intro w hw
  have h2 := List.all_eq_true.mp h w hw
  simp only [Bool.and_eq_true, decide_eq_true_eq] at h2
  exact zt_in h2.1 h2.2
set_option maxRecDepth 20000 in
theorem hin_Keys : ∀ w ∈ u_ws R_Keys F_Keys 3, w ∈ zt := by
  have h : (u_ws R_Keys F_Keys 3).all (fun w => decide (w ∈ lw_tbl) && goodWord w) = true := by decide +kernel
  intro w hw
  have h2 := List.all_eq_true.mp h w hw
  simp only [Bool.and_eq_true, decide_eq_true_eq] at h2
  exact zt_in h2.1 h2.2
set_option maxRecDepth 20000 in
theorem hin_Window : ∀ w ∈ u_ws R_Window F_Window 10, w ∈ zt := by
  have h : (u_ws R_Window F_Window 10).all (fun w => decide (w ∈ lw_tbl) && goodWord w) = true := by decide +kernel
  intro w hw
  have h2 := List.all_eq_true.mp h w hw
  simp only [Bool.and_eq_true, decide_eq_true_eq] at h2
  exact zt_in h2.1 h2.2
set_option maxRecDepth 20000 in
theorem hin_Query : ∀ w ∈ u_ws R_Query F_Query 8, w ∈ zt := by
  have h : (u_ws R_Query F_Query 8).all (fun w => decide (w ∈ lw_tbl) && goodWord w) = true := by decide +kernel
  intro w hw
  have h2 := List.all_eq_true.mp h w hw
  simp only [Bool.and_eq_true, decide_eq_true_eq] at h2
  exact zt_in h2.1 h2.2
set_option maxRecDepth 20000 in
theorem hin_Meter : ∀ w ∈ u_ws R_Meter F_Meter 4, w ∈ zt := by
  have h : (u_ws R_Meter F_Meter 4).all (fun w => decide (w ∈ lw_tbl) && goodWord w) = true := by decide +kernel
  intro w hw
  have h2 := List.all_eq_true.mp h w hw
  simp only [Bool.and_eq_true, decide_eq_true_eq] at h2
  exact zt_in h2.1 h2.2
set_option maxRecDepth 20000 in
theorem hin_Matcher : ∀ w ∈ u_ws R_Matcher F_Matcher 6, w ∈ zt := by
  have h : (u_ws R_Matcher F_Matcher 6).all (fun w => decide (w ∈ lw_tbl) && goodWord w) = true := by decide +kernel
  intro w hw
  have h2 := List.all_eq_true.mp h w hw
  simp only [Bool.and_eq_true, decide_eq_true_eq] at h2
  exact zt_in h2.1 h2.2
set_option maxRecDepth 20000 in
theorem hin_Reckoner : ∀ w ∈ u_ws R_Reckoner F_Reckoner 8, w ∈ zt := by
  have h : (u_ws R_Reckoner F_Reckoner 8).all (fun w => decide (w ∈ lw_tbl) && goodWord w) = true := by decide +kernel
  intro w hw
  have h2 := List.all_eq_true.mp h w hw
  simp only [Bool.and_eq_true, decide_eq_true_eq] at h2
  exact zt_in h2.1 h2.2
set_option maxRecDepth 20000 in
theorem hin_Runner : ∀ w ∈ u_ws R_Runner F_Runner 8, w ∈ zt := by
  have h : (u_ws R_Runner F_Runner 8).all (fun w => decide (w ∈ lw_tbl) && goodWord w) = true := by decide +kernel
  intro w hw
  have h2 := List.all_eq_true.mp h w hw
  simp only [Bool.and_eq_true, decide_eq_true_eq] at h2
  exact zt_in h2.1 h2.2
set_option maxRecDepth 20000 in
theorem hin_FQ : ∀ w ∈ u_ws R_FQ F_FQ 3, w ∈ zt := by
  have h : (u_ws R_FQ F_FQ 3).all (fun w => decide (w ∈ lw_tbl) && goodWord w) = true := by decide +kernel
  intro w hw
  have h2 := List.all_eq_true.mp h w hw
  simp only [Bool.and_eq_true, decide_eq_true_eq] at h2
  exact zt_in h2.1 h2.2
set_option maxRecDepth 20000 in
theorem hin_Mo : ∀ w ∈ u_ws R_Mo F_Mo 44, w ∈ zt := by
  have h : (u_ws R_Mo F_Mo 44).all (fun w => decide (w ∈ lw_tbl) && goodWord w) = true := by decide +kernel
  intro w hw
  have h2 := List.all_eq_true.mp h w hw
  simp only [Bool.and_eq_true, decide_eq_true_eq] at h2
  exact zt_in h2.1 h2.2
abbrev b_FQ_init : ByteArray := prog_1_method_1_code
def y_FQ_init : MethodName := ⟨R_FQ, "<init>", "(I)V"⟩
def ws_FQ_init : List Cond := .code y_FQ_init b_FQ_init 3 none :: zt
theorem co_FQ_init : (Cond.code y_FQ_init b_FQ_init 3 none) ∈ zt := zt_in (List.mem_append_right _ (List.mem_of_getElem? (i := 17) (by decide +kernel))) (by decide +kernel)
theorem im_FQ_init : (Cond.instanceMethod y_FQ_init) ∈ zt := zt_in (List.mem_append_right _ (List.mem_of_getElem? (i := 16) (by decide +kernel))) (by decide +kernel)
theorem hd_FQ_init : y_FQ_init.cls ≠ "java/lang/invoke/MethodHandle" ∧ y_FQ_init.cls ≠ "java/lang/invoke/VarHandle" ∧ (parseMethodDescriptor y_FQ_init.desc).map (fun d => d.parameters.length) = some 1 := by decide +kernel
abbrev b_FQ_isWithin : ByteArray := prog_1_method_20_code
def y_FQ_isWithin : MethodName := ⟨R_FQ, "isWithin", "(III)Z"⟩
def ws_FQ_isWithin : List Cond := .code y_FQ_isWithin b_FQ_isWithin 3 (some .boolean) :: zt
theorem co_FQ_isWithin : (Cond.code y_FQ_isWithin b_FQ_isWithin 3 (some .boolean)) ∈ zt := zt_in (List.mem_append_right _ (List.mem_of_getElem? (i := 23) (by decide +kernel))) (by decide +kernel)
theorem sm_FQ_isWithin : (Cond.static y_FQ_isWithin) ∈ zt := zt_in (List.mem_append_right _ (List.mem_of_getElem? (i := 22) (by decide +kernel))) (by decide +kernel)
theorem hd_FQ_isWithin : y_FQ_isWithin.cls ≠ "java/lang/invoke/MethodHandle" ∧ y_FQ_isWithin.cls ≠ "java/lang/invoke/VarHandle" ∧ (parseMethodDescriptor y_FQ_isWithin.desc).map (fun d => d.parameters.length) = some 3 := by decide +kernel
abbrev b_Rows_init : ByteArray := prog_7_method_1_code
def y_Rows_init : MethodName := ⟨R_Rows, "<init>", "(II)V"⟩
def ws_Rows_init : List Cond := .code y_Rows_init b_Rows_init 3 none :: zt
theorem co_Rows_init : (Cond.code y_Rows_init b_Rows_init 3 none) ∈ zt := zt_in (List.mem_append_right _ (List.mem_of_getElem? (i := 29) (by decide +kernel))) (by decide +kernel)
theorem im_Rows_init : (Cond.instanceMethod y_Rows_init) ∈ zt := zt_in (List.mem_append_right _ (List.mem_of_getElem? (i := 28) (by decide +kernel))) (by decide +kernel)
theorem hd_Rows_init : y_Rows_init.cls ≠ "java/lang/invoke/MethodHandle" ∧ y_Rows_init.cls ≠ "java/lang/invoke/VarHandle" ∧ (parseMethodDescriptor y_Rows_init.desc).map (fun d => d.parameters.length) = some 2 := by decide +kernel
abbrev b_Query_init : ByteArray := prog_5_method_1_code
def y_Query_init : MethodName := ⟨R_Query, "<init>", "()V"⟩
def ws_Query_init : List Cond := .code y_Query_init b_Query_init 1 none :: zt
theorem co_Query_init : (Cond.code y_Query_init b_Query_init 1 none) ∈ zt := zt_in (List.mem_append_right _ (List.mem_of_getElem? (i := 56) (by decide +kernel))) (by decide +kernel)
theorem im_Query_init : (Cond.instanceMethod y_Query_init) ∈ zt := zt_in (List.mem_append_right _ (List.mem_of_getElem? (i := 55) (by decide +kernel))) (by decide +kernel)
theorem hd_Query_init : y_Query_init.cls ≠ "java/lang/invoke/MethodHandle" ∧ y_Query_init.cls ≠ "java/lang/invoke/VarHandle" ∧ (parseMethodDescriptor y_Query_init.desc).map (fun d => d.parameters.length) = some 0 := by decide +kernel
abbrev b_Window_init : ByteArray := prog_9_method_1_code
def y_Window_init : MethodName := ⟨R_Window, "<init>", "()V"⟩
def ws_Window_init : List Cond := .code y_Window_init b_Window_init 1 none :: zt
theorem co_Window_init : (Cond.code y_Window_init b_Window_init 1 none) ∈ zt := zt_in (List.mem_append_right _ (List.mem_of_getElem? (i := 63) (by decide +kernel))) (by decide +kernel)
theorem im_Window_init : (Cond.instanceMethod y_Window_init) ∈ zt := zt_in (List.mem_append_right _ (List.mem_of_getElem? (i := 62) (by decide +kernel))) (by decide +kernel)
theorem hd_Window_init : y_Window_init.cls ≠ "java/lang/invoke/MethodHandle" ∧ y_Window_init.cls ≠ "java/lang/invoke/VarHandle" ∧ (parseMethodDescriptor y_Window_init.desc).map (fun d => d.parameters.length) = some 0 := by decide +kernel
abbrev b_Keys_init : ByteArray := prog_2_method_1_code
def y_Keys_init : MethodName := ⟨R_Keys, "<init>", "()V"⟩
def ws_Keys_init : List Cond := .code y_Keys_init b_Keys_init 1 none :: zt
theorem co_Keys_init : (Cond.code y_Keys_init b_Keys_init 1 none) ∈ zt := zt_in (List.mem_append_right _ (List.mem_of_getElem? (i := 69) (by decide +kernel))) (by decide +kernel)
theorem im_Keys_init : (Cond.instanceMethod y_Keys_init) ∈ zt := zt_in (List.mem_append_right _ (List.mem_of_getElem? (i := 68) (by decide +kernel))) (by decide +kernel)
theorem hd_Keys_init : y_Keys_init.cls ≠ "java/lang/invoke/MethodHandle" ∧ y_Keys_init.cls ≠ "java/lang/invoke/VarHandle" ∧ (parseMethodDescriptor y_Keys_init.desc).map (fun d => d.parameters.length) = some 0 := by decide +kernel
abbrev b_Runner_init : ByteArray := prog_8_method_1_code
def y_Runner_init : MethodName := ⟨R_Runner, "<init>", "(LFrameQueries$Rows;LFrameQueries$Rows;I)V"⟩
def ws_Runner_init : List Cond := .code y_Runner_init b_Runner_init 4 none :: zt
theorem co_Runner_init : (Cond.code y_Runner_init b_Runner_init 4 none) ∈ zt := zt_in (List.mem_append_right _ (List.mem_of_getElem? (i := 173) (by decide +kernel))) (by decide +kernel)
theorem im_Runner_init : (Cond.instanceMethod y_Runner_init) ∈ zt := zt_in (List.mem_append_right _ (List.mem_of_getElem? (i := 172) (by decide +kernel))) (by decide +kernel)
theorem hd_Runner_init : y_Runner_init.cls ≠ "java/lang/invoke/MethodHandle" ∧ y_Runner_init.cls ≠ "java/lang/invoke/VarHandle" ∧ (parseMethodDescriptor y_Runner_init.desc).map (fun d => d.parameters.length) = some 3 := by decide +kernel
abbrev b_Meter_init : ByteArray := prog_4_method_1_code
def y_Meter_init : MethodName := ⟨R_Meter, "<init>", "(I)V"⟩
def ws_Meter_init : List Cond := .code y_Meter_init b_Meter_init 2 none :: zt
theorem co_Meter_init : (Cond.code y_Meter_init b_Meter_init 2 none) ∈ zt := zt_in (List.mem_append_right _ (List.mem_of_getElem? (i := 181) (by decide +kernel))) (by decide +kernel)
theorem im_Meter_init : (Cond.instanceMethod y_Meter_init) ∈ zt := zt_in (List.mem_append_right _ (List.mem_of_getElem? (i := 180) (by decide +kernel))) (by decide +kernel)
theorem hd_Meter_init : y_Meter_init.cls ≠ "java/lang/invoke/MethodHandle" ∧ y_Meter_init.cls ≠ "java/lang/invoke/VarHandle" ∧ (parseMethodDescriptor y_Meter_init.desc).map (fun d => d.parameters.length) = some 1 := by decide +kernel
abbrev b_Matcher_init : ByteArray := prog_3_method_1_code
def y_Matcher_init : MethodName := ⟨R_Matcher, "<init>", "(LFrameQueries$Meter;LFrameQueries$Rows;LFrameQueries$Rows;)V"⟩
def ws_Matcher_init : List Cond := .code y_Matcher_init b_Matcher_init 4 none :: zt
theorem co_Matcher_init : (Cond.code y_Matcher_init b_Matcher_init 4 none) ∈ zt := zt_in (List.mem_append_right _ (List.mem_of_getElem? (i := 205) (by decide +kernel))) (by decide +kernel)
theorem im_Matcher_init : (Cond.instanceMethod y_Matcher_init) ∈ zt := zt_in (List.mem_append_right _ (List.mem_of_getElem? (i := 204) (by decide +kernel))) (by decide +kernel)
theorem hd_Matcher_init : y_Matcher_init.cls ≠ "java/lang/invoke/MethodHandle" ∧ y_Matcher_init.cls ≠ "java/lang/invoke/VarHandle" ∧ (parseMethodDescriptor y_Matcher_init.desc).map (fun d => d.parameters.length) = some 3 := by decide +kernel
abbrev b_Reckoner_init : ByteArray := prog_6_method_1_code
def y_Reckoner_init : MethodName := ⟨R_Reckoner, "<init>", "(LFrameQueries$Rows;)V"⟩
def ws_Reckoner_init : List Cond := .code y_Reckoner_init b_Reckoner_init 2 none :: zt
theorem co_Reckoner_init : (Cond.code y_Reckoner_init b_Reckoner_init 2 none) ∈ zt := zt_in (List.mem_append_right _ (List.mem_of_getElem? (i := 230) (by decide +kernel))) (by decide +kernel)
theorem im_Reckoner_init : (Cond.instanceMethod y_Reckoner_init) ∈ zt := zt_in (List.mem_append_right _ (List.mem_of_getElem? (i := 229) (by decide +kernel))) (by decide +kernel)
theorem hd_Reckoner_init : y_Reckoner_init.cls ≠ "java/lang/invoke/MethodHandle" ∧ y_Reckoner_init.cls ≠ "java/lang/invoke/VarHandle" ∧ (parseMethodDescriptor y_Reckoner_init.desc).map (fun d => d.parameters.length) = some 1 := by decide +kernel
abbrev b_FQ_insert : ByteArray := prog_1_method_2_code
def y_FQ_insert : MethodName := ⟨R_FQ, "insert", "(IIIII)Z"⟩
def ws_FQ_insert : List Cond := .code y_FQ_insert b_FQ_insert 8 (some .boolean) :: zt
theorem co_FQ_insert : (Cond.code y_FQ_insert b_FQ_insert 8 (some .boolean)) ∈ zt := zt_in (List.mem_append_right _ (List.mem_of_getElem? (i := 297) (by decide +kernel))) (by decide +kernel)
theorem im_FQ_insert : (Cond.instanceMethod y_FQ_insert) ∈ zt := zt_in (List.mem_append_right _ (List.mem_of_getElem? (i := 295) (by decide +kernel))) (by decide +kernel)
theorem se_FQ_insert : (Cond.selects R_FQ y_FQ_insert y_FQ_insert) ∈ zt := zt_in (List.mem_append_right _ (List.mem_of_getElem? (i := 296) (by decide +kernel))) (by decide +kernel)
theorem hd_FQ_insert : y_FQ_insert.cls ≠ "java/lang/invoke/MethodHandle" ∧ y_FQ_insert.cls ≠ "java/lang/invoke/VarHandle" ∧ (parseMethodDescriptor y_FQ_insert.desc).map (fun d => d.parameters.length) = some 5 := by decide +kernel
abbrev b_FQ_isTable : ByteArray := prog_1_method_21_code
def y_FQ_isTable : MethodName := ⟨R_FQ, "isTable", "(I)Z"⟩
def ws_FQ_isTable : List Cond := .code y_FQ_isTable b_FQ_isTable 1 (some .boolean) :: zt
theorem co_FQ_isTable : (Cond.code y_FQ_isTable b_FQ_isTable 1 (some .boolean)) ∈ zt := zt_in (List.mem_append_right _ (List.mem_of_getElem? (i := 300) (by decide +kernel))) (by decide +kernel)
theorem sm_FQ_isTable : (Cond.static y_FQ_isTable) ∈ zt := zt_in (List.mem_append_right _ (List.mem_of_getElem? (i := 299) (by decide +kernel))) (by decide +kernel)
theorem hd_FQ_isTable : y_FQ_isTable.cls ≠ "java/lang/invoke/MethodHandle" ∧ y_FQ_isTable.cls ≠ "java/lang/invoke/VarHandle" ∧ (parseMethodDescriptor y_FQ_isTable.desc).map (fun d => d.parameters.length) = some 1 := by decide +kernel
abbrev b_Rows_isFull : ByteArray := prog_7_method_2_code
def y_Rows_isFull : MethodName := ⟨R_Rows, "isFull", "()Z"⟩
def ws_Rows_isFull : List Cond := .code y_Rows_isFull b_Rows_isFull 1 (some .boolean) :: zt
theorem co_Rows_isFull : (Cond.code y_Rows_isFull b_Rows_isFull 1 (some .boolean)) ∈ zt := zt_in (List.mem_append_right _ (List.mem_of_getElem? (i := 304) (by decide +kernel))) (by decide +kernel)
theorem im_Rows_isFull : (Cond.instanceMethod y_Rows_isFull) ∈ zt := zt_in (List.mem_append_right _ (List.mem_of_getElem? (i := 302) (by decide +kernel))) (by decide +kernel)
theorem se_Rows_isFull : (Cond.selects R_Rows y_Rows_isFull y_Rows_isFull) ∈ zt := zt_in (List.mem_append_right _ (List.mem_of_getElem? (i := 303) (by decide +kernel))) (by decide +kernel)
theorem hd_Rows_isFull : y_Rows_isFull.cls ≠ "java/lang/invoke/MethodHandle" ∧ y_Rows_isFull.cls ≠ "java/lang/invoke/VarHandle" ∧ (parseMethodDescriptor y_Rows_isFull.desc).map (fun d => d.parameters.length) = some 0 := by decide +kernel
abbrev b_Rows_addRow : ByteArray := prog_7_method_4_code
def y_Rows_addRow : MethodName := ⟨R_Rows, "addRow", "()I"⟩
def ws_Rows_addRow : List Cond := .code y_Rows_addRow b_Rows_addRow 1 (some .int) :: zt
theorem co_Rows_addRow : (Cond.code y_Rows_addRow b_Rows_addRow 1 (some .int)) ∈ zt := zt_in (List.mem_append_right _ (List.mem_of_getElem? (i := 308) (by decide +kernel))) (by decide +kernel)
theorem im_Rows_addRow : (Cond.instanceMethod y_Rows_addRow) ∈ zt := zt_in (List.mem_append_right _ (List.mem_of_getElem? (i := 306) (by decide +kernel))) (by decide +kernel)
theorem se_Rows_addRow : (Cond.selects R_Rows y_Rows_addRow y_Rows_addRow) ∈ zt := zt_in (List.mem_append_right _ (List.mem_of_getElem? (i := 307) (by decide +kernel))) (by decide +kernel)
theorem hd_Rows_addRow : y_Rows_addRow.cls ≠ "java/lang/invoke/MethodHandle" ∧ y_Rows_addRow.cls ≠ "java/lang/invoke/VarHandle" ∧ (parseMethodDescriptor y_Rows_addRow.desc).map (fun d => d.parameters.length) = some 0 := by decide +kernel
abbrev b_Rows_put : ByteArray := prog_7_method_6_code
def y_Rows_put : MethodName := ⟨R_Rows, "put", "(IIJ)V"⟩
def ws_Rows_put : List Cond := .code y_Rows_put b_Rows_put 5 none :: zt
theorem co_Rows_put : (Cond.code y_Rows_put b_Rows_put 5 none) ∈ zt := zt_in (List.mem_append_right _ (List.mem_of_getElem? (i := 313) (by decide +kernel))) (by decide +kernel)
theorem im_Rows_put : (Cond.instanceMethod y_Rows_put) ∈ zt := zt_in (List.mem_append_right _ (List.mem_of_getElem? (i := 311) (by decide +kernel))) (by decide +kernel)
theorem se_Rows_put : (Cond.selects R_Rows y_Rows_put y_Rows_put) ∈ zt := zt_in (List.mem_append_right _ (List.mem_of_getElem? (i := 312) (by decide +kernel))) (by decide +kernel)
theorem hd_Rows_put : y_Rows_put.cls ≠ "java/lang/invoke/MethodHandle" ∧ y_Rows_put.cls ≠ "java/lang/invoke/VarHandle" ∧ (parseMethodDescriptor y_Rows_put.desc).map (fun d => d.parameters.length) = some 3 := by decide +kernel
abbrev b_FQ_clear : ByteArray := prog_1_method_3_code
def y_FQ_clear : MethodName := ⟨R_FQ, "clear", "(I)Z"⟩
def ws_FQ_clear : List Cond := .code y_FQ_clear b_FQ_clear 2 (some .boolean) :: zt
theorem co_FQ_clear : (Cond.code y_FQ_clear b_FQ_clear 2 (some .boolean)) ∈ zt := zt_in (List.mem_append_right _ (List.mem_of_getElem? (i := 317) (by decide +kernel))) (by decide +kernel)
theorem im_FQ_clear : (Cond.instanceMethod y_FQ_clear) ∈ zt := zt_in (List.mem_append_right _ (List.mem_of_getElem? (i := 315) (by decide +kernel))) (by decide +kernel)
theorem se_FQ_clear : (Cond.selects R_FQ y_FQ_clear y_FQ_clear) ∈ zt := zt_in (List.mem_append_right _ (List.mem_of_getElem? (i := 316) (by decide +kernel))) (by decide +kernel)
theorem hd_FQ_clear : y_FQ_clear.cls ≠ "java/lang/invoke/MethodHandle" ∧ y_FQ_clear.cls ≠ "java/lang/invoke/VarHandle" ∧ (parseMethodDescriptor y_FQ_clear.desc).map (fun d => d.parameters.length) = some 1 := by decide +kernel
abbrev b_Rows_removeAll : ByteArray := prog_7_method_3_code
def y_Rows_removeAll : MethodName := ⟨R_Rows, "removeAll", "()V"⟩
def ws_Rows_removeAll : List Cond := .code y_Rows_removeAll b_Rows_removeAll 1 none :: zt
theorem co_Rows_removeAll : (Cond.code y_Rows_removeAll b_Rows_removeAll 1 none) ∈ zt := zt_in (List.mem_append_right _ (List.mem_of_getElem? (i := 321) (by decide +kernel))) (by decide +kernel)
theorem im_Rows_removeAll : (Cond.instanceMethod y_Rows_removeAll) ∈ zt := zt_in (List.mem_append_right _ (List.mem_of_getElem? (i := 319) (by decide +kernel))) (by decide +kernel)
theorem se_Rows_removeAll : (Cond.selects R_Rows y_Rows_removeAll y_Rows_removeAll) ∈ zt := zt_in (List.mem_append_right _ (List.mem_of_getElem? (i := 320) (by decide +kernel))) (by decide +kernel)
theorem hd_Rows_removeAll : y_Rows_removeAll.cls ≠ "java/lang/invoke/MethodHandle" ∧ y_Rows_removeAll.cls ≠ "java/lang/invoke/VarHandle" ∧ (parseMethodDescriptor y_Rows_removeAll.desc).map (fun d => d.parameters.length) = some 0 := by decide +kernel
abbrev b_FQ_query : ByteArray := prog_1_method_4_code
def y_FQ_query : MethodName := ⟨R_FQ, "query", "()V"⟩
def ws_FQ_query : List Cond := .code y_FQ_query b_FQ_query 1 none :: zt
theorem co_FQ_query : (Cond.code y_FQ_query b_FQ_query 1 none) ∈ zt := zt_in (List.mem_append_right _ (List.mem_of_getElem? (i := 325) (by decide +kernel))) (by decide +kernel)
theorem im_FQ_query : (Cond.instanceMethod y_FQ_query) ∈ zt := zt_in (List.mem_append_right _ (List.mem_of_getElem? (i := 323) (by decide +kernel))) (by decide +kernel)
theorem se_FQ_query : (Cond.selects R_FQ y_FQ_query y_FQ_query) ∈ zt := zt_in (List.mem_append_right _ (List.mem_of_getElem? (i := 324) (by decide +kernel))) (by decide +kernel)
theorem hd_FQ_query : y_FQ_query.cls ≠ "java/lang/invoke/MethodHandle" ∧ y_FQ_query.cls ≠ "java/lang/invoke/VarHandle" ∧ (parseMethodDescriptor y_FQ_query.desc).map (fun d => d.parameters.length) = some 0 := by decide +kernel
abbrev b_Query_reset : ByteArray := prog_5_method_2_code
def y_Query_reset : MethodName := ⟨R_Query, "reset", "()V"⟩
def ws_Query_reset : List Cond := .code y_Query_reset b_Query_reset 1 none :: zt
theorem co_Query_reset : (Cond.code y_Query_reset b_Query_reset 1 none) ∈ zt := zt_in (List.mem_append_right _ (List.mem_of_getElem? (i := 329) (by decide +kernel))) (by decide +kernel)
theorem im_Query_reset : (Cond.instanceMethod y_Query_reset) ∈ zt := zt_in (List.mem_append_right _ (List.mem_of_getElem? (i := 327) (by decide +kernel))) (by decide +kernel)
theorem se_Query_reset : (Cond.selects R_Query y_Query_reset y_Query_reset) ∈ zt := zt_in (List.mem_append_right _ (List.mem_of_getElem? (i := 328) (by decide +kernel))) (by decide +kernel)
theorem hd_Query_reset : y_Query_reset.cls ≠ "java/lang/invoke/MethodHandle" ∧ y_Query_reset.cls ≠ "java/lang/invoke/VarHandle" ∧ (parseMethodDescriptor y_Query_reset.desc).map (fun d => d.parameters.length) = some 0 := by decide +kernel
abbrev b_Keys_removeAll : ByteArray := prog_2_method_2_code
def y_Keys_removeAll : MethodName := ⟨R_Keys, "removeAll", "()V"⟩
def ws_Keys_removeAll : List Cond := .code y_Keys_removeAll b_Keys_removeAll 1 none :: zt
theorem co_Keys_removeAll : (Cond.code y_Keys_removeAll b_Keys_removeAll 1 none) ∈ zt := zt_in (List.mem_append_right _ (List.mem_of_getElem? (i := 333) (by decide +kernel))) (by decide +kernel)
theorem im_Keys_removeAll : (Cond.instanceMethod y_Keys_removeAll) ∈ zt := zt_in (List.mem_append_right _ (List.mem_of_getElem? (i := 331) (by decide +kernel))) (by decide +kernel)
theorem se_Keys_removeAll : (Cond.selects R_Keys y_Keys_removeAll y_Keys_removeAll) ∈ zt := zt_in (List.mem_append_right _ (List.mem_of_getElem? (i := 332) (by decide +kernel))) (by decide +kernel)
theorem hd_Keys_removeAll : y_Keys_removeAll.cls ≠ "java/lang/invoke/MethodHandle" ∧ y_Keys_removeAll.cls ≠ "java/lang/invoke/VarHandle" ∧ (parseMethodDescriptor y_Keys_removeAll.desc).map (fun d => d.parameters.length) = some 0 := by decide +kernel
abbrev b_FQ_filter : ByteArray := prog_1_method_5_code
def y_FQ_filter : MethodName := ⟨R_FQ, "filter", "(III)Z"⟩
def ws_FQ_filter : List Cond := .code y_FQ_filter b_FQ_filter 4 (some .boolean) :: zt
theorem co_FQ_filter : (Cond.code y_FQ_filter b_FQ_filter 4 (some .boolean)) ∈ zt := zt_in (List.mem_append_right _ (List.mem_of_getElem? (i := 337) (by decide +kernel))) (by decide +kernel)
theorem im_FQ_filter : (Cond.instanceMethod y_FQ_filter) ∈ zt := zt_in (List.mem_append_right _ (List.mem_of_getElem? (i := 335) (by decide +kernel))) (by decide +kernel)
theorem se_FQ_filter : (Cond.selects R_FQ y_FQ_filter y_FQ_filter) ∈ zt := zt_in (List.mem_append_right _ (List.mem_of_getElem? (i := 336) (by decide +kernel))) (by decide +kernel)
theorem hd_FQ_filter : y_FQ_filter.cls ≠ "java/lang/invoke/MethodHandle" ∧ y_FQ_filter.cls ≠ "java/lang/invoke/VarHandle" ∧ (parseMethodDescriptor y_FQ_filter.desc).map (fun d => d.parameters.length) = some 3 := by decide +kernel
abbrev b_FQ_isTableColumn : ByteArray := prog_1_method_22_code
def y_FQ_isTableColumn : MethodName := ⟨R_FQ, "isTableColumn", "(I)Z"⟩
def ws_FQ_isTableColumn : List Cond := .code y_FQ_isTableColumn b_FQ_isTableColumn 1 (some .boolean) :: zt
theorem co_FQ_isTableColumn : (Cond.code y_FQ_isTableColumn b_FQ_isTableColumn 1 (some .boolean)) ∈ zt := zt_in (List.mem_append_right _ (List.mem_of_getElem? (i := 340) (by decide +kernel))) (by decide +kernel)
theorem sm_FQ_isTableColumn : (Cond.static y_FQ_isTableColumn) ∈ zt := zt_in (List.mem_append_right _ (List.mem_of_getElem? (i := 339) (by decide +kernel))) (by decide +kernel)
theorem hd_FQ_isTableColumn : y_FQ_isTableColumn.cls ≠ "java/lang/invoke/MethodHandle" ∧ y_FQ_isTableColumn.cls ≠ "java/lang/invoke/VarHandle" ∧ (parseMethodDescriptor y_FQ_isTableColumn.desc).map (fun d => d.parameters.length) = some 1 := by decide +kernel
abbrev b_FQ_join : ByteArray := prog_1_method_6_code
def y_FQ_join : MethodName := ⟨R_FQ, "join", "(II)Z"⟩
def ws_FQ_join : List Cond := .code y_FQ_join b_FQ_join 3 (some .boolean) :: zt
theorem co_FQ_join : (Cond.code y_FQ_join b_FQ_join 3 (some .boolean)) ∈ zt := zt_in (List.mem_append_right _ (List.mem_of_getElem? (i := 344) (by decide +kernel))) (by decide +kernel)
theorem im_FQ_join : (Cond.instanceMethod y_FQ_join) ∈ zt := zt_in (List.mem_append_right _ (List.mem_of_getElem? (i := 342) (by decide +kernel))) (by decide +kernel)
theorem se_FQ_join : (Cond.selects R_FQ y_FQ_join y_FQ_join) ∈ zt := zt_in (List.mem_append_right _ (List.mem_of_getElem? (i := 343) (by decide +kernel))) (by decide +kernel)
theorem hd_FQ_join : y_FQ_join.cls ≠ "java/lang/invoke/MethodHandle" ∧ y_FQ_join.cls ≠ "java/lang/invoke/VarHandle" ∧ (parseMethodDescriptor y_FQ_join.desc).map (fun d => d.parameters.length) = some 2 := by decide +kernel
abbrev b_FQ_window : ByteArray := prog_1_method_7_code
def y_FQ_window : MethodName := ⟨R_FQ, "window", "(III)I"⟩
def ws_FQ_window : List Cond := .code y_FQ_window b_FQ_window 5 (some .int) :: zt
theorem co_FQ_window : (Cond.code y_FQ_window b_FQ_window 5 (some .int)) ∈ zt := zt_in (List.mem_append_right _ (List.mem_of_getElem? (i := 348) (by decide +kernel))) (by decide +kernel)
theorem im_FQ_window : (Cond.instanceMethod y_FQ_window) ∈ zt := zt_in (List.mem_append_right _ (List.mem_of_getElem? (i := 346) (by decide +kernel))) (by decide +kernel)
theorem se_FQ_window : (Cond.selects R_FQ y_FQ_window y_FQ_window) ∈ zt := zt_in (List.mem_append_right _ (List.mem_of_getElem? (i := 347) (by decide +kernel))) (by decide +kernel)
theorem hd_FQ_window : y_FQ_window.cls ≠ "java/lang/invoke/MethodHandle" ∧ y_FQ_window.cls ≠ "java/lang/invoke/VarHandle" ∧ (parseMethodDescriptor y_FQ_window.desc).map (fun d => d.parameters.length) = some 3 := by decide +kernel
abbrev b_FQ_isJoinedColumn : ByteArray := prog_1_method_23_code
def y_FQ_isJoinedColumn : MethodName := ⟨R_FQ, "isJoinedColumn", "(I)Z"⟩
def ws_FQ_isJoinedColumn : List Cond := .code y_FQ_isJoinedColumn b_FQ_isJoinedColumn 1 (some .boolean) :: zt
theorem co_FQ_isJoinedColumn : (Cond.code y_FQ_isJoinedColumn b_FQ_isJoinedColumn 1 (some .boolean)) ∈ zt := zt_in (List.mem_append_right _ (List.mem_of_getElem? (i := 351) (by decide +kernel))) (by decide +kernel)
theorem sm_FQ_isJoinedColumn : (Cond.static y_FQ_isJoinedColumn) ∈ zt := zt_in (List.mem_append_right _ (List.mem_of_getElem? (i := 350) (by decide +kernel))) (by decide +kernel)
theorem hd_FQ_isJoinedColumn : y_FQ_isJoinedColumn.cls ≠ "java/lang/invoke/MethodHandle" ∧ y_FQ_isJoinedColumn.cls ≠ "java/lang/invoke/VarHandle" ∧ (parseMethodDescriptor y_FQ_isJoinedColumn.desc).map (fun d => d.parameters.length) = some 1 := by decide +kernel
abbrev b_Query_hasAllWindows : ByteArray := prog_5_method_4_code
def y_Query_hasAllWindows : MethodName := ⟨R_Query, "hasAllWindows", "()Z"⟩
def ws_Query_hasAllWindows : List Cond := .code y_Query_hasAllWindows b_Query_hasAllWindows 1 (some .boolean) :: zt
theorem co_Query_hasAllWindows : (Cond.code y_Query_hasAllWindows b_Query_hasAllWindows 1 (some .boolean)) ∈ zt := zt_in (List.mem_append_right _ (List.mem_of_getElem? (i := 355) (by decide +kernel))) (by decide +kernel)
theorem im_Query_hasAllWindows : (Cond.instanceMethod y_Query_hasAllWindows) ∈ zt := zt_in (List.mem_append_right _ (List.mem_of_getElem? (i := 353) (by decide +kernel))) (by decide +kernel)
theorem se_Query_hasAllWindows : (Cond.selects R_Query y_Query_hasAllWindows y_Query_hasAllWindows) ∈ zt := zt_in (List.mem_append_right _ (List.mem_of_getElem? (i := 354) (by decide +kernel))) (by decide +kernel)
theorem hd_Query_hasAllWindows : y_Query_hasAllWindows.cls ≠ "java/lang/invoke/MethodHandle" ∧ y_Query_hasAllWindows.cls ≠ "java/lang/invoke/VarHandle" ∧ (parseMethodDescriptor y_Query_hasAllWindows.desc).map (fun d => d.parameters.length) = some 0 := by decide +kernel
abbrev b_Window_begin : ByteArray := prog_9_method_2_code
def y_Window_begin : MethodName := ⟨R_Window, "begin", "(III)V"⟩
def ws_Window_begin : List Cond := .code y_Window_begin b_Window_begin 4 none :: zt
theorem co_Window_begin : (Cond.code y_Window_begin b_Window_begin 4 none) ∈ zt := zt_in (List.mem_append_right _ (List.mem_of_getElem? (i := 359) (by decide +kernel))) (by decide +kernel)
theorem im_Window_begin : (Cond.instanceMethod y_Window_begin) ∈ zt := zt_in (List.mem_append_right _ (List.mem_of_getElem? (i := 357) (by decide +kernel))) (by decide +kernel)
theorem se_Window_begin : (Cond.selects R_Window y_Window_begin y_Window_begin) ∈ zt := zt_in (List.mem_append_right _ (List.mem_of_getElem? (i := 358) (by decide +kernel))) (by decide +kernel)
theorem hd_Window_begin : y_Window_begin.cls ≠ "java/lang/invoke/MethodHandle" ∧ y_Window_begin.cls ≠ "java/lang/invoke/VarHandle" ∧ (parseMethodDescriptor y_Window_begin.desc).map (fun d => d.parameters.length) = some 3 := by decide +kernel
abbrev b_Window_setKeys : ByteArray := prog_9_method_3_code
def y_Window_setKeys : MethodName := ⟨R_Window, "setKeys", "(IIZ)V"⟩
def ws_Window_setKeys : List Cond := .code y_Window_setKeys b_Window_setKeys 4 none :: zt
theorem co_Window_setKeys : (Cond.code y_Window_setKeys b_Window_setKeys 4 none) ∈ zt := zt_in (List.mem_append_right _ (List.mem_of_getElem? (i := 363) (by decide +kernel))) (by decide +kernel)
theorem im_Window_setKeys : (Cond.instanceMethod y_Window_setKeys) ∈ zt := zt_in (List.mem_append_right _ (List.mem_of_getElem? (i := 361) (by decide +kernel))) (by decide +kernel)
theorem se_Window_setKeys : (Cond.selects R_Window y_Window_setKeys y_Window_setKeys) ∈ zt := zt_in (List.mem_append_right _ (List.mem_of_getElem? (i := 362) (by decide +kernel))) (by decide +kernel)
theorem hd_Window_setKeys : y_Window_setKeys.cls ≠ "java/lang/invoke/MethodHandle" ∧ y_Window_setKeys.cls ≠ "java/lang/invoke/VarHandle" ∧ (parseMethodDescriptor y_Window_setKeys.desc).map (fun d => d.parameters.length) = some 3 := by decide +kernel
abbrev b_Keys_add : ByteArray := prog_2_method_3_code
def y_Keys_add : MethodName := ⟨R_Keys, "add", "(IZ)V"⟩
def ws_Keys_add : List Cond := .code y_Keys_add b_Keys_add 3 none :: zt
theorem co_Keys_add : (Cond.code y_Keys_add b_Keys_add 3 none) ∈ zt := zt_in (List.mem_append_right _ (List.mem_of_getElem? (i := 368) (by decide +kernel))) (by decide +kernel)
theorem im_Keys_add : (Cond.instanceMethod y_Keys_add) ∈ zt := zt_in (List.mem_append_right _ (List.mem_of_getElem? (i := 366) (by decide +kernel))) (by decide +kernel)
theorem se_Keys_add : (Cond.selects R_Keys y_Keys_add y_Keys_add) ∈ zt := zt_in (List.mem_append_right _ (List.mem_of_getElem? (i := 367) (by decide +kernel))) (by decide +kernel)
theorem hd_Keys_add : y_Keys_add.cls ≠ "java/lang/invoke/MethodHandle" ∧ y_Keys_add.cls ≠ "java/lang/invoke/VarHandle" ∧ (parseMethodDescriptor y_Keys_add.desc).map (fun d => d.parameters.length) = some 2 := by decide +kernel
abbrev b_FQ_over : ByteArray := prog_1_method_8_code
def y_FQ_over : MethodName := ⟨R_FQ, "over", "(IIIZ)Z"⟩
def ws_FQ_over : List Cond := .code y_FQ_over b_FQ_over 6 (some .boolean) :: zt
theorem co_FQ_over : (Cond.code y_FQ_over b_FQ_over 6 (some .boolean)) ∈ zt := zt_in (List.mem_append_right _ (List.mem_of_getElem? (i := 372) (by decide +kernel))) (by decide +kernel)
theorem im_FQ_over : (Cond.instanceMethod y_FQ_over) ∈ zt := zt_in (List.mem_append_right _ (List.mem_of_getElem? (i := 370) (by decide +kernel))) (by decide +kernel)
theorem se_FQ_over : (Cond.selects R_FQ y_FQ_over y_FQ_over) ∈ zt := zt_in (List.mem_append_right _ (List.mem_of_getElem? (i := 371) (by decide +kernel))) (by decide +kernel)
theorem hd_FQ_over : y_FQ_over.cls ≠ "java/lang/invoke/MethodHandle" ∧ y_FQ_over.cls ≠ "java/lang/invoke/VarHandle" ∧ (parseMethodDescriptor y_FQ_over.desc).map (fun d => d.parameters.length) = some 4 := by decide +kernel
abbrev b_Query_hasWindow : ByteArray := prog_5_method_3_code
def y_Query_hasWindow : MethodName := ⟨R_Query, "hasWindow", "(I)Z"⟩
def ws_Query_hasWindow : List Cond := .code y_Query_hasWindow b_Query_hasWindow 2 (some .boolean) :: zt
theorem co_Query_hasWindow : (Cond.code y_Query_hasWindow b_Query_hasWindow 2 (some .boolean)) ∈ zt := zt_in (List.mem_append_right _ (List.mem_of_getElem? (i := 376) (by decide +kernel))) (by decide +kernel)
theorem im_Query_hasWindow : (Cond.instanceMethod y_Query_hasWindow) ∈ zt := zt_in (List.mem_append_right _ (List.mem_of_getElem? (i := 374) (by decide +kernel))) (by decide +kernel)
theorem se_Query_hasWindow : (Cond.selects R_Query y_Query_hasWindow y_Query_hasWindow) ∈ zt := zt_in (List.mem_append_right _ (List.mem_of_getElem? (i := 375) (by decide +kernel))) (by decide +kernel)
theorem hd_Query_hasWindow : y_Query_hasWindow.cls ≠ "java/lang/invoke/MethodHandle" ∧ y_Query_hasWindow.cls ≠ "java/lang/invoke/VarHandle" ∧ (parseMethodDescriptor y_Query_hasWindow.desc).map (fun d => d.parameters.length) = some 1 := by decide +kernel
abbrev b_FQ_isColumnOrNone : ByteArray := prog_1_method_24_code
def y_FQ_isColumnOrNone : MethodName := ⟨R_FQ, "isColumnOrNone", "(I)Z"⟩
def ws_FQ_isColumnOrNone : List Cond := .code y_FQ_isColumnOrNone b_FQ_isColumnOrNone 1 (some .boolean) :: zt
theorem co_FQ_isColumnOrNone : (Cond.code y_FQ_isColumnOrNone b_FQ_isColumnOrNone 1 (some .boolean)) ∈ zt := zt_in (List.mem_append_right _ (List.mem_of_getElem? (i := 380) (by decide +kernel))) (by decide +kernel)
theorem sm_FQ_isColumnOrNone : (Cond.static y_FQ_isColumnOrNone) ∈ zt := zt_in (List.mem_append_right _ (List.mem_of_getElem? (i := 379) (by decide +kernel))) (by decide +kernel)
theorem hd_FQ_isColumnOrNone : y_FQ_isColumnOrNone.cls ≠ "java/lang/invoke/MethodHandle" ∧ y_FQ_isColumnOrNone.cls ≠ "java/lang/invoke/VarHandle" ∧ (parseMethodDescriptor y_FQ_isColumnOrNone.desc).map (fun d => d.parameters.length) = some 1 := by decide +kernel
abbrev b_FQ_frame : ByteArray := prog_1_method_9_code
def y_FQ_frame : MethodName := ⟨R_FQ, "frame", "(IZII)Z"⟩
def ws_FQ_frame : List Cond := .code y_FQ_frame b_FQ_frame 7 (some .boolean) :: zt
theorem co_FQ_frame : (Cond.code y_FQ_frame b_FQ_frame 7 (some .boolean)) ∈ zt := zt_in (List.mem_append_right _ (List.mem_of_getElem? (i := 385) (by decide +kernel))) (by decide +kernel)
theorem im_FQ_frame : (Cond.instanceMethod y_FQ_frame) ∈ zt := zt_in (List.mem_append_right _ (List.mem_of_getElem? (i := 383) (by decide +kernel))) (by decide +kernel)
theorem se_FQ_frame : (Cond.selects R_FQ y_FQ_frame y_FQ_frame) ∈ zt := zt_in (List.mem_append_right _ (List.mem_of_getElem? (i := 384) (by decide +kernel))) (by decide +kernel)
theorem hd_FQ_frame : y_FQ_frame.cls ≠ "java/lang/invoke/MethodHandle" ∧ y_FQ_frame.cls ≠ "java/lang/invoke/VarHandle" ∧ (parseMethodDescriptor y_FQ_frame.desc).map (fun d => d.parameters.length) = some 4 := by decide +kernel
abbrev b_FQ_order : ByteArray := prog_1_method_10_code
def y_FQ_order : MethodName := ⟨R_FQ, "order", "(IZ)Z"⟩
def ws_FQ_order : List Cond := .code y_FQ_order b_FQ_order 3 (some .boolean) :: zt
theorem co_FQ_order : (Cond.code y_FQ_order b_FQ_order 3 (some .boolean)) ∈ zt := zt_in (List.mem_append_right _ (List.mem_of_getElem? (i := 389) (by decide +kernel))) (by decide +kernel)
theorem im_FQ_order : (Cond.instanceMethod y_FQ_order) ∈ zt := zt_in (List.mem_append_right _ (List.mem_of_getElem? (i := 387) (by decide +kernel))) (by decide +kernel)
theorem se_FQ_order : (Cond.selects R_FQ y_FQ_order y_FQ_order) ∈ zt := zt_in (List.mem_append_right _ (List.mem_of_getElem? (i := 388) (by decide +kernel))) (by decide +kernel)
theorem hd_FQ_order : y_FQ_order.cls ≠ "java/lang/invoke/MethodHandle" ∧ y_FQ_order.cls ≠ "java/lang/invoke/VarHandle" ∧ (parseMethodDescriptor y_FQ_order.desc).map (fun d => d.parameters.length) = some 2 := by decide +kernel
abbrev b_FQ_run : ByteArray := prog_1_method_11_code
def y_FQ_run : MethodName := ⟨R_FQ, "run", "()I"⟩
def ws_FQ_run : List Cond := .code y_FQ_run b_FQ_run 1 (some .int) :: zt
theorem co_FQ_run : (Cond.code y_FQ_run b_FQ_run 1 (some .int)) ∈ zt := zt_in (List.mem_append_right _ (List.mem_of_getElem? (i := 395) (by decide +kernel))) (by decide +kernel)
theorem im_FQ_run : (Cond.instanceMethod y_FQ_run) ∈ zt := zt_in (List.mem_append_right _ (List.mem_of_getElem? (i := 393) (by decide +kernel))) (by decide +kernel)
theorem se_FQ_run : (Cond.selects R_FQ y_FQ_run y_FQ_run) ∈ zt := zt_in (List.mem_append_right _ (List.mem_of_getElem? (i := 394) (by decide +kernel))) (by decide +kernel)
theorem hd_FQ_run : y_FQ_run.cls ≠ "java/lang/invoke/MethodHandle" ∧ y_FQ_run.cls ≠ "java/lang/invoke/VarHandle" ∧ (parseMethodDescriptor y_FQ_run.desc).map (fun d => d.parameters.length) = some 0 := by decide +kernel
abbrev b_Runner_execute : ByteArray := prog_8_method_2_code
def y_Runner_execute : MethodName := ⟨R_Runner, "execute", "(LFrameQueries$Query;)I"⟩
def ws_Runner_execute : List Cond := .code y_Runner_execute b_Runner_execute 3 (some .int) :: zt
theorem co_Runner_execute : (Cond.code y_Runner_execute b_Runner_execute 3 (some .int)) ∈ zt := zt_in (List.mem_append_right _ (List.mem_of_getElem? (i := 399) (by decide +kernel))) (by decide +kernel)
theorem im_Runner_execute : (Cond.instanceMethod y_Runner_execute) ∈ zt := zt_in (List.mem_append_right _ (List.mem_of_getElem? (i := 397) (by decide +kernel))) (by decide +kernel)
theorem se_Runner_execute : (Cond.selects R_Runner y_Runner_execute y_Runner_execute) ∈ zt := zt_in (List.mem_append_right _ (List.mem_of_getElem? (i := 398) (by decide +kernel))) (by decide +kernel)
theorem hd_Runner_execute : y_Runner_execute.cls ≠ "java/lang/invoke/MethodHandle" ∧ y_Runner_execute.cls ≠ "java/lang/invoke/VarHandle" ∧ (parseMethodDescriptor y_Runner_execute.desc).map (fun d => d.parameters.length) = some 1 := by decide +kernel
abbrev b_Runner_reset : ByteArray := prog_8_method_3_code
def y_Runner_reset : MethodName := ⟨R_Runner, "reset", "()V"⟩
def ws_Runner_reset : List Cond := .code y_Runner_reset b_Runner_reset 1 none :: zt
theorem co_Runner_reset : (Cond.code y_Runner_reset b_Runner_reset 1 none) ∈ zt := zt_in (List.mem_append_right _ (List.mem_of_getElem? (i := 403) (by decide +kernel))) (by decide +kernel)
theorem im_Runner_reset : (Cond.instanceMethod y_Runner_reset) ∈ zt := zt_in (List.mem_append_right _ (List.mem_of_getElem? (i := 402) (by decide +kernel))) (by decide +kernel)
theorem se_Runner_reset : (Cond.selects R_Runner y_Runner_reset y_Runner_reset) ∈ zt := zt_in (List.mem_append_left _ (by decide +kernel)) (by decide +kernel)
theorem hd_Runner_reset : y_Runner_reset.cls ≠ "java/lang/invoke/MethodHandle" ∧ y_Runner_reset.cls ≠ "java/lang/invoke/VarHandle" ∧ (parseMethodDescriptor y_Runner_reset.desc).map (fun d => d.parameters.length) = some 0 := by decide +kernel
abbrev b_Meter_reset : ByteArray := prog_4_method_2_code
def y_Meter_reset : MethodName := ⟨R_Meter, "reset", "()V"⟩
def ws_Meter_reset : List Cond := .code y_Meter_reset b_Meter_reset 1 none :: zt
theorem co_Meter_reset : (Cond.code y_Meter_reset b_Meter_reset 1 none) ∈ zt := zt_in (List.mem_append_right _ (List.mem_of_getElem? (i := 407) (by decide +kernel))) (by decide +kernel)
theorem im_Meter_reset : (Cond.instanceMethod y_Meter_reset) ∈ zt := zt_in (List.mem_append_right _ (List.mem_of_getElem? (i := 405) (by decide +kernel))) (by decide +kernel)
theorem se_Meter_reset : (Cond.selects R_Meter y_Meter_reset y_Meter_reset) ∈ zt := zt_in (List.mem_append_right _ (List.mem_of_getElem? (i := 406) (by decide +kernel))) (by decide +kernel)
theorem hd_Meter_reset : y_Meter_reset.cls ≠ "java/lang/invoke/MethodHandle" ∧ y_Meter_reset.cls ≠ "java/lang/invoke/VarHandle" ∧ (parseMethodDescriptor y_Meter_reset.desc).map (fun d => d.parameters.length) = some 0 := by decide +kernel
abbrev b_Runner_keepRows : ByteArray := prog_8_method_4_code
def y_Runner_keepRows : MethodName := ⟨R_Runner, "keepRows", "(LFrameQueries$Query;)V"⟩
def ws_Runner_keepRows : List Cond := .code y_Runner_keepRows b_Runner_keepRows 4 none :: zt
theorem co_Runner_keepRows : (Cond.code y_Runner_keepRows b_Runner_keepRows 4 none) ∈ zt := zt_in (List.mem_append_right _ (List.mem_of_getElem? (i := 412) (by decide +kernel))) (by decide +kernel)
theorem im_Runner_keepRows : (Cond.instanceMethod y_Runner_keepRows) ∈ zt := zt_in (List.mem_append_right _ (List.mem_of_getElem? (i := 411) (by decide +kernel))) (by decide +kernel)
theorem se_Runner_keepRows : (Cond.selects R_Runner y_Runner_keepRows y_Runner_keepRows) ∈ zt := zt_in (List.mem_append_left _ (by decide +kernel)) (by decide +kernel)
theorem hd_Runner_keepRows : y_Runner_keepRows.cls ≠ "java/lang/invoke/MethodHandle" ∧ y_Runner_keepRows.cls ≠ "java/lang/invoke/VarHandle" ∧ (parseMethodDescriptor y_Runner_keepRows.desc).map (fun d => d.parameters.length) = some 1 := by decide +kernel
abbrev b_Query_keeps : ByteArray := prog_5_method_6_code
def y_Query_keeps : MethodName := ⟨R_Query, "keeps", "(LFrameQueries$Rows;I)Z"⟩
def ws_Query_keeps : List Cond := .code y_Query_keeps b_Query_keeps 5 (some .boolean) :: zt
theorem co_Query_keeps : (Cond.code y_Query_keeps b_Query_keeps 5 (some .boolean)) ∈ zt := zt_in (List.mem_append_right _ (List.mem_of_getElem? (i := 416) (by decide +kernel))) (by decide +kernel)
theorem im_Query_keeps : (Cond.instanceMethod y_Query_keeps) ∈ zt := zt_in (List.mem_append_right _ (List.mem_of_getElem? (i := 414) (by decide +kernel))) (by decide +kernel)
theorem se_Query_keeps : (Cond.selects R_Query y_Query_keeps y_Query_keeps) ∈ zt := zt_in (List.mem_append_right _ (List.mem_of_getElem? (i := 415) (by decide +kernel))) (by decide +kernel)
theorem hd_Query_keeps : y_Query_keeps.cls ≠ "java/lang/invoke/MethodHandle" ∧ y_Query_keeps.cls ≠ "java/lang/invoke/VarHandle" ∧ (parseMethodDescriptor y_Query_keeps.desc).map (fun d => d.parameters.length) = some 2 := by decide +kernel
abbrev b_Rows_at : ByteArray := prog_7_method_5_code
def y_Rows_at : MethodName := ⟨R_Rows, "at", "(II)J"⟩
def ws_Rows_at : List Cond := .code y_Rows_at b_Rows_at 3 (some .long) :: zt
theorem co_Rows_at : (Cond.code y_Rows_at b_Rows_at 3 (some .long)) ∈ zt := zt_in (List.mem_append_right _ (List.mem_of_getElem? (i := 420) (by decide +kernel))) (by decide +kernel)
theorem im_Rows_at : (Cond.instanceMethod y_Rows_at) ∈ zt := zt_in (List.mem_append_right _ (List.mem_of_getElem? (i := 418) (by decide +kernel))) (by decide +kernel)
theorem se_Rows_at : (Cond.selects R_Rows y_Rows_at y_Rows_at) ∈ zt := zt_in (List.mem_append_right _ (List.mem_of_getElem? (i := 419) (by decide +kernel))) (by decide +kernel)
theorem hd_Rows_at : y_Rows_at.cls ≠ "java/lang/invoke/MethodHandle" ∧ y_Rows_at.cls ≠ "java/lang/invoke/VarHandle" ∧ (parseMethodDescriptor y_Rows_at.desc).map (fun d => d.parameters.length) = some 2 := by decide +kernel
abbrev b_Rows_copyCells : ByteArray := prog_7_method_7_code
def y_Rows_copyCells : MethodName := ⟨R_Rows, "copyCells", "(IILFrameQueries$Rows;II)V"⟩
def ws_Rows_copyCells : List Cond := .code y_Rows_copyCells b_Rows_copyCells 7 none :: zt
theorem co_Rows_copyCells : (Cond.code y_Rows_copyCells b_Rows_copyCells 7 none) ∈ zt := zt_in (List.mem_append_right _ (List.mem_of_getElem? (i := 426) (by decide +kernel))) (by decide +kernel)
theorem im_Rows_copyCells : (Cond.instanceMethod y_Rows_copyCells) ∈ zt := zt_in (List.mem_append_right _ (List.mem_of_getElem? (i := 424) (by decide +kernel))) (by decide +kernel)
theorem se_Rows_copyCells : (Cond.selects R_Rows y_Rows_copyCells y_Rows_copyCells) ∈ zt := zt_in (List.mem_append_right _ (List.mem_of_getElem? (i := 425) (by decide +kernel))) (by decide +kernel)
theorem hd_Rows_copyCells : y_Rows_copyCells.cls ≠ "java/lang/invoke/MethodHandle" ∧ y_Rows_copyCells.cls ≠ "java/lang/invoke/VarHandle" ∧ (parseMethodDescriptor y_Rows_copyCells.desc).map (fun d => d.parameters.length) = some 5 := by decide +kernel
abbrev b_FQ_blocksOf : ByteArray := prog_1_method_25_code
def y_FQ_blocksOf : MethodName := ⟨R_FQ, "blocksOf", "(I)I"⟩
def ws_FQ_blocksOf : List Cond := .code y_FQ_blocksOf b_FQ_blocksOf 1 (some .int) :: zt
theorem co_FQ_blocksOf : (Cond.code y_FQ_blocksOf b_FQ_blocksOf 1 (some .int)) ∈ zt := zt_in (List.mem_append_right _ (List.mem_of_getElem? (i := 432) (by decide +kernel))) (by decide +kernel)
theorem sm_FQ_blocksOf : (Cond.static y_FQ_blocksOf) ∈ zt := zt_in (List.mem_append_right _ (List.mem_of_getElem? (i := 431) (by decide +kernel))) (by decide +kernel)
theorem hd_FQ_blocksOf : y_FQ_blocksOf.cls ≠ "java/lang/invoke/MethodHandle" ∧ y_FQ_blocksOf.cls ≠ "java/lang/invoke/VarHandle" ∧ (parseMethodDescriptor y_FQ_blocksOf.desc).map (fun d => d.parameters.length) = some 1 := by decide +kernel
abbrev b_FQ_quotientUp : ByteArray := prog_1_method_26_code
def y_FQ_quotientUp : MethodName := ⟨R_FQ, "quotientUp", "(II)I"⟩
def ws_FQ_quotientUp : List Cond := .code y_FQ_quotientUp b_FQ_quotientUp 2 (some .int) :: zt
theorem co_FQ_quotientUp : (Cond.code y_FQ_quotientUp b_FQ_quotientUp 2 (some .int)) ∈ zt := zt_in (List.mem_append_right _ (List.mem_of_getElem? (i := 435) (by decide +kernel))) (by decide +kernel)
theorem sm_FQ_quotientUp : (Cond.static y_FQ_quotientUp) ∈ zt := zt_in (List.mem_append_right _ (List.mem_of_getElem? (i := 434) (by decide +kernel))) (by decide +kernel)
theorem hd_FQ_quotientUp : y_FQ_quotientUp.cls ≠ "java/lang/invoke/MethodHandle" ∧ y_FQ_quotientUp.cls ≠ "java/lang/invoke/VarHandle" ∧ (parseMethodDescriptor y_FQ_quotientUp.desc).map (fun d => d.parameters.length) = some 2 := by decide +kernel
abbrev b_Meter_addStep : ByteArray := prog_4_method_3_code
def y_Meter_addStep : MethodName := ⟨R_Meter, "addStep", "(II)V"⟩
def ws_Meter_addStep : List Cond := .code y_Meter_addStep b_Meter_addStep 3 none :: zt
theorem co_Meter_addStep : (Cond.code y_Meter_addStep b_Meter_addStep 3 none) ∈ zt := zt_in (List.mem_append_right _ (List.mem_of_getElem? (i := 439) (by decide +kernel))) (by decide +kernel)
theorem im_Meter_addStep : (Cond.instanceMethod y_Meter_addStep) ∈ zt := zt_in (List.mem_append_right _ (List.mem_of_getElem? (i := 437) (by decide +kernel))) (by decide +kernel)
theorem se_Meter_addStep : (Cond.selects R_Meter y_Meter_addStep y_Meter_addStep) ∈ zt := zt_in (List.mem_append_right _ (List.mem_of_getElem? (i := 438) (by decide +kernel))) (by decide +kernel)
theorem hd_Meter_addStep : y_Meter_addStep.cls ≠ "java/lang/invoke/MethodHandle" ∧ y_Meter_addStep.cls ≠ "java/lang/invoke/VarHandle" ∧ (parseMethodDescriptor y_Meter_addStep.desc).map (fun d => d.parameters.length) = some 2 := by decide +kernel
abbrev b_Query_hasJoin : ByteArray := prog_5_method_5_code
def y_Query_hasJoin : MethodName := ⟨R_Query, "hasJoin", "()Z"⟩
def ws_Query_hasJoin : List Cond := .code y_Query_hasJoin b_Query_hasJoin 1 (some .boolean) :: zt
theorem co_Query_hasJoin : (Cond.code y_Query_hasJoin b_Query_hasJoin 1 (some .boolean)) ∈ zt := zt_in (List.mem_append_right _ (List.mem_of_getElem? (i := 446) (by decide +kernel))) (by decide +kernel)
theorem im_Query_hasJoin : (Cond.instanceMethod y_Query_hasJoin) ∈ zt := zt_in (List.mem_append_right _ (List.mem_of_getElem? (i := 444) (by decide +kernel))) (by decide +kernel)
theorem se_Query_hasJoin : (Cond.selects R_Query y_Query_hasJoin y_Query_hasJoin) ∈ zt := zt_in (List.mem_append_right _ (List.mem_of_getElem? (i := 445) (by decide +kernel))) (by decide +kernel)
theorem hd_Query_hasJoin : y_Query_hasJoin.cls ≠ "java/lang/invoke/MethodHandle" ∧ y_Query_hasJoin.cls ≠ "java/lang/invoke/VarHandle" ∧ (parseMethodDescriptor y_Query_hasJoin.desc).map (fun d => d.parameters.length) = some 0 := by decide +kernel
abbrev b_Runner_joinKept : ByteArray := prog_8_method_6_code
def y_Runner_joinKept : MethodName := ⟨R_Runner, "joinKept", "(LFrameQueries$Query;)I"⟩
def ws_Runner_joinKept : List Cond := .code y_Runner_joinKept b_Runner_joinKept 6 (some .int) :: zt
theorem co_Runner_joinKept : (Cond.code y_Runner_joinKept b_Runner_joinKept 6 (some .int)) ∈ zt := zt_in (List.mem_append_right _ (List.mem_of_getElem? (i := 450) (by decide +kernel))) (by decide +kernel)
theorem im_Runner_joinKept : (Cond.instanceMethod y_Runner_joinKept) ∈ zt := zt_in (List.mem_append_right _ (List.mem_of_getElem? (i := 449) (by decide +kernel))) (by decide +kernel)
theorem se_Runner_joinKept : (Cond.selects R_Runner y_Runner_joinKept y_Runner_joinKept) ∈ zt := zt_in (List.mem_append_left _ (by decide +kernel)) (by decide +kernel)
theorem hd_Runner_joinKept : y_Runner_joinKept.cls ≠ "java/lang/invoke/MethodHandle" ∧ y_Runner_joinKept.cls ≠ "java/lang/invoke/VarHandle" ∧ (parseMethodDescriptor y_Runner_joinKept.desc).map (fun d => d.parameters.length) = some 1 := by decide +kernel
abbrev b_Runner_addToList : ByteArray := prog_8_method_7_code
def y_Runner_addToList : MethodName := ⟨R_Runner, "addToList", "(II)V"⟩
def ws_Runner_addToList : List Cond := .code y_Runner_addToList b_Runner_addToList 4 none :: zt
theorem co_Runner_addToList : (Cond.code y_Runner_addToList b_Runner_addToList 4 none) ∈ zt := zt_in (List.mem_append_right _ (List.mem_of_getElem? (i := 457) (by decide +kernel))) (by decide +kernel)
theorem im_Runner_addToList : (Cond.instanceMethod y_Runner_addToList) ∈ zt := zt_in (List.mem_append_right _ (List.mem_of_getElem? (i := 456) (by decide +kernel))) (by decide +kernel)
theorem se_Runner_addToList : (Cond.selects R_Runner y_Runner_addToList y_Runner_addToList) ∈ zt := zt_in (List.mem_append_left _ (by decide +kernel)) (by decide +kernel)
theorem hd_Runner_addToList : y_Runner_addToList.cls ≠ "java/lang/invoke/MethodHandle" ∧ y_Runner_addToList.cls ≠ "java/lang/invoke/VarHandle" ∧ (parseMethodDescriptor y_Runner_addToList.desc).map (fun d => d.parameters.length) = some 2 := by decide +kernel
abbrev b_Rows_fillCells : ByteArray := prog_7_method_8_code
def y_Rows_fillCells : MethodName := ⟨R_Rows, "fillCells", "(IIIJ)V"⟩
def ws_Rows_fillCells : List Cond := .code y_Rows_fillCells b_Rows_fillCells 7 none :: zt
theorem co_Rows_fillCells : (Cond.code y_Rows_fillCells b_Rows_fillCells 7 none) ∈ zt := zt_in (List.mem_append_right _ (List.mem_of_getElem? (i := 461) (by decide +kernel))) (by decide +kernel)
theorem im_Rows_fillCells : (Cond.instanceMethod y_Rows_fillCells) ∈ zt := zt_in (List.mem_append_right _ (List.mem_of_getElem? (i := 459) (by decide +kernel))) (by decide +kernel)
theorem se_Rows_fillCells : (Cond.selects R_Rows y_Rows_fillCells y_Rows_fillCells) ∈ zt := zt_in (List.mem_append_right _ (List.mem_of_getElem? (i := 460) (by decide +kernel))) (by decide +kernel)
theorem hd_Rows_fillCells : y_Rows_fillCells.cls ≠ "java/lang/invoke/MethodHandle" ∧ y_Rows_fillCells.cls ≠ "java/lang/invoke/VarHandle" ∧ (parseMethodDescriptor y_Rows_fillCells.desc).map (fun d => d.parameters.length) = some 4 := by decide +kernel
abbrev b_Matcher_matchAll : ByteArray := prog_3_method_2_code
def y_Matcher_matchAll : MethodName := ⟨R_Matcher, "matchAll", "(II)V"⟩
def ws_Matcher_matchAll : List Cond := .code y_Matcher_matchAll b_Matcher_matchAll 3 none :: zt
theorem co_Matcher_matchAll : (Cond.code y_Matcher_matchAll b_Matcher_matchAll 3 none) ∈ zt := zt_in (List.mem_append_right _ (List.mem_of_getElem? (i := 466) (by decide +kernel))) (by decide +kernel)
theorem im_Matcher_matchAll : (Cond.instanceMethod y_Matcher_matchAll) ∈ zt := zt_in (List.mem_append_right _ (List.mem_of_getElem? (i := 464) (by decide +kernel))) (by decide +kernel)
theorem se_Matcher_matchAll : (Cond.selects R_Matcher y_Matcher_matchAll y_Matcher_matchAll) ∈ zt := zt_in (List.mem_append_right _ (List.mem_of_getElem? (i := 465) (by decide +kernel))) (by decide +kernel)
theorem hd_Matcher_matchAll : y_Matcher_matchAll.cls ≠ "java/lang/invoke/MethodHandle" ∧ y_Matcher_matchAll.cls ≠ "java/lang/invoke/VarHandle" ∧ (parseMethodDescriptor y_Matcher_matchAll.desc).map (fun d => d.parameters.length) = some 2 := by decide +kernel
abbrev b_Matcher_matchGroup : ByteArray := prog_3_method_3_code
def y_Matcher_matchGroup : MethodName := ⟨R_Matcher, "matchGroup", "(IIII)V"⟩
def ws_Matcher_matchGroup : List Cond := .code y_Matcher_matchGroup b_Matcher_matchGroup 9 none :: zt
theorem co_Matcher_matchGroup : (Cond.code y_Matcher_matchGroup b_Matcher_matchGroup 9 none) ∈ zt := zt_in (List.mem_append_right _ (List.mem_of_getElem? (i := 470) (by decide +kernel))) (by decide +kernel)
theorem im_Matcher_matchGroup : (Cond.instanceMethod y_Matcher_matchGroup) ∈ zt := zt_in (List.mem_append_right _ (List.mem_of_getElem? (i := 469) (by decide +kernel))) (by decide +kernel)
theorem se_Matcher_matchGroup : (Cond.selects R_Matcher y_Matcher_matchGroup y_Matcher_matchGroup) ∈ zt := zt_in (List.mem_append_left _ (by decide +kernel)) (by decide +kernel)
theorem hd_Matcher_matchGroup : y_Matcher_matchGroup.cls ≠ "java/lang/invoke/MethodHandle" ∧ y_Matcher_matchGroup.cls ≠ "java/lang/invoke/VarHandle" ∧ (parseMethodDescriptor y_Matcher_matchGroup.desc).map (fun d => d.parameters.length) = some 4 := by decide +kernel
abbrev b_Matcher_matchPart : ByteArray := prog_3_method_4_code
def y_Matcher_matchPart : MethodName := ⟨R_Matcher, "matchPart", "(II)V"⟩
def ws_Matcher_matchPart : List Cond := .code y_Matcher_matchPart b_Matcher_matchPart 5 none :: zt
theorem co_Matcher_matchPart : (Cond.code y_Matcher_matchPart b_Matcher_matchPart 5 none) ∈ zt := zt_in (List.mem_append_right _ (List.mem_of_getElem? (i := 477) (by decide +kernel))) (by decide +kernel)
theorem im_Matcher_matchPart : (Cond.instanceMethod y_Matcher_matchPart) ∈ zt := zt_in (List.mem_append_right _ (List.mem_of_getElem? (i := 476) (by decide +kernel))) (by decide +kernel)
theorem se_Matcher_matchPart : (Cond.selects R_Matcher y_Matcher_matchPart y_Matcher_matchPart) ∈ zt := zt_in (List.mem_append_left _ (by decide +kernel)) (by decide +kernel)
theorem hd_Matcher_matchPart : y_Matcher_matchPart.cls ≠ "java/lang/invoke/MethodHandle" ∧ y_Matcher_matchPart.cls ≠ "java/lang/invoke/VarHandle" ∧ (parseMethodDescriptor y_Matcher_matchPart.desc).map (fun d => d.parameters.length) = some 2 := by decide +kernel
abbrev b_Matcher_rowsInGroup : ByteArray := prog_3_method_5_code
def y_Matcher_rowsInGroup : MethodName := ⟨R_Matcher, "rowsInGroup", "(LFrameQueries$Rows;III)I"⟩
def ws_Matcher_rowsInGroup : List Cond := .code y_Matcher_rowsInGroup b_Matcher_rowsInGroup 9 (some .int) :: zt
theorem co_Matcher_rowsInGroup : (Cond.code y_Matcher_rowsInGroup b_Matcher_rowsInGroup 9 (some .int)) ∈ zt := zt_in (List.mem_append_right _ (List.mem_of_getElem? (i := 481) (by decide +kernel))) (by decide +kernel)
theorem im_Matcher_rowsInGroup : (Cond.instanceMethod y_Matcher_rowsInGroup) ∈ zt := zt_in (List.mem_append_right _ (List.mem_of_getElem? (i := 480) (by decide +kernel))) (by decide +kernel)
theorem se_Matcher_rowsInGroup : (Cond.selects R_Matcher y_Matcher_rowsInGroup y_Matcher_rowsInGroup) ∈ zt := zt_in (List.mem_append_left _ (by decide +kernel)) (by decide +kernel)
theorem hd_Matcher_rowsInGroup : y_Matcher_rowsInGroup.cls ≠ "java/lang/invoke/MethodHandle" ∧ y_Matcher_rowsInGroup.cls ≠ "java/lang/invoke/VarHandle" ∧ (parseMethodDescriptor y_Matcher_rowsInGroup.desc).map (fun d => d.parameters.length) = some 4 := by decide +kernel
abbrev b_Matcher_groupOf : ByteArray := prog_3_method_6_code
def y_Matcher_groupOf : MethodName := ⟨R_Matcher, "groupOf", "(II)I"⟩
def ws_Matcher_groupOf : List Cond := .code y_Matcher_groupOf b_Matcher_groupOf 6 (some .int) :: zt
theorem co_Matcher_groupOf : (Cond.code y_Matcher_groupOf b_Matcher_groupOf 6 (some .int)) ∈ zt := zt_in (List.mem_append_right _ (List.mem_of_getElem? (i := 487) (by decide +kernel))) (by decide +kernel)
theorem im_Matcher_groupOf : (Cond.instanceMethod y_Matcher_groupOf) ∈ zt := zt_in (List.mem_append_right _ (List.mem_of_getElem? (i := 486) (by decide +kernel))) (by decide +kernel)
theorem se_Matcher_groupOf : (Cond.selects R_Matcher y_Matcher_groupOf y_Matcher_groupOf) ∈ zt := zt_in (List.mem_append_left _ (by decide +kernel)) (by decide +kernel)
theorem hd_Matcher_groupOf : y_Matcher_groupOf.cls ≠ "java/lang/invoke/MethodHandle" ∧ y_Matcher_groupOf.cls ≠ "java/lang/invoke/VarHandle" ∧ (parseMethodDescriptor y_Matcher_groupOf.desc).map (fun d => d.parameters.length) = some 2 := by decide +kernel
abbrev b_Runner_listKept : ByteArray := prog_8_method_5_code
def y_Runner_listKept : MethodName := ⟨R_Runner, "listKept", "()I"⟩
def ws_Runner_listKept : List Cond := .code y_Runner_listKept b_Runner_listKept 2 (some .int) :: zt
theorem co_Runner_listKept : (Cond.code y_Runner_listKept b_Runner_listKept 2 (some .int)) ∈ zt := zt_in (List.mem_append_right _ (List.mem_of_getElem? (i := 492) (by decide +kernel))) (by decide +kernel)
theorem im_Runner_listKept : (Cond.instanceMethod y_Runner_listKept) ∈ zt := zt_in (List.mem_append_right _ (List.mem_of_getElem? (i := 491) (by decide +kernel))) (by decide +kernel)
theorem se_Runner_listKept : (Cond.selects R_Runner y_Runner_listKept y_Runner_listKept) ∈ zt := zt_in (List.mem_append_left _ (by decide +kernel)) (by decide +kernel)
theorem hd_Runner_listKept : y_Runner_listKept.cls ≠ "java/lang/invoke/MethodHandle" ∧ y_Runner_listKept.cls ≠ "java/lang/invoke/VarHandle" ∧ (parseMethodDescriptor y_Runner_listKept.desc).map (fun d => d.parameters.length) = some 0 := by decide +kernel
abbrev b_Runner_workWindowsOut : ByteArray := prog_8_method_8_code
def y_Runner_workWindowsOut : MethodName := ⟨R_Runner, "workWindowsOut", "(LFrameQueries$Query;)I"⟩
def ws_Runner_workWindowsOut : List Cond := .code y_Runner_workWindowsOut b_Runner_workWindowsOut 6 (some .int) :: zt
theorem co_Runner_workWindowsOut : (Cond.code y_Runner_workWindowsOut b_Runner_workWindowsOut 6 (some .int)) ∈ zt := zt_in (List.mem_append_right _ (List.mem_of_getElem? (i := 496) (by decide +kernel))) (by decide +kernel)
theorem im_Runner_workWindowsOut : (Cond.instanceMethod y_Runner_workWindowsOut) ∈ zt := zt_in (List.mem_append_right _ (List.mem_of_getElem? (i := 495) (by decide +kernel))) (by decide +kernel)
theorem se_Runner_workWindowsOut : (Cond.selects R_Runner y_Runner_workWindowsOut y_Runner_workWindowsOut) ∈ zt := zt_in (List.mem_append_left _ (by decide +kernel)) (by decide +kernel)
theorem hd_Runner_workWindowsOut : y_Runner_workWindowsOut.cls ≠ "java/lang/invoke/MethodHandle" ∧ y_Runner_workWindowsOut.cls ≠ "java/lang/invoke/VarHandle" ∧ (parseMethodDescriptor y_Runner_workWindowsOut.desc).map (fun d => d.parameters.length) = some 1 := by decide +kernel
abbrev b_Runner_bringInOrder : ByteArray := prog_8_method_9_code
def y_Runner_bringInOrder : MethodName := ⟨R_Runner, "bringInOrder", "(LFrameQueries$Keys;)V"⟩
def ws_Runner_bringInOrder : List Cond := .code y_Runner_bringInOrder b_Runner_bringInOrder 2 none :: zt
theorem co_Runner_bringInOrder : (Cond.code y_Runner_bringInOrder b_Runner_bringInOrder 2 none) ∈ zt := zt_in (List.mem_append_right _ (List.mem_of_getElem? (i := 500) (by decide +kernel))) (by decide +kernel)
theorem im_Runner_bringInOrder : (Cond.instanceMethod y_Runner_bringInOrder) ∈ zt := zt_in (List.mem_append_right _ (List.mem_of_getElem? (i := 499) (by decide +kernel))) (by decide +kernel)
theorem se_Runner_bringInOrder : (Cond.selects R_Runner y_Runner_bringInOrder y_Runner_bringInOrder) ∈ zt := zt_in (List.mem_append_left _ (by decide +kernel)) (by decide +kernel)
theorem hd_Runner_bringInOrder : y_Runner_bringInOrder.cls ≠ "java/lang/invoke/MethodHandle" ∧ y_Runner_bringInOrder.cls ≠ "java/lang/invoke/VarHandle" ∧ (parseMethodDescriptor y_Runner_bringInOrder.desc).map (fun d => d.parameters.length) = some 1 := by decide +kernel
abbrev b_Keys_beginWith : ByteArray := prog_2_method_4_code
def y_Keys_beginWith : MethodName := ⟨R_Keys, "beginWith", "(LFrameQueries$Keys;)Z"⟩
def ws_Keys_beginWith : List Cond := .code y_Keys_beginWith b_Keys_beginWith 3 (some .boolean) :: zt
theorem co_Keys_beginWith : (Cond.code y_Keys_beginWith b_Keys_beginWith 3 (some .boolean)) ∈ zt := zt_in (List.mem_append_right _ (List.mem_of_getElem? (i := 504) (by decide +kernel))) (by decide +kernel)
theorem im_Keys_beginWith : (Cond.instanceMethod y_Keys_beginWith) ∈ zt := zt_in (List.mem_append_right _ (List.mem_of_getElem? (i := 502) (by decide +kernel))) (by decide +kernel)
theorem se_Keys_beginWith : (Cond.selects R_Keys y_Keys_beginWith y_Keys_beginWith) ∈ zt := zt_in (List.mem_append_right _ (List.mem_of_getElem? (i := 503) (by decide +kernel))) (by decide +kernel)
theorem hd_Keys_beginWith : y_Keys_beginWith.cls ≠ "java/lang/invoke/MethodHandle" ∧ y_Keys_beginWith.cls ≠ "java/lang/invoke/VarHandle" ∧ (parseMethodDescriptor y_Keys_beginWith.desc).map (fun d => d.parameters.length) = some 1 := by decide +kernel
abbrev b_Rows_sortBy : ByteArray := prog_7_method_9_code
def y_Rows_sortBy : MethodName := ⟨R_Rows, "sortBy", "(LFrameQueries$Keys;)V"⟩
def ws_Rows_sortBy : List Cond := .code y_Rows_sortBy b_Rows_sortBy 5 none :: zt
theorem co_Rows_sortBy : (Cond.code y_Rows_sortBy b_Rows_sortBy 5 none) ∈ zt := zt_in (List.mem_append_right _ (List.mem_of_getElem? (i := 508) (by decide +kernel))) (by decide +kernel)
theorem im_Rows_sortBy : (Cond.instanceMethod y_Rows_sortBy) ∈ zt := zt_in (List.mem_append_right _ (List.mem_of_getElem? (i := 506) (by decide +kernel))) (by decide +kernel)
theorem se_Rows_sortBy : (Cond.selects R_Rows y_Rows_sortBy y_Rows_sortBy) ∈ zt := zt_in (List.mem_append_right _ (List.mem_of_getElem? (i := 507) (by decide +kernel))) (by decide +kernel)
theorem hd_Rows_sortBy : y_Rows_sortBy.cls ≠ "java/lang/invoke/MethodHandle" ∧ y_Rows_sortBy.cls ≠ "java/lang/invoke/VarHandle" ∧ (parseMethodDescriptor y_Rows_sortBy.desc).map (fun d => d.parameters.length) = some 1 := by decide +kernel
abbrev b_Rows_mergeRuns : ByteArray := prog_7_method_10_code
def y_Rows_mergeRuns : MethodName := ⟨R_Rows, "mergeRuns", "(IIILFrameQueries$Keys;)V"⟩
def ws_Rows_mergeRuns : List Cond := .code y_Rows_mergeRuns b_Rows_mergeRuns 8 none :: zt
theorem co_Rows_mergeRuns : (Cond.code y_Rows_mergeRuns b_Rows_mergeRuns 8 none) ∈ zt := zt_in (List.mem_append_right _ (List.mem_of_getElem? (i := 515) (by decide +kernel))) (by decide +kernel)
theorem im_Rows_mergeRuns : (Cond.instanceMethod y_Rows_mergeRuns) ∈ zt := zt_in (List.mem_append_right _ (List.mem_of_getElem? (i := 514) (by decide +kernel))) (by decide +kernel)
theorem se_Rows_mergeRuns : (Cond.selects R_Rows y_Rows_mergeRuns y_Rows_mergeRuns) ∈ zt := zt_in (List.mem_append_left _ (by decide +kernel)) (by decide +kernel)
theorem hd_Rows_mergeRuns : y_Rows_mergeRuns.cls ≠ "java/lang/invoke/MethodHandle" ∧ y_Rows_mergeRuns.cls ≠ "java/lang/invoke/VarHandle" ∧ (parseMethodDescriptor y_Rows_mergeRuns.desc).map (fun d => d.parameters.length) = some 4 := by decide +kernel
abbrev b_Rows_isBefore : ByteArray := prog_7_method_11_code
def y_Rows_isBefore : MethodName := ⟨R_Rows, "isBefore", "(IILFrameQueries$Keys;)Z"⟩
def ws_Rows_isBefore : List Cond := .code y_Rows_isBefore b_Rows_isBefore 9 (some .boolean) :: zt
theorem co_Rows_isBefore : (Cond.code y_Rows_isBefore b_Rows_isBefore 9 (some .boolean)) ∈ zt := zt_in (List.mem_append_right _ (List.mem_of_getElem? (i := 519) (by decide +kernel))) (by decide +kernel)
theorem im_Rows_isBefore : (Cond.instanceMethod y_Rows_isBefore) ∈ zt := zt_in (List.mem_append_right _ (List.mem_of_getElem? (i := 518) (by decide +kernel))) (by decide +kernel)
theorem se_Rows_isBefore : (Cond.selects R_Rows y_Rows_isBefore y_Rows_isBefore) ∈ zt := zt_in (List.mem_append_left _ (by decide +kernel)) (by decide +kernel)
theorem hd_Rows_isBefore : y_Rows_isBefore.cls ≠ "java/lang/invoke/MethodHandle" ∧ y_Rows_isBefore.cls ≠ "java/lang/invoke/VarHandle" ∧ (parseMethodDescriptor y_Rows_isBefore.desc).map (fun d => d.parameters.length) = some 3 := by decide +kernel
abbrev b_Meter_addSort : ByteArray := prog_4_method_4_code
def y_Meter_addSort : MethodName := ⟨R_Meter, "addSort", "(I)V"⟩
def ws_Meter_addSort : List Cond := .code y_Meter_addSort b_Meter_addSort 6 none :: zt
theorem co_Meter_addSort : (Cond.code y_Meter_addSort b_Meter_addSort 6 none) ∈ zt := zt_in (List.mem_append_right _ (List.mem_of_getElem? (i := 526) (by decide +kernel))) (by decide +kernel)
theorem im_Meter_addSort : (Cond.instanceMethod y_Meter_addSort) ∈ zt := zt_in (List.mem_append_right _ (List.mem_of_getElem? (i := 524) (by decide +kernel))) (by decide +kernel)
theorem se_Meter_addSort : (Cond.selects R_Meter y_Meter_addSort y_Meter_addSort) ∈ zt := zt_in (List.mem_append_right _ (List.mem_of_getElem? (i := 525) (by decide +kernel))) (by decide +kernel)
theorem hd_Meter_addSort : y_Meter_addSort.cls ≠ "java/lang/invoke/MethodHandle" ∧ y_Meter_addSort.cls ≠ "java/lang/invoke/VarHandle" ∧ (parseMethodDescriptor y_Meter_addSort.desc).map (fun d => d.parameters.length) = some 1 := by decide +kernel
abbrev b_Runner_workOut : ByteArray := prog_8_method_10_code
def y_Runner_workOut : MethodName := ⟨R_Runner, "workOut", "(LFrameQueries$Window;I)I"⟩
def ws_Runner_workOut : List Cond := .code y_Runner_workOut b_Runner_workOut 8 (some .int) :: zt
theorem co_Runner_workOut : (Cond.code y_Runner_workOut b_Runner_workOut 8 (some .int)) ∈ zt := zt_in (List.mem_append_right _ (List.mem_of_getElem? (i := 534) (by decide +kernel))) (by decide +kernel)
theorem im_Runner_workOut : (Cond.instanceMethod y_Runner_workOut) ∈ zt := zt_in (List.mem_append_right _ (List.mem_of_getElem? (i := 533) (by decide +kernel))) (by decide +kernel)
theorem se_Runner_workOut : (Cond.selects R_Runner y_Runner_workOut y_Runner_workOut) ∈ zt := zt_in (List.mem_append_left _ (by decide +kernel)) (by decide +kernel)
theorem hd_Runner_workOut : y_Runner_workOut.cls ≠ "java/lang/invoke/MethodHandle" ∧ y_Runner_workOut.cls ≠ "java/lang/invoke/VarHandle" ∧ (parseMethodDescriptor y_Runner_workOut.desc).map (fun d => d.parameters.length) = some 2 := by decide +kernel
abbrev b_Runner_arePartners : ByteArray := prog_8_method_11_code
def y_Runner_arePartners : MethodName := ⟨R_Runner, "arePartners", "(LFrameQueries$Window;II)Z"⟩
def ws_Runner_arePartners : List Cond := .code y_Runner_arePartners b_Runner_arePartners 5 (some .boolean) :: zt
theorem co_Runner_arePartners : (Cond.code y_Runner_arePartners b_Runner_arePartners 5 (some .boolean)) ∈ zt := zt_in (List.mem_append_right _ (List.mem_of_getElem? (i := 538) (by decide +kernel))) (by decide +kernel)
theorem im_Runner_arePartners : (Cond.instanceMethod y_Runner_arePartners) ∈ zt := zt_in (List.mem_append_right _ (List.mem_of_getElem? (i := 537) (by decide +kernel))) (by decide +kernel)
theorem se_Runner_arePartners : (Cond.selects R_Runner y_Runner_arePartners y_Runner_arePartners) ∈ zt := zt_in (List.mem_append_left _ (by decide +kernel)) (by decide +kernel)
theorem hd_Runner_arePartners : y_Runner_arePartners.cls ≠ "java/lang/invoke/MethodHandle" ∧ y_Runner_arePartners.cls ≠ "java/lang/invoke/VarHandle" ∧ (parseMethodDescriptor y_Runner_arePartners.desc).map (fun d => d.parameters.length) = some 3 := by decide +kernel
abbrev b_Reckoner_reckon : ByteArray := prog_6_method_2_code
def y_Reckoner_reckon : MethodName := ⟨R_Reckoner, "reckon", "(LFrameQueries$Window;III)I"⟩
def ws_Reckoner_reckon : List Cond := .code y_Reckoner_reckon b_Reckoner_reckon 8 (some .int) :: zt
theorem co_Reckoner_reckon : (Cond.code y_Reckoner_reckon b_Reckoner_reckon 8 (some .int)) ∈ zt := zt_in (List.mem_append_right _ (List.mem_of_getElem? (i := 542) (by decide +kernel))) (by decide +kernel)
theorem im_Reckoner_reckon : (Cond.instanceMethod y_Reckoner_reckon) ∈ zt := zt_in (List.mem_append_right _ (List.mem_of_getElem? (i := 540) (by decide +kernel))) (by decide +kernel)
theorem se_Reckoner_reckon : (Cond.selects R_Reckoner y_Reckoner_reckon y_Reckoner_reckon) ∈ zt := zt_in (List.mem_append_right _ (List.mem_of_getElem? (i := 541) (by decide +kernel))) (by decide +kernel)
theorem hd_Reckoner_reckon : y_Reckoner_reckon.cls ≠ "java/lang/invoke/MethodHandle" ∧ y_Reckoner_reckon.cls ≠ "java/lang/invoke/VarHandle" ∧ (parseMethodDescriptor y_Reckoner_reckon.desc).map (fun d => d.parameters.length) = some 4 := by decide +kernel
abbrev b_Reckoner_arePeers : ByteArray := prog_6_method_3_code
def y_Reckoner_arePeers : MethodName := ⟨R_Reckoner, "arePeers", "(II)Z"⟩
def ws_Reckoner_arePeers : List Cond := .code y_Reckoner_arePeers b_Reckoner_arePeers 4 (some .boolean) :: zt
theorem co_Reckoner_arePeers : (Cond.code y_Reckoner_arePeers b_Reckoner_arePeers 4 (some .boolean)) ∈ zt := zt_in (List.mem_append_right _ (List.mem_of_getElem? (i := 546) (by decide +kernel))) (by decide +kernel)
theorem im_Reckoner_arePeers : (Cond.instanceMethod y_Reckoner_arePeers) ∈ zt := zt_in (List.mem_append_right _ (List.mem_of_getElem? (i := 545) (by decide +kernel))) (by decide +kernel)
theorem se_Reckoner_arePeers : (Cond.selects R_Reckoner y_Reckoner_arePeers y_Reckoner_arePeers) ∈ zt := zt_in (List.mem_append_left _ (by decide +kernel)) (by decide +kernel)
theorem hd_Reckoner_arePeers : y_Reckoner_arePeers.cls ≠ "java/lang/invoke/MethodHandle" ∧ y_Reckoner_arePeers.cls ≠ "java/lang/invoke/VarHandle" ∧ (parseMethodDescriptor y_Reckoner_arePeers.desc).map (fun d => d.parameters.length) = some 2 := by decide +kernel
abbrev b_Reckoner_findFrame : ByteArray := prog_6_method_4_code
def y_Reckoner_findFrame : MethodName := ⟨R_Reckoner, "findFrame", "(I)V"⟩
def ws_Reckoner_findFrame : List Cond := .code y_Reckoner_findFrame b_Reckoner_findFrame 2 none :: zt
theorem co_Reckoner_findFrame : (Cond.code y_Reckoner_findFrame b_Reckoner_findFrame 2 none) ∈ zt := zt_in (List.mem_append_right _ (List.mem_of_getElem? (i := 551) (by decide +kernel))) (by decide +kernel)
theorem im_Reckoner_findFrame : (Cond.instanceMethod y_Reckoner_findFrame) ∈ zt := zt_in (List.mem_append_right _ (List.mem_of_getElem? (i := 550) (by decide +kernel))) (by decide +kernel)
theorem se_Reckoner_findFrame : (Cond.selects R_Reckoner y_Reckoner_findFrame y_Reckoner_findFrame) ∈ zt := zt_in (List.mem_append_left _ (by decide +kernel)) (by decide +kernel)
theorem hd_Reckoner_findFrame : y_Reckoner_findFrame.cls ≠ "java/lang/invoke/MethodHandle" ∧ y_Reckoner_findFrame.cls ≠ "java/lang/invoke/VarHandle" ∧ (parseMethodDescriptor y_Reckoner_findFrame.desc).map (fun d => d.parameters.length) = some 1 := by decide +kernel
abbrev b_Reckoner_isInFrame : ByteArray := prog_6_method_5_code
def y_Reckoner_isInFrame : MethodName := ⟨R_Reckoner, "isInFrame", "(II)Z"⟩
def ws_Reckoner_isInFrame : List Cond := .code y_Reckoner_isInFrame b_Reckoner_isInFrame 7 (some .boolean) :: zt
theorem co_Reckoner_isInFrame : (Cond.code y_Reckoner_isInFrame b_Reckoner_isInFrame 7 (some .boolean)) ∈ zt := zt_in (List.mem_append_right _ (List.mem_of_getElem? (i := 555) (by decide +kernel))) (by decide +kernel)
theorem im_Reckoner_isInFrame : (Cond.instanceMethod y_Reckoner_isInFrame) ∈ zt := zt_in (List.mem_append_right _ (List.mem_of_getElem? (i := 554) (by decide +kernel))) (by decide +kernel)
theorem se_Reckoner_isInFrame : (Cond.selects R_Reckoner y_Reckoner_isInFrame y_Reckoner_isInFrame) ∈ zt := zt_in (List.mem_append_left _ (by decide +kernel)) (by decide +kernel)
theorem hd_Reckoner_isInFrame : y_Reckoner_isInFrame.cls ≠ "java/lang/invoke/MethodHandle" ∧ y_Reckoner_isInFrame.cls ≠ "java/lang/invoke/VarHandle" ∧ (parseMethodDescriptor y_Reckoner_isInFrame.desc).map (fun d => d.parameters.length) = some 2 := by decide +kernel
abbrev b_Window_reaches : ByteArray := prog_9_method_4_code
def y_Window_reaches : MethodName := ⟨R_Window, "reaches", "(J)Z"⟩
def ws_Window_reaches : List Cond := .code y_Window_reaches b_Window_reaches 3 (some .boolean) :: zt
theorem co_Window_reaches : (Cond.code y_Window_reaches b_Window_reaches 3 (some .boolean)) ∈ zt := zt_in (List.mem_append_right _ (List.mem_of_getElem? (i := 559) (by decide +kernel))) (by decide +kernel)
theorem im_Window_reaches : (Cond.instanceMethod y_Window_reaches) ∈ zt := zt_in (List.mem_append_right _ (List.mem_of_getElem? (i := 557) (by decide +kernel))) (by decide +kernel)
theorem se_Window_reaches : (Cond.selects R_Window y_Window_reaches y_Window_reaches) ∈ zt := zt_in (List.mem_append_right _ (List.mem_of_getElem? (i := 558) (by decide +kernel))) (by decide +kernel)
theorem hd_Window_reaches : y_Window_reaches.cls ≠ "java/lang/invoke/MethodHandle" ∧ y_Window_reaches.cls ≠ "java/lang/invoke/VarHandle" ∧ (parseMethodDescriptor y_Window_reaches.desc).map (fun d => d.parameters.length) = some 1 := by decide +kernel
abbrev b_Reckoner_valueFor : ByteArray := prog_6_method_6_code
def y_Reckoner_valueFor : MethodName := ⟨R_Reckoner, "valueFor", "(I)J"⟩
def ws_Reckoner_valueFor : List Cond := .code y_Reckoner_valueFor b_Reckoner_valueFor 2 (some .long) :: zt
theorem co_Reckoner_valueFor : (Cond.code y_Reckoner_valueFor b_Reckoner_valueFor 2 (some .long)) ∈ zt := zt_in (List.mem_append_right _ (List.mem_of_getElem? (i := 564) (by decide +kernel))) (by decide +kernel)
theorem im_Reckoner_valueFor : (Cond.instanceMethod y_Reckoner_valueFor) ∈ zt := zt_in (List.mem_append_right _ (List.mem_of_getElem? (i := 563) (by decide +kernel))) (by decide +kernel)
theorem se_Reckoner_valueFor : (Cond.selects R_Reckoner y_Reckoner_valueFor y_Reckoner_valueFor) ∈ zt := zt_in (List.mem_append_left _ (by decide +kernel)) (by decide +kernel)
theorem hd_Reckoner_valueFor : y_Reckoner_valueFor.cls ≠ "java/lang/invoke/MethodHandle" ∧ y_Reckoner_valueFor.cls ≠ "java/lang/invoke/VarHandle" ∧ (parseMethodDescriptor y_Reckoner_valueFor.desc).map (fun d => d.parameters.length) = some 1 := by decide +kernel
abbrev b_Reckoner_tileOf : ByteArray := prog_6_method_7_code
def y_Reckoner_tileOf : MethodName := ⟨R_Reckoner, "tileOf", "(III)I"⟩
def ws_Reckoner_tileOf : List Cond := .code y_Reckoner_tileOf b_Reckoner_tileOf 6 (some .int) :: zt
theorem co_Reckoner_tileOf : (Cond.code y_Reckoner_tileOf b_Reckoner_tileOf 6 (some .int)) ∈ zt := zt_in (List.mem_append_right _ (List.mem_of_getElem? (i := 567) (by decide +kernel))) (by decide +kernel)
theorem sm_Reckoner_tileOf : (Cond.static y_Reckoner_tileOf) ∈ zt := zt_in (List.mem_append_right _ (List.mem_of_getElem? (i := 566) (by decide +kernel))) (by decide +kernel)
theorem hd_Reckoner_tileOf : y_Reckoner_tileOf.cls ≠ "java/lang/invoke/MethodHandle" ∧ y_Reckoner_tileOf.cls ≠ "java/lang/invoke/VarHandle" ∧ (parseMethodDescriptor y_Reckoner_tileOf.desc).map (fun d => d.parameters.length) = some 3 := by decide +kernel
abbrev b_Reckoner_argumentIn : ByteArray := prog_6_method_8_code
def y_Reckoner_argumentIn : MethodName := ⟨R_Reckoner, "argumentIn", "(III)J"⟩
def ws_Reckoner_argumentIn : List Cond := .code y_Reckoner_argumentIn b_Reckoner_argumentIn 4 (some .long) :: zt
theorem co_Reckoner_argumentIn : (Cond.code y_Reckoner_argumentIn b_Reckoner_argumentIn 4 (some .long)) ∈ zt := zt_in (List.mem_append_right _ (List.mem_of_getElem? (i := 571) (by decide +kernel))) (by decide +kernel)
theorem im_Reckoner_argumentIn : (Cond.instanceMethod y_Reckoner_argumentIn) ∈ zt := zt_in (List.mem_append_right _ (List.mem_of_getElem? (i := 570) (by decide +kernel))) (by decide +kernel)
theorem se_Reckoner_argumentIn : (Cond.selects R_Reckoner y_Reckoner_argumentIn y_Reckoner_argumentIn) ∈ zt := zt_in (List.mem_append_left _ (by decide +kernel)) (by decide +kernel)
theorem hd_Reckoner_argumentIn : y_Reckoner_argumentIn.cls ≠ "java/lang/invoke/MethodHandle" ∧ y_Reckoner_argumentIn.cls ≠ "java/lang/invoke/VarHandle" ∧ (parseMethodDescriptor y_Reckoner_argumentIn.desc).map (fun d => d.parameters.length) = some 3 := by decide +kernel
abbrev b_Reckoner_sumOfFrame : ByteArray := prog_6_method_9_code
def y_Reckoner_sumOfFrame : MethodName := ⟨R_Reckoner, "sumOfFrame", "()J"⟩
def ws_Reckoner_sumOfFrame : List Cond := .code y_Reckoner_sumOfFrame b_Reckoner_sumOfFrame 7 (some .long) :: zt
theorem co_Reckoner_sumOfFrame : (Cond.code y_Reckoner_sumOfFrame b_Reckoner_sumOfFrame 7 (some .long)) ∈ zt := zt_in (List.mem_append_right _ (List.mem_of_getElem? (i := 575) (by decide +kernel))) (by decide +kernel)
theorem im_Reckoner_sumOfFrame : (Cond.instanceMethod y_Reckoner_sumOfFrame) ∈ zt := zt_in (List.mem_append_right _ (List.mem_of_getElem? (i := 574) (by decide +kernel))) (by decide +kernel)
theorem se_Reckoner_sumOfFrame : (Cond.selects R_Reckoner y_Reckoner_sumOfFrame y_Reckoner_sumOfFrame) ∈ zt := zt_in (List.mem_append_left _ (by decide +kernel)) (by decide +kernel)
theorem hd_Reckoner_sumOfFrame : y_Reckoner_sumOfFrame.cls ≠ "java/lang/invoke/MethodHandle" ∧ y_Reckoner_sumOfFrame.cls ≠ "java/lang/invoke/VarHandle" ∧ (parseMethodDescriptor y_Reckoner_sumOfFrame.desc).map (fun d => d.parameters.length) = some 0 := by decide +kernel
abbrev b_Reckoner_countInFrame : ByteArray := prog_6_method_10_code
def y_Reckoner_countInFrame : MethodName := ⟨R_Reckoner, "countInFrame", "()I"⟩
def ws_Reckoner_countInFrame : List Cond := .code y_Reckoner_countInFrame b_Reckoner_countInFrame 3 (some .int) :: zt
theorem co_Reckoner_countInFrame : (Cond.code y_Reckoner_countInFrame b_Reckoner_countInFrame 3 (some .int)) ∈ zt := zt_in (List.mem_append_right _ (List.mem_of_getElem? (i := 579) (by decide +kernel))) (by decide +kernel)
theorem im_Reckoner_countInFrame : (Cond.instanceMethod y_Reckoner_countInFrame) ∈ zt := zt_in (List.mem_append_right _ (List.mem_of_getElem? (i := 578) (by decide +kernel))) (by decide +kernel)
theorem se_Reckoner_countInFrame : (Cond.selects R_Reckoner y_Reckoner_countInFrame y_Reckoner_countInFrame) ∈ zt := zt_in (List.mem_append_left _ (by decide +kernel)) (by decide +kernel)
theorem hd_Reckoner_countInFrame : y_Reckoner_countInFrame.cls ≠ "java/lang/invoke/MethodHandle" ∧ y_Reckoner_countInFrame.cls ≠ "java/lang/invoke/VarHandle" ∧ (parseMethodDescriptor y_Reckoner_countInFrame.desc).map (fun d => d.parameters.length) = some 0 := by decide +kernel
abbrev b_Reckoner_leastInFrame : ByteArray := prog_6_method_11_code
def y_Reckoner_leastInFrame : MethodName := ⟨R_Reckoner, "leastInFrame", "()J"⟩
def ws_Reckoner_leastInFrame : List Cond := .code y_Reckoner_leastInFrame b_Reckoner_leastInFrame 6 (some .long) :: zt
theorem co_Reckoner_leastInFrame : (Cond.code y_Reckoner_leastInFrame b_Reckoner_leastInFrame 6 (some .long)) ∈ zt := zt_in (List.mem_append_right _ (List.mem_of_getElem? (i := 583) (by decide +kernel))) (by decide +kernel)
theorem im_Reckoner_leastInFrame : (Cond.instanceMethod y_Reckoner_leastInFrame) ∈ zt := zt_in (List.mem_append_right _ (List.mem_of_getElem? (i := 582) (by decide +kernel))) (by decide +kernel)
theorem se_Reckoner_leastInFrame : (Cond.selects R_Reckoner y_Reckoner_leastInFrame y_Reckoner_leastInFrame) ∈ zt := zt_in (List.mem_append_left _ (by decide +kernel)) (by decide +kernel)
theorem hd_Reckoner_leastInFrame : y_Reckoner_leastInFrame.cls ≠ "java/lang/invoke/MethodHandle" ∧ y_Reckoner_leastInFrame.cls ≠ "java/lang/invoke/VarHandle" ∧ (parseMethodDescriptor y_Reckoner_leastInFrame.desc).map (fun d => d.parameters.length) = some 0 := by decide +kernel
abbrev b_Reckoner_greatestInFrame : ByteArray := prog_6_method_12_code
def y_Reckoner_greatestInFrame : MethodName := ⟨R_Reckoner, "greatestInFrame", "()J"⟩
def ws_Reckoner_greatestInFrame : List Cond := .code y_Reckoner_greatestInFrame b_Reckoner_greatestInFrame 4 (some .long) :: zt
theorem co_Reckoner_greatestInFrame : (Cond.code y_Reckoner_greatestInFrame b_Reckoner_greatestInFrame 4 (some .long)) ∈ zt := zt_in (List.mem_append_right _ (List.mem_of_getElem? (i := 587) (by decide +kernel))) (by decide +kernel)
theorem im_Reckoner_greatestInFrame : (Cond.instanceMethod y_Reckoner_greatestInFrame) ∈ zt := zt_in (List.mem_append_right _ (List.mem_of_getElem? (i := 586) (by decide +kernel))) (by decide +kernel)
theorem se_Reckoner_greatestInFrame : (Cond.selects R_Reckoner y_Reckoner_greatestInFrame y_Reckoner_greatestInFrame) ∈ zt := zt_in (List.mem_append_left _ (by decide +kernel)) (by decide +kernel)
theorem hd_Reckoner_greatestInFrame : y_Reckoner_greatestInFrame.cls ≠ "java/lang/invoke/MethodHandle" ∧ y_Reckoner_greatestInFrame.cls ≠ "java/lang/invoke/VarHandle" ∧ (parseMethodDescriptor y_Reckoner_greatestInFrame.desc).map (fun d => d.parameters.length) = some 0 := by decide +kernel
abbrev b_FQ_cell : ByteArray := prog_1_method_12_code
def y_FQ_cell : MethodName := ⟨R_FQ, "cell", "(II)I"⟩
def ws_FQ_cell : List Cond := .code y_FQ_cell b_FQ_cell 5 (some .int) :: zt
theorem co_FQ_cell : (Cond.code y_FQ_cell b_FQ_cell 5 (some .int)) ∈ zt := zt_in (List.mem_append_right _ (List.mem_of_getElem? (i := 596) (by decide +kernel))) (by decide +kernel)
theorem im_FQ_cell : (Cond.instanceMethod y_FQ_cell) ∈ zt := zt_in (List.mem_append_right _ (List.mem_of_getElem? (i := 594) (by decide +kernel))) (by decide +kernel)
theorem se_FQ_cell : (Cond.selects R_FQ y_FQ_cell y_FQ_cell) ∈ zt := zt_in (List.mem_append_right _ (List.mem_of_getElem? (i := 595) (by decide +kernel))) (by decide +kernel)
theorem hd_FQ_cell : y_FQ_cell.cls ≠ "java/lang/invoke/MethodHandle" ∧ y_FQ_cell.cls ≠ "java/lang/invoke/VarHandle" ∧ (parseMethodDescriptor y_FQ_cell.desc).map (fun d => d.parameters.length) = some 2 := by decide +kernel
abbrev b_FQ_resultValue : ByteArray := prog_1_method_19_code
def y_FQ_resultValue : MethodName := ⟨R_FQ, "resultValue", "(II)J"⟩
def ws_FQ_resultValue : List Cond := .code y_FQ_resultValue b_FQ_resultValue 3 (some .long) :: zt
theorem co_FQ_resultValue : (Cond.code y_FQ_resultValue b_FQ_resultValue 3 (some .long)) ∈ zt := zt_in (List.mem_append_right _ (List.mem_of_getElem? (i := 600) (by decide +kernel))) (by decide +kernel)
theorem im_FQ_resultValue : (Cond.instanceMethod y_FQ_resultValue) ∈ zt := zt_in (List.mem_append_right _ (List.mem_of_getElem? (i := 599) (by decide +kernel))) (by decide +kernel)
theorem se_FQ_resultValue : (Cond.selects R_FQ y_FQ_resultValue y_FQ_resultValue) ∈ zt := zt_in (List.mem_append_left _ (by decide +kernel)) (by decide +kernel)
theorem hd_FQ_resultValue : y_FQ_resultValue.cls ≠ "java/lang/invoke/MethodHandle" ∧ y_FQ_resultValue.cls ≠ "java/lang/invoke/VarHandle" ∧ (parseMethodDescriptor y_FQ_resultValue.desc).map (fun d => d.parameters.length) = some 2 := by decide +kernel
abbrev b_FQ_isResultCell : ByteArray := prog_1_method_18_code
def y_FQ_isResultCell : MethodName := ⟨R_FQ, "isResultCell", "(II)Z"⟩
def ws_FQ_isResultCell : List Cond := .code y_FQ_isResultCell b_FQ_isResultCell 3 (some .boolean) :: zt
theorem co_FQ_isResultCell : (Cond.code y_FQ_isResultCell b_FQ_isResultCell 3 (some .boolean)) ∈ zt := zt_in (List.mem_append_right _ (List.mem_of_getElem? (i := 604) (by decide +kernel))) (by decide +kernel)
theorem im_FQ_isResultCell : (Cond.instanceMethod y_FQ_isResultCell) ∈ zt := zt_in (List.mem_append_right _ (List.mem_of_getElem? (i := 603) (by decide +kernel))) (by decide +kernel)
theorem se_FQ_isResultCell : (Cond.selects R_FQ y_FQ_isResultCell y_FQ_isResultCell) ∈ zt := zt_in (List.mem_append_left _ (by decide +kernel)) (by decide +kernel)
theorem hd_FQ_isResultCell : y_FQ_isResultCell.cls ≠ "java/lang/invoke/MethodHandle" ∧ y_FQ_isResultCell.cls ≠ "java/lang/invoke/VarHandle" ∧ (parseMethodDescriptor y_FQ_isResultCell.desc).map (fun d => d.parameters.length) = some 2 := by decide +kernel
abbrev b_FQ_isNull : ByteArray := prog_1_method_13_code
def y_FQ_isNull : MethodName := ⟨R_FQ, "isNull", "(II)Z"⟩
def ws_FQ_isNull : List Cond := .code y_FQ_isNull b_FQ_isNull 3 (some .boolean) :: zt
theorem co_FQ_isNull : (Cond.code y_FQ_isNull b_FQ_isNull 3 (some .boolean)) ∈ zt := zt_in (List.mem_append_right _ (List.mem_of_getElem? (i := 609) (by decide +kernel))) (by decide +kernel)
theorem im_FQ_isNull : (Cond.instanceMethod y_FQ_isNull) ∈ zt := zt_in (List.mem_append_right _ (List.mem_of_getElem? (i := 607) (by decide +kernel))) (by decide +kernel)
theorem se_FQ_isNull : (Cond.selects R_FQ y_FQ_isNull y_FQ_isNull) ∈ zt := zt_in (List.mem_append_right _ (List.mem_of_getElem? (i := 608) (by decide +kernel))) (by decide +kernel)
theorem hd_FQ_isNull : y_FQ_isNull.cls ≠ "java/lang/invoke/MethodHandle" ∧ y_FQ_isNull.cls ≠ "java/lang/invoke/VarHandle" ∧ (parseMethodDescriptor y_FQ_isNull.desc).map (fun d => d.parameters.length) = some 2 := by decide +kernel
abbrev b_FQ_transfers : ByteArray := prog_1_method_14_code
def y_FQ_transfers : MethodName := ⟨R_FQ, "transfers", "()I"⟩
def ws_FQ_transfers : List Cond := .code y_FQ_transfers b_FQ_transfers 1 (some .int) :: zt
theorem co_FQ_transfers : (Cond.code y_FQ_transfers b_FQ_transfers 1 (some .int)) ∈ zt := zt_in (List.mem_append_right _ (List.mem_of_getElem? (i := 613) (by decide +kernel))) (by decide +kernel)
theorem im_FQ_transfers : (Cond.instanceMethod y_FQ_transfers) ∈ zt := zt_in (List.mem_append_right _ (List.mem_of_getElem? (i := 611) (by decide +kernel))) (by decide +kernel)
theorem se_FQ_transfers : (Cond.selects R_FQ y_FQ_transfers y_FQ_transfers) ∈ zt := zt_in (List.mem_append_right _ (List.mem_of_getElem? (i := 612) (by decide +kernel))) (by decide +kernel)
theorem hd_FQ_transfers : y_FQ_transfers.cls ≠ "java/lang/invoke/MethodHandle" ∧ y_FQ_transfers.cls ≠ "java/lang/invoke/VarHandle" ∧ (parseMethodDescriptor y_FQ_transfers.desc).map (fun d => d.parameters.length) = some 0 := by decide +kernel
abbrev b_FQ_held : ByteArray := prog_1_method_15_code
def y_FQ_held : MethodName := ⟨R_FQ, "held", "()I"⟩
def ws_FQ_held : List Cond := .code y_FQ_held b_FQ_held 1 (some .int) :: zt
theorem co_FQ_held : (Cond.code y_FQ_held b_FQ_held 1 (some .int)) ∈ zt := zt_in (List.mem_append_right _ (List.mem_of_getElem? (i := 617) (by decide +kernel))) (by decide +kernel)
theorem im_FQ_held : (Cond.instanceMethod y_FQ_held) ∈ zt := zt_in (List.mem_append_right _ (List.mem_of_getElem? (i := 615) (by decide +kernel))) (by decide +kernel)
theorem se_FQ_held : (Cond.selects R_FQ y_FQ_held y_FQ_held) ∈ zt := zt_in (List.mem_append_right _ (List.mem_of_getElem? (i := 616) (by decide +kernel))) (by decide +kernel)
theorem hd_FQ_held : y_FQ_held.cls ≠ "java/lang/invoke/MethodHandle" ∧ y_FQ_held.cls ≠ "java/lang/invoke/VarHandle" ∧ (parseMethodDescriptor y_FQ_held.desc).map (fun d => d.parameters.length) = some 0 := by decide +kernel
abbrev b_FQ_sorts : ByteArray := prog_1_method_16_code
def y_FQ_sorts : MethodName := ⟨R_FQ, "sorts", "()I"⟩
def ws_FQ_sorts : List Cond := .code y_FQ_sorts b_FQ_sorts 1 (some .int) :: zt
theorem co_FQ_sorts : (Cond.code y_FQ_sorts b_FQ_sorts 1 (some .int)) ∈ zt := zt_in (List.mem_append_right _ (List.mem_of_getElem? (i := 621) (by decide +kernel))) (by decide +kernel)
theorem im_FQ_sorts : (Cond.instanceMethod y_FQ_sorts) ∈ zt := zt_in (List.mem_append_right _ (List.mem_of_getElem? (i := 619) (by decide +kernel))) (by decide +kernel)
theorem se_FQ_sorts : (Cond.selects R_FQ y_FQ_sorts y_FQ_sorts) ∈ zt := zt_in (List.mem_append_right _ (List.mem_of_getElem? (i := 620) (by decide +kernel))) (by decide +kernel)
theorem hd_FQ_sorts : y_FQ_sorts.cls ≠ "java/lang/invoke/MethodHandle" ∧ y_FQ_sorts.cls ≠ "java/lang/invoke/VarHandle" ∧ (parseMethodDescriptor y_FQ_sorts.desc).map (fun d => d.parameters.length) = some 0 := by decide +kernel
abbrev b_FQ_rows : ByteArray := prog_1_method_17_code
def y_FQ_rows : MethodName := ⟨R_FQ, "rows", "(I)I"⟩
def ws_FQ_rows : List Cond := .code y_FQ_rows b_FQ_rows 2 (some .int) :: zt
theorem co_FQ_rows : (Cond.code y_FQ_rows b_FQ_rows 2 (some .int)) ∈ zt := zt_in (List.mem_append_right _ (List.mem_of_getElem? (i := 625) (by decide +kernel))) (by decide +kernel)
theorem im_FQ_rows : (Cond.instanceMethod y_FQ_rows) ∈ zt := zt_in (List.mem_append_right _ (List.mem_of_getElem? (i := 623) (by decide +kernel))) (by decide +kernel)
theorem se_FQ_rows : (Cond.selects R_FQ y_FQ_rows y_FQ_rows) ∈ zt := zt_in (List.mem_append_right _ (List.mem_of_getElem? (i := 624) (by decide +kernel))) (by decide +kernel)
theorem hd_FQ_rows : y_FQ_rows.cls ≠ "java/lang/invoke/MethodHandle" ∧ y_FQ_rows.cls ≠ "java/lang/invoke/VarHandle" ∧ (parseMethodDescriptor y_FQ_rows.desc).map (fun d => d.parameters.length) = some 1 := by decide +kernel
abbrev b_Law_cell : ByteArray := method_2_code
def y_Law_cell : MethodName := ⟨R_Law, "cell", "([II)I"⟩
def ws_Law_cell : List Cond := .code y_Law_cell b_Law_cell 2 (some .int) :: zt
theorem co_Law_cell : (Cond.code y_Law_cell b_Law_cell 2 (some .int)) ∈ zt := zt_in (List.mem_append_right _ (List.mem_of_getElem? (i := 628) (by decide +kernel))) (by decide +kernel)
theorem sm_Law_cell : (Cond.static y_Law_cell) ∈ zt := zt_in (List.mem_append_right _ (List.mem_of_getElem? (i := 627) (by decide +kernel))) (by decide +kernel)
theorem hd_Law_cell : y_Law_cell.cls ≠ "java/lang/invoke/MethodHandle" ∧ y_Law_cell.cls ≠ "java/lang/invoke/VarHandle" ∧ (parseMethodDescriptor y_Law_cell.desc).map (fun d => d.parameters.length) = some 2 := by decide +kernel
abbrev b_Mo_init : ByteArray := prog_11_method_1_code
def y_Mo_init : MethodName := ⟨R_Mo, "<init>", "(I)V"⟩
def ws_Mo_init : List Cond := .code y_Mo_init b_Mo_init 2 none :: zt
theorem co_Mo_init : (Cond.code y_Mo_init b_Mo_init 2 none) ∈ zt := zt_in (List.mem_append_right _ (List.mem_of_getElem? (i := 633) (by decide +kernel))) (by decide +kernel)
theorem im_Mo_init : (Cond.instanceMethod y_Mo_init) ∈ zt := zt_in (List.mem_append_right _ (List.mem_of_getElem? (i := 632) (by decide +kernel))) (by decide +kernel)
theorem hd_Mo_init : y_Mo_init.cls ≠ "java/lang/invoke/MethodHandle" ∧ y_Mo_init.cls ≠ "java/lang/invoke/VarHandle" ∧ (parseMethodDescriptor y_Mo_init.desc).map (fun d => d.parameters.length) = some 1 := by decide +kernel
abbrev b_Mo_query : ByteArray := prog_11_method_5_code
def y_Mo_query : MethodName := ⟨R_Mo, "query", "()V"⟩
def ws_Mo_query : List Cond := .code y_Mo_query b_Mo_query 1 none :: zt
theorem co_Mo_query : (Cond.code y_Mo_query b_Mo_query 1 none) ∈ zt := zt_in (List.mem_append_right _ (List.mem_of_getElem? (i := 638) (by decide +kernel))) (by decide +kernel)
theorem im_Mo_query : (Cond.instanceMethod y_Mo_query) ∈ zt := zt_in (List.mem_append_right _ (List.mem_of_getElem? (i := 636) (by decide +kernel))) (by decide +kernel)
theorem se_Mo_query : (Cond.selects R_Mo y_Mo_query y_Mo_query) ∈ zt := zt_in (List.mem_append_right _ (List.mem_of_getElem? (i := 637) (by decide +kernel))) (by decide +kernel)
theorem hd_Mo_query : y_Mo_query.cls ≠ "java/lang/invoke/MethodHandle" ∧ y_Mo_query.cls ≠ "java/lang/invoke/VarHandle" ∧ (parseMethodDescriptor y_Mo_query.desc).map (fun d => d.parameters.length) = some 0 := by decide +kernel
abbrev b_Mo_insert : ByteArray := prog_11_method_3_code
def y_Mo_insert : MethodName := ⟨R_Mo, "insert", "(IIIII)Z"⟩
def ws_Mo_insert : List Cond := .code y_Mo_insert b_Mo_insert 7 (some .boolean) :: zt
theorem co_Mo_insert : (Cond.code y_Mo_insert b_Mo_insert 7 (some .boolean)) ∈ zt := zt_in (List.mem_append_right _ (List.mem_of_getElem? (i := 775) (by decide +kernel))) (by decide +kernel)
theorem im_Mo_insert : (Cond.instanceMethod y_Mo_insert) ∈ zt := zt_in (List.mem_append_right _ (List.mem_of_getElem? (i := 773) (by decide +kernel))) (by decide +kernel)
theorem se_Mo_insert : (Cond.selects R_Mo y_Mo_insert y_Mo_insert) ∈ zt := zt_in (List.mem_append_right _ (List.mem_of_getElem? (i := 774) (by decide +kernel))) (by decide +kernel)
theorem hd_Mo_insert : y_Mo_insert.cls ≠ "java/lang/invoke/MethodHandle" ∧ y_Mo_insert.cls ≠ "java/lang/invoke/VarHandle" ∧ (parseMethodDescriptor y_Mo_insert.desc).map (fun d => d.parameters.length) = some 5 := by decide +kernel
abbrev b_Mo_outside : ByteArray := prog_11_method_2_code
def y_Mo_outside : MethodName := ⟨R_Mo, "outside", "(III)Z"⟩
def ws_Mo_outside : List Cond := .code y_Mo_outside b_Mo_outside 3 (some .boolean) :: zt
theorem co_Mo_outside : (Cond.code y_Mo_outside b_Mo_outside 3 (some .boolean)) ∈ zt := zt_in (List.mem_append_right _ (List.mem_of_getElem? (i := 778) (by decide +kernel))) (by decide +kernel)
theorem sm_Mo_outside : (Cond.static y_Mo_outside) ∈ zt := zt_in (List.mem_append_right _ (List.mem_of_getElem? (i := 777) (by decide +kernel))) (by decide +kernel)
theorem hd_Mo_outside : y_Mo_outside.cls ≠ "java/lang/invoke/MethodHandle" ∧ y_Mo_outside.cls ≠ "java/lang/invoke/VarHandle" ∧ (parseMethodDescriptor y_Mo_outside.desc).map (fun d => d.parameters.length) = some 3 := by decide +kernel
abbrev b_Mo_clear : ByteArray := prog_11_method_4_code
def y_Mo_clear : MethodName := ⟨R_Mo, "clear", "(I)Z"⟩
def ws_Mo_clear : List Cond := .code y_Mo_clear b_Mo_clear 2 (some .boolean) :: zt
theorem co_Mo_clear : (Cond.code y_Mo_clear b_Mo_clear 2 (some .boolean)) ∈ zt := zt_in (List.mem_append_right _ (List.mem_of_getElem? (i := 782) (by decide +kernel))) (by decide +kernel)
theorem im_Mo_clear : (Cond.instanceMethod y_Mo_clear) ∈ zt := zt_in (List.mem_append_right _ (List.mem_of_getElem? (i := 780) (by decide +kernel))) (by decide +kernel)
theorem se_Mo_clear : (Cond.selects R_Mo y_Mo_clear y_Mo_clear) ∈ zt := zt_in (List.mem_append_right _ (List.mem_of_getElem? (i := 781) (by decide +kernel))) (by decide +kernel)
theorem hd_Mo_clear : y_Mo_clear.cls ≠ "java/lang/invoke/MethodHandle" ∧ y_Mo_clear.cls ≠ "java/lang/invoke/VarHandle" ∧ (parseMethodDescriptor y_Mo_clear.desc).map (fun d => d.parameters.length) = some 1 := by decide +kernel
abbrev b_Mo_filter : ByteArray := prog_11_method_6_code
def y_Mo_filter : MethodName := ⟨R_Mo, "filter", "(III)Z"⟩
def ws_Mo_filter : List Cond := .code y_Mo_filter b_Mo_filter 4 (some .boolean) :: zt
theorem co_Mo_filter : (Cond.code y_Mo_filter b_Mo_filter 4 (some .boolean)) ∈ zt := zt_in (List.mem_append_right _ (List.mem_of_getElem? (i := 787) (by decide +kernel))) (by decide +kernel)
theorem im_Mo_filter : (Cond.instanceMethod y_Mo_filter) ∈ zt := zt_in (List.mem_append_right _ (List.mem_of_getElem? (i := 785) (by decide +kernel))) (by decide +kernel)
theorem se_Mo_filter : (Cond.selects R_Mo y_Mo_filter y_Mo_filter) ∈ zt := zt_in (List.mem_append_right _ (List.mem_of_getElem? (i := 786) (by decide +kernel))) (by decide +kernel)
theorem hd_Mo_filter : y_Mo_filter.cls ≠ "java/lang/invoke/MethodHandle" ∧ y_Mo_filter.cls ≠ "java/lang/invoke/VarHandle" ∧ (parseMethodDescriptor y_Mo_filter.desc).map (fun d => d.parameters.length) = some 3 := by decide +kernel
abbrev b_Mo_join : ByteArray := prog_11_method_7_code
def y_Mo_join : MethodName := ⟨R_Mo, "join", "(II)Z"⟩
def ws_Mo_join : List Cond := .code y_Mo_join b_Mo_join 3 (some .boolean) :: zt
theorem co_Mo_join : (Cond.code y_Mo_join b_Mo_join 3 (some .boolean)) ∈ zt := zt_in (List.mem_append_right _ (List.mem_of_getElem? (i := 791) (by decide +kernel))) (by decide +kernel)
theorem im_Mo_join : (Cond.instanceMethod y_Mo_join) ∈ zt := zt_in (List.mem_append_right _ (List.mem_of_getElem? (i := 789) (by decide +kernel))) (by decide +kernel)
theorem se_Mo_join : (Cond.selects R_Mo y_Mo_join y_Mo_join) ∈ zt := zt_in (List.mem_append_right _ (List.mem_of_getElem? (i := 790) (by decide +kernel))) (by decide +kernel)
theorem hd_Mo_join : y_Mo_join.cls ≠ "java/lang/invoke/MethodHandle" ∧ y_Mo_join.cls ≠ "java/lang/invoke/VarHandle" ∧ (parseMethodDescriptor y_Mo_join.desc).map (fun d => d.parameters.length) = some 2 := by decide +kernel
abbrev b_Mo_window : ByteArray := prog_11_method_8_code
def y_Mo_window : MethodName := ⟨R_Mo, "window", "(III)I"⟩
def ws_Mo_window : List Cond := .code y_Mo_window b_Mo_window 4 (some .int) :: zt
theorem co_Mo_window : (Cond.code y_Mo_window b_Mo_window 4 (some .int)) ∈ zt := zt_in (List.mem_append_right _ (List.mem_of_getElem? (i := 795) (by decide +kernel))) (by decide +kernel)
theorem im_Mo_window : (Cond.instanceMethod y_Mo_window) ∈ zt := zt_in (List.mem_append_right _ (List.mem_of_getElem? (i := 793) (by decide +kernel))) (by decide +kernel)
theorem se_Mo_window : (Cond.selects R_Mo y_Mo_window y_Mo_window) ∈ zt := zt_in (List.mem_append_right _ (List.mem_of_getElem? (i := 794) (by decide +kernel))) (by decide +kernel)
theorem hd_Mo_window : y_Mo_window.cls ≠ "java/lang/invoke/MethodHandle" ∧ y_Mo_window.cls ≠ "java/lang/invoke/VarHandle" ∧ (parseMethodDescriptor y_Mo_window.desc).map (fun d => d.parameters.length) = some 3 := by decide +kernel
abbrev b_Mo_over : ByteArray := prog_11_method_9_code
def y_Mo_over : MethodName := ⟨R_Mo, "over", "(IIIZ)Z"⟩
def ws_Mo_over : List Cond := .code y_Mo_over b_Mo_over 5 (some .boolean) :: zt
theorem co_Mo_over : (Cond.code y_Mo_over b_Mo_over 5 (some .boolean)) ∈ zt := zt_in (List.mem_append_right _ (List.mem_of_getElem? (i := 799) (by decide +kernel))) (by decide +kernel)
theorem im_Mo_over : (Cond.instanceMethod y_Mo_over) ∈ zt := zt_in (List.mem_append_right _ (List.mem_of_getElem? (i := 797) (by decide +kernel))) (by decide +kernel)
theorem se_Mo_over : (Cond.selects R_Mo y_Mo_over y_Mo_over) ∈ zt := zt_in (List.mem_append_right _ (List.mem_of_getElem? (i := 798) (by decide +kernel))) (by decide +kernel)
theorem hd_Mo_over : y_Mo_over.cls ≠ "java/lang/invoke/MethodHandle" ∧ y_Mo_over.cls ≠ "java/lang/invoke/VarHandle" ∧ (parseMethodDescriptor y_Mo_over.desc).map (fun d => d.parameters.length) = some 4 := by decide +kernel
abbrev b_Mo_frame : ByteArray := prog_11_method_10_code
def y_Mo_frame : MethodName := ⟨R_Mo, "frame", "(IZII)Z"⟩
def ws_Mo_frame : List Cond := .code y_Mo_frame b_Mo_frame 5 (some .boolean) :: zt
theorem co_Mo_frame : (Cond.code y_Mo_frame b_Mo_frame 5 (some .boolean)) ∈ zt := zt_in (List.mem_append_right _ (List.mem_of_getElem? (i := 803) (by decide +kernel))) (by decide +kernel)
theorem im_Mo_frame : (Cond.instanceMethod y_Mo_frame) ∈ zt := zt_in (List.mem_append_right _ (List.mem_of_getElem? (i := 801) (by decide +kernel))) (by decide +kernel)
theorem se_Mo_frame : (Cond.selects R_Mo y_Mo_frame y_Mo_frame) ∈ zt := zt_in (List.mem_append_right _ (List.mem_of_getElem? (i := 802) (by decide +kernel))) (by decide +kernel)
theorem hd_Mo_frame : y_Mo_frame.cls ≠ "java/lang/invoke/MethodHandle" ∧ y_Mo_frame.cls ≠ "java/lang/invoke/VarHandle" ∧ (parseMethodDescriptor y_Mo_frame.desc).map (fun d => d.parameters.length) = some 4 := by decide +kernel
abbrev b_Mo_order : ByteArray := prog_11_method_11_code
def y_Mo_order : MethodName := ⟨R_Mo, "order", "(IZ)Z"⟩
def ws_Mo_order : List Cond := .code y_Mo_order b_Mo_order 3 (some .boolean) :: zt
theorem co_Mo_order : (Cond.code y_Mo_order b_Mo_order 3 (some .boolean)) ∈ zt := zt_in (List.mem_append_right _ (List.mem_of_getElem? (i := 807) (by decide +kernel))) (by decide +kernel)
theorem im_Mo_order : (Cond.instanceMethod y_Mo_order) ∈ zt := zt_in (List.mem_append_right _ (List.mem_of_getElem? (i := 805) (by decide +kernel))) (by decide +kernel)
theorem se_Mo_order : (Cond.selects R_Mo y_Mo_order y_Mo_order) ∈ zt := zt_in (List.mem_append_right _ (List.mem_of_getElem? (i := 806) (by decide +kernel))) (by decide +kernel)
theorem hd_Mo_order : y_Mo_order.cls ≠ "java/lang/invoke/MethodHandle" ∧ y_Mo_order.cls ≠ "java/lang/invoke/VarHandle" ∧ (parseMethodDescriptor y_Mo_order.desc).map (fun d => d.parameters.length) = some 2 := by decide +kernel
abbrev b_Mo_run : ByteArray := prog_11_method_42_code
def y_Mo_run : MethodName := ⟨R_Mo, "run", "()I"⟩
def ws_Mo_run : List Cond := .code y_Mo_run b_Mo_run 3 (some .int) :: zt
theorem co_Mo_run : (Cond.code y_Mo_run b_Mo_run 3 (some .int)) ∈ zt := zt_in (List.mem_append_right _ (List.mem_of_getElem? (i := 811) (by decide +kernel))) (by decide +kernel)
theorem im_Mo_run : (Cond.instanceMethod y_Mo_run) ∈ zt := zt_in (List.mem_append_right _ (List.mem_of_getElem? (i := 809) (by decide +kernel))) (by decide +kernel)
theorem se_Mo_run : (Cond.selects R_Mo y_Mo_run y_Mo_run) ∈ zt := zt_in (List.mem_append_right _ (List.mem_of_getElem? (i := 810) (by decide +kernel))) (by decide +kernel)
theorem hd_Mo_run : y_Mo_run.cls ≠ "java/lang/invoke/MethodHandle" ∧ y_Mo_run.cls ≠ "java/lang/invoke/VarHandle" ∧ (parseMethodDescriptor y_Mo_run.desc).map (fun d => d.parameters.length) = some 0 := by decide +kernel
abbrev b_Mo_runFilter : ByteArray := prog_11_method_17_code
def y_Mo_runFilter : MethodName := ⟨R_Mo, "runFilter", "()V"⟩
def ws_Mo_runFilter : List Cond := .code y_Mo_runFilter b_Mo_runFilter 2 none :: zt
theorem co_Mo_runFilter : (Cond.code y_Mo_runFilter b_Mo_runFilter 2 none) ∈ zt := zt_in (List.mem_append_right _ (List.mem_of_getElem? (i := 815) (by decide +kernel))) (by decide +kernel)
theorem im_Mo_runFilter : (Cond.instanceMethod y_Mo_runFilter) ∈ zt := zt_in (List.mem_append_right _ (List.mem_of_getElem? (i := 814) (by decide +kernel))) (by decide +kernel)
theorem se_Mo_runFilter : (Cond.selects R_Mo y_Mo_runFilter y_Mo_runFilter) ∈ zt := zt_in (List.mem_append_left _ (by decide +kernel)) (by decide +kernel)
theorem hd_Mo_runFilter : y_Mo_runFilter.cls ≠ "java/lang/invoke/MethodHandle" ∧ y_Mo_runFilter.cls ≠ "java/lang/invoke/VarHandle" ∧ (parseMethodDescriptor y_Mo_runFilter.desc).map (fun d => d.parameters.length) = some 0 := by decide +kernel
abbrev b_Mo_passes : ByteArray := prog_11_method_16_code
def y_Mo_passes : MethodName := ⟨R_Mo, "passes", "(I)Z"⟩
def ws_Mo_passes : List Cond := .code y_Mo_passes b_Mo_passes 4 (some .boolean) :: zt
theorem co_Mo_passes : (Cond.code y_Mo_passes b_Mo_passes 4 (some .boolean)) ∈ zt := zt_in (List.mem_append_right _ (List.mem_of_getElem? (i := 819) (by decide +kernel))) (by decide +kernel)
theorem im_Mo_passes : (Cond.instanceMethod y_Mo_passes) ∈ zt := zt_in (List.mem_append_right _ (List.mem_of_getElem? (i := 818) (by decide +kernel))) (by decide +kernel)
theorem se_Mo_passes : (Cond.selects R_Mo y_Mo_passes y_Mo_passes) ∈ zt := zt_in (List.mem_append_left _ (by decide +kernel)) (by decide +kernel)
theorem hd_Mo_passes : y_Mo_passes.cls ≠ "java/lang/invoke/MethodHandle" ∧ y_Mo_passes.cls ≠ "java/lang/invoke/VarHandle" ∧ (parseMethodDescriptor y_Mo_passes.desc).map (fun d => d.parameters.length) = some 1 := by decide +kernel
abbrev b_Mo_given : ByteArray := prog_11_method_14_code
def y_Mo_given : MethodName := ⟨R_Mo, "given", "(III)Z"⟩
def ws_Mo_given : List Cond := .code y_Mo_given b_Mo_given 4 (some .boolean) :: zt
theorem co_Mo_given : (Cond.code y_Mo_given b_Mo_given 4 (some .boolean)) ∈ zt := zt_in (List.mem_append_right _ (List.mem_of_getElem? (i := 823) (by decide +kernel))) (by decide +kernel)
theorem im_Mo_given : (Cond.instanceMethod y_Mo_given) ∈ zt := zt_in (List.mem_append_right _ (List.mem_of_getElem? (i := 822) (by decide +kernel))) (by decide +kernel)
theorem se_Mo_given : (Cond.selects R_Mo y_Mo_given y_Mo_given) ∈ zt := zt_in (List.mem_append_left _ (by decide +kernel)) (by decide +kernel)
theorem hd_Mo_given : y_Mo_given.cls ≠ "java/lang/invoke/MethodHandle" ∧ y_Mo_given.cls ≠ "java/lang/invoke/VarHandle" ∧ (parseMethodDescriptor y_Mo_given.desc).map (fun d => d.parameters.length) = some 3 := by decide +kernel
abbrev b_Mo_givenValue : ByteArray := prog_11_method_15_code
def y_Mo_givenValue : MethodName := ⟨R_Mo, "givenValue", "(III)I"⟩
def ws_Mo_givenValue : List Cond := .code y_Mo_givenValue b_Mo_givenValue 4 (some .int) :: zt
theorem co_Mo_givenValue : (Cond.code y_Mo_givenValue b_Mo_givenValue 4 (some .int)) ∈ zt := zt_in (List.mem_append_right _ (List.mem_of_getElem? (i := 827) (by decide +kernel))) (by decide +kernel)
theorem im_Mo_givenValue : (Cond.instanceMethod y_Mo_givenValue) ∈ zt := zt_in (List.mem_append_right _ (List.mem_of_getElem? (i := 826) (by decide +kernel))) (by decide +kernel)
theorem se_Mo_givenValue : (Cond.selects R_Mo y_Mo_givenValue y_Mo_givenValue) ∈ zt := zt_in (List.mem_append_left _ (by decide +kernel)) (by decide +kernel)
theorem hd_Mo_givenValue : y_Mo_givenValue.cls ≠ "java/lang/invoke/MethodHandle" ∧ y_Mo_givenValue.cls ≠ "java/lang/invoke/VarHandle" ∧ (parseMethodDescriptor y_Mo_givenValue.desc).map (fun d => d.parameters.length) = some 3 := by decide +kernel
abbrev b_Mo_blocks : ByteArray := prog_11_method_12_code
def y_Mo_blocks : MethodName := ⟨R_Mo, "blocks", "(I)I"⟩
def ws_Mo_blocks : List Cond := .code y_Mo_blocks b_Mo_blocks 1 (some .int) :: zt
theorem co_Mo_blocks : (Cond.code y_Mo_blocks b_Mo_blocks 1 (some .int)) ∈ zt := zt_in (List.mem_append_right _ (List.mem_of_getElem? (i := 830) (by decide +kernel))) (by decide +kernel)
theorem sm_Mo_blocks : (Cond.static y_Mo_blocks) ∈ zt := zt_in (List.mem_append_right _ (List.mem_of_getElem? (i := 829) (by decide +kernel))) (by decide +kernel)
theorem hd_Mo_blocks : y_Mo_blocks.cls ≠ "java/lang/invoke/MethodHandle" ∧ y_Mo_blocks.cls ≠ "java/lang/invoke/VarHandle" ∧ (parseMethodDescriptor y_Mo_blocks.desc).map (fun d => d.parameters.length) = some 1 := by decide +kernel
abbrev b_Mo_hold : ByteArray := prog_11_method_13_code
def y_Mo_hold : MethodName := ⟨R_Mo, "hold", "(I)V"⟩
def ws_Mo_hold : List Cond := .code y_Mo_hold b_Mo_hold 2 none :: zt
theorem co_Mo_hold : (Cond.code y_Mo_hold b_Mo_hold 2 none) ∈ zt := zt_in (List.mem_append_right _ (List.mem_of_getElem? (i := 834) (by decide +kernel))) (by decide +kernel)
theorem im_Mo_hold : (Cond.instanceMethod y_Mo_hold) ∈ zt := zt_in (List.mem_append_right _ (List.mem_of_getElem? (i := 833) (by decide +kernel))) (by decide +kernel)
theorem se_Mo_hold : (Cond.selects R_Mo y_Mo_hold y_Mo_hold) ∈ zt := zt_in (List.mem_append_left _ (by decide +kernel)) (by decide +kernel)
theorem hd_Mo_hold : y_Mo_hold.cls ≠ "java/lang/invoke/MethodHandle" ∧ y_Mo_hold.cls ≠ "java/lang/invoke/VarHandle" ∧ (parseMethodDescriptor y_Mo_hold.desc).map (fun d => d.parameters.length) = some 1 := by decide +kernel
abbrev b_Mo_runJoin : ByteArray := prog_11_method_24_code
def y_Mo_runJoin : MethodName := ⟨R_Mo, "runJoin", "()V"⟩
def ws_Mo_runJoin : List Cond := .code y_Mo_runJoin b_Mo_runJoin 5 none :: zt
theorem co_Mo_runJoin : (Cond.code y_Mo_runJoin b_Mo_runJoin 5 none) ∈ zt := zt_in (List.mem_append_right _ (List.mem_of_getElem? (i := 838) (by decide +kernel))) (by decide +kernel)
theorem im_Mo_runJoin : (Cond.instanceMethod y_Mo_runJoin) ∈ zt := zt_in (List.mem_append_right _ (List.mem_of_getElem? (i := 837) (by decide +kernel))) (by decide +kernel)
theorem se_Mo_runJoin : (Cond.selects R_Mo y_Mo_runJoin y_Mo_runJoin) ∈ zt := zt_in (List.mem_append_left _ (by decide +kernel)) (by decide +kernel)
theorem hd_Mo_runJoin : y_Mo_runJoin.cls ≠ "java/lang/invoke/MethodHandle" ∧ y_Mo_runJoin.cls ≠ "java/lang/invoke/VarHandle" ∧ (parseMethodDescriptor y_Mo_runJoin.desc).map (fun d => d.parameters.length) = some 0 := by decide +kernel
abbrev b_Mo_make : ByteArray := prog_11_method_23_code
def y_Mo_make : MethodName := ⟨R_Mo, "make", "(II)V"⟩
def ws_Mo_make : List Cond := .code y_Mo_make b_Mo_make 6 none :: zt
theorem co_Mo_make : (Cond.code y_Mo_make b_Mo_make 6 none) ∈ zt := zt_in (List.mem_append_right _ (List.mem_of_getElem? (i := 842) (by decide +kernel))) (by decide +kernel)
theorem im_Mo_make : (Cond.instanceMethod y_Mo_make) ∈ zt := zt_in (List.mem_append_right _ (List.mem_of_getElem? (i := 841) (by decide +kernel))) (by decide +kernel)
theorem se_Mo_make : (Cond.selects R_Mo y_Mo_make y_Mo_make) ∈ zt := zt_in (List.mem_append_left _ (by decide +kernel)) (by decide +kernel)
theorem hd_Mo_make : y_Mo_make.cls ≠ "java/lang/invoke/MethodHandle" ∧ y_Mo_make.cls ≠ "java/lang/invoke/VarHandle" ∧ (parseMethodDescriptor y_Mo_make.desc).map (fun d => d.parameters.length) = some 2 := by decide +kernel
abbrev b_Mo_countJoin : ByteArray := prog_11_method_22_code
def y_Mo_countJoin : MethodName := ⟨R_Mo, "countJoin", "()V"⟩
def ws_Mo_countJoin : List Cond := .code y_Mo_countJoin b_Mo_countJoin 3 none :: zt
theorem co_Mo_countJoin : (Cond.code y_Mo_countJoin b_Mo_countJoin 3 none) ∈ zt := zt_in (List.mem_append_right _ (List.mem_of_getElem? (i := 846) (by decide +kernel))) (by decide +kernel)
theorem im_Mo_countJoin : (Cond.instanceMethod y_Mo_countJoin) ∈ zt := zt_in (List.mem_append_right _ (List.mem_of_getElem? (i := 845) (by decide +kernel))) (by decide +kernel)
theorem se_Mo_countJoin : (Cond.selects R_Mo y_Mo_countJoin y_Mo_countJoin) ∈ zt := zt_in (List.mem_append_left _ (by decide +kernel)) (by decide +kernel)
theorem hd_Mo_countJoin : y_Mo_countJoin.cls ≠ "java/lang/invoke/MethodHandle" ∧ y_Mo_countJoin.cls ≠ "java/lang/invoke/VarHandle" ∧ (parseMethodDescriptor y_Mo_countJoin.desc).map (fun d => d.parameters.length) = some 0 := by decide +kernel
abbrev b_Mo_parted : ByteArray := prog_11_method_21_code
def y_Mo_parted : MethodName := ⟨R_Mo, "parted", "(II)Z"⟩
def ws_Mo_parted : List Cond := .code y_Mo_parted b_Mo_parted 8 (some .boolean) :: zt
theorem co_Mo_parted : (Cond.code y_Mo_parted b_Mo_parted 8 (some .boolean)) ∈ zt := zt_in (List.mem_append_right _ (List.mem_of_getElem? (i := 850) (by decide +kernel))) (by decide +kernel)
theorem im_Mo_parted : (Cond.instanceMethod y_Mo_parted) ∈ zt := zt_in (List.mem_append_right _ (List.mem_of_getElem? (i := 849) (by decide +kernel))) (by decide +kernel)
theorem se_Mo_parted : (Cond.selects R_Mo y_Mo_parted y_Mo_parted) ∈ zt := zt_in (List.mem_append_left _ (by decide +kernel)) (by decide +kernel)
theorem hd_Mo_parted : y_Mo_parted.cls ≠ "java/lang/invoke/MethodHandle" ∧ y_Mo_parted.cls ≠ "java/lang/invoke/VarHandle" ∧ (parseMethodDescriptor y_Mo_parted.desc).map (fun d => d.parameters.length) = some 2 := by decide +kernel
abbrev b_Mo_sideRows : ByteArray := prog_11_method_19_code
def y_Mo_sideRows : MethodName := ⟨R_Mo, "sideRows", "(III)I"⟩
def ws_Mo_sideRows : List Cond := .code y_Mo_sideRows b_Mo_sideRows 11 (some .int) :: zt
theorem co_Mo_sideRows : (Cond.code y_Mo_sideRows b_Mo_sideRows 11 (some .int)) ∈ zt := zt_in (List.mem_append_right _ (List.mem_of_getElem? (i := 854) (by decide +kernel))) (by decide +kernel)
theorem im_Mo_sideRows : (Cond.instanceMethod y_Mo_sideRows) ∈ zt := zt_in (List.mem_append_right _ (List.mem_of_getElem? (i := 853) (by decide +kernel))) (by decide +kernel)
theorem se_Mo_sideRows : (Cond.selects R_Mo y_Mo_sideRows y_Mo_sideRows) ∈ zt := zt_in (List.mem_append_left _ (by decide +kernel)) (by decide +kernel)
theorem hd_Mo_sideRows : y_Mo_sideRows.cls ≠ "java/lang/invoke/MethodHandle" ∧ y_Mo_sideRows.cls ≠ "java/lang/invoke/VarHandle" ∧ (parseMethodDescriptor y_Mo_sideRows.desc).map (fun d => d.parameters.length) = some 3 := by decide +kernel
abbrev b_Mo_part : ByteArray := prog_11_method_18_code
def y_Mo_part : MethodName := ⟨R_Mo, "part", "(II)I"⟩
def ws_Mo_part : List Cond := .code y_Mo_part b_Mo_part 4 (some .int) :: zt
theorem co_Mo_part : (Cond.code y_Mo_part b_Mo_part 4 (some .int)) ∈ zt := zt_in (List.mem_append_right _ (List.mem_of_getElem? (i := 858) (by decide +kernel))) (by decide +kernel)
theorem im_Mo_part : (Cond.instanceMethod y_Mo_part) ∈ zt := zt_in (List.mem_append_right _ (List.mem_of_getElem? (i := 857) (by decide +kernel))) (by decide +kernel)
theorem se_Mo_part : (Cond.selects R_Mo y_Mo_part y_Mo_part) ∈ zt := zt_in (List.mem_append_left _ (by decide +kernel)) (by decide +kernel)
theorem hd_Mo_part : y_Mo_part.cls ≠ "java/lang/invoke/MethodHandle" ∧ y_Mo_part.cls ≠ "java/lang/invoke/VarHandle" ∧ (parseMethodDescriptor y_Mo_part.desc).map (fun d => d.parameters.length) = some 2 := by decide +kernel
abbrev b_Mo_bothThere : ByteArray := prog_11_method_20_code
def y_Mo_bothThere : MethodName := ⟨R_Mo, "bothThere", "(II)Z"⟩
def ws_Mo_bothThere : List Cond := .code y_Mo_bothThere b_Mo_bothThere 3 (some .boolean) :: zt
theorem co_Mo_bothThere : (Cond.code y_Mo_bothThere b_Mo_bothThere 3 (some .boolean)) ∈ zt := zt_in (List.mem_append_right _ (List.mem_of_getElem? (i := 863) (by decide +kernel))) (by decide +kernel)
theorem im_Mo_bothThere : (Cond.instanceMethod y_Mo_bothThere) ∈ zt := zt_in (List.mem_append_right _ (List.mem_of_getElem? (i := 862) (by decide +kernel))) (by decide +kernel)
theorem se_Mo_bothThere : (Cond.selects R_Mo y_Mo_bothThere y_Mo_bothThere) ∈ zt := zt_in (List.mem_append_left _ (by decide +kernel)) (by decide +kernel)
theorem hd_Mo_bothThere : y_Mo_bothThere.cls ≠ "java/lang/invoke/MethodHandle" ∧ y_Mo_bothThere.cls ≠ "java/lang/invoke/VarHandle" ∧ (parseMethodDescriptor y_Mo_bothThere.desc).map (fun d => d.parameters.length) = some 2 := by decide +kernel
abbrev b_Mo_keysOf : ByteArray := prog_11_method_29_code
def y_Mo_keysOf : MethodName := ⟨R_Mo, "keysOf", "(I)I"⟩
def ws_Mo_keysOf : List Cond := .code y_Mo_keysOf b_Mo_keysOf 2 (some .int) :: zt
theorem co_Mo_keysOf : (Cond.code y_Mo_keysOf b_Mo_keysOf 2 (some .int)) ∈ zt := zt_in (List.mem_append_right _ (List.mem_of_getElem? (i := 867) (by decide +kernel))) (by decide +kernel)
theorem im_Mo_keysOf : (Cond.instanceMethod y_Mo_keysOf) ∈ zt := zt_in (List.mem_append_right _ (List.mem_of_getElem? (i := 866) (by decide +kernel))) (by decide +kernel)
theorem se_Mo_keysOf : (Cond.selects R_Mo y_Mo_keysOf y_Mo_keysOf) ∈ zt := zt_in (List.mem_append_left _ (by decide +kernel)) (by decide +kernel)
theorem hd_Mo_keysOf : y_Mo_keysOf.cls ≠ "java/lang/invoke/MethodHandle" ∧ y_Mo_keysOf.cls ≠ "java/lang/invoke/VarHandle" ∧ (parseMethodDescriptor y_Mo_keysOf.desc).map (fun d => d.parameters.length) = some 1 := by decide +kernel
abbrev b_Mo_runWindow : ByteArray := prog_11_method_33_code
def y_Mo_runWindow : MethodName := ⟨R_Mo, "runWindow", "(I)V"⟩
def ws_Mo_runWindow : List Cond := .code y_Mo_runWindow b_Mo_runWindow 6 none :: zt
theorem co_Mo_runWindow : (Cond.code y_Mo_runWindow b_Mo_runWindow 6 none) ∈ zt := zt_in (List.mem_append_right _ (List.mem_of_getElem? (i := 871) (by decide +kernel))) (by decide +kernel)
theorem im_Mo_runWindow : (Cond.instanceMethod y_Mo_runWindow) ∈ zt := zt_in (List.mem_append_right _ (List.mem_of_getElem? (i := 870) (by decide +kernel))) (by decide +kernel)
theorem se_Mo_runWindow : (Cond.selects R_Mo y_Mo_runWindow y_Mo_runWindow) ∈ zt := zt_in (List.mem_append_left _ (by decide +kernel)) (by decide +kernel)
theorem hd_Mo_runWindow : y_Mo_runWindow.cls ≠ "java/lang/invoke/MethodHandle" ∧ y_Mo_runWindow.cls ≠ "java/lang/invoke/VarHandle" ∧ (parseMethodDescriptor y_Mo_runWindow.desc).map (fun d => d.parameters.length) = some 1 := by decide +kernel
abbrev b_Mo_ordered : ByteArray := prog_11_method_31_code
def y_Mo_ordered : MethodName := ⟨R_Mo, "ordered", "(I)Z"⟩
def ws_Mo_ordered : List Cond := .code y_Mo_ordered b_Mo_ordered 3 (some .boolean) :: zt
theorem co_Mo_ordered : (Cond.code y_Mo_ordered b_Mo_ordered 3 (some .boolean)) ∈ zt := zt_in (List.mem_append_right _ (List.mem_of_getElem? (i := 875) (by decide +kernel))) (by decide +kernel)
theorem im_Mo_ordered : (Cond.instanceMethod y_Mo_ordered) ∈ zt := zt_in (List.mem_append_right _ (List.mem_of_getElem? (i := 874) (by decide +kernel))) (by decide +kernel)
theorem se_Mo_ordered : (Cond.selects R_Mo y_Mo_ordered y_Mo_ordered) ∈ zt := zt_in (List.mem_append_left _ (by decide +kernel)) (by decide +kernel)
theorem hd_Mo_ordered : y_Mo_ordered.cls ≠ "java/lang/invoke/MethodHandle" ∧ y_Mo_ordered.cls ≠ "java/lang/invoke/VarHandle" ∧ (parseMethodDescriptor y_Mo_ordered.desc).map (fun d => d.parameters.length) = some 1 := by decide +kernel
abbrev b_Mo_keyIs : ByteArray := prog_11_method_30_code
def y_Mo_keyIs : MethodName := ⟨R_Mo, "keyIs", "(IIZ)Z"⟩
def ws_Mo_keyIs : List Cond := .code y_Mo_keyIs b_Mo_keyIs 4 (some .boolean) :: zt
theorem co_Mo_keyIs : (Cond.code y_Mo_keyIs b_Mo_keyIs 4 (some .boolean)) ∈ zt := zt_in (List.mem_append_right _ (List.mem_of_getElem? (i := 879) (by decide +kernel))) (by decide +kernel)
theorem im_Mo_keyIs : (Cond.instanceMethod y_Mo_keyIs) ∈ zt := zt_in (List.mem_append_right _ (List.mem_of_getElem? (i := 878) (by decide +kernel))) (by decide +kernel)
theorem se_Mo_keyIs : (Cond.selects R_Mo y_Mo_keyIs y_Mo_keyIs) ∈ zt := zt_in (List.mem_append_left _ (by decide +kernel)) (by decide +kernel)
theorem hd_Mo_keyIs : y_Mo_keyIs.cls ≠ "java/lang/invoke/MethodHandle" ∧ y_Mo_keyIs.cls ≠ "java/lang/invoke/VarHandle" ∧ (parseMethodDescriptor y_Mo_keyIs.desc).map (fun d => d.parameters.length) = some 3 := by decide +kernel
abbrev b_Mo_key : ByteArray := prog_11_method_28_code
def y_Mo_key : MethodName := ⟨R_Mo, "key", "(IZ)V"⟩
def ws_Mo_key : List Cond := .code y_Mo_key b_Mo_key 3 none :: zt
theorem co_Mo_key : (Cond.code y_Mo_key b_Mo_key 3 none) ∈ zt := zt_in (List.mem_append_right _ (List.mem_of_getElem? (i := 883) (by decide +kernel))) (by decide +kernel)
theorem im_Mo_key : (Cond.instanceMethod y_Mo_key) ∈ zt := zt_in (List.mem_append_right _ (List.mem_of_getElem? (i := 882) (by decide +kernel))) (by decide +kernel)
theorem se_Mo_key : (Cond.selects R_Mo y_Mo_key y_Mo_key) ∈ zt := zt_in (List.mem_append_left _ (by decide +kernel)) (by decide +kernel)
theorem hd_Mo_key : y_Mo_key.cls ≠ "java/lang/invoke/MethodHandle" ∧ y_Mo_key.cls ≠ "java/lang/invoke/VarHandle" ∧ (parseMethodDescriptor y_Mo_key.desc).map (fun d => d.parameters.length) = some 2 := by decide +kernel
abbrev b_Mo_sort : ByteArray := prog_11_method_27_code
def y_Mo_sort : MethodName := ⟨R_Mo, "sort", "()V"⟩
def ws_Mo_sort : List Cond := .code y_Mo_sort b_Mo_sort 4 none :: zt
theorem co_Mo_sort : (Cond.code y_Mo_sort b_Mo_sort 4 none) ∈ zt := zt_in (List.mem_append_right _ (List.mem_of_getElem? (i := 887) (by decide +kernel))) (by decide +kernel)
theorem im_Mo_sort : (Cond.instanceMethod y_Mo_sort) ∈ zt := zt_in (List.mem_append_right _ (List.mem_of_getElem? (i := 886) (by decide +kernel))) (by decide +kernel)
theorem se_Mo_sort : (Cond.selects R_Mo y_Mo_sort y_Mo_sort) ∈ zt := zt_in (List.mem_append_left _ (by decide +kernel)) (by decide +kernel)
theorem hd_Mo_sort : y_Mo_sort.cls ≠ "java/lang/invoke/MethodHandle" ∧ y_Mo_sort.cls ≠ "java/lang/invoke/VarHandle" ∧ (parseMethodDescriptor y_Mo_sort.desc).map (fun d => d.parameters.length) = some 0 := by decide +kernel
abbrev b_Mo_before : ByteArray := prog_11_method_26_code
def y_Mo_before : MethodName := ⟨R_Mo, "before", "(II)Z"⟩
def ws_Mo_before : List Cond := .code y_Mo_before b_Mo_before 5 (some .boolean) :: zt
theorem co_Mo_before : (Cond.code y_Mo_before b_Mo_before 5 (some .boolean)) ∈ zt := zt_in (List.mem_append_right _ (List.mem_of_getElem? (i := 891) (by decide +kernel))) (by decide +kernel)
theorem im_Mo_before : (Cond.instanceMethod y_Mo_before) ∈ zt := zt_in (List.mem_append_right _ (List.mem_of_getElem? (i := 890) (by decide +kernel))) (by decide +kernel)
theorem se_Mo_before : (Cond.selects R_Mo y_Mo_before y_Mo_before) ∈ zt := zt_in (List.mem_append_left _ (by decide +kernel)) (by decide +kernel)
theorem hd_Mo_before : y_Mo_before.cls ≠ "java/lang/invoke/MethodHandle" ∧ y_Mo_before.cls ≠ "java/lang/invoke/VarHandle" ∧ (parseMethodDescriptor y_Mo_before.desc).map (fun d => d.parameters.length) = some 2 := by decide +kernel
abbrev b_Mo_byColumn : ByteArray := prog_11_method_25_code
def y_Mo_byColumn : MethodName := ⟨R_Mo, "byColumn", "(IIIZ)I"⟩
def ws_Mo_byColumn : List Cond := .code y_Mo_byColumn b_Mo_byColumn 8 (some .int) :: zt
theorem co_Mo_byColumn : (Cond.code y_Mo_byColumn b_Mo_byColumn 8 (some .int)) ∈ zt := zt_in (List.mem_append_right _ (List.mem_of_getElem? (i := 895) (by decide +kernel))) (by decide +kernel)
theorem im_Mo_byColumn : (Cond.instanceMethod y_Mo_byColumn) ∈ zt := zt_in (List.mem_append_right _ (List.mem_of_getElem? (i := 894) (by decide +kernel))) (by decide +kernel)
theorem se_Mo_byColumn : (Cond.selects R_Mo y_Mo_byColumn y_Mo_byColumn) ∈ zt := zt_in (List.mem_append_left _ (by decide +kernel)) (by decide +kernel)
theorem hd_Mo_byColumn : y_Mo_byColumn.cls ≠ "java/lang/invoke/MethodHandle" ∧ y_Mo_byColumn.cls ≠ "java/lang/invoke/VarHandle" ∧ (parseMethodDescriptor y_Mo_byColumn.desc).map (fun d => d.parameters.length) = some 4 := by decide +kernel
abbrev b_Mo_samePlace : ByteArray := prog_11_method_32_code
def y_Mo_samePlace : MethodName := ⟨R_Mo, "samePlace", "(III)Z"⟩
def ws_Mo_samePlace : List Cond := .code y_Mo_samePlace b_Mo_samePlace 4 (some .boolean) :: zt
theorem co_Mo_samePlace : (Cond.code y_Mo_samePlace b_Mo_samePlace 4 (some .boolean)) ∈ zt := zt_in (List.mem_append_right _ (List.mem_of_getElem? (i := 899) (by decide +kernel))) (by decide +kernel)
theorem im_Mo_samePlace : (Cond.instanceMethod y_Mo_samePlace) ∈ zt := zt_in (List.mem_append_right _ (List.mem_of_getElem? (i := 898) (by decide +kernel))) (by decide +kernel)
theorem se_Mo_samePlace : (Cond.selects R_Mo y_Mo_samePlace y_Mo_samePlace) ∈ zt := zt_in (List.mem_append_left _ (by decide +kernel)) (by decide +kernel)
theorem hd_Mo_samePlace : y_Mo_samePlace.cls ≠ "java/lang/invoke/MethodHandle" ∧ y_Mo_samePlace.cls ≠ "java/lang/invoke/VarHandle" ∧ (parseMethodDescriptor y_Mo_samePlace.desc).map (fun d => d.parameters.length) = some 3 := by decide +kernel
abbrev b_Mo_work : ByteArray := prog_11_method_36_code
def y_Mo_work : MethodName := ⟨R_Mo, "work", "(IIII)V"⟩
def ws_Mo_work : List Cond := .code y_Mo_work b_Mo_work 6 none :: zt
theorem co_Mo_work : (Cond.code y_Mo_work b_Mo_work 6 none) ∈ zt := zt_in (List.mem_append_right _ (List.mem_of_getElem? (i := 903) (by decide +kernel))) (by decide +kernel)
theorem im_Mo_work : (Cond.instanceMethod y_Mo_work) ∈ zt := zt_in (List.mem_append_right _ (List.mem_of_getElem? (i := 902) (by decide +kernel))) (by decide +kernel)
theorem se_Mo_work : (Cond.selects R_Mo y_Mo_work y_Mo_work) ∈ zt := zt_in (List.mem_append_left _ (by decide +kernel)) (by decide +kernel)
theorem hd_Mo_work : y_Mo_work.cls ≠ "java/lang/invoke/MethodHandle" ∧ y_Mo_work.cls ≠ "java/lang/invoke/VarHandle" ∧ (parseMethodDescriptor y_Mo_work.desc).map (fun d => d.parameters.length) = some 4 := by decide +kernel
abbrev b_Mo_result : ByteArray := prog_11_method_34_code
def y_Mo_result : MethodName := ⟨R_Mo, "result", "(IIZI)V"⟩
def ws_Mo_result : List Cond := .code y_Mo_result b_Mo_result 6 none :: zt
theorem co_Mo_result : (Cond.code y_Mo_result b_Mo_result 6 none) ∈ zt := zt_in (List.mem_append_right _ (List.mem_of_getElem? (i := 907) (by decide +kernel))) (by decide +kernel)
theorem im_Mo_result : (Cond.instanceMethod y_Mo_result) ∈ zt := zt_in (List.mem_append_right _ (List.mem_of_getElem? (i := 906) (by decide +kernel))) (by decide +kernel)
theorem se_Mo_result : (Cond.selects R_Mo y_Mo_result y_Mo_result) ∈ zt := zt_in (List.mem_append_left _ (by decide +kernel)) (by decide +kernel)
theorem hd_Mo_result : y_Mo_result.cls ≠ "java/lang/invoke/MethodHandle" ∧ y_Mo_result.cls ≠ "java/lang/invoke/VarHandle" ∧ (parseMethodDescriptor y_Mo_result.desc).map (fun d => d.parameters.length) = some 4 := by decide +kernel
abbrev b_Mo_rank : ByteArray := prog_11_method_37_code
def y_Mo_rank : MethodName := ⟨R_Mo, "rank", "(IIIZ)V"⟩
def ws_Mo_rank : List Cond := .code y_Mo_rank b_Mo_rank 9 none :: zt
theorem co_Mo_rank : (Cond.code y_Mo_rank b_Mo_rank 9 none) ∈ zt := zt_in (List.mem_append_right _ (List.mem_of_getElem? (i := 911) (by decide +kernel))) (by decide +kernel)
theorem im_Mo_rank : (Cond.instanceMethod y_Mo_rank) ∈ zt := zt_in (List.mem_append_right _ (List.mem_of_getElem? (i := 910) (by decide +kernel))) (by decide +kernel)
theorem se_Mo_rank : (Cond.selects R_Mo y_Mo_rank y_Mo_rank) ∈ zt := zt_in (List.mem_append_left _ (by decide +kernel)) (by decide +kernel)
theorem hd_Mo_rank : y_Mo_rank.cls ≠ "java/lang/invoke/MethodHandle" ∧ y_Mo_rank.cls ≠ "java/lang/invoke/VarHandle" ∧ (parseMethodDescriptor y_Mo_rank.desc).map (fun d => d.parameters.length) = some 4 := by decide +kernel
abbrev b_Mo_tile : ByteArray := prog_11_method_38_code
def y_Mo_tile : MethodName := ⟨R_Mo, "tile", "(IIII)V"⟩
def ws_Mo_tile : List Cond := .code y_Mo_tile b_Mo_tile 10 none :: zt
theorem co_Mo_tile : (Cond.code y_Mo_tile b_Mo_tile 10 none) ∈ zt := zt_in (List.mem_append_right _ (List.mem_of_getElem? (i := 915) (by decide +kernel))) (by decide +kernel)
theorem im_Mo_tile : (Cond.instanceMethod y_Mo_tile) ∈ zt := zt_in (List.mem_append_right _ (List.mem_of_getElem? (i := 914) (by decide +kernel))) (by decide +kernel)
theorem se_Mo_tile : (Cond.selects R_Mo y_Mo_tile y_Mo_tile) ∈ zt := zt_in (List.mem_append_left _ (by decide +kernel)) (by decide +kernel)
theorem hd_Mo_tile : y_Mo_tile.cls ≠ "java/lang/invoke/MethodHandle" ∧ y_Mo_tile.cls ≠ "java/lang/invoke/VarHandle" ∧ (parseMethodDescriptor y_Mo_tile.desc).map (fun d => d.parameters.length) = some 4 := by decide +kernel
abbrev b_Mo_resultAt : ByteArray := prog_11_method_35_code
def y_Mo_resultAt : MethodName := ⟨R_Mo, "resultAt", "(IIIII)V"⟩
def ws_Mo_resultAt : List Cond := .code y_Mo_resultAt b_Mo_resultAt 8 none :: zt
theorem co_Mo_resultAt : (Cond.code y_Mo_resultAt b_Mo_resultAt 8 none) ∈ zt := zt_in (List.mem_append_right _ (List.mem_of_getElem? (i := 919) (by decide +kernel))) (by decide +kernel)
theorem im_Mo_resultAt : (Cond.instanceMethod y_Mo_resultAt) ∈ zt := zt_in (List.mem_append_right _ (List.mem_of_getElem? (i := 918) (by decide +kernel))) (by decide +kernel)
theorem se_Mo_resultAt : (Cond.selects R_Mo y_Mo_resultAt y_Mo_resultAt) ∈ zt := zt_in (List.mem_append_left _ (by decide +kernel)) (by decide +kernel)
theorem hd_Mo_resultAt : y_Mo_resultAt.cls ≠ "java/lang/invoke/MethodHandle" ∧ y_Mo_resultAt.cls ≠ "java/lang/invoke/VarHandle" ∧ (parseMethodDescriptor y_Mo_resultAt.desc).map (fun d => d.parameters.length) = some 5 := by decide +kernel
abbrev b_Mo_framed : ByteArray := prog_11_method_41_code
def y_Mo_framed : MethodName := ⟨R_Mo, "framed", "(IIII)V"⟩
def ws_Mo_framed : List Cond := .code y_Mo_framed b_Mo_framed 6 none :: zt
theorem co_Mo_framed : (Cond.code y_Mo_framed b_Mo_framed 6 none) ∈ zt := zt_in (List.mem_append_right _ (List.mem_of_getElem? (i := 923) (by decide +kernel))) (by decide +kernel)
theorem im_Mo_framed : (Cond.instanceMethod y_Mo_framed) ∈ zt := zt_in (List.mem_append_right _ (List.mem_of_getElem? (i := 922) (by decide +kernel))) (by decide +kernel)
theorem se_Mo_framed : (Cond.selects R_Mo y_Mo_framed y_Mo_framed) ∈ zt := zt_in (List.mem_append_left _ (by decide +kernel)) (by decide +kernel)
theorem hd_Mo_framed : y_Mo_framed.cls ≠ "java/lang/invoke/MethodHandle" ∧ y_Mo_framed.cls ≠ "java/lang/invoke/VarHandle" ∧ (parseMethodDescriptor y_Mo_framed.desc).map (fun d => d.parameters.length) = some 4 := by decide +kernel
abbrev b_Mo_gather : ByteArray := prog_11_method_40_code
def y_Mo_gather : MethodName := ⟨R_Mo, "gather", "(IIII)V"⟩
def ws_Mo_gather : List Cond := .code y_Mo_gather b_Mo_gather 8 none :: zt
theorem co_Mo_gather : (Cond.code y_Mo_gather b_Mo_gather 8 none) ∈ zt := zt_in (List.mem_append_right _ (List.mem_of_getElem? (i := 927) (by decide +kernel))) (by decide +kernel)
theorem im_Mo_gather : (Cond.instanceMethod y_Mo_gather) ∈ zt := zt_in (List.mem_append_right _ (List.mem_of_getElem? (i := 926) (by decide +kernel))) (by decide +kernel)
theorem se_Mo_gather : (Cond.selects R_Mo y_Mo_gather y_Mo_gather) ∈ zt := zt_in (List.mem_append_left _ (by decide +kernel)) (by decide +kernel)
theorem hd_Mo_gather : y_Mo_gather.cls ≠ "java/lang/invoke/MethodHandle" ∧ y_Mo_gather.cls ≠ "java/lang/invoke/VarHandle" ∧ (parseMethodDescriptor y_Mo_gather.desc).map (fun d => d.parameters.length) = some 4 := by decide +kernel
abbrev b_Mo_inFrame : ByteArray := prog_11_method_39_code
def y_Mo_inFrame : MethodName := ⟨R_Mo, "inFrame", "(IIII)Z"⟩
def ws_Mo_inFrame : List Cond := .code y_Mo_inFrame b_Mo_inFrame 11 (some .boolean) :: zt
theorem co_Mo_inFrame : (Cond.code y_Mo_inFrame b_Mo_inFrame 11 (some .boolean)) ∈ zt := zt_in (List.mem_append_right _ (List.mem_of_getElem? (i := 931) (by decide +kernel))) (by decide +kernel)
theorem im_Mo_inFrame : (Cond.instanceMethod y_Mo_inFrame) ∈ zt := zt_in (List.mem_append_right _ (List.mem_of_getElem? (i := 930) (by decide +kernel))) (by decide +kernel)
theorem se_Mo_inFrame : (Cond.selects R_Mo y_Mo_inFrame y_Mo_inFrame) ∈ zt := zt_in (List.mem_append_left _ (by decide +kernel)) (by decide +kernel)
theorem hd_Mo_inFrame : y_Mo_inFrame.cls ≠ "java/lang/invoke/MethodHandle" ∧ y_Mo_inFrame.cls ≠ "java/lang/invoke/VarHandle" ∧ (parseMethodDescriptor y_Mo_inFrame.desc).map (fun d => d.parameters.length) = some 4 := by decide +kernel
abbrev b_Mo_cell : ByteArray := prog_11_method_44_code
def y_Mo_cell : MethodName := ⟨R_Mo, "cell", "(II)I"⟩
def ws_Mo_cell : List Cond := .code y_Mo_cell b_Mo_cell 3 (some .int) :: zt
theorem co_Mo_cell : (Cond.code y_Mo_cell b_Mo_cell 3 (some .int)) ∈ zt := zt_in (List.mem_append_right _ (List.mem_of_getElem? (i := 937) (by decide +kernel))) (by decide +kernel)
theorem im_Mo_cell : (Cond.instanceMethod y_Mo_cell) ∈ zt := zt_in (List.mem_append_right _ (List.mem_of_getElem? (i := 935) (by decide +kernel))) (by decide +kernel)
theorem se_Mo_cell : (Cond.selects R_Mo y_Mo_cell y_Mo_cell) ∈ zt := zt_in (List.mem_append_right _ (List.mem_of_getElem? (i := 936) (by decide +kernel))) (by decide +kernel)
theorem hd_Mo_cell : y_Mo_cell.cls ≠ "java/lang/invoke/MethodHandle" ∧ y_Mo_cell.cls ≠ "java/lang/invoke/VarHandle" ∧ (parseMethodDescriptor y_Mo_cell.desc).map (fun d => d.parameters.length) = some 2 := by decide +kernel
abbrev b_Mo_there : ByteArray := prog_11_method_43_code
def y_Mo_there : MethodName := ⟨R_Mo, "there", "(II)Z"⟩
def ws_Mo_there : List Cond := .code y_Mo_there b_Mo_there 3 (some .boolean) :: zt
theorem co_Mo_there : (Cond.code y_Mo_there b_Mo_there 3 (some .boolean)) ∈ zt := zt_in (List.mem_append_right _ (List.mem_of_getElem? (i := 941) (by decide +kernel))) (by decide +kernel)
theorem im_Mo_there : (Cond.instanceMethod y_Mo_there) ∈ zt := zt_in (List.mem_append_right _ (List.mem_of_getElem? (i := 940) (by decide +kernel))) (by decide +kernel)
theorem se_Mo_there : (Cond.selects R_Mo y_Mo_there y_Mo_there) ∈ zt := zt_in (List.mem_append_left _ (by decide +kernel)) (by decide +kernel)
theorem hd_Mo_there : y_Mo_there.cls ≠ "java/lang/invoke/MethodHandle" ∧ y_Mo_there.cls ≠ "java/lang/invoke/VarHandle" ∧ (parseMethodDescriptor y_Mo_there.desc).map (fun d => d.parameters.length) = some 2 := by decide +kernel
abbrev b_Mo_isNull : ByteArray := prog_11_method_45_code
def y_Mo_isNull : MethodName := ⟨R_Mo, "isNull", "(II)Z"⟩
def ws_Mo_isNull : List Cond := .code y_Mo_isNull b_Mo_isNull 3 (some .boolean) :: zt
theorem co_Mo_isNull : (Cond.code y_Mo_isNull b_Mo_isNull 3 (some .boolean)) ∈ zt := zt_in (List.mem_append_right _ (List.mem_of_getElem? (i := 945) (by decide +kernel))) (by decide +kernel)
theorem im_Mo_isNull : (Cond.instanceMethod y_Mo_isNull) ∈ zt := zt_in (List.mem_append_right _ (List.mem_of_getElem? (i := 943) (by decide +kernel))) (by decide +kernel)
theorem se_Mo_isNull : (Cond.selects R_Mo y_Mo_isNull y_Mo_isNull) ∈ zt := zt_in (List.mem_append_right _ (List.mem_of_getElem? (i := 944) (by decide +kernel))) (by decide +kernel)
theorem hd_Mo_isNull : y_Mo_isNull.cls ≠ "java/lang/invoke/MethodHandle" ∧ y_Mo_isNull.cls ≠ "java/lang/invoke/VarHandle" ∧ (parseMethodDescriptor y_Mo_isNull.desc).map (fun d => d.parameters.length) = some 2 := by decide +kernel
abbrev b_Mo_transfers : ByteArray := prog_11_method_46_code
def y_Mo_transfers : MethodName := ⟨R_Mo, "transfers", "()I"⟩
def ws_Mo_transfers : List Cond := .code y_Mo_transfers b_Mo_transfers 1 (some .int) :: zt
theorem co_Mo_transfers : (Cond.code y_Mo_transfers b_Mo_transfers 1 (some .int)) ∈ zt := zt_in (List.mem_append_right _ (List.mem_of_getElem? (i := 949) (by decide +kernel))) (by decide +kernel)
theorem im_Mo_transfers : (Cond.instanceMethod y_Mo_transfers) ∈ zt := zt_in (List.mem_append_right _ (List.mem_of_getElem? (i := 947) (by decide +kernel))) (by decide +kernel)
theorem se_Mo_transfers : (Cond.selects R_Mo y_Mo_transfers y_Mo_transfers) ∈ zt := zt_in (List.mem_append_right _ (List.mem_of_getElem? (i := 948) (by decide +kernel))) (by decide +kernel)
theorem hd_Mo_transfers : y_Mo_transfers.cls ≠ "java/lang/invoke/MethodHandle" ∧ y_Mo_transfers.cls ≠ "java/lang/invoke/VarHandle" ∧ (parseMethodDescriptor y_Mo_transfers.desc).map (fun d => d.parameters.length) = some 0 := by decide +kernel
abbrev b_Mo_held : ByteArray := prog_11_method_47_code
def y_Mo_held : MethodName := ⟨R_Mo, "held", "()I"⟩
def ws_Mo_held : List Cond := .code y_Mo_held b_Mo_held 1 (some .int) :: zt
theorem co_Mo_held : (Cond.code y_Mo_held b_Mo_held 1 (some .int)) ∈ zt := zt_in (List.mem_append_right _ (List.mem_of_getElem? (i := 953) (by decide +kernel))) (by decide +kernel)
theorem im_Mo_held : (Cond.instanceMethod y_Mo_held) ∈ zt := zt_in (List.mem_append_right _ (List.mem_of_getElem? (i := 951) (by decide +kernel))) (by decide +kernel)
theorem se_Mo_held : (Cond.selects R_Mo y_Mo_held y_Mo_held) ∈ zt := zt_in (List.mem_append_right _ (List.mem_of_getElem? (i := 952) (by decide +kernel))) (by decide +kernel)
theorem hd_Mo_held : y_Mo_held.cls ≠ "java/lang/invoke/MethodHandle" ∧ y_Mo_held.cls ≠ "java/lang/invoke/VarHandle" ∧ (parseMethodDescriptor y_Mo_held.desc).map (fun d => d.parameters.length) = some 0 := by decide +kernel
abbrev b_Mo_sorts : ByteArray := prog_11_method_48_code
def y_Mo_sorts : MethodName := ⟨R_Mo, "sorts", "()I"⟩
def ws_Mo_sorts : List Cond := .code y_Mo_sorts b_Mo_sorts 1 (some .int) :: zt
theorem co_Mo_sorts : (Cond.code y_Mo_sorts b_Mo_sorts 1 (some .int)) ∈ zt := zt_in (List.mem_append_right _ (List.mem_of_getElem? (i := 957) (by decide +kernel))) (by decide +kernel)
theorem im_Mo_sorts : (Cond.instanceMethod y_Mo_sorts) ∈ zt := zt_in (List.mem_append_right _ (List.mem_of_getElem? (i := 955) (by decide +kernel))) (by decide +kernel)
theorem se_Mo_sorts : (Cond.selects R_Mo y_Mo_sorts y_Mo_sorts) ∈ zt := zt_in (List.mem_append_right _ (List.mem_of_getElem? (i := 956) (by decide +kernel))) (by decide +kernel)
theorem hd_Mo_sorts : y_Mo_sorts.cls ≠ "java/lang/invoke/MethodHandle" ∧ y_Mo_sorts.cls ≠ "java/lang/invoke/VarHandle" ∧ (parseMethodDescriptor y_Mo_sorts.desc).map (fun d => d.parameters.length) = some 0 := by decide +kernel
abbrev b_Mo_rows : ByteArray := prog_11_method_49_code
def y_Mo_rows : MethodName := ⟨R_Mo, "rows", "(I)I"⟩
def ws_Mo_rows : List Cond := .code y_Mo_rows b_Mo_rows 2 (some .int) :: zt
theorem co_Mo_rows : (Cond.code y_Mo_rows b_Mo_rows 2 (some .int)) ∈ zt := zt_in (List.mem_append_right _ (List.mem_of_getElem? (i := 961) (by decide +kernel))) (by decide +kernel)
theorem im_Mo_rows : (Cond.instanceMethod y_Mo_rows) ∈ zt := zt_in (List.mem_append_right _ (List.mem_of_getElem? (i := 959) (by decide +kernel))) (by decide +kernel)
theorem se_Mo_rows : (Cond.selects R_Mo y_Mo_rows y_Mo_rows) ∈ zt := zt_in (List.mem_append_right _ (List.mem_of_getElem? (i := 960) (by decide +kernel))) (by decide +kernel)
theorem hd_Mo_rows : y_Mo_rows.cls ≠ "java/lang/invoke/MethodHandle" ∧ y_Mo_rows.cls ≠ "java/lang/invoke/VarHandle" ∧ (parseMethodDescriptor y_Mo_rows.desc).map (fun d => d.parameters.length) = some 1 := by decide +kernel
theorem in_Law : (Cond.initialized "FrameQueriesLaw") ∈ zt := zt_in (List.mem_append_right _ (List.mem_of_getElem? (i := 0) (by decide +kernel))) (by decide +kernel)
theorem in_FQ : (Cond.initialized "FrameQueries") ∈ zt := zt_in (List.mem_append_right _ (List.mem_of_getElem? (i := 1) (by decide +kernel))) (by decide +kernel)
theorem in_Rows : (Cond.initialized "FrameQueries$Rows") ∈ zt := zt_in (List.mem_append_right _ (List.mem_of_getElem? (i := 2) (by decide +kernel))) (by decide +kernel)
theorem in_Query : (Cond.initialized "FrameQueries$Query") ∈ zt := zt_in (List.mem_append_right _ (List.mem_of_getElem? (i := 3) (by decide +kernel))) (by decide +kernel)
theorem in_Window : (Cond.initialized "FrameQueries$Window") ∈ zt := zt_in (List.mem_append_right _ (List.mem_of_getElem? (i := 4) (by decide +kernel))) (by decide +kernel)
theorem in_Keys : (Cond.initialized "FrameQueries$Keys") ∈ zt := zt_in (List.mem_append_right _ (List.mem_of_getElem? (i := 5) (by decide +kernel))) (by decide +kernel)
theorem in_Runner : (Cond.initialized "FrameQueries$Runner") ∈ zt := zt_in (List.mem_append_right _ (List.mem_of_getElem? (i := 6) (by decide +kernel))) (by decide +kernel)
theorem in_Meter : (Cond.initialized "FrameQueries$Meter") ∈ zt := zt_in (List.mem_append_right _ (List.mem_of_getElem? (i := 7) (by decide +kernel))) (by decide +kernel)
theorem in_Matcher : (Cond.initialized "FrameQueries$Matcher") ∈ zt := zt_in (List.mem_append_right _ (List.mem_of_getElem? (i := 8) (by decide +kernel))) (by decide +kernel)
theorem in_Reckoner : (Cond.initialized "FrameQueries$Reckoner") ∈ zt := zt_in (List.mem_append_right _ (List.mem_of_getElem? (i := 9) (by decide +kernel))) (by decide +kernel)
theorem in_Mo : (Cond.initialized "FrameQueriesModel") ∈ zt := zt_in (List.mem_append_right _ (List.mem_of_getElem? (i := 10) (by decide +kernel))) (by decide +kernel)
theorem in_Math : (Cond.initialized "java/lang/Math") ∈ zt := zt_in (List.mem_append_right _ (List.mem_of_getElem? (i := 11) (by decide +kernel))) (by decide +kernel)
theorem in_System : (Cond.initialized "java/lang/System") ∈ zt := zt_in (List.mem_append_right _ (List.mem_of_getElem? (i := 12) (by decide +kernel))) (by decide +kernel)
theorem ml_Law_15 : (Cond.methodLink R_Law 15 y_FQ_init) ∈ zt := zt_in (List.mem_append_right _ (List.mem_of_getElem? (i := 15) (by decide +kernel))) (by decide +kernel)
theorem ml_FQ_1 : (Cond.methodLink R_FQ 1 objectInit) ∈ zt := zt_in (List.mem_append_right _ (List.mem_of_getElem? (i := 18) (by decide +kernel))) (by decide +kernel)
theorem ml_FQ_9 : (Cond.methodLink R_FQ 9 y_FQ_isWithin) ∈ zt := zt_in (List.mem_append_right _ (List.mem_of_getElem? (i := 21) (by decide +kernel))) (by decide +kernel)
theorem ml_FQ_15 : (Cond.methodLink R_FQ 15 y_Rows_init) ∈ zt := zt_in (List.mem_append_right _ (List.mem_of_getElem? (i := 27) (by decide +kernel))) (by decide +kernel)
theorem ml_Rows_3 : (Cond.methodLink R_Rows 3 objectInit) ∈ zt := zt_in (List.mem_append_right _ (List.mem_of_getElem? (i := 30) (by decide +kernel))) (by decide +kernel)
theorem ml_Query_3 : (Cond.methodLink R_Query 3 objectInit) ∈ zt := zt_in (List.mem_append_right _ (List.mem_of_getElem? (i := 57) (by decide +kernel))) (by decide +kernel)
theorem ml_Window_3 : (Cond.methodLink R_Window 3 objectInit) ∈ zt := zt_in (List.mem_append_right _ (List.mem_of_getElem? (i := 64) (by decide +kernel))) (by decide +kernel)
theorem ml_Keys_1 : (Cond.methodLink R_Keys 1 objectInit) ∈ zt := zt_in (List.mem_append_right _ (List.mem_of_getElem? (i := 70) (by decide +kernel))) (by decide +kernel)
theorem ml_FQ_31 : (Cond.methodLink R_FQ 31 y_Runner_init) ∈ zt := zt_in (List.mem_append_right _ (List.mem_of_getElem? (i := 171) (by decide +kernel))) (by decide +kernel)
theorem ml_Runner_3 : (Cond.methodLink R_Runner 3 objectInit) ∈ zt := zt_in (List.mem_append_right _ (List.mem_of_getElem? (i := 174) (by decide +kernel))) (by decide +kernel)
theorem ml_Runner_11 : (Cond.methodLink R_Runner 11 y_Rows_init) ∈ zt := zt_in (List.mem_append_right _ (List.mem_of_getElem? (i := 176) (by decide +kernel))) (by decide +kernel)
theorem ml_Runner_31 : (Cond.methodLink R_Runner 31 y_Meter_init) ∈ zt := zt_in (List.mem_append_right _ (List.mem_of_getElem? (i := 179) (by decide +kernel))) (by decide +kernel)
theorem ml_Meter_1 : (Cond.methodLink R_Meter 1 objectInit) ∈ zt := zt_in (List.mem_append_right _ (List.mem_of_getElem? (i := 182) (by decide +kernel))) (by decide +kernel)
theorem ml_Runner_40 : (Cond.methodLink R_Runner 40 y_Matcher_init) ∈ zt := zt_in (List.mem_append_right _ (List.mem_of_getElem? (i := 203) (by decide +kernel))) (by decide +kernel)
theorem ml_Matcher_3 : (Cond.methodLink R_Matcher 3 objectInit) ∈ zt := zt_in (List.mem_append_right _ (List.mem_of_getElem? (i := 206) (by decide +kernel))) (by decide +kernel)
theorem ml_Runner_49 : (Cond.methodLink R_Runner 49 y_Reckoner_init) ∈ zt := zt_in (List.mem_append_right _ (List.mem_of_getElem? (i := 228) (by decide +kernel))) (by decide +kernel)
theorem ml_Reckoner_3 : (Cond.methodLink R_Reckoner 3 objectInit) ∈ zt := zt_in (List.mem_append_right _ (List.mem_of_getElem? (i := 231) (by decide +kernel))) (by decide +kernel)
theorem ml_Law_21 : (Cond.methodLink R_Law 21 y_FQ_insert) ∈ zt := zt_in (List.mem_append_right _ (List.mem_of_getElem? (i := 294) (by decide +kernel))) (by decide +kernel)
theorem ml_FQ_38 : (Cond.methodLink R_FQ 38 y_FQ_isTable) ∈ zt := zt_in (List.mem_append_right _ (List.mem_of_getElem? (i := 298) (by decide +kernel))) (by decide +kernel)
theorem ml_FQ_42 : (Cond.methodLink R_FQ 42 y_Rows_isFull) ∈ zt := zt_in (List.mem_append_right _ (List.mem_of_getElem? (i := 301) (by decide +kernel))) (by decide +kernel)
theorem ml_FQ_46 : (Cond.methodLink R_FQ 46 y_Rows_addRow) ∈ zt := zt_in (List.mem_append_right _ (List.mem_of_getElem? (i := 305) (by decide +kernel))) (by decide +kernel)
theorem ml_FQ_52 : (Cond.methodLink R_FQ 52 y_Rows_put) ∈ zt := zt_in (List.mem_append_right _ (List.mem_of_getElem? (i := 310) (by decide +kernel))) (by decide +kernel)
theorem ml_Law_26 : (Cond.methodLink R_Law 26 y_FQ_clear) ∈ zt := zt_in (List.mem_append_right _ (List.mem_of_getElem? (i := 314) (by decide +kernel))) (by decide +kernel)
theorem ml_FQ_56 : (Cond.methodLink R_FQ 56 y_Rows_removeAll) ∈ zt := zt_in (List.mem_append_right _ (List.mem_of_getElem? (i := 318) (by decide +kernel))) (by decide +kernel)
theorem ml_Law_31 : (Cond.methodLink R_Law 31 y_FQ_query) ∈ zt := zt_in (List.mem_append_right _ (List.mem_of_getElem? (i := 322) (by decide +kernel))) (by decide +kernel)
theorem ml_FQ_59 : (Cond.methodLink R_FQ 59 y_Query_reset) ∈ zt := zt_in (List.mem_append_right _ (List.mem_of_getElem? (i := 326) (by decide +kernel))) (by decide +kernel)
theorem ml_Query_38 : (Cond.methodLink R_Query 38 y_Keys_removeAll) ∈ zt := zt_in (List.mem_append_right _ (List.mem_of_getElem? (i := 330) (by decide +kernel))) (by decide +kernel)
theorem ml_Law_35 : (Cond.methodLink R_Law 35 y_FQ_filter) ∈ zt := zt_in (List.mem_append_right _ (List.mem_of_getElem? (i := 334) (by decide +kernel))) (by decide +kernel)
theorem ml_FQ_62 : (Cond.methodLink R_FQ 62 y_FQ_isTableColumn) ∈ zt := zt_in (List.mem_append_right _ (List.mem_of_getElem? (i := 338) (by decide +kernel))) (by decide +kernel)
theorem ml_Law_40 : (Cond.methodLink R_Law 40 y_FQ_join) ∈ zt := zt_in (List.mem_append_right _ (List.mem_of_getElem? (i := 341) (by decide +kernel))) (by decide +kernel)
theorem ml_Law_45 : (Cond.methodLink R_Law 45 y_FQ_window) ∈ zt := zt_in (List.mem_append_right _ (List.mem_of_getElem? (i := 345) (by decide +kernel))) (by decide +kernel)
theorem ml_FQ_81 : (Cond.methodLink R_FQ 81 y_FQ_isJoinedColumn) ∈ zt := zt_in (List.mem_append_right _ (List.mem_of_getElem? (i := 349) (by decide +kernel))) (by decide +kernel)
theorem ml_FQ_84 : (Cond.methodLink R_FQ 84 y_Query_hasAllWindows) ∈ zt := zt_in (List.mem_append_right _ (List.mem_of_getElem? (i := 352) (by decide +kernel))) (by decide +kernel)
theorem ml_FQ_94 : (Cond.methodLink R_FQ 94 y_Window_begin) ∈ zt := zt_in (List.mem_append_right _ (List.mem_of_getElem? (i := 356) (by decide +kernel))) (by decide +kernel)
theorem ml_Window_44 : (Cond.methodLink R_Window 44 y_Window_setKeys) ∈ zt := zt_in (List.mem_append_right _ (List.mem_of_getElem? (i := 360) (by decide +kernel))) (by decide +kernel)
theorem ml_Window_51 : (Cond.methodLink R_Window 51 y_Keys_removeAll) ∈ zt := zt_in (List.mem_append_right _ (List.mem_of_getElem? (i := 364) (by decide +kernel))) (by decide +kernel)
theorem ml_Window_54 : (Cond.methodLink R_Window 54 y_Keys_add) ∈ zt := zt_in (List.mem_append_right _ (List.mem_of_getElem? (i := 365) (by decide +kernel))) (by decide +kernel)
theorem ml_Law_50 : (Cond.methodLink R_Law 50 y_FQ_over) ∈ zt := zt_in (List.mem_append_right _ (List.mem_of_getElem? (i := 369) (by decide +kernel))) (by decide +kernel)
theorem ml_FQ_100 : (Cond.methodLink R_FQ 100 y_Query_hasWindow) ∈ zt := zt_in (List.mem_append_right _ (List.mem_of_getElem? (i := 373) (by decide +kernel))) (by decide +kernel)
theorem ml_FQ_103 : (Cond.methodLink R_FQ 103 y_FQ_isColumnOrNone) ∈ zt := zt_in (List.mem_append_right _ (List.mem_of_getElem? (i := 378) (by decide +kernel))) (by decide +kernel)
theorem ml_FQ_110 : (Cond.methodLink R_FQ 110 y_Window_setKeys) ∈ zt := zt_in (List.mem_append_right _ (List.mem_of_getElem? (i := 381) (by decide +kernel))) (by decide +kernel)
theorem ml_Law_55 : (Cond.methodLink R_Law 55 y_FQ_frame) ∈ zt := zt_in (List.mem_append_right _ (List.mem_of_getElem? (i := 382) (by decide +kernel))) (by decide +kernel)
theorem ml_Law_60 : (Cond.methodLink R_Law 60 y_FQ_order) ∈ zt := zt_in (List.mem_append_right _ (List.mem_of_getElem? (i := 386) (by decide +kernel))) (by decide +kernel)
theorem ml_FQ_126 : (Cond.methodLink R_FQ 126 y_Keys_removeAll) ∈ zt := zt_in (List.mem_append_right _ (List.mem_of_getElem? (i := 390) (by decide +kernel))) (by decide +kernel)
theorem ml_FQ_129 : (Cond.methodLink R_FQ 129 y_Keys_add) ∈ zt := zt_in (List.mem_append_right _ (List.mem_of_getElem? (i := 391) (by decide +kernel))) (by decide +kernel)
theorem ml_Law_65 : (Cond.methodLink R_Law 65 y_FQ_run) ∈ zt := zt_in (List.mem_append_right _ (List.mem_of_getElem? (i := 392) (by decide +kernel))) (by decide +kernel)
theorem ml_FQ_133 : (Cond.methodLink R_FQ 133 y_Runner_execute) ∈ zt := zt_in (List.mem_append_right _ (List.mem_of_getElem? (i := 396) (by decide +kernel))) (by decide +kernel)
theorem ml_Runner_56 : (Cond.methodLink R_Runner 56 y_Runner_reset) ∈ zt := zt_in (List.mem_append_right _ (List.mem_of_getElem? (i := 400) (by decide +kernel))) (by decide +kernel)
theorem ml_Runner_92 : (Cond.methodLink R_Runner 92 y_Meter_reset) ∈ zt := zt_in (List.mem_append_right _ (List.mem_of_getElem? (i := 404) (by decide +kernel))) (by decide +kernel)
theorem ml_Runner_93 : (Cond.methodLink R_Runner 93 y_Rows_removeAll) ∈ zt := zt_in (List.mem_append_right _ (List.mem_of_getElem? (i := 408) (by decide +kernel))) (by decide +kernel)
theorem ml_Runner_59 : (Cond.methodLink R_Runner 59 y_Runner_keepRows) ∈ zt := zt_in (List.mem_append_right _ (List.mem_of_getElem? (i := 409) (by decide +kernel))) (by decide +kernel)
theorem ml_Runner_99 : (Cond.methodLink R_Runner 99 y_Query_keeps) ∈ zt := zt_in (List.mem_append_right _ (List.mem_of_getElem? (i := 413) (by decide +kernel))) (by decide +kernel)
theorem ml_Query_48 : (Cond.methodLink R_Query 48 y_Rows_at) ∈ zt := zt_in (List.mem_append_right _ (List.mem_of_getElem? (i := 417) (by decide +kernel))) (by decide +kernel)
theorem ml_Runner_103 : (Cond.methodLink R_Runner 103 y_Rows_addRow) ∈ zt := zt_in (List.mem_append_right _ (List.mem_of_getElem? (i := 422) (by decide +kernel))) (by decide +kernel)
theorem ml_Runner_106 : (Cond.methodLink R_Runner 106 y_Rows_copyCells) ∈ zt := zt_in (List.mem_append_right _ (List.mem_of_getElem? (i := 423) (by decide +kernel))) (by decide +kernel)
theorem ml_Rows_29 : (Cond.methodLink R_Rows 29 y_Rows_at) ∈ zt := zt_in (List.mem_append_right _ (List.mem_of_getElem? (i := 427) (by decide +kernel))) (by decide +kernel)
theorem ml_Rows_33 : (Cond.methodLink R_Rows 33 y_Rows_put) ∈ zt := zt_in (List.mem_append_right _ (List.mem_of_getElem? (i := 428) (by decide +kernel))) (by decide +kernel)
theorem ml_Runner_110 : (Cond.methodLink R_Runner 110 y_Rows_put) ∈ zt := zt_in (List.mem_append_right _ (List.mem_of_getElem? (i := 429) (by decide +kernel))) (by decide +kernel)
theorem ml_FQ_170 : (Cond.methodLink R_FQ 170 y_FQ_quotientUp) ∈ zt := zt_in (List.mem_append_right _ (List.mem_of_getElem? (i := 433) (by decide +kernel))) (by decide +kernel)
theorem ml_Runner_118 : (Cond.methodLink R_Runner 118 y_Meter_addStep) ∈ zt := zt_in (List.mem_append_right _ (List.mem_of_getElem? (i := 436) (by decide +kernel))) (by decide +kernel)
theorem ml_Meter_22 : (Cond.methodLink R_Meter 22 Lib.Math.max.name) ∈ zt := zt_in (List.mem_append_right _ (List.mem_of_getElem? (i := 440) (by decide +kernel))) (by decide +kernel)
theorem ml_Runner_63 : (Cond.methodLink R_Runner 63 y_Query_hasJoin) ∈ zt := zt_in (List.mem_append_right _ (List.mem_of_getElem? (i := 443) (by decide +kernel))) (by decide +kernel)
theorem ml_Runner_69 : (Cond.methodLink R_Runner 69 y_Runner_joinKept) ∈ zt := zt_in (List.mem_append_right _ (List.mem_of_getElem? (i := 447) (by decide +kernel))) (by decide +kernel)
theorem ml_Runner_127 : (Cond.methodLink R_Runner 127 y_Rows_at) ∈ zt := zt_in (List.mem_append_right _ (List.mem_of_getElem? (i := 451) (by decide +kernel))) (by decide +kernel)
theorem ml_Runner_136 : (Cond.methodLink R_Runner 136 y_Rows_isFull) ∈ zt := zt_in (List.mem_append_right _ (List.mem_of_getElem? (i := 453) (by decide +kernel))) (by decide +kernel)
theorem ml_Runner_121 : (Cond.methodLink R_Runner 121 y_Runner_addToList) ∈ zt := zt_in (List.mem_append_right _ (List.mem_of_getElem? (i := 454) (by decide +kernel))) (by decide +kernel)
theorem ml_Runner_142 : (Cond.methodLink R_Runner 142 y_Rows_fillCells) ∈ zt := zt_in (List.mem_append_right _ (List.mem_of_getElem? (i := 458) (by decide +kernel))) (by decide +kernel)
theorem ml_Runner_139 : (Cond.methodLink R_Runner 139 y_Matcher_matchAll) ∈ zt := zt_in (List.mem_append_right _ (List.mem_of_getElem? (i := 463) (by decide +kernel))) (by decide +kernel)
theorem ml_Matcher_42 : (Cond.methodLink R_Matcher 42 y_Matcher_matchGroup) ∈ zt := zt_in (List.mem_append_right _ (List.mem_of_getElem? (i := 467) (by decide +kernel))) (by decide +kernel)
theorem ml_Matcher_50 : (Cond.methodLink R_Matcher 50 y_Meter_addStep) ∈ zt := zt_in (List.mem_append_right _ (List.mem_of_getElem? (i := 472) (by decide +kernel))) (by decide +kernel)
theorem ml_Matcher_58 : (Cond.methodLink R_Matcher 58 y_Matcher_matchPart) ∈ zt := zt_in (List.mem_append_right _ (List.mem_of_getElem? (i := 474) (by decide +kernel))) (by decide +kernel)
theorem ml_Matcher_61 : (Cond.methodLink R_Matcher 61 y_Matcher_rowsInGroup) ∈ zt := zt_in (List.mem_append_right _ (List.mem_of_getElem? (i := 478) (by decide +kernel))) (by decide +kernel)
theorem ml_Matcher_65 : (Cond.methodLink R_Matcher 65 y_Rows_at) ∈ zt := zt_in (List.mem_append_right _ (List.mem_of_getElem? (i := 482) (by decide +kernel))) (by decide +kernel)
theorem ml_Matcher_71 : (Cond.methodLink R_Matcher 71 y_Matcher_groupOf) ∈ zt := zt_in (List.mem_append_right _ (List.mem_of_getElem? (i := 484) (by decide +kernel))) (by decide +kernel)
theorem ml_Runner_73 : (Cond.methodLink R_Runner 73 y_Runner_listKept) ∈ zt := zt_in (List.mem_append_right _ (List.mem_of_getElem? (i := 489) (by decide +kernel))) (by decide +kernel)
theorem ml_Runner_77 : (Cond.methodLink R_Runner 77 y_Runner_workWindowsOut) ∈ zt := zt_in (List.mem_append_right _ (List.mem_of_getElem? (i := 493) (by decide +kernel))) (by decide +kernel)
theorem ml_Runner_84 : (Cond.methodLink R_Runner 84 y_Runner_bringInOrder) ∈ zt := zt_in (List.mem_append_right _ (List.mem_of_getElem? (i := 497) (by decide +kernel))) (by decide +kernel)
theorem ml_Runner_167 : (Cond.methodLink R_Runner 167 y_Keys_beginWith) ∈ zt := zt_in (List.mem_append_right _ (List.mem_of_getElem? (i := 501) (by decide +kernel))) (by decide +kernel)
theorem ml_Runner_171 : (Cond.methodLink R_Runner 171 y_Rows_sortBy) ∈ zt := zt_in (List.mem_append_right _ (List.mem_of_getElem? (i := 505) (by decide +kernel))) (by decide +kernel)
theorem ml_Rows_37 : (Cond.methodLink R_Rows 37 Lib.Math.min.name) ∈ zt := zt_in (List.mem_append_right _ (List.mem_of_getElem? (i := 509) (by decide +kernel))) (by decide +kernel)
theorem ml_Rows_43 : (Cond.methodLink R_Rows 43 y_Rows_mergeRuns) ∈ zt := zt_in (List.mem_append_right _ (List.mem_of_getElem? (i := 512) (by decide +kernel))) (by decide +kernel)
theorem ml_Rows_53 : (Cond.methodLink R_Rows 53 y_Rows_isBefore) ∈ zt := zt_in (List.mem_append_right _ (List.mem_of_getElem? (i := 516) (by decide +kernel))) (by decide +kernel)
theorem ml_Rows_47 : (Cond.methodLink R_Rows 47 arraycopyName) ∈ zt := zt_in (List.mem_append_right _ (List.mem_of_getElem? (i := 520) (by decide +kernel))) (by decide +kernel)
theorem ml_Runner_174 : (Cond.methodLink R_Runner 174 y_Meter_addSort) ∈ zt := zt_in (List.mem_append_right _ (List.mem_of_getElem? (i := 523) (by decide +kernel))) (by decide +kernel)
theorem ml_Meter_34 : (Cond.methodLink R_Meter 34 Lib.Math.min.name) ∈ zt := zt_in (List.mem_append_right _ (List.mem_of_getElem? (i := 528) (by decide +kernel))) (by decide +kernel)
theorem ml_Meter_37 : (Cond.methodLink R_Meter 37 y_Meter_addStep) ∈ zt := zt_in (List.mem_append_right _ (List.mem_of_getElem? (i := 529) (by decide +kernel))) (by decide +kernel)
theorem ml_Runner_163 : (Cond.methodLink R_Runner 163 y_Runner_workOut) ∈ zt := zt_in (List.mem_append_right _ (List.mem_of_getElem? (i := 531) (by decide +kernel))) (by decide +kernel)
theorem ml_Runner_177 : (Cond.methodLink R_Runner 177 y_Runner_arePartners) ∈ zt := zt_in (List.mem_append_right _ (List.mem_of_getElem? (i := 535) (by decide +kernel))) (by decide +kernel)
theorem ml_Runner_184 : (Cond.methodLink R_Runner 184 y_Reckoner_reckon) ∈ zt := zt_in (List.mem_append_right _ (List.mem_of_getElem? (i := 539) (by decide +kernel))) (by decide +kernel)
theorem ml_Reckoner_29 : (Cond.methodLink R_Reckoner 29 y_Reckoner_arePeers) ∈ zt := zt_in (List.mem_append_right _ (List.mem_of_getElem? (i := 543) (by decide +kernel))) (by decide +kernel)
theorem ml_Reckoner_60 : (Cond.methodLink R_Reckoner 60 y_Rows_at) ∈ zt := zt_in (List.mem_append_right _ (List.mem_of_getElem? (i := 547) (by decide +kernel))) (by decide +kernel)
theorem ml_Reckoner_41 : (Cond.methodLink R_Reckoner 41 y_Reckoner_findFrame) ∈ zt := zt_in (List.mem_append_right _ (List.mem_of_getElem? (i := 548) (by decide +kernel))) (by decide +kernel)
theorem ml_Reckoner_67 : (Cond.methodLink R_Reckoner 67 y_Reckoner_isInFrame) ∈ zt := zt_in (List.mem_append_right _ (List.mem_of_getElem? (i := 552) (by decide +kernel))) (by decide +kernel)
theorem ml_Reckoner_77 : (Cond.methodLink R_Reckoner 77 y_Window_reaches) ∈ zt := zt_in (List.mem_append_right _ (List.mem_of_getElem? (i := 556) (by decide +kernel))) (by decide +kernel)
theorem ml_Reckoner_45 : (Cond.methodLink R_Reckoner 45 y_Reckoner_valueFor) ∈ zt := zt_in (List.mem_append_right _ (List.mem_of_getElem? (i := 561) (by decide +kernel))) (by decide +kernel)
theorem ml_Reckoner_87 : (Cond.methodLink R_Reckoner 87 y_Reckoner_tileOf) ∈ zt := zt_in (List.mem_append_right _ (List.mem_of_getElem? (i := 565) (by decide +kernel))) (by decide +kernel)
theorem ml_Reckoner_91 : (Cond.methodLink R_Reckoner 91 y_Reckoner_argumentIn) ∈ zt := zt_in (List.mem_append_right _ (List.mem_of_getElem? (i := 568) (by decide +kernel))) (by decide +kernel)
theorem ml_Reckoner_95 : (Cond.methodLink R_Reckoner 95 y_Reckoner_sumOfFrame) ∈ zt := zt_in (List.mem_append_right _ (List.mem_of_getElem? (i := 572) (by decide +kernel))) (by decide +kernel)
theorem ml_Reckoner_99 : (Cond.methodLink R_Reckoner 99 y_Reckoner_countInFrame) ∈ zt := zt_in (List.mem_append_right _ (List.mem_of_getElem? (i := 576) (by decide +kernel))) (by decide +kernel)
theorem ml_Reckoner_103 : (Cond.methodLink R_Reckoner 103 y_Reckoner_leastInFrame) ∈ zt := zt_in (List.mem_append_right _ (List.mem_of_getElem? (i := 580) (by decide +kernel))) (by decide +kernel)
theorem ml_Reckoner_106 : (Cond.methodLink R_Reckoner 106 y_Reckoner_greatestInFrame) ∈ zt := zt_in (List.mem_append_right _ (List.mem_of_getElem? (i := 584) (by decide +kernel))) (by decide +kernel)
theorem ml_Reckoner_112 : (Cond.methodLink R_Reckoner 112 Lib.MathLoose.max_long.x) ∈ zt := zt_in (List.mem_append_right _ (List.mem_of_getElem? (i := 588) (by decide +kernel))) (by decide +kernel)
theorem ml_Reckoner_51 : (Cond.methodLink R_Reckoner 51 y_Rows_put) ∈ zt := zt_in (List.mem_append_right _ (List.mem_of_getElem? (i := 591) (by decide +kernel))) (by decide +kernel)
theorem ml_Runner_188 : (Cond.methodLink R_Runner 188 Lib.Math.max.name) ∈ zt := zt_in (List.mem_append_right _ (List.mem_of_getElem? (i := 592) (by decide +kernel))) (by decide +kernel)
theorem ml_Law_70 : (Cond.methodLink R_Law 70 y_FQ_cell) ∈ zt := zt_in (List.mem_append_right _ (List.mem_of_getElem? (i := 593) (by decide +kernel))) (by decide +kernel)
theorem ml_FQ_137 : (Cond.methodLink R_FQ 137 y_FQ_resultValue) ∈ zt := zt_in (List.mem_append_right _ (List.mem_of_getElem? (i := 597) (by decide +kernel))) (by decide +kernel)
theorem ml_FQ_141 : (Cond.methodLink R_FQ 141 y_FQ_isResultCell) ∈ zt := zt_in (List.mem_append_right _ (List.mem_of_getElem? (i := 601) (by decide +kernel))) (by decide +kernel)
theorem ml_FQ_167 : (Cond.methodLink R_FQ 167 y_Rows_at) ∈ zt := zt_in (List.mem_append_right _ (List.mem_of_getElem? (i := 605) (by decide +kernel))) (by decide +kernel)
theorem ml_Law_74 : (Cond.methodLink R_Law 74 y_FQ_isNull) ∈ zt := zt_in (List.mem_append_right _ (List.mem_of_getElem? (i := 606) (by decide +kernel))) (by decide +kernel)
theorem ml_Law_78 : (Cond.methodLink R_Law 78 y_FQ_transfers) ∈ zt := zt_in (List.mem_append_right _ (List.mem_of_getElem? (i := 610) (by decide +kernel))) (by decide +kernel)
theorem ml_Law_82 : (Cond.methodLink R_Law 82 y_FQ_held) ∈ zt := zt_in (List.mem_append_right _ (List.mem_of_getElem? (i := 614) (by decide +kernel))) (by decide +kernel)
theorem ml_Law_86 : (Cond.methodLink R_Law 86 y_FQ_sorts) ∈ zt := zt_in (List.mem_append_right _ (List.mem_of_getElem? (i := 618) (by decide +kernel))) (by decide +kernel)
theorem ml_Law_90 : (Cond.methodLink R_Law 90 y_FQ_rows) ∈ zt := zt_in (List.mem_append_right _ (List.mem_of_getElem? (i := 622) (by decide +kernel))) (by decide +kernel)
theorem ml_Law_9 : (Cond.methodLink R_Law 9 y_Law_cell) ∈ zt := zt_in (List.mem_append_right _ (List.mem_of_getElem? (i := 626) (by decide +kernel))) (by decide +kernel)
theorem ml_Law_20 : (Cond.methodLink R_Law 20 y_Mo_init) ∈ zt := zt_in (List.mem_append_right _ (List.mem_of_getElem? (i := 631) (by decide +kernel))) (by decide +kernel)
theorem ml_Mo_1 : (Cond.methodLink R_Mo 1 objectInit) ∈ zt := zt_in (List.mem_append_right _ (List.mem_of_getElem? (i := 634) (by decide +kernel))) (by decide +kernel)
theorem ml_Mo_78 : (Cond.methodLink R_Mo 78 y_Mo_query) ∈ zt := zt_in (List.mem_append_right _ (List.mem_of_getElem? (i := 635) (by decide +kernel))) (by decide +kernel)
theorem ml_Law_25 : (Cond.methodLink R_Law 25 y_Mo_insert) ∈ zt := zt_in (List.mem_append_right _ (List.mem_of_getElem? (i := 772) (by decide +kernel))) (by decide +kernel)
theorem ml_Mo_81 : (Cond.methodLink R_Mo 81 y_Mo_outside) ∈ zt := zt_in (List.mem_append_right _ (List.mem_of_getElem? (i := 776) (by decide +kernel))) (by decide +kernel)
theorem ml_Law_30 : (Cond.methodLink R_Law 30 y_Mo_clear) ∈ zt := zt_in (List.mem_append_right _ (List.mem_of_getElem? (i := 779) (by decide +kernel))) (by decide +kernel)
theorem ml_Law_34 : (Cond.methodLink R_Law 34 y_Mo_query) ∈ zt := zt_in (List.mem_append_right _ (List.mem_of_getElem? (i := 783) (by decide +kernel))) (by decide +kernel)
theorem ml_Law_39 : (Cond.methodLink R_Law 39 y_Mo_filter) ∈ zt := zt_in (List.mem_append_right _ (List.mem_of_getElem? (i := 784) (by decide +kernel))) (by decide +kernel)
theorem ml_Law_44 : (Cond.methodLink R_Law 44 y_Mo_join) ∈ zt := zt_in (List.mem_append_right _ (List.mem_of_getElem? (i := 788) (by decide +kernel))) (by decide +kernel)
theorem ml_Law_49 : (Cond.methodLink R_Law 49 y_Mo_window) ∈ zt := zt_in (List.mem_append_right _ (List.mem_of_getElem? (i := 792) (by decide +kernel))) (by decide +kernel)
theorem ml_Law_54 : (Cond.methodLink R_Law 54 y_Mo_over) ∈ zt := zt_in (List.mem_append_right _ (List.mem_of_getElem? (i := 796) (by decide +kernel))) (by decide +kernel)
theorem ml_Law_59 : (Cond.methodLink R_Law 59 y_Mo_frame) ∈ zt := zt_in (List.mem_append_right _ (List.mem_of_getElem? (i := 800) (by decide +kernel))) (by decide +kernel)
theorem ml_Law_64 : (Cond.methodLink R_Law 64 y_Mo_order) ∈ zt := zt_in (List.mem_append_right _ (List.mem_of_getElem? (i := 804) (by decide +kernel))) (by decide +kernel)
theorem ml_Law_69 : (Cond.methodLink R_Law 69 y_Mo_run) ∈ zt := zt_in (List.mem_append_right _ (List.mem_of_getElem? (i := 808) (by decide +kernel))) (by decide +kernel)
theorem ml_Mo_250 : (Cond.methodLink R_Mo 250 y_Mo_runFilter) ∈ zt := zt_in (List.mem_append_right _ (List.mem_of_getElem? (i := 812) (by decide +kernel))) (by decide +kernel)
theorem ml_Mo_122 : (Cond.methodLink R_Mo 122 y_Mo_passes) ∈ zt := zt_in (List.mem_append_right _ (List.mem_of_getElem? (i := 816) (by decide +kernel))) (by decide +kernel)
theorem ml_Mo_113 : (Cond.methodLink R_Mo 113 y_Mo_given) ∈ zt := zt_in (List.mem_append_right _ (List.mem_of_getElem? (i := 820) (by decide +kernel))) (by decide +kernel)
theorem ml_Mo_115 : (Cond.methodLink R_Mo 115 y_Mo_givenValue) ∈ zt := zt_in (List.mem_append_right _ (List.mem_of_getElem? (i := 824) (by decide +kernel))) (by decide +kernel)
theorem ml_Mo_129 : (Cond.methodLink R_Mo 129 y_Mo_blocks) ∈ zt := zt_in (List.mem_append_right _ (List.mem_of_getElem? (i := 828) (by decide +kernel))) (by decide +kernel)
theorem ml_Mo_133 : (Cond.methodLink R_Mo 133 y_Mo_hold) ∈ zt := zt_in (List.mem_append_right _ (List.mem_of_getElem? (i := 831) (by decide +kernel))) (by decide +kernel)
theorem ml_Mo_253 : (Cond.methodLink R_Mo 253 y_Mo_runJoin) ∈ zt := zt_in (List.mem_append_right _ (List.mem_of_getElem? (i := 835) (by decide +kernel))) (by decide +kernel)
theorem ml_Mo_158 : (Cond.methodLink R_Mo 158 y_Mo_make) ∈ zt := zt_in (List.mem_append_right _ (List.mem_of_getElem? (i := 839) (by decide +kernel))) (by decide +kernel)
theorem ml_Mo_162 : (Cond.methodLink R_Mo 162 y_Mo_countJoin) ∈ zt := zt_in (List.mem_append_right _ (List.mem_of_getElem? (i := 843) (by decide +kernel))) (by decide +kernel)
theorem ml_Mo_145 : (Cond.methodLink R_Mo 145 y_Mo_parted) ∈ zt := zt_in (List.mem_append_right _ (List.mem_of_getElem? (i := 847) (by decide +kernel))) (by decide +kernel)
theorem ml_Mo_142 : (Cond.methodLink R_Mo 142 y_Mo_sideRows) ∈ zt := zt_in (List.mem_append_right _ (List.mem_of_getElem? (i := 851) (by decide +kernel))) (by decide +kernel)
theorem ml_Mo_138 : (Cond.methodLink R_Mo 138 y_Mo_part) ∈ zt := zt_in (List.mem_append_right _ (List.mem_of_getElem? (i := 855) (by decide +kernel))) (by decide +kernel)
theorem ml_Mo_149 : (Cond.methodLink R_Mo 149 y_Mo_bothThere) ∈ zt := zt_in (List.mem_append_right _ (List.mem_of_getElem? (i := 860) (by decide +kernel))) (by decide +kernel)
theorem ml_Mo_256 : (Cond.methodLink R_Mo 256 y_Mo_keysOf) ∈ zt := zt_in (List.mem_append_right _ (List.mem_of_getElem? (i := 864) (by decide +kernel))) (by decide +kernel)
theorem ml_Mo_259 : (Cond.methodLink R_Mo 259 y_Mo_runWindow) ∈ zt := zt_in (List.mem_append_right _ (List.mem_of_getElem? (i := 868) (by decide +kernel))) (by decide +kernel)
theorem ml_Mo_182 : (Cond.methodLink R_Mo 182 y_Mo_ordered) ∈ zt := zt_in (List.mem_append_right _ (List.mem_of_getElem? (i := 872) (by decide +kernel))) (by decide +kernel)
theorem ml_Mo_178 : (Cond.methodLink R_Mo 178 y_Mo_keyIs) ∈ zt := zt_in (List.mem_append_right _ (List.mem_of_getElem? (i := 876) (by decide +kernel))) (by decide +kernel)
theorem ml_Mo_185 : (Cond.methodLink R_Mo 185 y_Mo_key) ∈ zt := zt_in (List.mem_append_right _ (List.mem_of_getElem? (i := 880) (by decide +kernel))) (by decide +kernel)
theorem ml_Mo_189 : (Cond.methodLink R_Mo 189 y_Mo_sort) ∈ zt := zt_in (List.mem_append_right _ (List.mem_of_getElem? (i := 884) (by decide +kernel))) (by decide +kernel)
theorem ml_Mo_172 : (Cond.methodLink R_Mo 172 y_Mo_before) ∈ zt := zt_in (List.mem_append_right _ (List.mem_of_getElem? (i := 888) (by decide +kernel))) (by decide +kernel)
theorem ml_Mo_168 : (Cond.methodLink R_Mo 168 y_Mo_byColumn) ∈ zt := zt_in (List.mem_append_right _ (List.mem_of_getElem? (i := 892) (by decide +kernel))) (by decide +kernel)
theorem ml_Mo_192 : (Cond.methodLink R_Mo 192 y_Mo_samePlace) ∈ zt := zt_in (List.mem_append_right _ (List.mem_of_getElem? (i := 896) (by decide +kernel))) (by decide +kernel)
theorem ml_Mo_195 : (Cond.methodLink R_Mo 195 y_Mo_work) ∈ zt := zt_in (List.mem_append_right _ (List.mem_of_getElem? (i := 900) (by decide +kernel))) (by decide +kernel)
theorem ml_Mo_199 : (Cond.methodLink R_Mo 199 y_Mo_result) ∈ zt := zt_in (List.mem_append_right _ (List.mem_of_getElem? (i := 904) (by decide +kernel))) (by decide +kernel)
theorem ml_Mo_203 : (Cond.methodLink R_Mo 203 y_Mo_rank) ∈ zt := zt_in (List.mem_append_right _ (List.mem_of_getElem? (i := 908) (by decide +kernel))) (by decide +kernel)
theorem ml_Mo_207 : (Cond.methodLink R_Mo 207 y_Mo_tile) ∈ zt := zt_in (List.mem_append_right _ (List.mem_of_getElem? (i := 912) (by decide +kernel))) (by decide +kernel)
theorem ml_Mo_210 : (Cond.methodLink R_Mo 210 y_Mo_resultAt) ∈ zt := zt_in (List.mem_append_right _ (List.mem_of_getElem? (i := 916) (by decide +kernel))) (by decide +kernel)
theorem ml_Mo_214 : (Cond.methodLink R_Mo 214 y_Mo_framed) ∈ zt := zt_in (List.mem_append_right _ (List.mem_of_getElem? (i := 920) (by decide +kernel))) (by decide +kernel)
theorem ml_Mo_240 : (Cond.methodLink R_Mo 240 y_Mo_gather) ∈ zt := zt_in (List.mem_append_right _ (List.mem_of_getElem? (i := 924) (by decide +kernel))) (by decide +kernel)
theorem ml_Mo_230 : (Cond.methodLink R_Mo 230 y_Mo_inFrame) ∈ zt := zt_in (List.mem_append_right _ (List.mem_of_getElem? (i := 928) (by decide +kernel))) (by decide +kernel)
theorem ml_Law_73 : (Cond.methodLink R_Law 73 y_Mo_cell) ∈ zt := zt_in (List.mem_append_right _ (List.mem_of_getElem? (i := 934) (by decide +kernel))) (by decide +kernel)
theorem ml_Mo_262 : (Cond.methodLink R_Mo 262 y_Mo_there) ∈ zt := zt_in (List.mem_append_right _ (List.mem_of_getElem? (i := 938) (by decide +kernel))) (by decide +kernel)
theorem ml_Law_77 : (Cond.methodLink R_Law 77 y_Mo_isNull) ∈ zt := zt_in (List.mem_append_right _ (List.mem_of_getElem? (i := 942) (by decide +kernel))) (by decide +kernel)
theorem ml_Law_81 : (Cond.methodLink R_Law 81 y_Mo_transfers) ∈ zt := zt_in (List.mem_append_right _ (List.mem_of_getElem? (i := 946) (by decide +kernel))) (by decide +kernel)
theorem ml_Law_85 : (Cond.methodLink R_Law 85 y_Mo_held) ∈ zt := zt_in (List.mem_append_right _ (List.mem_of_getElem? (i := 950) (by decide +kernel))) (by decide +kernel)
theorem ml_Law_89 : (Cond.methodLink R_Law 89 y_Mo_sorts) ∈ zt := zt_in (List.mem_append_right _ (List.mem_of_getElem? (i := 954) (by decide +kernel))) (by decide +kernel)
theorem ml_Law_94 : (Cond.methodLink R_Law 94 y_Mo_rows) ∈ zt := zt_in (List.mem_append_right _ (List.mem_of_getElem? (i := 958) (by decide +kernel))) (by decide +kernel)
theorem fl_Rows_9 : (Cond.fieldLink R_Rows 9 "FrameQueries$Rows" "columns" "I") ∈ zt := zt_in (List.mem_append_right _ (List.mem_of_getElem? (i := 31) (by decide +kernel))) (by decide +kernel)
theorem fl_Rows_15 : (Cond.fieldLink R_Rows 15 "FrameQueries$Rows" "values" "[J") ∈ zt := zt_in (List.mem_append_right _ (List.mem_of_getElem? (i := 32) (by decide +kernel))) (by decide +kernel)
theorem fl_Rows_19 : (Cond.fieldLink R_Rows 19 "FrameQueries$Rows" "slots" "[I") ∈ zt := zt_in (List.mem_append_right _ (List.mem_of_getElem? (i := 33) (by decide +kernel))) (by decide +kernel)
theorem fl_Rows_23 : (Cond.fieldLink R_Rows 23 "FrameQueries$Rows" "spare" "[I") ∈ zt := zt_in (List.mem_append_right _ (List.mem_of_getElem? (i := 34) (by decide +kernel))) (by decide +kernel)
theorem fl_Rows_26 : (Cond.fieldLink R_Rows 26 "FrameQueries$Rows" "count" "I") ∈ zt := zt_in (List.mem_append_right _ (List.mem_of_getElem? (i := 35) (by decide +kernel))) (by decide +kernel)
theorem fl_Matcher_37 : (Cond.fieldLink R_Matcher 37 "FrameQueries$Rows" "count" "I") ∈ zt := zt_in (List.mem_append_right _ (List.mem_of_getElem? (i := 36) (by decide +kernel))) (by decide +kernel)
theorem fl_Runner_88 : (Cond.fieldLink R_Runner 88 "FrameQueries$Rows" "count" "I") ∈ zt := zt_in (List.mem_append_right _ (List.mem_of_getElem? (i := 37) (by decide +kernel))) (by decide +kernel)
theorem fl_FQ_160 : (Cond.fieldLink R_FQ 160 "FrameQueries$Rows" "count" "I") ∈ zt := zt_in (List.mem_append_right _ (List.mem_of_getElem? (i := 38) (by decide +kernel))) (by decide +kernel)
theorem fl_Keys_9 : (Cond.fieldLink R_Keys 9 "FrameQueries$Keys" "columns" "[I") ∈ zt := zt_in (List.mem_append_right _ (List.mem_of_getElem? (i := 71) (by decide +kernel))) (by decide +kernel)
theorem fl_Rows_60 : (Cond.fieldLink R_Rows 60 "FrameQueries$Keys" "columns" "[I") ∈ zt := zt_in (List.mem_append_right _ (List.mem_of_getElem? (i := 72) (by decide +kernel))) (by decide +kernel)
theorem fl_Keys_13 : (Cond.fieldLink R_Keys 13 "FrameQueries$Keys" "down" "[Z") ∈ zt := zt_in (List.mem_append_right _ (List.mem_of_getElem? (i := 73) (by decide +kernel))) (by decide +kernel)
theorem fl_Rows_62 : (Cond.fieldLink R_Rows 62 "FrameQueries$Keys" "down" "[Z") ∈ zt := zt_in (List.mem_append_right _ (List.mem_of_getElem? (i := 74) (by decide +kernel))) (by decide +kernel)
theorem fl_Keys_17 : (Cond.fieldLink R_Keys 17 "FrameQueries$Keys" "count" "I") ∈ zt := zt_in (List.mem_append_right _ (List.mem_of_getElem? (i := 75) (by decide +kernel))) (by decide +kernel)
theorem fl_Runner_162 : (Cond.fieldLink R_Runner 162 "FrameQueries$Keys" "count" "I") ∈ zt := zt_in (List.mem_append_right _ (List.mem_of_getElem? (i := 76) (by decide +kernel))) (by decide +kernel)
theorem fl_Rows_57 : (Cond.fieldLink R_Rows 57 "FrameQueries$Keys" "count" "I") ∈ zt := zt_in (List.mem_append_right _ (List.mem_of_getElem? (i := 77) (by decide +kernel))) (by decide +kernel)
theorem fl_Window_12 : (Cond.fieldLink R_Window 12 "FrameQueries$Window" "keys" "LFrameQueries$Keys;") ∈ zt := zt_in (List.mem_append_right _ (List.mem_of_getElem? (i := 86) (by decide +kernel))) (by decide +kernel)
theorem fl_Runner_157 : (Cond.fieldLink R_Runner 157 "FrameQueries$Window" "keys" "LFrameQueries$Keys;") ∈ zt := zt_in (List.mem_append_right _ (List.mem_of_getElem? (i := 87) (by decide +kernel))) (by decide +kernel)
theorem fl_Window_34 : (Cond.fieldLink R_Window 34 "FrameQueries$Window" "function" "I") ∈ zt := zt_in (List.mem_append_right _ (List.mem_of_getElem? (i := 88) (by decide +kernel))) (by decide +kernel)
theorem fl_Reckoner_36 : (Cond.fieldLink R_Reckoner 36 "FrameQueries$Window" "function" "I") ∈ zt := zt_in (List.mem_append_right _ (List.mem_of_getElem? (i := 89) (by decide +kernel))) (by decide +kernel)
theorem fl_Window_37 : (Cond.fieldLink R_Window 37 "FrameQueries$Window" "argument" "I") ∈ zt := zt_in (List.mem_append_right _ (List.mem_of_getElem? (i := 90) (by decide +kernel))) (by decide +kernel)
theorem fl_Reckoner_109 : (Cond.fieldLink R_Reckoner 109 "FrameQueries$Window" "argument" "I") ∈ zt := zt_in (List.mem_append_right _ (List.mem_of_getElem? (i := 91) (by decide +kernel))) (by decide +kernel)
theorem fl_Window_18 : (Cond.fieldLink R_Window 18 "FrameQueries$Window" "number" "I") ∈ zt := zt_in (List.mem_append_right _ (List.mem_of_getElem? (i := 92) (by decide +kernel))) (by decide +kernel)
theorem fl_Reckoner_84 : (Cond.fieldLink R_Reckoner 84 "FrameQueries$Window" "number" "I") ∈ zt := zt_in (List.mem_append_right _ (List.mem_of_getElem? (i := 93) (by decide +kernel))) (by decide +kernel)
theorem fl_Window_22 : (Cond.fieldLink R_Window 22 "FrameQueries$Window" "partition" "I") ∈ zt := zt_in (List.mem_append_right _ (List.mem_of_getElem? (i := 94) (by decide +kernel))) (by decide +kernel)
theorem fl_Runner_194 : (Cond.fieldLink R_Runner 194 "FrameQueries$Window" "partition" "I") ∈ zt := zt_in (List.mem_append_right _ (List.mem_of_getElem? (i := 95) (by decide +kernel))) (by decide +kernel)
theorem fl_Window_25 : (Cond.fieldLink R_Window 25 "FrameQueries$Window" "order" "I") ∈ zt := zt_in (List.mem_append_right _ (List.mem_of_getElem? (i := 96) (by decide +kernel))) (by decide +kernel)
theorem fl_Reckoner_57 : (Cond.fieldLink R_Reckoner 57 "FrameQueries$Window" "order" "I") ∈ zt := zt_in (List.mem_append_right _ (List.mem_of_getElem? (i := 97) (by decide +kernel))) (by decide +kernel)
theorem fl_FQ_114 : (Cond.fieldLink R_FQ 114 "FrameQueries$Window" "order" "I") ∈ zt := zt_in (List.mem_append_right _ (List.mem_of_getElem? (i := 98) (by decide +kernel))) (by decide +kernel)
theorem fl_Window_48 : (Cond.fieldLink R_Window 48 "FrameQueries$Window" "down" "Z") ∈ zt := zt_in (List.mem_append_right _ (List.mem_of_getElem? (i := 99) (by decide +kernel))) (by decide +kernel)
theorem fl_Reckoner_81 : (Cond.fieldLink R_Reckoner 81 "FrameQueries$Window" "down" "Z") ∈ zt := zt_in (List.mem_append_right _ (List.mem_of_getElem? (i := 100) (by decide +kernel))) (by decide +kernel)
theorem fl_Window_40 : (Cond.fieldLink R_Window 40 "FrameQueries$Window" "range" "Z") ∈ zt := zt_in (List.mem_append_right _ (List.mem_of_getElem? (i := 101) (by decide +kernel))) (by decide +kernel)
theorem fl_Reckoner_73 : (Cond.fieldLink R_Reckoner 73 "FrameQueries$Window" "range" "Z") ∈ zt := zt_in (List.mem_append_right _ (List.mem_of_getElem? (i := 102) (by decide +kernel))) (by decide +kernel)
theorem fl_FQ_106 : (Cond.fieldLink R_FQ 106 "FrameQueries$Window" "range" "Z") ∈ zt := zt_in (List.mem_append_right _ (List.mem_of_getElem? (i := 103) (by decide +kernel))) (by decide +kernel)
theorem fl_Window_28 : (Cond.fieldLink R_Window 28 "FrameQueries$Window" "low" "I") ∈ zt := zt_in (List.mem_append_right _ (List.mem_of_getElem? (i := 104) (by decide +kernel))) (by decide +kernel)
theorem fl_FQ_117 : (Cond.fieldLink R_FQ 117 "FrameQueries$Window" "low" "I") ∈ zt := zt_in (List.mem_append_right _ (List.mem_of_getElem? (i := 105) (by decide +kernel))) (by decide +kernel)
theorem fl_Window_31 : (Cond.fieldLink R_Window 31 "FrameQueries$Window" "high" "I") ∈ zt := zt_in (List.mem_append_right _ (List.mem_of_getElem? (i := 106) (by decide +kernel))) (by decide +kernel)
theorem fl_FQ_120 : (Cond.fieldLink R_FQ 120 "FrameQueries$Window" "high" "I") ∈ zt := zt_in (List.mem_append_right _ (List.mem_of_getElem? (i := 107) (by decide +kernel))) (by decide +kernel)
theorem fl_Query_12 : (Cond.fieldLink R_Query 12 "FrameQueries$Query" "windows" "[LFrameQueries$Window;") ∈ zt := zt_in (List.mem_append_right _ (List.mem_of_getElem? (i := 131) (by decide +kernel))) (by decide +kernel)
theorem fl_FQ_87 : (Cond.fieldLink R_FQ 87 "FrameQueries$Query" "windows" "[LFrameQueries$Window;") ∈ zt := zt_in (List.mem_append_right _ (List.mem_of_getElem? (i := 132) (by decide +kernel))) (by decide +kernel)
theorem fl_Runner_153 : (Cond.fieldLink R_Runner 153 "FrameQueries$Query" "windows" "[LFrameQueries$Window;") ∈ zt := zt_in (List.mem_append_right _ (List.mem_of_getElem? (i := 133) (by decide +kernel))) (by decide +kernel)
theorem fl_Query_21 : (Cond.fieldLink R_Query 21 "FrameQueries$Query" "order" "LFrameQueries$Keys;") ∈ zt := zt_in (List.mem_append_right _ (List.mem_of_getElem? (i := 134) (by decide +kernel))) (by decide +kernel)
theorem fl_Runner_80 : (Cond.fieldLink R_Runner 80 "FrameQueries$Query" "order" "LFrameQueries$Keys;") ∈ zt := zt_in (List.mem_append_right _ (List.mem_of_getElem? (i := 135) (by decide +kernel))) (by decide +kernel)
theorem fl_FQ_123 : (Cond.fieldLink R_FQ 123 "FrameQueries$Query" "order" "LFrameQueries$Keys;") ∈ zt := zt_in (List.mem_append_right _ (List.mem_of_getElem? (i := 136) (by decide +kernel))) (by decide +kernel)
theorem fl_Query_35 : (Cond.fieldLink R_Query 35 "FrameQueries$Query" "windowCount" "I") ∈ zt := zt_in (List.mem_append_right _ (List.mem_of_getElem? (i := 137) (by decide +kernel))) (by decide +kernel)
theorem fl_FQ_91 : (Cond.fieldLink R_FQ 91 "FrameQueries$Query" "windowCount" "I") ∈ zt := zt_in (List.mem_append_right _ (List.mem_of_getElem? (i := 138) (by decide +kernel))) (by decide +kernel)
theorem fl_Runner_150 : (Cond.fieldLink R_Runner 150 "FrameQueries$Query" "windowCount" "I") ∈ zt := zt_in (List.mem_append_right _ (List.mem_of_getElem? (i := 139) (by decide +kernel))) (by decide +kernel)
theorem fl_FQ_65 : (Cond.fieldLink R_FQ 65 "FrameQueries$Query" "filterColumn" "I") ∈ zt := zt_in (List.mem_append_right _ (List.mem_of_getElem? (i := 140) (by decide +kernel))) (by decide +kernel)
theorem fl_Query_45 : (Cond.fieldLink R_Query 45 "FrameQueries$Query" "filterColumn" "I") ∈ zt := zt_in (List.mem_append_right _ (List.mem_of_getElem? (i := 141) (by decide +kernel))) (by decide +kernel)
theorem fl_Query_25 : (Cond.fieldLink R_Query 25 "FrameQueries$Query" "filterOp" "I") ∈ zt := zt_in (List.mem_append_right _ (List.mem_of_getElem? (i := 142) (by decide +kernel))) (by decide +kernel)
theorem fl_FQ_69 : (Cond.fieldLink R_FQ 69 "FrameQueries$Query" "filterOp" "I") ∈ zt := zt_in (List.mem_append_right _ (List.mem_of_getElem? (i := 143) (by decide +kernel))) (by decide +kernel)
theorem fl_FQ_72 : (Cond.fieldLink R_FQ 72 "FrameQueries$Query" "filterNumber" "I") ∈ zt := zt_in (List.mem_append_right _ (List.mem_of_getElem? (i := 144) (by decide +kernel))) (by decide +kernel)
theorem fl_Query_56 : (Cond.fieldLink R_Query 56 "FrameQueries$Query" "filterNumber" "I") ∈ zt := zt_in (List.mem_append_right _ (List.mem_of_getElem? (i := 145) (by decide +kernel))) (by decide +kernel)
theorem fl_Query_29 : (Cond.fieldLink R_Query 29 "FrameQueries$Query" "joinLeft" "I") ∈ zt := zt_in (List.mem_append_right _ (List.mem_of_getElem? (i := 146) (by decide +kernel))) (by decide +kernel)
theorem fl_FQ_75 : (Cond.fieldLink R_FQ 75 "FrameQueries$Query" "joinLeft" "I") ∈ zt := zt_in (List.mem_append_right _ (List.mem_of_getElem? (i := 147) (by decide +kernel))) (by decide +kernel)
theorem fl_Runner_124 : (Cond.fieldLink R_Runner 124 "FrameQueries$Query" "joinLeft" "I") ∈ zt := zt_in (List.mem_append_right _ (List.mem_of_getElem? (i := 148) (by decide +kernel))) (by decide +kernel)
theorem fl_Query_32 : (Cond.fieldLink R_Query 32 "FrameQueries$Query" "joinRight" "I") ∈ zt := zt_in (List.mem_append_right _ (List.mem_of_getElem? (i := 149) (by decide +kernel))) (by decide +kernel)
theorem fl_FQ_78 : (Cond.fieldLink R_FQ 78 "FrameQueries$Query" "joinRight" "I") ∈ zt := zt_in (List.mem_append_right _ (List.mem_of_getElem? (i := 150) (by decide +kernel))) (by decide +kernel)
theorem fl_Runner_133 : (Cond.fieldLink R_Runner 133 "FrameQueries$Query" "joinRight" "I") ∈ zt := zt_in (List.mem_append_right _ (List.mem_of_getElem? (i := 151) (by decide +kernel))) (by decide +kernel)
theorem fl_Meter_7 : (Cond.fieldLink R_Meter 7 "FrameQueries$Meter" "frames" "I") ∈ zt := zt_in (List.mem_append_right _ (List.mem_of_getElem? (i := 183) (by decide +kernel))) (by decide +kernel)
theorem fl_Matcher_22 : (Cond.fieldLink R_Matcher 22 "FrameQueries$Meter" "frames" "I") ∈ zt := zt_in (List.mem_append_right _ (List.mem_of_getElem? (i := 184) (by decide +kernel))) (by decide +kernel)
theorem fl_Runner_181 : (Cond.fieldLink R_Runner 181 "FrameQueries$Meter" "frames" "I") ∈ zt := zt_in (List.mem_append_right _ (List.mem_of_getElem? (i := 185) (by decide +kernel))) (by decide +kernel)
theorem fl_Meter_13 : (Cond.fieldLink R_Meter 13 "FrameQueries$Meter" "transferred" "I") ∈ zt := zt_in (List.mem_append_right _ (List.mem_of_getElem? (i := 186) (by decide +kernel))) (by decide +kernel)
theorem fl_FQ_149 : (Cond.fieldLink R_FQ 149 "FrameQueries$Meter" "transferred" "I") ∈ zt := zt_in (List.mem_append_right _ (List.mem_of_getElem? (i := 187) (by decide +kernel))) (by decide +kernel)
theorem fl_Meter_16 : (Cond.fieldLink R_Meter 16 "FrameQueries$Meter" "mostHeld" "I") ∈ zt := zt_in (List.mem_append_right _ (List.mem_of_getElem? (i := 188) (by decide +kernel))) (by decide +kernel)
theorem fl_FQ_154 : (Cond.fieldLink R_FQ 154 "FrameQueries$Meter" "mostHeld" "I") ∈ zt := zt_in (List.mem_append_right _ (List.mem_of_getElem? (i := 189) (by decide +kernel))) (by decide +kernel)
theorem fl_Meter_19 : (Cond.fieldLink R_Meter 19 "FrameQueries$Meter" "sortsMade" "I") ∈ zt := zt_in (List.mem_append_right _ (List.mem_of_getElem? (i := 190) (by decide +kernel))) (by decide +kernel)
theorem fl_FQ_157 : (Cond.fieldLink R_FQ 157 "FrameQueries$Meter" "sortsMade" "I") ∈ zt := zt_in (List.mem_append_right _ (List.mem_of_getElem? (i := 191) (by decide +kernel))) (by decide +kernel)
theorem fl_Matcher_9 : (Cond.fieldLink R_Matcher 9 "FrameQueries$Matcher" "meter" "LFrameQueries$Meter;") ∈ zt := zt_in (List.mem_append_right _ (List.mem_of_getElem? (i := 207) (by decide +kernel))) (by decide +kernel)
theorem fl_Matcher_15 : (Cond.fieldLink R_Matcher 15 "FrameQueries$Matcher" "left" "LFrameQueries$Rows;") ∈ zt := zt_in (List.mem_append_right _ (List.mem_of_getElem? (i := 208) (by decide +kernel))) (by decide +kernel)
theorem fl_Matcher_19 : (Cond.fieldLink R_Matcher 19 "FrameQueries$Matcher" "right" "LFrameQueries$Rows;") ∈ zt := zt_in (List.mem_append_right _ (List.mem_of_getElem? (i := 209) (by decide +kernel))) (by decide +kernel)
theorem fl_Matcher_28 : (Cond.fieldLink R_Matcher 28 "FrameQueries$Matcher" "parts" "I") ∈ zt := zt_in (List.mem_append_right _ (List.mem_of_getElem? (i := 210) (by decide +kernel))) (by decide +kernel)
theorem fl_Matcher_31 : (Cond.fieldLink R_Matcher 31 "FrameQueries$Matcher" "leftColumn" "I") ∈ zt := zt_in (List.mem_append_right _ (List.mem_of_getElem? (i := 211) (by decide +kernel))) (by decide +kernel)
theorem fl_Matcher_34 : (Cond.fieldLink R_Matcher 34 "FrameQueries$Matcher" "rightColumn" "I") ∈ zt := zt_in (List.mem_append_right _ (List.mem_of_getElem? (i := 212) (by decide +kernel))) (by decide +kernel)
theorem fl_Reckoner_9 : (Cond.fieldLink R_Reckoner 9 "FrameQueries$Reckoner" "list" "LFrameQueries$Rows;") ∈ zt := zt_in (List.mem_append_right _ (List.mem_of_getElem? (i := 232) (by decide +kernel))) (by decide +kernel)
theorem fl_Reckoner_15 : (Cond.fieldLink R_Reckoner 15 "FrameQueries$Reckoner" "window" "LFrameQueries$Window;") ∈ zt := zt_in (List.mem_append_right _ (List.mem_of_getElem? (i := 233) (by decide +kernel))) (by decide +kernel)
theorem fl_Reckoner_19 : (Cond.fieldLink R_Reckoner 19 "FrameQueries$Reckoner" "start" "I") ∈ zt := zt_in (List.mem_append_right _ (List.mem_of_getElem? (i := 234) (by decide +kernel))) (by decide +kernel)
theorem fl_Reckoner_23 : (Cond.fieldLink R_Reckoner 23 "FrameQueries$Reckoner" "end" "I") ∈ zt := zt_in (List.mem_append_right _ (List.mem_of_getElem? (i := 235) (by decide +kernel))) (by decide +kernel)
theorem fl_Reckoner_33 : (Cond.fieldLink R_Reckoner 33 "FrameQueries$Reckoner" "firstPeer" "I") ∈ zt := zt_in (List.mem_append_right _ (List.mem_of_getElem? (i := 236) (by decide +kernel))) (by decide +kernel)
theorem fl_Reckoner_26 : (Cond.fieldLink R_Reckoner 26 "FrameQueries$Reckoner" "peerGroups" "I") ∈ zt := zt_in (List.mem_append_right _ (List.mem_of_getElem? (i := 237) (by decide +kernel))) (by decide +kernel)
theorem fl_Reckoner_64 : (Cond.fieldLink R_Reckoner 64 "FrameQueries$Reckoner" "frameStart" "I") ∈ zt := zt_in (List.mem_append_right _ (List.mem_of_getElem? (i := 238) (by decide +kernel))) (by decide +kernel)
theorem fl_Reckoner_70 : (Cond.fieldLink R_Reckoner 70 "FrameQueries$Reckoner" "frameEnd" "I") ∈ zt := zt_in (List.mem_append_right _ (List.mem_of_getElem? (i := 239) (by decide +kernel))) (by decide +kernel)
theorem fl_Runner_34 : (Cond.fieldLink R_Runner 34 "FrameQueries$Runner" "meter" "LFrameQueries$Meter;") ∈ zt := zt_in (List.mem_append_right _ (List.mem_of_getElem? (i := 257) (by decide +kernel))) (by decide +kernel)
theorem fl_FQ_145 : (Cond.fieldLink R_FQ 145 "FrameQueries$Runner" "meter" "LFrameQueries$Meter;") ∈ zt := zt_in (List.mem_append_right _ (List.mem_of_getElem? (i := 258) (by decide +kernel))) (by decide +kernel)
theorem fl_Runner_14 : (Cond.fieldLink R_Runner 14 "FrameQueries$Runner" "list" "LFrameQueries$Rows;") ∈ zt := zt_in (List.mem_append_right _ (List.mem_of_getElem? (i := 259) (by decide +kernel))) (by decide +kernel)
theorem fl_FQ_163 : (Cond.fieldLink R_FQ 163 "FrameQueries$Runner" "list" "LFrameQueries$Rows;") ∈ zt := zt_in (List.mem_append_right _ (List.mem_of_getElem? (i := 260) (by decide +kernel))) (by decide +kernel)
theorem fl_Runner_23 : (Cond.fieldLink R_Runner 23 "FrameQueries$Runner" "left" "LFrameQueries$Rows;") ∈ zt := zt_in (List.mem_append_right _ (List.mem_of_getElem? (i := 261) (by decide +kernel))) (by decide +kernel)
theorem fl_Runner_26 : (Cond.fieldLink R_Runner 26 "FrameQueries$Runner" "right" "LFrameQueries$Rows;") ∈ zt := zt_in (List.mem_append_right _ (List.mem_of_getElem? (i := 262) (by decide +kernel))) (by decide +kernel)
theorem fl_Runner_20 : (Cond.fieldLink R_Runner 20 "FrameQueries$Runner" "kept" "LFrameQueries$Rows;") ∈ zt := zt_in (List.mem_append_right _ (List.mem_of_getElem? (i := 263) (by decide +kernel))) (by decide +kernel)
theorem fl_Runner_43 : (Cond.fieldLink R_Runner 43 "FrameQueries$Runner" "matcher" "LFrameQueries$Matcher;") ∈ zt := zt_in (List.mem_append_right _ (List.mem_of_getElem? (i := 264) (by decide +kernel))) (by decide +kernel)
theorem fl_Runner_52 : (Cond.fieldLink R_Runner 52 "FrameQueries$Runner" "reckoner" "LFrameQueries$Reckoner;") ∈ zt := zt_in (List.mem_append_right _ (List.mem_of_getElem? (i := 265) (by decide +kernel))) (by decide +kernel)
theorem fl_Runner_96 : (Cond.fieldLink R_Runner 96 "FrameQueries$Runner" "ordered" "LFrameQueries$Keys;") ∈ zt := zt_in (List.mem_append_right _ (List.mem_of_getElem? (i := 266) (by decide +kernel))) (by decide +kernel)
theorem fl_FQ_18 : (Cond.fieldLink R_FQ 18 "FrameQueries" "tables" "[LFrameQueries$Rows;") ∈ zt := zt_in (List.mem_append_right _ (List.mem_of_getElem? (i := 284) (by decide +kernel))) (by decide +kernel)
theorem fl_FQ_25 : (Cond.fieldLink R_FQ 25 "FrameQueries" "query" "LFrameQueries$Query;") ∈ zt := zt_in (List.mem_append_right _ (List.mem_of_getElem? (i := 285) (by decide +kernel))) (by decide +kernel)
theorem fl_FQ_34 : (Cond.fieldLink R_FQ 34 "FrameQueries" "runner" "LFrameQueries$Runner;") ∈ zt := zt_in (List.mem_append_right _ (List.mem_of_getElem? (i := 286) (by decide +kernel))) (by decide +kernel)
theorem fl_Mo_74 : (Cond.fieldLink R_Mo 74 "FrameQueriesModel" "m" "I") ∈ zt := zt_in (List.mem_append_right _ (List.mem_of_getElem? (i := 639) (by decide +kernel))) (by decide +kernel)
theorem fl_Mo_7 : (Cond.fieldLink R_Mo 7 "FrameQueriesModel" "size" "[I") ∈ zt := zt_in (List.mem_append_right _ (List.mem_of_getElem? (i := 640) (by decide +kernel))) (by decide +kernel)
theorem fl_Mo_13 : (Cond.fieldLink R_Mo 13 "FrameQueriesModel" "given" "[I") ∈ zt := zt_in (List.mem_append_right _ (List.mem_of_getElem? (i := 641) (by decide +kernel))) (by decide +kernel)
theorem fl_Mo_16 : (Cond.fieldLink R_Mo 16 "FrameQueriesModel" "holes" "[I") ∈ zt := zt_in (List.mem_append_right _ (List.mem_of_getElem? (i := 642) (by decide +kernel))) (by decide +kernel)
theorem fl_Mo_85 : (Cond.fieldLink R_Mo 85 "FrameQueriesModel" "filters" "Z") ∈ zt := zt_in (List.mem_append_right _ (List.mem_of_getElem? (i := 643) (by decide +kernel))) (by decide +kernel)
theorem fl_Mo_19 : (Cond.fieldLink R_Mo 19 "FrameQueriesModel" "test" "[I") ∈ zt := zt_in (List.mem_append_right _ (List.mem_of_getElem? (i := 644) (by decide +kernel))) (by decide +kernel)
theorem fl_Mo_89 : (Cond.fieldLink R_Mo 89 "FrameQueriesModel" "joins" "Z") ∈ zt := zt_in (List.mem_append_right _ (List.mem_of_getElem? (i := 645) (by decide +kernel))) (by decide +kernel)
theorem fl_Mo_98 : (Cond.fieldLink R_Mo 98 "FrameQueriesModel" "joinX" "I") ∈ zt := zt_in (List.mem_append_right _ (List.mem_of_getElem? (i := 646) (by decide +kernel))) (by decide +kernel)
theorem fl_Mo_101 : (Cond.fieldLink R_Mo 101 "FrameQueriesModel" "joinY" "I") ∈ zt := zt_in (List.mem_append_right _ (List.mem_of_getElem? (i := 647) (by decide +kernel))) (by decide +kernel)
theorem fl_Mo_92 : (Cond.fieldLink R_Mo 92 "FrameQueriesModel" "windows" "I") ∈ zt := zt_in (List.mem_append_right _ (List.mem_of_getElem? (i := 648) (by decide +kernel))) (by decide +kernel)
theorem fl_Mo_22 : (Cond.fieldLink R_Mo 22 "FrameQueriesModel" "wFunction" "[I") ∈ zt := zt_in (List.mem_append_right _ (List.mem_of_getElem? (i := 649) (by decide +kernel))) (by decide +kernel)
theorem fl_Mo_25 : (Cond.fieldLink R_Mo 25 "FrameQueriesModel" "wArgument" "[I") ∈ zt := zt_in (List.mem_append_right _ (List.mem_of_getElem? (i := 650) (by decide +kernel))) (by decide +kernel)
theorem fl_Mo_28 : (Cond.fieldLink R_Mo 28 "FrameQueriesModel" "wNumber" "[I") ∈ zt := zt_in (List.mem_append_right _ (List.mem_of_getElem? (i := 651) (by decide +kernel))) (by decide +kernel)
theorem fl_Mo_31 : (Cond.fieldLink R_Mo 31 "FrameQueriesModel" "wPart" "[I") ∈ zt := zt_in (List.mem_append_right _ (List.mem_of_getElem? (i := 652) (by decide +kernel))) (by decide +kernel)
theorem fl_Mo_34 : (Cond.fieldLink R_Mo 34 "FrameQueriesModel" "wOrder" "[I") ∈ zt := zt_in (List.mem_append_right _ (List.mem_of_getElem? (i := 653) (by decide +kernel))) (by decide +kernel)
theorem fl_Mo_37 : (Cond.fieldLink R_Mo 37 "FrameQueriesModel" "wDown" "[Z") ∈ zt := zt_in (List.mem_append_right _ (List.mem_of_getElem? (i := 654) (by decide +kernel))) (by decide +kernel)
theorem fl_Mo_41 : (Cond.fieldLink R_Mo 41 "FrameQueriesModel" "wRange" "[Z") ∈ zt := zt_in (List.mem_append_right _ (List.mem_of_getElem? (i := 655) (by decide +kernel))) (by decide +kernel)
theorem fl_Mo_44 : (Cond.fieldLink R_Mo 44 "FrameQueriesModel" "wLow" "[I") ∈ zt := zt_in (List.mem_append_right _ (List.mem_of_getElem? (i := 656) (by decide +kernel))) (by decide +kernel)
theorem fl_Mo_47 : (Cond.fieldLink R_Mo 47 "FrameQueriesModel" "wHigh" "[I") ∈ zt := zt_in (List.mem_append_right _ (List.mem_of_getElem? (i := 657) (by decide +kernel))) (by decide +kernel)
theorem fl_Mo_95 : (Cond.fieldLink R_Mo 95 "FrameQueriesModel" "orders" "Z") ∈ zt := zt_in (List.mem_append_right _ (List.mem_of_getElem? (i := 658) (by decide +kernel))) (by decide +kernel)
theorem fl_Mo_104 : (Cond.fieldLink R_Mo 104 "FrameQueriesModel" "orderColumn" "I") ∈ zt := zt_in (List.mem_append_right _ (List.mem_of_getElem? (i := 659) (by decide +kernel))) (by decide +kernel)
theorem fl_Mo_107 : (Cond.fieldLink R_Mo 107 "FrameQueriesModel" "orderDown" "Z") ∈ zt := zt_in (List.mem_append_right _ (List.mem_of_getElem? (i := 660) (by decide +kernel))) (by decide +kernel)
theorem fl_Mo_119 : (Cond.fieldLink R_Mo 119 "FrameQueriesModel" "kept" "I") ∈ zt := zt_in (List.mem_append_right _ (List.mem_of_getElem? (i := 661) (by decide +kernel))) (by decide +kernel)
theorem fl_Mo_50 : (Cond.fieldLink R_Mo 50 "FrameQueriesModel" "keeps" "[I") ∈ zt := zt_in (List.mem_append_right _ (List.mem_of_getElem? (i := 662) (by decide +kernel))) (by decide +kernel)
theorem fl_Mo_152 : (Cond.fieldLink R_Mo 152 "FrameQueriesModel" "n" "I") ∈ zt := zt_in (List.mem_append_right _ (List.mem_of_getElem? (i := 663) (by decide +kernel))) (by decide +kernel)
theorem fl_Mo_53 : (Cond.fieldLink R_Mo 53 "FrameQueriesModel" "value" "[I") ∈ zt := zt_in (List.mem_append_right _ (List.mem_of_getElem? (i := 664) (by decide +kernel))) (by decide +kernel)
theorem fl_Mo_56 : (Cond.fieldLink R_Mo 56 "FrameQueriesModel" "hole" "[Z") ∈ zt := zt_in (List.mem_append_right _ (List.mem_of_getElem? (i := 665) (by decide +kernel))) (by decide +kernel)
theorem fl_Mo_59 : (Cond.fieldLink R_Mo 59 "FrameQueriesModel" "first" "[I") ∈ zt := zt_in (List.mem_append_right _ (List.mem_of_getElem? (i := 666) (by decide +kernel))) (by decide +kernel)
theorem fl_Mo_62 : (Cond.fieldLink R_Mo 62 "FrameQueriesModel" "second" "[I") ∈ zt := zt_in (List.mem_append_right _ (List.mem_of_getElem? (i := 667) (by decide +kernel))) (by decide +kernel)
theorem fl_Mo_65 : (Cond.fieldLink R_Mo 65 "FrameQueriesModel" "list" "[I") ∈ zt := zt_in (List.mem_append_right _ (List.mem_of_getElem? (i := 668) (by decide +kernel))) (by decide +kernel)
theorem fl_Mo_165 : (Cond.fieldLink R_Mo 165 "FrameQueriesModel" "keys" "I") ∈ zt := zt_in (List.mem_append_right _ (List.mem_of_getElem? (i := 669) (by decide +kernel))) (by decide +kernel)
theorem fl_Mo_68 : (Cond.fieldLink R_Mo 68 "FrameQueriesModel" "keyColumn" "[I") ∈ zt := zt_in (List.mem_append_right _ (List.mem_of_getElem? (i := 670) (by decide +kernel))) (by decide +kernel)
theorem fl_Mo_71 : (Cond.fieldLink R_Mo 71 "FrameQueriesModel" "keyDown" "[Z") ∈ zt := zt_in (List.mem_append_right _ (List.mem_of_getElem? (i := 671) (by decide +kernel))) (by decide +kernel)
theorem fl_Mo_126 : (Cond.fieldLink R_Mo 126 "FrameQueriesModel" "transferred" "I") ∈ zt := zt_in (List.mem_append_right _ (List.mem_of_getElem? (i := 672) (by decide +kernel))) (by decide +kernel)
theorem fl_Mo_110 : (Cond.fieldLink R_Mo 110 "FrameQueriesModel" "most" "I") ∈ zt := zt_in (List.mem_append_right _ (List.mem_of_getElem? (i := 673) (by decide +kernel))) (by decide +kernel)
theorem fl_Mo_175 : (Cond.fieldLink R_Mo 175 "FrameQueriesModel" "sorted" "I") ∈ zt := zt_in (List.mem_append_right _ (List.mem_of_getElem? (i := 674) (by decide +kernel))) (by decide +kernel)
theorem fl_Mo_155 : (Cond.fieldLink R_Mo 155 "FrameQueriesModel" "error" "I") ∈ zt := zt_in (List.mem_append_right _ (List.mem_of_getElem? (i := 675) (by decide +kernel))) (by decide +kernel)
theorem fl_Mo_247 : (Cond.fieldLink R_Mo 247 "FrameQueriesModel" "shown" "I") ∈ zt := zt_in (List.mem_append_right _ (List.mem_of_getElem? (i := 676) (by decide +kernel))) (by decide +kernel)
theorem fl_Mo_217 : (Cond.fieldLink R_Mo 217 "FrameQueriesModel" "frameFirst" "I") ∈ zt := zt_in (List.mem_append_right _ (List.mem_of_getElem? (i := 677) (by decide +kernel))) (by decide +kernel)
theorem fl_Mo_220 : (Cond.fieldLink R_Mo 220 "FrameQueriesModel" "frameLast" "I") ∈ zt := zt_in (List.mem_append_right _ (List.mem_of_getElem? (i := 678) (by decide +kernel))) (by decide +kernel)
theorem fl_Mo_223 : (Cond.fieldLink R_Mo 223 "FrameQueriesModel" "frameCount" "I") ∈ zt := zt_in (List.mem_append_right _ (List.mem_of_getElem? (i := 679) (by decide +kernel))) (by decide +kernel)
theorem fl_Mo_234 : (Cond.fieldLink R_Mo 234 "FrameQueriesModel" "frameLeast" "I") ∈ zt := zt_in (List.mem_append_right _ (List.mem_of_getElem? (i := 680) (by decide +kernel))) (by decide +kernel)
theorem fl_Mo_237 : (Cond.fieldLink R_Mo 237 "FrameQueriesModel" "frameGreatest" "I") ∈ zt := zt_in (List.mem_append_right _ (List.mem_of_getElem? (i := 681) (by decide +kernel))) (by decide +kernel)
theorem fl_Mo_226 : (Cond.fieldLink R_Mo 226 "FrameQueriesModel" "frameSum" "J") ∈ zt := zt_in (List.mem_append_right _ (List.mem_of_getElem? (i := 682) (by decide +kernel))) (by decide +kernel)
theorem cst_FQ_50 : (Cond.constantLong R_FQ 50 (-1099511627776)) ∈ zt := zt_in (List.mem_append_right _ (List.mem_of_getElem? (i := 309) (by decide +kernel))) (by decide +kernel)
theorem cst_Query_54 : (Cond.constantLong R_Query 54 (-1099511627776)) ∈ zt := zt_in (List.mem_append_right _ (List.mem_of_getElem? (i := 421) (by decide +kernel))) (by decide +kernel)
theorem cst_Runner_131 : (Cond.constantLong R_Runner 131 (-1099511627776)) ∈ zt := zt_in (List.mem_append_right _ (List.mem_of_getElem? (i := 452) (by decide +kernel))) (by decide +kernel)
theorem cst_Runner_146 : (Cond.constantLong R_Runner 146 (32)) ∈ zt := zt_in (List.mem_append_right _ (List.mem_of_getElem? (i := 462) (by decide +kernel))) (by decide +kernel)
theorem cst_Matcher_69 : (Cond.constantLong R_Matcher 69 (-1099511627776)) ∈ zt := zt_in (List.mem_append_right _ (List.mem_of_getElem? (i := 483) (by decide +kernel))) (by decide +kernel)
theorem cst_Matcher_74 : (Cond.constant R_Matcher 74 (73244475)) ∈ zt := zt_in (List.mem_append_right _ (List.mem_of_getElem? (i := 488) (by decide +kernel))) (by decide +kernel)
theorem cst_Reckoner_49 : (Cond.constantLong R_Reckoner 49 (-1099511627776)) ∈ zt := zt_in (List.mem_append_right _ (List.mem_of_getElem? (i := 560) (by decide +kernel))) (by decide +kernel)
theorem cst_Mo_137 : (Cond.constant R_Mo 137 (73244475)) ∈ zt := zt_in (List.mem_append_right _ (List.mem_of_getElem? (i := 859) (by decide +kernel))) (by decide +kernel)
theorem cst_Mo_243 : (Cond.constantLong R_Mo 243 (-2147483648)) ∈ zt := zt_in (List.mem_append_right _ (List.mem_of_getElem? (i := 932) (by decide +kernel))) (by decide +kernel)
theorem cst_Mo_245 : (Cond.constantLong R_Mo 245 (2147483647)) ∈ zt := zt_in (List.mem_append_right _ (List.mem_of_getElem? (i := 933) (by decide +kernel))) (by decide +kernel)
theorem cl_Law_7 : (Cond.classLink R_Law 7 R_FQ) ∈ zt := zt_in (List.mem_append_right _ (List.mem_of_getElem? (i := 13) (by decide +kernel))) (by decide +kernel)
theorem cl_FQ_13 : (Cond.classLink R_FQ 13 R_Rows) ∈ zt := zt_in (List.mem_append_right _ (List.mem_of_getElem? (i := 24) (by decide +kernel))) (by decide +kernel)
theorem cl_FQ_22 : (Cond.classLink R_FQ 22 R_Query) ∈ zt := zt_in (List.mem_append_right _ (List.mem_of_getElem? (i := 52) (by decide +kernel))) (by decide +kernel)
theorem cl_Query_9 : (Cond.classLink R_Query 9 R_Window) ∈ zt := zt_in (List.mem_append_right _ (List.mem_of_getElem? (i := 58) (by decide +kernel))) (by decide +kernel)
theorem cl_Window_9 : (Cond.classLink R_Window 9 R_Keys) ∈ zt := zt_in (List.mem_append_right _ (List.mem_of_getElem? (i := 65) (by decide +kernel))) (by decide +kernel)
theorem cl_Query_18 : (Cond.classLink R_Query 18 R_Keys) ∈ zt := zt_in (List.mem_append_right _ (List.mem_of_getElem? (i := 129) (by decide +kernel))) (by decide +kernel)
theorem cl_FQ_29 : (Cond.classLink R_FQ 29 R_Runner) ∈ zt := zt_in (List.mem_append_right _ (List.mem_of_getElem? (i := 169) (by decide +kernel))) (by decide +kernel)
theorem cl_Runner_9 : (Cond.classLink R_Runner 9 R_Rows) ∈ zt := zt_in (List.mem_append_right _ (List.mem_of_getElem? (i := 175) (by decide +kernel))) (by decide +kernel)
theorem cl_Runner_29 : (Cond.classLink R_Runner 29 R_Meter) ∈ zt := zt_in (List.mem_append_right _ (List.mem_of_getElem? (i := 177) (by decide +kernel))) (by decide +kernel)
theorem cl_Runner_38 : (Cond.classLink R_Runner 38 R_Matcher) ∈ zt := zt_in (List.mem_append_right _ (List.mem_of_getElem? (i := 201) (by decide +kernel))) (by decide +kernel)
theorem cl_Runner_47 : (Cond.classLink R_Runner 47 R_Reckoner) ∈ zt := zt_in (List.mem_append_right _ (List.mem_of_getElem? (i := 226) (by decide +kernel))) (by decide +kernel)
theorem cl_Law_18 : (Cond.classLink R_Law 18 R_Mo) ∈ zt := zt_in (List.mem_append_right _ (List.mem_of_getElem? (i := 629) (by decide +kernel))) (by decide +kernel)
theorem it_FQ : (Cond.instantiable R_FQ 3) ∈ zt := zt_in (List.mem_append_right _ (List.mem_of_getElem? (i := 14) (by decide +kernel))) (by decide +kernel)
theorem im_objinit : (Cond.instanceMethod objectInit) ∈ zt := zt_in (List.mem_append_right _ (List.mem_of_getElem? (i := 19) (by decide +kernel))) (by decide +kernel)
theorem co_objinit : (Cond.code objectInit ⟨#[0xb1]⟩ 1 none) ∈ zt := zt_in (List.mem_append_right _ (List.mem_of_getElem? (i := 20) (by decide +kernel))) (by decide +kernel)
theorem ao_Rows : (Cond.arrayOver (.object R_Rows)) ∈ lw_tbl := List.mem_append_right _ (List.mem_of_getElem? (i := 25) (by decide +kernel))
theorem it_Rows : (Cond.instantiable R_Rows 5) ∈ zt := zt_in (List.mem_append_right _ (List.mem_of_getElem? (i := 26) (by decide +kernel))) (by decide +kernel)
theorem ac_long : (Cond.arrayClass .long) ∈ zt := zt_in (List.mem_append_right _ (List.mem_of_getElem? (i := 50) (by decide +kernel))) (by decide +kernel)
theorem ac_int : (Cond.arrayClass .int) ∈ zt := zt_in (List.mem_append_right _ (List.mem_of_getElem? (i := 51) (by decide +kernel))) (by decide +kernel)
theorem it_Query : (Cond.instantiable R_Query 8) ∈ zt := zt_in (List.mem_append_right _ (List.mem_of_getElem? (i := 53) (by decide +kernel))) (by decide +kernel)
theorem ao_Window : (Cond.arrayOver (.object R_Window)) ∈ lw_tbl := List.mem_append_right _ (List.mem_of_getElem? (i := 59) (by decide +kernel))
theorem it_Window : (Cond.instantiable R_Window 10) ∈ zt := zt_in (List.mem_append_right _ (List.mem_of_getElem? (i := 60) (by decide +kernel))) (by decide +kernel)
theorem it_Keys : (Cond.instantiable R_Keys 3) ∈ zt := zt_in (List.mem_append_right _ (List.mem_of_getElem? (i := 66) (by decide +kernel))) (by decide +kernel)
theorem ac_boolean : (Cond.arrayClass .boolean) ∈ zt := zt_in (List.mem_append_right _ (List.mem_of_getElem? (i := 85) (by decide +kernel))) (by decide +kernel)
theorem it_Runner : (Cond.instantiable R_Runner 8) ∈ zt := zt_in (List.mem_append_right _ (List.mem_of_getElem? (i := 170) (by decide +kernel))) (by decide +kernel)
theorem it_Meter : (Cond.instantiable R_Meter 4) ∈ zt := zt_in (List.mem_append_right _ (List.mem_of_getElem? (i := 178) (by decide +kernel))) (by decide +kernel)
theorem it_Matcher : (Cond.instantiable R_Matcher 6) ∈ zt := zt_in (List.mem_append_right _ (List.mem_of_getElem? (i := 202) (by decide +kernel))) (by decide +kernel)
theorem it_Reckoner : (Cond.instantiable R_Reckoner 8) ∈ zt := zt_in (List.mem_append_right _ (List.mem_of_getElem? (i := 227) (by decide +kernel))) (by decide +kernel)
theorem sm_Math_max : (Cond.static Lib.Math.max.name) ∈ zt := zt_in (List.mem_append_right _ (List.mem_of_getElem? (i := 441) (by decide +kernel))) (by decide +kernel)
theorem co_Math_max : (Cond.code Lib.Math.max.name Lib.Math.max.code 2 (some .int)) ∈ zt := zt_in (List.mem_append_right _ (List.mem_of_getElem? (i := 442) (by decide +kernel))) (by decide +kernel)
theorem sm_Math_min : (Cond.static Lib.Math.min.name) ∈ zt := zt_in (List.mem_append_right _ (List.mem_of_getElem? (i := 510) (by decide +kernel))) (by decide +kernel)
theorem co_Math_min : (Cond.code Lib.Math.min.name Lib.Math.min.code 2 (some .int)) ∈ zt := zt_in (List.mem_append_right _ (List.mem_of_getElem? (i := 511) (by decide +kernel))) (by decide +kernel)
theorem st_arraycopy : (Cond.static arraycopyName) ∈ zt := zt_in (List.mem_append_right _ (List.mem_of_getElem? (i := 521) (by decide +kernel))) (by decide +kernel)
theorem na_arraycopy : (Cond.native arraycopyName) ∈ zt := zt_in (List.mem_append_right _ (List.mem_of_getElem? (i := 522) (by decide +kernel))) (by decide +kernel)
theorem sm_Math_maxL : (Cond.static Lib.MathLoose.max_long.x) ∈ zt := zt_in (List.mem_append_right _ (List.mem_of_getElem? (i := 589) (by decide +kernel))) (by decide +kernel)
theorem co_Math_maxL : (Cond.code Lib.MathLoose.max_long.x Lib.MathLoose.max_long.code 4 (some .long)) ∈ zt := zt_in (List.mem_append_right _ (List.mem_of_getElem? (i := 590) (by decide +kernel))) (by decide +kernel)
theorem it_Mo : (Cond.instantiable R_Mo 44) ∈ zt := zt_in (List.mem_append_right _ (List.mem_of_getElem? (i := 630) (by decide +kernel))) (by decide +kernel)
def zNl : List (String × Nat × MethodName × String) := [(R_FQ, 24, y_Query_init, "FrameQueries"), (R_Query, 11, y_Window_init, "FrameQueries"), (R_Window, 11, y_Keys_init, "FrameQueries"), (R_Query, 20, y_Keys_init, "FrameQueries"), (R_Query, 41, y_FQ_isWithin, "FrameQueries"), (R_Runner, 114, y_FQ_blocksOf, "FrameQueries"), (R_Matcher, 46, y_FQ_blocksOf, "FrameQueries"), (R_Matcher, 54, y_FQ_quotientUp, "FrameQueries"), (R_Meter, 28, y_FQ_blocksOf, "FrameQueries"), (R_Meter, 41, y_FQ_quotientUp, "FrameQueries")]
theorem nl_FQ_24 : (R_FQ, 24, y_Query_init, "FrameQueries") ∈ zNl := List.mem_of_getElem? (i := 0) rfl
theorem nl_FQ_24_t : Cond.methodLinkNest R_FQ 24 y_Query_init "FrameQueries" ∈ lw_tbl := List.mem_append_right _ (List.mem_of_getElem? (i := 54) (by decide +kernel))
theorem nl_Query_11 : (R_Query, 11, y_Window_init, "FrameQueries") ∈ zNl := List.mem_of_getElem? (i := 1) rfl
theorem nl_Query_11_t : Cond.methodLinkNest R_Query 11 y_Window_init "FrameQueries" ∈ lw_tbl := List.mem_append_right _ (List.mem_of_getElem? (i := 61) (by decide +kernel))
theorem nl_Window_11 : (R_Window, 11, y_Keys_init, "FrameQueries") ∈ zNl := List.mem_of_getElem? (i := 2) rfl
theorem nl_Window_11_t : Cond.methodLinkNest R_Window 11 y_Keys_init "FrameQueries" ∈ lw_tbl := List.mem_append_right _ (List.mem_of_getElem? (i := 67) (by decide +kernel))
theorem nl_Query_20 : (R_Query, 20, y_Keys_init, "FrameQueries") ∈ zNl := List.mem_of_getElem? (i := 3) rfl
theorem nl_Query_20_t : Cond.methodLinkNest R_Query 20 y_Keys_init "FrameQueries" ∈ lw_tbl := List.mem_append_right _ (List.mem_of_getElem? (i := 130) (by decide +kernel))
theorem nl_Query_41 : (R_Query, 41, y_FQ_isWithin, "FrameQueries") ∈ zNl := List.mem_of_getElem? (i := 4) rfl
theorem nl_Query_41_t : Cond.methodLinkNest R_Query 41 y_FQ_isWithin "FrameQueries" ∈ lw_tbl := List.mem_append_right _ (List.mem_of_getElem? (i := 377) (by decide +kernel))
theorem nl_Runner_114 : (R_Runner, 114, y_FQ_blocksOf, "FrameQueries") ∈ zNl := List.mem_of_getElem? (i := 5) rfl
theorem nl_Runner_114_t : Cond.methodLinkNest R_Runner 114 y_FQ_blocksOf "FrameQueries" ∈ lw_tbl := List.mem_append_right _ (List.mem_of_getElem? (i := 430) (by decide +kernel))
theorem nl_Matcher_46 : (R_Matcher, 46, y_FQ_blocksOf, "FrameQueries") ∈ zNl := List.mem_of_getElem? (i := 6) rfl
theorem nl_Matcher_46_t : Cond.methodLinkNest R_Matcher 46 y_FQ_blocksOf "FrameQueries" ∈ lw_tbl := List.mem_append_right _ (List.mem_of_getElem? (i := 471) (by decide +kernel))
theorem nl_Matcher_54 : (R_Matcher, 54, y_FQ_quotientUp, "FrameQueries") ∈ zNl := List.mem_of_getElem? (i := 7) rfl
theorem nl_Matcher_54_t : Cond.methodLinkNest R_Matcher 54 y_FQ_quotientUp "FrameQueries" ∈ lw_tbl := List.mem_append_right _ (List.mem_of_getElem? (i := 473) (by decide +kernel))
theorem nl_Meter_28 : (R_Meter, 28, y_FQ_blocksOf, "FrameQueries") ∈ zNl := List.mem_of_getElem? (i := 8) rfl
theorem nl_Meter_28_t : Cond.methodLinkNest R_Meter 28 y_FQ_blocksOf "FrameQueries" ∈ lw_tbl := List.mem_append_right _ (List.mem_of_getElem? (i := 527) (by decide +kernel))
theorem nl_Meter_41 : (R_Meter, 41, y_FQ_quotientUp, "FrameQueries") ∈ zNl := List.mem_of_getElem? (i := 9) rfl
theorem nl_Meter_41_t : Cond.methodLinkNest R_Meter 41 y_FQ_quotientUp "FrameQueries" ∈ lw_tbl := List.mem_append_right _ (List.mem_of_getElem? (i := 530) (by decide +kernel))
