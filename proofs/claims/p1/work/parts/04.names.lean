/-! classes, fields, methods: by program (wip/tools) -/
/-- the launch, the numbers of classes and fields, the state and the arguments at the law's entry -/
abbrev xw_G : Type := Launch × va_G × State × Array Value
def xw_tbl : List Cond := lw_tbl.filter goodWord
theorem xw_in {w : Cond} (i : Nat) (h : lw_tbl[i]? = some w) (g : goodWord w = true) : w ∈ xw_tbl := List.mem_filter.mpr ⟨List.mem_of_getElem? h, g⟩
theorem xw_tb {w : Cond} (h : w ∈ tables_1_1 ++ (tables_1_2 ++ (tables_1_3 ++ (tables_1_4 ++ (tables_1_5 ++ (tables_1_6 ++ tables_1_7)))))) (g : goodWord w = true) : w ∈ xw_tbl := List.mem_filter.mpr ⟨(List.mem_append_right (k2_sels lw_privs) h : w ∈ k2_sels lw_privs ++ tables_1), g⟩
theorem xw_in1 {w : Cond} (i : Nat) (h : tables_1_1[i]? = some w) (g : goodWord w = true) : w ∈ xw_tbl := xw_tb (List.mem_append_left _ (List.mem_of_getElem? h)) g
theorem xw_in2 {w : Cond} (i : Nat) (h : tables_1_2[i]? = some w) (g : goodWord w = true) : w ∈ xw_tbl := xw_tb (List.mem_append_right _ (List.mem_append_left _ (List.mem_of_getElem? h))) g
theorem xw_in3 {w : Cond} (i : Nat) (h : tables_1_3[i]? = some w) (g : goodWord w = true) : w ∈ xw_tbl := xw_tb (List.mem_append_right _ (List.mem_append_right _ (List.mem_append_left _ (List.mem_of_getElem? h)))) g
theorem xw_in4 {w : Cond} (i : Nat) (h : tables_1_4[i]? = some w) (g : goodWord w = true) : w ∈ xw_tbl := xw_tb (List.mem_append_right _ (List.mem_append_right _ (List.mem_append_right _ (List.mem_append_left _ (List.mem_of_getElem? h))))) g
theorem xw_in5 {w : Cond} (i : Nat) (h : tables_1_5[i]? = some w) (g : goodWord w = true) : w ∈ xw_tbl := xw_tb (List.mem_append_right _ (List.mem_append_right _ (List.mem_append_right _ (List.mem_append_right _ (List.mem_append_left _ (List.mem_of_getElem? h)))))) g
theorem xw_in6 {w : Cond} (i : Nat) (h : tables_1_6[i]? = some w) (g : goodWord w = true) : w ∈ xw_tbl := xw_tb (List.mem_append_right _ (List.mem_append_right _ (List.mem_append_right _ (List.mem_append_right _ (List.mem_append_right _ (List.mem_append_left _ (List.mem_of_getElem? h))))))) g
theorem xw_in7 {w : Cond} (i : Nat) (h : tables_1_7[i]? = some w) (g : goodWord w = true) : w ∈ xw_tbl := xw_tb (List.mem_append_right _ (List.mem_append_right _ (List.mem_append_right _ (List.mem_append_right _ (List.mem_append_right _ (List.mem_append_right _ (List.mem_of_getElem? h))))))) g
theorem xw_good : ∀ w ∈ xw_tbl, (w.onTables && w.keeps) = true ∨ ∃ ty, w = .arrayClass ty := fun w h => good_of_word (List.mem_filter.mp h).2
theorem xw_tbl_lw : ∀ w ∈ xw_tbl, w ∈ lw_tbl := fun w h => (List.mem_filter.mp h).1
def T_Shelf : u_T := fun k => match k with
  | 0 => ("PhraseShelf", "draft", "[C", true)
  | 1 => ("PhraseShelf", "texts", "[LPhraseShelf$Tokens;", true)
  | 2 => ("PhraseShelf", "weights", "[I", true)
  | 3 => ("PhraseShelf", "store", "LPhraseShelf$Store;", true)
  | 4 => ("PhraseShelf", "saved", "LPhraseShelf$Store;", true)
  | 5 => ("PhraseShelf", "question", "LPhraseShelf$Question;", true)
  | 6 => ("PhraseShelf", "standing", "LPhraseShelf$Standing;", true)
  | 7 => ("PhraseShelf", "answers", "LPhraseShelf$Answers;", true)
  | 8 => ("PhraseShelf", "draftLength", "I", false)
  | 9 => ("PhraseShelf", "most", "I", false)
  | 10 => ("PhraseShelf", "limit", "I", false)
  | 11 => ("PhraseShelf", "open", "Z", false)
  | 12 => ("PhraseShelf", "wrongPlace", "I", false)
  | _ => ("PhraseShelf", "goodPhrases", "I", false)
def ty_Shelf : Nat → FieldType := fun k => match k with
  | 0 => (.array .char)
  | 1 => (.array (.object "PhraseShelf$Tokens"))
  | 2 => (.array .int)
  | 3 => (.object "PhraseShelf$Store")
  | 4 => (.object "PhraseShelf$Store")
  | 5 => (.object "PhraseShelf$Question")
  | 6 => (.object "PhraseShelf$Standing")
  | 7 => (.object "PhraseShelf$Answers")
  | 8 => .int
  | 9 => .int
  | 10 => .int
  | 11 => .boolean
  | 12 => .int
  | _ => .int
def T_Answers : u_T := fun k => match k with
  | 0 => ("PhraseShelf$Answers", "rows", "[I", true)
  | 1 => ("PhraseShelf$Answers", "scores", "[D", true)
  | 2 => ("PhraseShelf$Answers", "size", "I", false)
  | 3 => ("PhraseShelf$Answers", "lengths", "[I", true)
  | _ => ("PhraseShelf$Answers", "order", "[I", true)
def ty_Answers : Nat → FieldType := fun k => match k with
  | 0 => (.array .int)
  | 1 => (.array .double)
  | 2 => .int
  | 3 => (.array .int)
  | _ => (.array .int)
def T_Node : u_T := fun k => match k with
  | 0 => ("PhraseShelf$Node", "kind", "I", false)
  | 1 => ("PhraseShelf$Node", "left", "LPhraseShelf$Node;", false)
  | 2 => ("PhraseShelf$Node", "right", "LPhraseShelf$Node;", false)
  | 3 => ("PhraseShelf$Node", "firstPhrase", "I", false)
  | 4 => ("PhraseShelf$Node", "phraseEnd", "I", false)
  | 5 => ("PhraseShelf$Node", "reach", "I", false)
  | 6 => ("PhraseShelf$Node", "columns", "I", false)
  | 7 => ("PhraseShelf$Node", "places", "I", false)
  | _ => ("PhraseShelf$Node", "rows", "I", false)
def ty_Node : Nat → FieldType := fun k => match k with
  | 0 => .int
  | 1 => (.object "PhraseShelf$Node")
  | 2 => (.object "PhraseShelf$Node")
  | 3 => .int
  | 4 => .int
  | 5 => .int
  | 6 => .int
  | 7 => .int
  | _ => .int
def T_Parts : u_T := fun k => match k with
  | 0 => ("PhraseShelf$Parts", "kinds", "[I", true)
  | 1 => ("PhraseShelf$Parts", "starts", "[I", true)
  | 2 => ("PhraseShelf$Parts", "ends", "[I", true)
  | 3 => ("PhraseShelf$Parts", "letters", "[C", false)
  | _ => ("PhraseShelf$Parts", "length", "I", false)
def ty_Parts : Nat → FieldType := fun k => match k with
  | 0 => (.array .int)
  | 1 => (.array .int)
  | 2 => (.array .int)
  | 3 => (.array .char)
  | _ => .int
def T_Phrase : u_T := fun k => match k with
  | 0 => ("PhraseShelf$Phrase", "first", "I", false)
  | 1 => ("PhraseShelf$Phrase", "size", "I", false)
  | _ => ("PhraseShelf$Phrase", "beginning", "Z", false)
def ty_Phrase : Nat → FieldType := fun k => match k with
  | 0 => .int
  | 1 => .int
  | _ => .boolean
def T_Question : u_T := fun k => match k with
  | 0 => ("PhraseShelf$Question", "tokens", "LPhraseShelf$Tokens;", true)
  | 1 => ("PhraseShelf$Question", "phrases", "[LPhraseShelf$Phrase;", true)
  | 2 => ("PhraseShelf$Question", "nodes", "[LPhraseShelf$Node;", true)
  | 3 => ("PhraseShelf$Question", "phraseCount", "I", false)
  | 4 => ("PhraseShelf$Question", "nodeCount", "I", false)
  | 5 => ("PhraseShelf$Question", "wrongPlace", "I", false)
  | 6 => ("PhraseShelf$Question", "parts", "LPhraseShelf$Parts;", true)
  | 7 => ("PhraseShelf$Question", "letters", "[C", false)
  | _ => ("PhraseShelf$Question", "at", "I", false)
def ty_Question : Nat → FieldType := fun k => match k with
  | 0 => (.object "PhraseShelf$Tokens")
  | 1 => (.array (.object "PhraseShelf$Phrase"))
  | 2 => (.array (.object "PhraseShelf$Node"))
  | 3 => .int
  | 4 => .int
  | 5 => .int
  | 6 => (.object "PhraseShelf$Parts")
  | 7 => (.array .char)
  | _ => .int
def T_Segment : u_T := fun k => match k with
  | 0 => ("PhraseShelf$Segment", "level", "I", true)
  | 1 => ("PhraseShelf$Segment", "versions", "[LPhraseShelf$Version;", true)
  | _ => ("PhraseShelf$Segment", "entries", "I", true)
def ty_Segment : Nat → FieldType := fun k => match k with
  | 0 => .int
  | 1 => (.array (.object "PhraseShelf$Version"))
  | _ => .int
def T_Standing : u_T := fun k => match k with
  | 0 => ("PhraseShelf$Standing", "places", "[I", true)
  | _ => ("PhraseShelf$Standing", "question", "LPhraseShelf$Question;", false)
def ty_Standing : Nat → FieldType := fun k => match k with
  | 0 => (.array .int)
  | _ => (.object "PhraseShelf$Question")
def T_Store : u_T := fun k => match k with
  | 0 => ("PhraseShelf$Store", "rows", "[LPhraseShelf$Version;", true)
  | 1 => ("PhraseShelf$Store", "pending", "[LPhraseShelf$Version;", true)
  | 2 => ("PhraseShelf$Store", "segments", "[LPhraseShelf$Segment;", true)
  | 3 => ("PhraseShelf$Store", "live", "[LPhraseShelf$Version;", true)
  | 4 => ("PhraseShelf$Store", "pendingCount", "I", false)
  | 5 => ("PhraseShelf$Store", "pendingEntries", "I", false)
  | 6 => ("PhraseShelf$Store", "segmentCount", "I", false)
  | 7 => ("PhraseShelf$Store", "versionsMade", "I", false)
  | 8 => ("PhraseShelf$Store", "segmentsMade", "I", false)
  | _ => ("PhraseShelf$Store", "liveCount", "I", false)
def ty_Store : Nat → FieldType := fun k => match k with
  | 0 => (.array (.object "PhraseShelf$Version"))
  | 1 => (.array (.object "PhraseShelf$Version"))
  | 2 => (.array (.object "PhraseShelf$Segment"))
  | 3 => (.array (.object "PhraseShelf$Version"))
  | 4 => .int
  | 5 => .int
  | 6 => .int
  | 7 => .int
  | 8 => .int
  | _ => .int
def T_Tokens : u_T := fun k => match k with
  | 0 => ("PhraseShelf$Tokens", "letters", "[C", true)
  | 1 => ("PhraseShelf$Tokens", "starts", "[I", true)
  | _ => ("PhraseShelf$Tokens", "count", "I", false)
def ty_Tokens : Nat → FieldType := fun k => match k with
  | 0 => (.array .char)
  | 1 => (.array .int)
  | _ => .int
def T_Version : u_T := fun k => match k with
  | 0 => ("PhraseShelf$Version", "number", "I", true)
  | 1 => ("PhraseShelf$Version", "row", "I", true)
  | 2 => ("PhraseShelf$Version", "first", "LPhraseShelf$Tokens;", true)
  | 3 => ("PhraseShelf$Version", "second", "LPhraseShelf$Tokens;", true)
  | _ => ("PhraseShelf$Version", "entries", "I", true)
def ty_Version : Nat → FieldType := fun k => match k with
  | 0 => .int
  | 1 => .int
  | 2 => (.object "PhraseShelf$Tokens")
  | 3 => (.object "PhraseShelf$Tokens")
  | _ => .int
def T_Model : u_T := fun k => match k with
  | 0 => ("PhraseShelfModel", "err", "I", false)
  | 1 => ("PhraseShelfModel", "most", "I", false)
  | 2 => ("PhraseShelfModel", "limit", "I", false)
  | 3 => ("PhraseShelfModel", "draft", "[I", true)
  | 4 => ("PhraseShelfModel", "asked", "[I", true)
  | 5 => ("PhraseShelfModel", "prepared", "[I", true)
  | 6 => ("PhraseShelfModel", "preparedSize", "[I", true)
  | 7 => ("PhraseShelfModel", "texts", "[I", true)
  | 8 => ("PhraseShelfModel", "sizes", "[I", true)
  | 9 => ("PhraseShelfModel", "weights", "[I", true)
  | 10 => ("PhraseShelfModel", "drafted", "I", false)
  | 11 => ("PhraseShelfModel", "askedSize", "I", false)
  | 12 => ("PhraseShelfModel", "entries", "[I", true)
  | 13 => ("PhraseShelfModel", "lies", "[I", true)
  | 14 => ("PhraseShelfModel", "live", "[I", true)
  | 15 => ("PhraseShelfModel", "versions", "I", false)
  | 16 => ("PhraseShelfModel", "made", "I", false)
  | 17 => ("PhraseShelfModel", "row", "[I", true)
  | 18 => ("PhraseShelfModel", "level", "[I", true)
  | 19 => ("PhraseShelfModel", "segments", "I", false)
  | 20 => ("PhraseShelfModel", "open", "Z", false)
  | 21 => ("PhraseShelfModel", "oldTexts", "[I", true)
  | 22 => ("PhraseShelfModel", "oldSizes", "[I", true)
  | 23 => ("PhraseShelfModel", "oldLies", "[I", true)
  | 24 => ("PhraseShelfModel", "oldLive", "[I", true)
  | 25 => ("PhraseShelfModel", "oldRow", "[I", true)
  | 26 => ("PhraseShelfModel", "oldVersions", "I", false)
  | 27 => ("PhraseShelfModel", "oldSegments", "I", false)
  | 28 => ("PhraseShelfModel", "at", "I", false)
  | 29 => ("PhraseShelfModel", "kind", "I", false)
  | 30 => ("PhraseShelfModel", "from", "I", false)
  | 31 => ("PhraseShelfModel", "to", "I", false)
  | 32 => ("PhraseShelfModel", "wrongAt", "I", false)
  | 33 => ("PhraseShelfModel", "bad", "I", false)
  | 34 => ("PhraseShelfModel", "phrases", "I", false)
  | 35 => ("PhraseShelfModel", "tokens", "I", false)
  | 36 => ("PhraseShelfModel", "groups", "I", false)
  | 37 => ("PhraseShelfModel", "outs", "I", false)
  | 38 => ("PhraseShelfModel", "tops", "I", false)
  | 39 => ("PhraseShelfModel", "mask", "I", false)
  | 40 => ("PhraseShelfModel", "good", "I", false)
  | 41 => ("PhraseShelfModel", "firstToken", "[I", true)
  | 42 => ("PhraseShelfModel", "starred", "[I", true)
  | 43 => ("PhraseShelfModel", "tokenAt", "[I", true)
  | 44 => ("PhraseShelfModel", "tokenSize", "[I", true)
  | 45 => ("PhraseShelfModel", "groupKind", "[I", true)
  | 46 => ("PhraseShelfModel", "groupPhrase", "[I", true)
  | 47 => ("PhraseShelfModel", "groupSize", "[I", true)
  | 48 => ("PhraseShelfModel", "groupMask", "[I", true)
  | 49 => ("PhraseShelfModel", "groupFar", "[I", true)
  | 50 => ("PhraseShelfModel", "out", "[I", true)
  | 51 => ("PhraseShelfModel", "top", "[I", true)
  | 52 => ("PhraseShelfModel", "masks", "[I", true)
  | 53 => ("PhraseShelfModel", "begins", "[I", true)
  | 54 => ("PhraseShelfModel", "lasts", "[I", true)
  | 55 => ("PhraseShelfModel", "column", "I", false)
  | 56 => ("PhraseShelfModel", "found", "I", false)
  | 57 => ("PhraseShelfModel", "truth", "[Z", true)
  | 58 => ("PhraseShelfModel", "answers", "[I", true)
  | 59 => ("PhraseShelfModel", "order", "[I", true)
  | 60 => ("PhraseShelfModel", "scores", "[D", true)
  | _ => ("PhraseShelfModel", "behind", "Z", false)
def ty_Model : Nat → FieldType := fun k => match k with
  | 0 => .int
  | 1 => .int
  | 2 => .int
  | 3 => (.array .int)
  | 4 => (.array .int)
  | 5 => (.array .int)
  | 6 => (.array .int)
  | 7 => (.array .int)
  | 8 => (.array .int)
  | 9 => (.array .int)
  | 10 => .int
  | 11 => .int
  | 12 => (.array .int)
  | 13 => (.array .int)
  | 14 => (.array .int)
  | 15 => .int
  | 16 => .int
  | 17 => (.array .int)
  | 18 => (.array .int)
  | 19 => .int
  | 20 => .boolean
  | 21 => (.array .int)
  | 22 => (.array .int)
  | 23 => (.array .int)
  | 24 => (.array .int)
  | 25 => (.array .int)
  | 26 => .int
  | 27 => .int
  | 28 => .int
  | 29 => .int
  | 30 => .int
  | 31 => .int
  | 32 => .int
  | 33 => .int
  | 34 => .int
  | 35 => .int
  | 36 => .int
  | 37 => .int
  | 38 => .int
  | 39 => .int
  | 40 => .int
  | 41 => (.array .int)
  | 42 => (.array .int)
  | 43 => (.array .int)
  | 44 => (.array .int)
  | 45 => (.array .int)
  | 46 => (.array .int)
  | 47 => (.array .int)
  | 48 => (.array .int)
  | 49 => (.array .int)
  | 50 => (.array .int)
  | 51 => (.array .int)
  | 52 => (.array .int)
  | 53 => (.array .int)
  | 54 => (.array .int)
  | 55 => .int
  | 56 => .int
  | 57 => (.array .boolean)
  | 58 => (.array .int)
  | 59 => (.array .int)
  | 60 => (.array .double)
  | _ => .boolean
abbrev vwCl : List vw_C := [("PhraseShelf", T_Shelf, 14), ("PhraseShelf$Answers", T_Answers, 5), ("PhraseShelf$Node", T_Node, 9), ("PhraseShelf$Parts", T_Parts, 5), ("PhraseShelf$Phrase", T_Phrase, 3), ("PhraseShelf$Question", T_Question, 9), ("PhraseShelf$Segment", T_Segment, 3), ("PhraseShelf$Standing", T_Standing, 2), ("PhraseShelf$Store", T_Store, 10), ("PhraseShelf$Tokens", T_Tokens, 3), ("PhraseShelf$Version", T_Version, 5), ("PhraseShelfModel", T_Model, 62)]
def xw_fty (ci : Nat) : Nat → FieldType := match ci with
  | 0 => ty_Shelf
  | 1 => ty_Answers
  | 2 => ty_Node
  | 3 => ty_Parts
  | 4 => ty_Phrase
  | 5 => ty_Question
  | 6 => ty_Segment
  | 7 => ty_Standing
  | 8 => ty_Store
  | 9 => ty_Tokens
  | 10 => ty_Version
  | _ => ty_Model
theorem nm_Shelf : ∀ a, a < 14 → ∀ b, b < 14 → a ≠ b → (T_Shelf a).2.1 ≠ (T_Shelf b).2.1 := by decide +kernel
theorem ty_Shelf_ok : ∀ k, k < 14 → parseFieldDescriptor (T_Shelf k).2.2.1 = some (ty_Shelf k) := by decide +kernel
theorem ly_Shelf : ∀ w ∈ u_ws "PhraseShelf" T_Shelf 14, w ∈ xw_tbl := by
  intro w hw
  have h : ∀ k, k < 14 → lw_tbl[([371, 373, 375, 377, 379, 381, 383, 385, 387, 389, 391, 393, 395, 397] : List Nat).getD k 0]? = some (u_lay "PhraseShelf" T_Shelf k) ∧ goodWord (u_lay "PhraseShelf" T_Shelf k) = true := by decide +kernel
  obtain ⟨k, hk, rfl⟩ := List.mem_map.mp hw
  obtain ⟨h1, h2⟩ := h k (List.mem_range.mp hk)
  exact xw_in _ h1 h2
theorem nm_Answers : ∀ a, a < 5 → ∀ b, b < 5 → a ≠ b → (T_Answers a).2.1 ≠ (T_Answers b).2.1 := by decide +kernel
theorem ty_Answers_ok : ∀ k, k < 5 → parseFieldDescriptor (T_Answers k).2.2.1 = some (ty_Answers k) := by decide +kernel
theorem ly_Answers : ∀ w ∈ u_ws "PhraseShelf$Answers" T_Answers 5, w ∈ xw_tbl := by
  intro w hw
  have h : ∀ k, k < 5 → lw_tbl[([344, 346, 348, 350, 352] : List Nat).getD k 0]? = some (u_lay "PhraseShelf$Answers" T_Answers k) ∧ goodWord (u_lay "PhraseShelf$Answers" T_Answers k) = true := by decide +kernel
  obtain ⟨k, hk, rfl⟩ := List.mem_map.mp hw
  obtain ⟨h1, h2⟩ := h k (List.mem_range.mp hk)
  exact xw_in _ h1 h2
theorem nm_Node : ∀ a, a < 9 → ∀ b, b < 9 → a ≠ b → (T_Node a).2.1 ≠ (T_Node b).2.1 := by decide +kernel
theorem ty_Node_ok : ∀ k, k < 9 → parseFieldDescriptor (T_Node k).2.2.1 = some (ty_Node k) := by decide +kernel
theorem ly_Node : ∀ w ∈ u_ws "PhraseShelf$Node" T_Node 9, w ∈ xw_tbl := by
  intro w hw
  have h : ∀ k, k < 9 → lw_tbl[([263, 265, 267, 269, 271, 273, 275, 277, 279] : List Nat).getD k 0]? = some (u_lay "PhraseShelf$Node" T_Node k) ∧ goodWord (u_lay "PhraseShelf$Node" T_Node k) = true := by decide +kernel
  obtain ⟨k, hk, rfl⟩ := List.mem_map.mp hw
  obtain ⟨h1, h2⟩ := h k (List.mem_range.mp hk)
  exact xw_in _ h1 h2
theorem nm_Parts : ∀ a, a < 5 → ∀ b, b < 5 → a ≠ b → (T_Parts a).2.1 ≠ (T_Parts b).2.1 := by decide +kernel
theorem ty_Parts_ok : ∀ k, k < 5 → parseFieldDescriptor (T_Parts k).2.2.1 = some (ty_Parts k) := by decide +kernel
theorem ly_Parts : ∀ w ∈ u_ws "PhraseShelf$Parts" T_Parts 5, w ∈ xw_tbl := by
  intro w hw
  have h : ∀ k, k < 5 → lw_tbl[([212, 214, 216, 218, 220] : List Nat).getD k 0]? = some (u_lay "PhraseShelf$Parts" T_Parts k) ∧ goodWord (u_lay "PhraseShelf$Parts" T_Parts k) = true := by decide +kernel
  obtain ⟨k, hk, rfl⟩ := List.mem_map.mp hw
  obtain ⟨h1, h2⟩ := h k (List.mem_range.mp hk)
  exact xw_in _ h1 h2
theorem nm_Phrase : ∀ a, a < 3 → ∀ b, b < 3 → a ≠ b → (T_Phrase a).2.1 ≠ (T_Phrase b).2.1 := by decide +kernel
theorem ty_Phrase_ok : ∀ k, k < 3 → parseFieldDescriptor (T_Phrase k).2.2.1 = some (ty_Phrase k) := by decide +kernel
theorem ly_Phrase : ∀ w ∈ u_ws "PhraseShelf$Phrase" T_Phrase 3, w ∈ xw_tbl := by
  intro w hw
  have h : ∀ k, k < 3 → lw_tbl[([234, 236, 238] : List Nat).getD k 0]? = some (u_lay "PhraseShelf$Phrase" T_Phrase k) ∧ goodWord (u_lay "PhraseShelf$Phrase" T_Phrase k) = true := by decide +kernel
  obtain ⟨k, hk, rfl⟩ := List.mem_map.mp hw
  obtain ⟨h1, h2⟩ := h k (List.mem_range.mp hk)
  exact xw_in _ h1 h2
theorem nm_Question : ∀ a, a < 9 → ∀ b, b < 9 → a ≠ b → (T_Question a).2.1 ≠ (T_Question b).2.1 := by decide +kernel
theorem ty_Question_ok : ∀ k, k < 9 → parseFieldDescriptor (T_Question k).2.2.1 = some (ty_Question k) := by decide +kernel
theorem ly_Question : ∀ w ∈ u_ws "PhraseShelf$Question" T_Question 9, w ∈ xw_tbl := by
  intro w hw
  have h : ∀ k, k < 9 → lw_tbl[([298, 300, 302, 304, 306, 308, 310, 312, 314] : List Nat).getD k 0]? = some (u_lay "PhraseShelf$Question" T_Question k) ∧ goodWord (u_lay "PhraseShelf$Question" T_Question k) = true := by decide +kernel
  obtain ⟨k, hk, rfl⟩ := List.mem_map.mp hw
  obtain ⟨h1, h2⟩ := h k (List.mem_range.mp hk)
  exact xw_in _ h1 h2
theorem nm_Segment : ∀ a, a < 3 → ∀ b, b < 3 → a ≠ b → (T_Segment a).2.1 ≠ (T_Segment b).2.1 := by decide +kernel
theorem ty_Segment_ok : ∀ k, k < 3 → parseFieldDescriptor (T_Segment k).2.2.1 = some (ty_Segment k) := by decide +kernel
theorem ly_Segment : ∀ w ∈ u_ws "PhraseShelf$Segment" T_Segment 3, w ∈ xw_tbl := by
  intro w hw
  have h : ∀ k, k < 3 → lw_tbl[([434, 436, 438] : List Nat).getD k 0]? = some (u_lay "PhraseShelf$Segment" T_Segment k) ∧ goodWord (u_lay "PhraseShelf$Segment" T_Segment k) = true := by decide +kernel
  obtain ⟨k, hk, rfl⟩ := List.mem_map.mp hw
  obtain ⟨h1, h2⟩ := h k (List.mem_range.mp hk)
  exact xw_in _ h1 h2
theorem nm_Standing : ∀ a, a < 2 → ∀ b, b < 2 → a ≠ b → (T_Standing a).2.1 ≠ (T_Standing b).2.1 := by decide +kernel
theorem ty_Standing_ok : ∀ k, k < 2 → parseFieldDescriptor (T_Standing k).2.2.1 = some (ty_Standing k) := by decide +kernel
theorem ly_Standing : ∀ w ∈ u_ws "PhraseShelf$Standing" T_Standing 2, w ∈ xw_tbl := by
  intro w hw
  have h : ∀ k, k < 2 → lw_tbl[([325, 327] : List Nat).getD k 0]? = some (u_lay "PhraseShelf$Standing" T_Standing k) ∧ goodWord (u_lay "PhraseShelf$Standing" T_Standing k) = true := by decide +kernel
  obtain ⟨k, hk, rfl⟩ := List.mem_map.mp hw
  obtain ⟨h1, h2⟩ := h k (List.mem_range.mp hk)
  exact xw_in _ h1 h2
theorem nm_Store : ∀ a, a < 10 → ∀ b, b < 10 → a ≠ b → (T_Store a).2.1 ≠ (T_Store b).2.1 := by decide +kernel
theorem ty_Store_ok : ∀ k, k < 10 → parseFieldDescriptor (T_Store k).2.2.1 = some (ty_Store k) := by decide +kernel
theorem ly_Store : ∀ w ∈ u_ws "PhraseShelf$Store" T_Store 10, w ∈ xw_tbl := by
  intro w hw
  have h : ∀ k, k < 10 → lw_tbl[([145, 147, 149, 151, 153, 155, 157, 159, 161, 163] : List Nat).getD k 0]? = some (u_lay "PhraseShelf$Store" T_Store k) ∧ goodWord (u_lay "PhraseShelf$Store" T_Store k) = true := by decide +kernel
  obtain ⟨k, hk, rfl⟩ := List.mem_map.mp hw
  obtain ⟨h1, h2⟩ := h k (List.mem_range.mp hk)
  exact xw_in _ h1 h2
theorem nm_Tokens : ∀ a, a < 3 → ∀ b, b < 3 → a ≠ b → (T_Tokens a).2.1 ≠ (T_Tokens b).2.1 := by decide +kernel
theorem ty_Tokens_ok : ∀ k, k < 3 → parseFieldDescriptor (T_Tokens k).2.2.1 = some (ty_Tokens k) := by decide +kernel
theorem ly_Tokens : ∀ w ∈ u_ws "PhraseShelf$Tokens" T_Tokens 3, w ∈ xw_tbl := by
  intro w hw
  have h : ∀ k, k < 3 → lw_tbl[([187, 189, 191] : List Nat).getD k 0]? = some (u_lay "PhraseShelf$Tokens" T_Tokens k) ∧ goodWord (u_lay "PhraseShelf$Tokens" T_Tokens k) = true := by decide +kernel
  obtain ⟨k, hk, rfl⟩ := List.mem_map.mp hw
  obtain ⟨h1, h2⟩ := h k (List.mem_range.mp hk)
  exact xw_in _ h1 h2
theorem nm_Version : ∀ a, a < 5 → ∀ b, b < 5 → a ≠ b → (T_Version a).2.1 ≠ (T_Version b).2.1 := by decide +kernel
theorem ty_Version_ok : ∀ k, k < 5 → parseFieldDescriptor (T_Version k).2.2.1 = some (ty_Version k) := by decide +kernel
theorem ly_Version : ∀ w ∈ u_ws "PhraseShelf$Version" T_Version 5, w ∈ xw_tbl := by
  intro w hw
  have h : ∀ k, k < 5 → lw_tbl[([643, 645, 647, 649, 651] : List Nat).getD k 0]? = some (u_lay "PhraseShelf$Version" T_Version k) ∧ goodWord (u_lay "PhraseShelf$Version" T_Version k) = true := by decide +kernel
  obtain ⟨k, hk, rfl⟩ := List.mem_map.mp hw
  obtain ⟨h1, h2⟩ := h k (List.mem_range.mp hk)
  exact xw_in _ h1 h2
theorem nm_Model : ∀ a, a < 62 → ∀ b, b < 62 → a ≠ b → (T_Model a).2.1 ≠ (T_Model b).2.1 := by decide +kernel
theorem ty_Model_ok : ∀ k, k < 62 → parseFieldDescriptor (T_Model k).2.2.1 = some (ty_Model k) := by decide +kernel
theorem ly_Model : ∀ w ∈ u_ws "PhraseShelfModel" T_Model 62, w ∈ xw_tbl := by
  intro w hw
  have h : ∀ k, k < 62 → lw_tbl[([1213, 1215, 1217, 1219, 1221, 1223, 1225, 1227, 1229, 1231, 1233, 1235, 1237, 1239, 1241, 1243, 1245, 1247, 1249, 1251, 1253, 1255, 1257, 1259, 1261, 1263, 1265, 1267, 1269, 1271, 1273, 1275, 1277, 1279, 1281, 1283, 1285, 1287, 1289, 1291, 1293, 1295, 1297, 1299, 1301, 1303, 1305, 1307, 1309, 1311, 1313, 1315, 1317, 1319, 1321, 1323, 1325, 1327, 1329, 1331, 1333, 1335] : List Nat).getD k 0]? = some (u_lay "PhraseShelfModel" T_Model k) ∧ goodWord (u_lay "PhraseShelfModel" T_Model k) = true := by decide +kernel
  obtain ⟨k, hk, rfl⟩ := List.mem_map.mp hw
  obtain ⟨h1, h2⟩ := h k (List.mem_range.mp hk)
  exact xw_in _ h1 h2
def xw_cl (ci : Nat) : vw_C := vwCl.getD ci ("", fun _ => ("", "", "", false), 0)
theorem xw_lays : ∀ ci : Nat, ci < vwCl.length → ∀ w ∈ u_ws (xw_cl ci).1 (xw_cl ci).2.1 (xw_cl ci).2.2, w ∈ xw_tbl := by
  intro ci hci
  match ci, hci with
  | 0, _ => exact ly_Shelf
  | 1, _ => exact ly_Answers
  | 2, _ => exact ly_Node
  | 3, _ => exact ly_Parts
  | 4, _ => exact ly_Phrase
  | 5, _ => exact ly_Question
  | 6, _ => exact ly_Segment
  | 7, _ => exact ly_Standing
  | 8, _ => exact ly_Store
  | 9, _ => exact ly_Tokens
  | 10, _ => exact ly_Version
  | 11, _ => exact ly_Model
  | n + 12, h => exact absurd h (by simp [vwCl])
theorem xw_fty_ok : ∀ ci : Nat, ci < vwCl.length → ∀ k, k < (xw_cl ci).2.2 → parseFieldDescriptor ((xw_cl ci).2.1 k).2.2.1 = some (xw_fty ci k) := by
  intro ci hci
  match ci, hci with
  | 0, _ => exact ty_Shelf_ok
  | 1, _ => exact ty_Answers_ok
  | 2, _ => exact ty_Node_ok
  | 3, _ => exact ty_Parts_ok
  | 4, _ => exact ty_Phrase_ok
  | 5, _ => exact ty_Question_ok
  | 6, _ => exact ty_Segment_ok
  | 7, _ => exact ty_Standing_ok
  | 8, _ => exact ty_Store_ok
  | 9, _ => exact ty_Tokens_ok
  | 10, _ => exact ty_Version_ok
  | 11, _ => exact ty_Model_ok
  | n + 12, h => exact absurd h (by simp [vwCl])
theorem xw_fnm : ∀ ci : Nat, ci < vwCl.length → ∀ a, a < (xw_cl ci).2.2 → ∀ b, b < (xw_cl ci).2.2 → a ≠ b → ((xw_cl ci).2.1 a).2.1 ≠ ((xw_cl ci).2.1 b).2.1 := by
  intro ci hci
  match ci, hci with
  | 0, _ => exact nm_Shelf
  | 1, _ => exact nm_Answers
  | 2, _ => exact nm_Node
  | 3, _ => exact nm_Parts
  | 4, _ => exact nm_Phrase
  | 5, _ => exact nm_Question
  | 6, _ => exact nm_Segment
  | 7, _ => exact nm_Standing
  | 8, _ => exact nm_Store
  | 9, _ => exact nm_Tokens
  | 10, _ => exact nm_Version
  | 11, _ => exact nm_Model
  | n + 12, h => exact absurd h (by simp [vwCl])
theorem xw_cl_get {ci : Nat} (h : ci < vwCl.length) : vwCl[ci]? = some ((xw_cl ci).1, (xw_cl ci).2.1, (xw_cl ci).2.2) := by
  rw [List.getElem?_eq_getElem h]
  simp only [xw_cl, List.getD_eq_getElem?_getD, List.getElem?_eq_getElem h, Option.getD_some]
abbrev xw_M : Type := MethodName × ByteArray × Nat × Option FieldType × List (Nat × Nat × Nat × Nat)
abbrev m_Shelf_init : xw_M := (⟨"PhraseShelf", "<init>", "()V"⟩, prog_1_method_1_code, 2, (Option.none : Option Jvm.ClassFile.FieldType), [])
abbrev m_Store_init : xw_M := (⟨"PhraseShelf$Store", "<init>", "()V"⟩, prog_9_method_1_code, 1, (Option.none : Option Jvm.ClassFile.FieldType), [])
abbrev m_Question_init : xw_M := (⟨"PhraseShelf$Question", "<init>", "()V"⟩, prog_6_method_1_code, 2, (Option.none : Option Jvm.ClassFile.FieldType), [])
abbrev m_Tokens_init : xw_M := (⟨"PhraseShelf$Tokens", "<init>", "(I)V"⟩, prog_10_method_1_code, 2, (Option.none : Option Jvm.ClassFile.FieldType), [])
abbrev m_Parts_init : xw_M := (⟨"PhraseShelf$Parts", "<init>", "()V"⟩, prog_4_method_1_code, 1, (Option.none : Option Jvm.ClassFile.FieldType), [])
abbrev m_Phrase_init : xw_M := (⟨"PhraseShelf$Phrase", "<init>", "()V"⟩, prog_5_method_1_code, 1, (Option.none : Option Jvm.ClassFile.FieldType), [])
abbrev m_Node_init : xw_M := (⟨"PhraseShelf$Node", "<init>", "()V"⟩, prog_3_method_1_code, 1, (Option.none : Option Jvm.ClassFile.FieldType), [])
abbrev m_Standing_init : xw_M := (⟨"PhraseShelf$Standing", "<init>", "()V"⟩, prog_8_method_1_code, 1, (Option.none : Option Jvm.ClassFile.FieldType), [])
abbrev m_Answers_init : xw_M := (⟨"PhraseShelf$Answers", "<init>", "()V"⟩, prog_2_method_1_code, 1, (Option.none : Option Jvm.ClassFile.FieldType), [])
abbrev m_Shelf_drop : xw_M := (⟨"PhraseShelf", "drop", "()I"⟩, prog_1_method_3_code, 2, (Option.some Jvm.ClassFile.FieldType.int), [])
abbrev m_Shelf_flush : xw_M := (⟨"PhraseShelf", "flush", "()I"⟩, prog_1_method_11_code, 1, (Option.some Jvm.ClassFile.FieldType.int), [])
abbrev m_Store_flushPending : xw_M := (⟨"PhraseShelf$Store", "flushPending", "(I)V"⟩, prog_9_method_8_code, 3, (Option.none : Option Jvm.ClassFile.FieldType), [])
abbrev m_Store_gatherLive : xw_M := (⟨"PhraseShelf$Store", "gatherLive", "(LPhraseShelf$Version;)V"⟩, prog_9_method_13_code, 4, (Option.none : Option Jvm.ClassFile.FieldType), [])
abbrev m_Store_addSegment : xw_M := (⟨"PhraseShelf$Store", "addSegment", "(I)V"⟩, prog_9_method_14_code, 2, (Option.none : Option Jvm.ClassFile.FieldType), [])
abbrev m_Segment_init : xw_M := (⟨"PhraseShelf$Segment", "<init>", "(I[LPhraseShelf$Version;I)V"⟩, prog_7_method_1_code, 6, (Option.none : Option Jvm.ClassFile.FieldType), [])
abbrev m_Store_segmentsOf : xw_M := (⟨"PhraseShelf$Store", "segmentsOf", "(I)I"⟩, prog_9_method_10_code, 4, (Option.some Jvm.ClassFile.FieldType.int), [])
abbrev m_Store_mergeLevels : xw_M := (⟨"PhraseShelf$Store", "mergeLevels", "(III)V"⟩, prog_9_method_11_code, 7, (Option.none : Option Jvm.ClassFile.FieldType), [])
abbrev m_Store_gatherAllLive : xw_M := (⟨"PhraseShelf$Store", "gatherAllLive", "(LPhraseShelf$Segment;)V"⟩, prog_9_method_12_code, 3, (Option.none : Option Jvm.ClassFile.FieldType), [])
abbrev m_Shelf_optimize : xw_M := (⟨"PhraseShelf", "optimize", "()I"⟩, prog_1_method_12_code, 1, (Option.some Jvm.ClassFile.FieldType.int), [])
abbrev m_Store_mergeAll : xw_M := (⟨"PhraseShelf$Store", "mergeAll", "()I"⟩, prog_9_method_9_code, 4, (Option.some Jvm.ClassFile.FieldType.int), [])
abbrev m_Shelf_wrong : xw_M := (⟨"PhraseShelf", "wrong", "()I"⟩, prog_1_method_16_code, 1, (Option.some Jvm.ClassFile.FieldType.int), [])
abbrev m_Shelf_letters : xw_M := (⟨"PhraseShelf", "letters", "(J)I"⟩, prog_1_method_2_code, 5, (Option.some Jvm.ClassFile.FieldType.int), [])
abbrev m_Shelf_lettersIn : xw_M := (⟨"PhraseShelf", "lettersIn", "(J)I"⟩, prog_1_method_23_code, 4, (Option.some Jvm.ClassFile.FieldType.int), [])
abbrev m_Shelf_octet : xw_M := (⟨"PhraseShelf", "octet", "(JI)I"⟩, prog_1_method_24_code, 3, (Option.some Jvm.ClassFile.FieldType.int), [])
abbrev m_Shelf_set : xw_M := (⟨"PhraseShelf", "set", "(I)I"⟩, prog_1_method_4_code, 3, (Option.some Jvm.ClassFile.FieldType.int), [])
abbrev m_Shelf_isColumn : xw_M := (⟨"PhraseShelf", "isColumn", "(I)Z"⟩, prog_1_method_25_code, 1, (Option.some Jvm.ClassFile.FieldType.boolean), [])
abbrev m_Tokens_gather : xw_M := (⟨"PhraseShelf$Tokens", "gather", "([CII)V"⟩, prog_10_method_2_code, 7, (Option.none : Option Jvm.ClassFile.FieldType), [])
abbrev m_Shelf_isWord : xw_M := (⟨"PhraseShelf", "isWord", "(C)Z"⟩, prog_1_method_26_code, 1, (Option.some Jvm.ClassFile.FieldType.boolean), [])
abbrev m_Tokens_addLetter : xw_M := (⟨"PhraseShelf$Tokens", "addLetter", "(C)V"⟩, prog_10_method_3_code, 3, (Option.none : Option Jvm.ClassFile.FieldType), [])
abbrev m_Shelf_insert : xw_M := (⟨"PhraseShelf", "insert", "()I"⟩, prog_1_method_5_code, 2, (Option.some Jvm.ClassFile.FieldType.int), [])
abbrev m_Store_freeRow : xw_M := (⟨"PhraseShelf$Store", "freeRow", "()I"⟩, prog_9_method_5_code, 2, (Option.some Jvm.ClassFile.FieldType.int), [])
abbrev m_Shelf_giveTexts : xw_M := (⟨"PhraseShelf", "giveTexts", "(I)I"⟩, prog_1_method_22_code, 3, (Option.some Jvm.ClassFile.FieldType.int), [])
abbrev m_Store_putVersion : xw_M := (⟨"PhraseShelf$Store", "putVersion", "(ILPhraseShelf$Tokens;LPhraseShelf$Tokens;)I"⟩, prog_9_method_7_code, 6, (Option.some Jvm.ClassFile.FieldType.int), [])
abbrev m_Tokens_different : xw_M := (⟨"PhraseShelf$Tokens", "different", "()I"⟩, prog_10_method_6_code, 3, (Option.some Jvm.ClassFile.FieldType.int), [])
abbrev m_Tokens_isEarlier : xw_M := (⟨"PhraseShelf$Tokens", "isEarlier", "(I)Z"⟩, prog_10_method_7_code, 3, (Option.some Jvm.ClassFile.FieldType.boolean), [])
abbrev m_Tokens_fits : xw_M := (⟨"PhraseShelf$Tokens", "fits", "(ILPhraseShelf$Tokens;IZ)Z"⟩, prog_10_method_5_code, 8, (Option.some Jvm.ClassFile.FieldType.boolean), [])
abbrev m_Tokens_lengthOf : xw_M := (⟨"PhraseShelf$Tokens", "lengthOf", "(I)I"⟩, prog_10_method_4_code, 2, (Option.some Jvm.ClassFile.FieldType.int), [])
abbrev m_Version_init : xw_M := (⟨"PhraseShelf$Version", "<init>", "(IILPhraseShelf$Tokens;LPhraseShelf$Tokens;I)V"⟩, prog_11_method_1_code, 6, (Option.none : Option Jvm.ClassFile.FieldType), [])
abbrev m_Shelf_replace : xw_M := (⟨"PhraseShelf", "replace", "(I)I"⟩, prog_1_method_6_code, 2, (Option.some Jvm.ClassFile.FieldType.int), [])
abbrev m_Store_versionOf : xw_M := (⟨"PhraseShelf$Store", "versionOf", "(I)LPhraseShelf$Version;"⟩, prog_9_method_2_code, 2, (Option.some (Jvm.ClassFile.FieldType.object "PhraseShelf$Version")), [])
abbrev m_Shelf_delete : xw_M := (⟨"PhraseShelf", "delete", "(I)I"⟩, prog_1_method_7_code, 3, (Option.some Jvm.ClassFile.FieldType.int), [])
abbrev m_Store_clearRow : xw_M := (⟨"PhraseShelf$Store", "clearRow", "(I)V"⟩, prog_9_method_6_code, 2, (Option.none : Option Jvm.ClassFile.FieldType), [])
abbrev m_Version_tokens : xw_M := (⟨"PhraseShelf$Version", "tokens", "()I"⟩, prog_11_method_3_code, 1, (Option.some Jvm.ClassFile.FieldType.int), [])
abbrev m_Shelf_begin : xw_M := (⟨"PhraseShelf", "begin", "()V"⟩, prog_1_method_8_code, 1, (Option.none : Option Jvm.ClassFile.FieldType), [])
abbrev m_Store_copyFrom : xw_M := (⟨"PhraseShelf$Store", "copyFrom", "(LPhraseShelf$Store;)V"⟩, prog_9_method_15_code, 3, (Option.none : Option Jvm.ClassFile.FieldType), [])
abbrev m_Shelf_commit : xw_M := (⟨"PhraseShelf", "commit", "()I"⟩, prog_1_method_9_code, 1, (Option.some Jvm.ClassFile.FieldType.int), [])
abbrev m_Shelf_rollback : xw_M := (⟨"PhraseShelf", "rollback", "()I"⟩, prog_1_method_10_code, 1, (Option.some Jvm.ClassFile.FieldType.int), [])
abbrev m_Store_rowCount : xw_M := (⟨"PhraseShelf$Store", "rowCount", "()I"⟩, prog_9_method_3_code, 3, (Option.some Jvm.ClassFile.FieldType.int), [])
abbrev m_Shelf_ways : xw_M := (⟨"PhraseShelf", "ways", "(II)V"⟩, prog_1_method_13_code, 3, (Option.none : Option Jvm.ClassFile.FieldType), [])
abbrev m_Shelf_weight : xw_M := (⟨"PhraseShelf", "weight", "(II)I"⟩, prog_1_method_14_code, 4, (Option.some Jvm.ClassFile.FieldType.int), [])
abbrev m_Shelf_ask : xw_M := (⟨"PhraseShelf", "ask", "()I"⟩, prog_1_method_15_code, 3, (Option.some Jvm.ClassFile.FieldType.int), [])
abbrev m_Question_read : xw_M := (⟨"PhraseShelf$Question", "read", "([CI)Z"⟩, prog_6_method_2_code, 4, (Option.some Jvm.ClassFile.FieldType.boolean), [])
abbrev m_Parts_split : xw_M := (⟨"PhraseShelf$Parts", "split", "([CI)V"⟩, prog_4_method_2_code, 5, (Option.none : Option Jvm.ClassFile.FieldType), [])
abbrev m_Parts_blanksEnd : xw_M := (⟨"PhraseShelf$Parts", "blanksEnd", "(I)I"⟩, prog_4_method_3_code, 3, (Option.some Jvm.ClassFile.FieldType.int), [])
abbrev m_Parts_readPart : xw_M := (⟨"PhraseShelf$Parts", "readPart", "(I)V"⟩, prog_4_method_4_code, 4, (Option.none : Option Jvm.ClassFile.FieldType), [])
abbrev m_Parts_wordEnd : xw_M := (⟨"PhraseShelf$Parts", "wordEnd", "(I)I"⟩, prog_4_method_5_code, 3, (Option.some Jvm.ClassFile.FieldType.int), [])
abbrev m_Parts_wordKind : xw_M := (⟨"PhraseShelf$Parts", "wordKind", "(II)I"⟩, prog_4_method_7_code, 3, (Option.some Jvm.ClassFile.FieldType.int), [])
abbrev m_Parts_isName : xw_M := (⟨"PhraseShelf$Parts", "isName", "(IILjava/lang/String;)Z"⟩, prog_4_method_8_code, 5, (Option.some Jvm.ClassFile.FieldType.boolean), [])
abbrev m_Parts_quoteEnd : xw_M := (⟨"PhraseShelf$Parts", "quoteEnd", "(I)I"⟩, prog_4_method_6_code, 3, (Option.some Jvm.ClassFile.FieldType.int), [])
abbrev m_Question_joined : xw_M := (⟨"PhraseShelf$Question", "joined", "(III)LPhraseShelf$Node;"⟩, prog_6_method_6_code, 7, (Option.some (Jvm.ClassFile.FieldType.object "PhraseShelf$Node")), [])
abbrev m_Question_operand : xw_M := (⟨"PhraseShelf$Question", "operand", "(III)LPhraseShelf$Node;"⟩, prog_6_method_7_code, 4, (Option.some (Jvm.ClassFile.FieldType.object "PhraseShelf$Node")), [])
abbrev m_Question_atom : xw_M := (⟨"PhraseShelf$Question", "atom", "(II)LPhraseShelf$Node;"⟩, prog_6_method_12_code, 3, (Option.some (Jvm.ClassFile.FieldType.object "PhraseShelf$Node")), [])
abbrev m_Question_beginsDeeper : xw_M := (⟨"PhraseShelf$Question", "beginsDeeper", "()Z"⟩, prog_6_method_10_code, 2, (Option.some Jvm.ClassFile.FieldType.boolean), [])
abbrev m_Question_kind : xw_M := (⟨"PhraseShelf$Question", "kind", "()I"⟩, prog_6_method_3_code, 1, (Option.some Jvm.ClassFile.FieldType.int), [])
abbrev m_Question_refuse : xw_M := (⟨"PhraseShelf$Question", "refuse", "()LPhraseShelf$Node;"⟩, prog_6_method_5_code, 1, (Option.some (Jvm.ClassFile.FieldType.object "PhraseShelf$Node")), [])
abbrev m_Question_deeper : xw_M := (⟨"PhraseShelf$Question", "deeper", "(II)LPhraseShelf$Node;"⟩, prog_6_method_13_code, 6, (Option.some (Jvm.ClassFile.FieldType.object "PhraseShelf$Node")), [])
abbrev m_Question_takes : xw_M := (⟨"PhraseShelf$Question", "takes", "(I)Z"⟩, prog_6_method_4_code, 2, (Option.some Jvm.ClassFile.FieldType.boolean), [])
abbrev m_Parts_columnNamed : xw_M := (⟨"PhraseShelf$Parts", "columnNamed", "(I)I"⟩, prog_4_method_9_code, 3, (Option.some Jvm.ClassFile.FieldType.int), [])
abbrev m_Question_near : xw_M := (⟨"PhraseShelf$Question", "near", "(I)LPhraseShelf$Node;"⟩, prog_6_method_15_code, 5, (Option.some (Jvm.ClassFile.FieldType.object "PhraseShelf$Node")), [])
abbrev m_Question_readPhrase : xw_M := (⟨"PhraseShelf$Question", "readPhrase", "()Z"⟩, prog_6_method_16_code, 3, (Option.some Jvm.ClassFile.FieldType.boolean), [])
abbrev m_Question_readString : xw_M := (⟨"PhraseShelf$Question", "readString", "()Z"⟩, prog_6_method_17_code, 1, (Option.some Jvm.ClassFile.FieldType.boolean), [])
abbrev m_Question_beginsString : xw_M := (⟨"PhraseShelf$Question", "beginsString", "()Z"⟩, prog_6_method_11_code, 2, (Option.some Jvm.ClassFile.FieldType.boolean), [])
abbrev m_Parts_number : xw_M := (⟨"PhraseShelf$Parts", "number", "(I)I"⟩, prog_4_method_10_code, 4, (Option.some Jvm.ClassFile.FieldType.int), [])
abbrev m_Question_group : xw_M := (⟨"PhraseShelf$Question", "group", "(IIII)LPhraseShelf$Node;"⟩, prog_6_method_18_code, 6, (Option.some (Jvm.ClassFile.FieldType.object "PhraseShelf$Node")), [])
abbrev m_Question_newNode : xw_M := (⟨"PhraseShelf$Question", "newNode", "(I)LPhraseShelf$Node;"⟩, prog_6_method_20_code, 3, (Option.some (Jvm.ClassFile.FieldType.object "PhraseShelf$Node")), [])
abbrev m_Question_single : xw_M := (⟨"PhraseShelf$Question", "single", "(I)LPhraseShelf$Node;"⟩, prog_6_method_14_code, 4, (Option.some (Jvm.ClassFile.FieldType.object "PhraseShelf$Node")), [])
abbrev m_Question_goesOn : xw_M := (⟨"PhraseShelf$Question", "goesOn", "(I)Z"⟩, prog_6_method_8_code, 2, (Option.some Jvm.ClassFile.FieldType.boolean), [])
abbrev m_Question_beginsAtom : xw_M := (⟨"PhraseShelf$Question", "beginsAtom", "()Z"⟩, prog_6_method_9_code, 2, (Option.some Jvm.ClassFile.FieldType.boolean), [])
abbrev m_Question_join : xw_M := (⟨"PhraseShelf$Question", "join", "(ILPhraseShelf$Node;LPhraseShelf$Node;)LPhraseShelf$Node;"⟩, prog_6_method_19_code, 5, (Option.some (Jvm.ClassFile.FieldType.object "PhraseShelf$Node")), [])
abbrev m_Standing_fill : xw_M := (⟨"PhraseShelf$Standing", "fill", "(LPhraseShelf$Question;LPhraseShelf$Store;)V"⟩, prog_8_method_2_code, 8, (Option.none : Option Jvm.ClassFile.FieldType), [])
abbrev m_Version_text : xw_M := (⟨"PhraseShelf$Version", "text", "(I)LPhraseShelf$Tokens;"⟩, prog_11_method_2_code, 2, (Option.some (Jvm.ClassFile.FieldType.object "PhraseShelf$Tokens")), [])
abbrev m_Standing_placesIn : xw_M := (⟨"PhraseShelf$Standing", "placesIn", "(LPhraseShelf$Phrase;LPhraseShelf$Tokens;)I"⟩, prog_8_method_5_code, 5, (Option.some Jvm.ClassFile.FieldType.int), [])
abbrev m_Standing_standsAt : xw_M := (⟨"PhraseShelf$Standing", "standsAt", "(LPhraseShelf$Phrase;LPhraseShelf$Tokens;I)Z"⟩, prog_8_method_6_code, 6, (Option.some Jvm.ClassFile.FieldType.boolean), [])
abbrev m_Standing_index : xw_M := (⟨"PhraseShelf$Standing", "index", "(III)I"⟩, prog_8_method_3_code, 3, (Option.some Jvm.ClassFile.FieldType.int), [])
abbrev m_Standing_rowsFound : xw_M := (⟨"PhraseShelf$Standing", "rowsFound", "(LPhraseShelf$Question;)I"⟩, prog_8_method_9_code, 5, (Option.some Jvm.ClassFile.FieldType.int), [])
abbrev m_Standing_rowsOfGroup : xw_M := (⟨"PhraseShelf$Standing", "rowsOfGroup", "(LPhraseShelf$Node;)I"⟩, prog_8_method_11_code, 5, (Option.some Jvm.ClassFile.FieldType.int), [])
abbrev m_Standing_holds : xw_M := (⟨"PhraseShelf$Standing", "holds", "(LPhraseShelf$Node;II)Z"⟩, prog_8_method_12_code, 5, (Option.some Jvm.ClassFile.FieldType.boolean), [])
abbrev m_Standing_placesOf : xw_M := (⟨"PhraseShelf$Standing", "placesOf", "(III)I"⟩, prog_8_method_4_code, 4, (Option.some Jvm.ClassFile.FieldType.int), [])
abbrev m_Standing_areNear : xw_M := (⟨"PhraseShelf$Standing", "areNear", "(LPhraseShelf$Node;II)Z"⟩, prog_8_method_13_code, 5, (Option.some Jvm.ClassFile.FieldType.boolean), [])
abbrev m_Standing_allReach : xw_M := (⟨"PhraseShelf$Standing", "allReach", "(LPhraseShelf$Node;III)Z"⟩, prog_8_method_14_code, 9, (Option.some Jvm.ClassFile.FieldType.boolean), [])
abbrev m_Standing_rowsOfJoin : xw_M := (⟨"PhraseShelf$Standing", "rowsOfJoin", "(LPhraseShelf$Node;)I"⟩, prog_8_method_10_code, 1, (Option.some Jvm.ClassFile.FieldType.int), [])
abbrev m_Answers_take : xw_M := (⟨"PhraseShelf$Answers", "take", "(ILPhraseShelf$Store;)V"⟩, prog_2_method_4_code, 5, (Option.none : Option Jvm.ClassFile.FieldType), [])
abbrev m_Answers_rank : xw_M := (⟨"PhraseShelf$Answers", "rank", "(LPhraseShelf$Standing;I[ILPhraseShelf$Store;)V"⟩, prog_2_method_5_code, 10, (Option.none : Option Jvm.ClassFile.FieldType), [])
abbrev m_Store_tokenCount : xw_M := (⟨"PhraseShelf$Store", "tokenCount", "()I"⟩, prog_9_method_4_code, 3, (Option.some Jvm.ClassFile.FieldType.int), [])
abbrev m_Standing_rowsWith : xw_M := (⟨"PhraseShelf$Standing", "rowsWith", "(I)I"⟩, prog_8_method_8_code, 4, (Option.some Jvm.ClassFile.FieldType.int), [])
abbrev m_Standing_standsIn : xw_M := (⟨"PhraseShelf$Standing", "standsIn", "(II)Z"⟩, prog_8_method_7_code, 3, (Option.some Jvm.ClassFile.FieldType.boolean), [])
abbrev m_Answers_rarity : xw_M := (⟨"PhraseShelf$Answers", "rarity", "(II)D"⟩, prog_2_method_7_code, 4, (Option.some Jvm.ClassFile.FieldType.double), [])
abbrev m_Answers_ln : xw_M := (⟨"PhraseShelf$Answers", "ln", "(D)D"⟩, prog_2_method_8_code, 12, (Option.some Jvm.ClassFile.FieldType.double), [])
abbrev m_Answers_addPhrase : xw_M := (⟨"PhraseShelf$Answers", "addPhrase", "(LPhraseShelf$Standing;I[IDD)V"⟩, prog_2_method_6_code, 10, (Option.none : Option Jvm.ClassFile.FieldType), [])
abbrev m_Answers_sort : xw_M := (⟨"PhraseShelf$Answers", "sort", "()V"⟩, prog_2_method_9_code, 3, (Option.none : Option Jvm.ClassFile.FieldType), [])
abbrev m_Shelf_answer : xw_M := (⟨"PhraseShelf", "answer", "(IZ)I"⟩, prog_1_method_17_code, 3, (Option.some Jvm.ClassFile.FieldType.int), [])
abbrev m_Answers_has : xw_M := (⟨"PhraseShelf$Answers", "has", "(I)Z"⟩, prog_2_method_2_code, 2, (Option.some Jvm.ClassFile.FieldType.boolean), [])
abbrev m_Answers_place : xw_M := (⟨"PhraseShelf$Answers", "place", "(IZ)I"⟩, prog_2_method_3_code, 3, (Option.some Jvm.ClassFile.FieldType.int), [])
abbrev m_Shelf_score : xw_M := (⟨"PhraseShelf", "score", "(IZ)D"⟩, prog_1_method_18_code, 3, (Option.some Jvm.ClassFile.FieldType.double), [])
abbrev m_Shelf_look : xw_M := (⟨"PhraseShelf", "look", "(II)I"⟩, prog_1_method_19_code, 4, (Option.some Jvm.ClassFile.FieldType.int), [])
abbrev m_Shelf_segment : xw_M := (⟨"PhraseShelf", "segment", "(II)I"⟩, prog_1_method_20_code, 4, (Option.some Jvm.ClassFile.FieldType.int), [])
abbrev m_Shelf_count : xw_M := (⟨"PhraseShelf", "count", "(I)I"⟩, prog_1_method_21_code, 2, (Option.some Jvm.ClassFile.FieldType.int), [])
abbrev m_Model_init : xw_M := (⟨"PhraseShelfModel", "<init>", "()V"⟩, prog_13_method_1_code, 2, (Option.none : Option Jvm.ClassFile.FieldType), [])
abbrev m_Model_thrown : xw_M := (⟨"PhraseShelfModel", "thrown", "()I"⟩, prog_13_method_2_code, 1, (Option.some Jvm.ClassFile.FieldType.int), [])
abbrev m_Model_letters : xw_M := (⟨"PhraseShelfModel", "letters", "(J)I"⟩, prog_13_method_7_code, 6, (Option.some Jvm.ClassFile.FieldType.int), [])
abbrev m_Model_in : xw_M := (⟨"PhraseShelfModel", "in", "(III)Z"⟩, prog_13_method_3_code, 3, (Option.some Jvm.ClassFile.FieldType.boolean), [])
abbrev m_Model_fails : xw_M := (⟨"PhraseShelfModel", "fails", "(ZI)Z"⟩, prog_13_method_4_code, 3, (Option.some Jvm.ClassFile.FieldType.boolean), [])
abbrev m_Model_drop : xw_M := (⟨"PhraseShelfModel", "drop", "()I"⟩, prog_13_method_8_code, 2, (Option.some Jvm.ClassFile.FieldType.int), [])
abbrev m_Model_set : xw_M := (⟨"PhraseShelfModel", "set", "(I)I"⟩, prog_13_method_9_code, 4, (Option.some Jvm.ClassFile.FieldType.int), [])
abbrev m_Model_isSign : xw_M := (⟨"PhraseShelfModel", "isSign", "(I)Z"⟩, prog_13_method_5_code, 1, (Option.some Jvm.ClassFile.FieldType.boolean), [])
abbrev m_Model_insert : xw_M := (⟨"PhraseShelfModel", "insert", "()I"⟩, prog_13_method_18_code, 2, (Option.some Jvm.ClassFile.FieldType.int), [])
abbrev m_Model_gets : xw_M := (⟨"PhraseShelfModel", "gets", "(I)I"⟩, prog_13_method_15_code, 4, (Option.some Jvm.ClassFile.FieldType.int), [])
abbrev m_Model_entriesOf : xw_M := (⟨"PhraseShelfModel", "entriesOf", "(I)I"⟩, prog_13_method_13_code, 7, (Option.some Jvm.ClassFile.FieldType.int), [])
abbrev m_Model_opens : xw_M := (⟨"PhraseShelfModel", "opens", "(II)V"⟩, prog_13_method_10_code, 6, (Option.none : Option Jvm.ClassFile.FieldType), [])
abbrev m_Model_alike : xw_M := (⟨"PhraseShelfModel", "alike", "(II)Z"⟩, prog_13_method_12_code, 5, (Option.some Jvm.ClassFile.FieldType.boolean), [])
abbrev m_Model_small : xw_M := (⟨"PhraseShelfModel", "small", "(I)I"⟩, prog_13_method_6_code, 1, (Option.some Jvm.ClassFile.FieldType.int), [])
abbrev m_Model_pending : xw_M := (⟨"PhraseShelfModel", "pending", "()I"⟩, prog_13_method_16_code, 3, (Option.some Jvm.ClassFile.FieldType.int), [])
abbrev m_Model_flushes : xw_M := (⟨"PhraseShelfModel", "flushes", "()V"⟩, prog_13_method_22_code, 4, (Option.none : Option Jvm.ClassFile.FieldType), [])
abbrev m_Model_gathers : xw_M := (⟨"PhraseShelfModel", "gathers", "(II)V"⟩, prog_13_method_21_code, 8, (Option.none : Option Jvm.ClassFile.FieldType), [])
abbrev m_Model_isLive : xw_M := (⟨"PhraseShelfModel", "isLive", "(I)Z"⟩, prog_13_method_17_code, 3, (Option.some Jvm.ClassFile.FieldType.boolean), [])
abbrev m_Model_replace : xw_M := (⟨"PhraseShelfModel", "replace", "(I)I"⟩, prog_13_method_19_code, 2, (Option.some Jvm.ClassFile.FieldType.int), [])
abbrev m_Model_has : xw_M := (⟨"PhraseShelfModel", "has", "(I)Z"⟩, prog_13_method_14_code, 2, (Option.some Jvm.ClassFile.FieldType.boolean), [])
abbrev m_Model_delete : xw_M := (⟨"PhraseShelfModel", "delete", "(I)I"⟩, prog_13_method_20_code, 3, (Option.some Jvm.ClassFile.FieldType.int), [])
abbrev m_Model_tokensOf : xw_M := (⟨"PhraseShelfModel", "tokensOf", "(I)I"⟩, prog_13_method_11_code, 3, (Option.some Jvm.ClassFile.FieldType.int), [])
abbrev m_Model_flush : xw_M := (⟨"PhraseShelfModel", "flush", "()I"⟩, prog_13_method_23_code, 1, (Option.some Jvm.ClassFile.FieldType.int), [])
abbrev m_Model_optimize : xw_M := (⟨"PhraseShelfModel", "optimize", "()I"⟩, prog_13_method_24_code, 4, (Option.some Jvm.ClassFile.FieldType.int), [])
abbrev m_Model_begin : xw_M := (⟨"PhraseShelfModel", "begin", "()V"⟩, prog_13_method_25_code, 2, (Option.none : Option Jvm.ClassFile.FieldType), [])
abbrev m_Model_commit : xw_M := (⟨"PhraseShelfModel", "commit", "()I"⟩, prog_13_method_26_code, 1, (Option.some Jvm.ClassFile.FieldType.int), [])
abbrev m_Model_rollback : xw_M := (⟨"PhraseShelfModel", "rollback", "()I"⟩, prog_13_method_27_code, 2, (Option.some Jvm.ClassFile.FieldType.int), [])
abbrev m_Model_rows : xw_M := (⟨"PhraseShelfModel", "rows", "()I"⟩, prog_13_method_28_code, 3, (Option.some Jvm.ClassFile.FieldType.int), [])
abbrev m_Model_ways : xw_M := (⟨"PhraseShelfModel", "ways", "(II)V"⟩, prog_13_method_29_code, 3, (Option.none : Option Jvm.ClassFile.FieldType), [])
abbrev m_Model_weight : xw_M := (⟨"PhraseShelfModel", "weight", "(II)I"⟩, prog_13_method_30_code, 4, (Option.some Jvm.ClassFile.FieldType.int), [])
abbrev m_Model_ask : xw_M := (⟨"PhraseShelfModel", "ask", "()I"⟩, prog_13_method_61_code, 3, (Option.some Jvm.ClassFile.FieldType.int), [])
abbrev m_Model_reads : xw_M := (⟨"PhraseShelfModel", "reads", "()V"⟩, prog_13_method_50_code, 1, (Option.none : Option Jvm.ClassFile.FieldType), [])
abbrev m_Model_part : xw_M := (⟨"PhraseShelfModel", "part", "()V"⟩, prog_13_method_33_code, 2, (Option.none : Option Jvm.ClassFile.FieldType), [])
abbrev m_Model_q : xw_M := (⟨"PhraseShelfModel", "q", "(I)I"⟩, prog_13_method_31_code, 2, (Option.some Jvm.ClassFile.FieldType.int), [])
abbrev m_Model_spells : xw_M := (⟨"PhraseShelfModel", "spells", "(IIII)Z"⟩, prog_13_method_32_code, 6, (Option.some Jvm.ClassFile.FieldType.boolean), [])
abbrev m_Model_follows : xw_M := (⟨"PhraseShelfModel", "follows", "()V"⟩, prog_13_method_49_code, 3, (Option.none : Option Jvm.ClassFile.FieldType), [])
abbrev m_Model_reduces : xw_M := (⟨"PhraseShelfModel", "reduces", "(I)V"⟩, prog_13_method_45_code, 2, (Option.none : Option Jvm.ClassFile.FieldType), [])
abbrev m_Model_wrongs : xw_M := (⟨"PhraseShelfModel", "wrongs", "(ZI)V"⟩, prog_13_method_35_code, 3, (Option.none : Option Jvm.ClassFile.FieldType), [])
abbrev m_Model_closesFilters : xw_M := (⟨"PhraseShelfModel", "closesFilters", "()V"⟩, prog_13_method_43_code, 1, (Option.none : Option Jvm.ClassFile.FieldType), [])
abbrev m_Model_next : xw_M := (⟨"PhraseShelfModel", "next", "()V"⟩, prog_13_method_34_code, 1, (Option.none : Option Jvm.ClassFile.FieldType), [])
abbrev m_Model_joins : xw_M := (⟨"PhraseShelfModel", "joins", "(I)V"⟩, prog_13_method_46_code, 2, (Option.none : Option Jvm.ClassFile.FieldType), [])
abbrev m_Model_pushes : xw_M := (⟨"PhraseShelfModel", "pushes", "(I)V"⟩, prog_13_method_42_code, 2, (Option.none : Option Jvm.ClassFile.FieldType), [])
abbrev m_Model_atom : xw_M := (⟨"PhraseShelfModel", "atom", "()V"⟩, prog_13_method_48_code, 1, (Option.none : Option Jvm.ClassFile.FieldType), [])
abbrev m_Model_depth : xw_M := (⟨"PhraseShelfModel", "depth", "()I"⟩, prog_13_method_44_code, 3, (Option.some Jvm.ClassFile.FieldType.int), [])
abbrev m_Model_isFilter : xw_M := (⟨"PhraseShelfModel", "isFilter", "()Z"⟩, prog_13_method_36_code, 1, (Option.some Jvm.ClassFile.FieldType.boolean), [])
abbrev m_Model_filter : xw_M := (⟨"PhraseShelfModel", "filter", "()V"⟩, prog_13_method_47_code, 4, (Option.none : Option Jvm.ClassFile.FieldType), [])
abbrev m_Model_isString : xw_M := (⟨"PhraseShelfModel", "isString", "()Z"⟩, prog_13_method_37_code, 1, (Option.some Jvm.ClassFile.FieldType.boolean), [])
abbrev m_Model_group : xw_M := (⟨"PhraseShelfModel", "group", "()V"⟩, prog_13_method_41_code, 1, (Option.none : Option Jvm.ClassFile.FieldType), [])
abbrev m_Model_near : xw_M := (⟨"PhraseShelfModel", "near", "()V"⟩, prog_13_method_40_code, 4, (Option.none : Option Jvm.ClassFile.FieldType), [])
abbrev m_Model_phrase : xw_M := (⟨"PhraseShelfModel", "phrase", "()V"⟩, prog_13_method_39_code, 1, (Option.none : Option Jvm.ClassFile.FieldType), [])
abbrev m_Model_takeTokens : xw_M := (⟨"PhraseShelfModel", "takeTokens", "()V"⟩, prog_13_method_38_code, 2, (Option.none : Option Jvm.ClassFile.FieldType), [])
abbrev m_Model_finds : xw_M := (⟨"PhraseShelfModel", "finds", "(I)Z"⟩, prog_13_method_57_code, 6, (Option.some Jvm.ClassFile.FieldType.boolean), [])
abbrev m_Model_holds : xw_M := (⟨"PhraseShelfModel", "holds", "(II)Z"⟩, prog_13_method_56_code, 4, (Option.some Jvm.ClassFile.FieldType.boolean), [])
abbrev m_Model_holdsHere : xw_M := (⟨"PhraseShelfModel", "holdsHere", "(I)Z"⟩, prog_13_method_55_code, 6, (Option.some Jvm.ClassFile.FieldType.boolean), [])
abbrev m_Model_stands : xw_M := (⟨"PhraseShelfModel", "stands", "(II)Z"⟩, prog_13_method_53_code, 6, (Option.some Jvm.ClassFile.FieldType.boolean), [])
abbrev m_Model_length : xw_M := (⟨"PhraseShelfModel", "length", "(I)I"⟩, prog_13_method_52_code, 2, (Option.some Jvm.ClassFile.FieldType.int), [])
abbrev m_Model_matches : xw_M := (⟨"PhraseShelfModel", "matches", "(IIZ)Z"⟩, prog_13_method_51_code, 6, (Option.some Jvm.ClassFile.FieldType.boolean), [])
abbrev m_Model_standsBetween : xw_M := (⟨"PhraseShelfModel", "standsBetween", "(III)Z"⟩, prog_13_method_54_code, 5, (Option.some Jvm.ClassFile.FieldType.boolean), [])
abbrev m_Model_scoreOf : xw_M := (⟨"PhraseShelfModel", "scoreOf", "(I)D"⟩, prog_13_method_60_code, 16, (Option.some Jvm.ClassFile.FieldType.double), [])
abbrev m_Model_countIn : xw_M := (⟨"PhraseShelfModel", "countIn", "(III)I"⟩, prog_13_method_58_code, 6, (Option.some Jvm.ClassFile.FieldType.int), [])
abbrev m_Model_logarithm : xw_M := (⟨"PhraseShelfModel", "logarithm", "(D)D"⟩, prog_13_method_59_code, 12, (Option.some Jvm.ClassFile.FieldType.double), [])
abbrev m_Model_wrong : xw_M := (⟨"PhraseShelfModel", "wrong", "()I"⟩, prog_13_method_62_code, 1, (Option.some Jvm.ClassFile.FieldType.int), [])
abbrev m_Model_clean : xw_M := (⟨"PhraseShelfModel", "clean", "(I)I"⟩, prog_13_method_63_code, 2, (Option.some Jvm.ClassFile.FieldType.int), [])
abbrev m_Model_answer : xw_M := (⟨"PhraseShelfModel", "answer", "(IZ)I"⟩, prog_13_method_64_code, 3, (Option.some Jvm.ClassFile.FieldType.int), [])
abbrev m_Model_score : xw_M := (⟨"PhraseShelfModel", "score", "(IZ)D"⟩, prog_13_method_65_code, 3, (Option.some Jvm.ClassFile.FieldType.double), [])
abbrev m_Model_look : xw_M := (⟨"PhraseShelfModel", "look", "(II)I"⟩, prog_13_method_66_code, 3, (Option.some Jvm.ClassFile.FieldType.int), [])
abbrev m_Model_segment : xw_M := (⟨"PhraseShelfModel", "segment", "(II)I"⟩, prog_13_method_67_code, 5, (Option.some Jvm.ClassFile.FieldType.int), [])
abbrev m_Model_count : xw_M := (⟨"PhraseShelfModel", "count", "(I)I"⟩, prog_13_method_68_code, 2, (Option.some Jvm.ClassFile.FieldType.int), [])
def xw_f (own : String) (index ci k : Nat) : Prop := ci < vwCl.length ∧ k < (xw_cl ci).2.2 ∧ Cond.fieldLink own index (xw_cl ci).1 ((xw_cl ci).2.1 k).2.1 ((xw_cl ci).2.1 k).2.2.1 ∈ xw_tbl ∧ ((xw_cl ci).2.1 k).1 = (xw_cl ci).1
/-- a call's site: virtual, of a method of the class itself -/
def xw_sV (own : String) (index : Nat) (M1 : xw_M) (n : Nat) : Prop :=
  (∀ w ∈ ([.methodLink own index M1.1, .instanceMethod M1.1, .selects M1.1.cls M1.1 M1.1, .initialized M1.1.cls] : List Cond), w ∈ xw_tbl) ∧ Cond.code M1.1 M1.2.1 M1.2.2.1 M1.2.2.2.1 ∈ xw_tbl ∧ M1.1.cls ≠ "java/lang/invoke/MethodHandle" ∧ M1.1.cls ≠ "java/lang/invoke/VarHandle" ∧ (parseMethodDescriptor M1.1.desc).map (fun d => d.parameters.length) = some n
/-- a call's site: static -/
def xw_sS (own : String) (index : Nat) (M1 : xw_M) (n : Nat) : Prop :=
  (∀ w ∈ ([.methodLink own index M1.1, .static M1.1, .initialized M1.1.cls] : List Cond), w ∈ xw_tbl) ∧ Cond.code M1.1 M1.2.1 M1.2.2.1 M1.2.2.2.1 ∈ xw_tbl ∧ M1.1.cls ≠ "java/lang/invoke/MethodHandle" ∧ M1.1.cls ≠ "java/lang/invoke/VarHandle" ∧ (parseMethodDescriptor M1.1.desc).map (fun d => d.parameters.length) = some n
/-- a call's site: a constructor -/
def xw_sI (own : String) (index : Nat) (M1 : xw_M) (n : Nat) : Prop :=
  (∀ w ∈ ([.methodLink own index M1.1, .instanceMethod M1.1, .initialized M1.1.cls] : List Cond), w ∈ xw_tbl) ∧ Cond.code M1.1 M1.2.1 M1.2.2.1 M1.2.2.2.1 ∈ xw_tbl ∧ M1.1.cls ≠ "java/lang/invoke/MethodHandle" ∧ M1.1.cls ≠ "java/lang/invoke/VarHandle" ∧ (parseMethodDescriptor M1.1.desc).map (fun d => d.parameters.length) = some n ∧ M1.1.name = "<init>" ∧ M1.2.2.2.1 = none
/-- a call's site: a constructor of a nest mate -/
def xw_sIN (own : String) (index : Nat) (M1 : xw_M) (host : String) (n : Nat) : Prop :=
  Cond.methodLinkNest own index M1.1 host ∈ lw_tbl ∧ (∀ w ∈ ([.instanceMethod M1.1, .initialized M1.1.cls] : List Cond), w ∈ xw_tbl) ∧ Cond.code M1.1 M1.2.1 M1.2.2.1 M1.2.2.2.1 ∈ xw_tbl ∧ M1.1.cls ≠ "java/lang/invoke/MethodHandle" ∧ M1.1.cls ≠ "java/lang/invoke/VarHandle" ∧ (parseMethodDescriptor M1.1.desc).map (fun d => d.parameters.length) = some n ∧ M1.1.name = "<init>" ∧ M1.2.2.2.1 = none
/-- a call's site: a static of a nest mate -/
def xw_sSN (own : String) (index : Nat) (M1 : xw_M) (host : String) (n : Nat) : Prop :=
  Cond.methodLinkNest own index M1.1 host ∈ lw_tbl ∧ (∀ w ∈ ([.static M1.1, .initialized M1.1.cls] : List Cond), w ∈ xw_tbl) ∧ Cond.code M1.1 M1.2.1 M1.2.2.1 M1.2.2.2.1 ∈ xw_tbl ∧ M1.1.cls ≠ "java/lang/invoke/MethodHandle" ∧ M1.1.cls ≠ "java/lang/invoke/VarHandle" ∧ (parseMethodDescriptor M1.1.desc).map (fun d => d.parameters.length) = some n
