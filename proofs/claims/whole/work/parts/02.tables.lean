def pm_tc (k : Nat) : List Cond := match k with
  | 0 => k2_sels lw_privs_1
  | 1 => k2_sels lw_privs_2
  | 2 => k2_sels lw_privs_3
  | 3 => k2_sels lw_privs_4
  | 4 => k2_sels lw_privs_5
  | 5 => k2_sels lw_privs_6
  | 6 => k2_sels lw_privs_7
  | 7 => k2_sels lw_privs_8
  | 8 => k2_sels lw_privs_9
  | 9 => k2_sels lw_privs_10
  | 10 => k2_sels lw_privs_11
  | 11 => k2_sels lw_privs_12
  | 12 => tables_1_1
  | 13 => tables_1_2
  | 14 => tables_1_3
  | 15 => tables_1_4
  | 16 => tables_1_5
  | 17 => tables_1_6
  | 18 => tables_1_7
  | 19 => tables_1_8
  | 20 => tables_1_9
  | _ => []
def pm_at (h : Nat) : Option Cond := (pm_tc (h / 1000))[h % 1000]?
theorem pm_tc_in : ∀ (k : Nat) (w : Cond), w ∈ pm_tc k → w ∈ lw_tbl := by
  intro k w h
  unfold pm_tc at h
  unfold lw_tbl lw_privs tables_1 k2_sels
  simp only [List.map_append, List.mem_append]
  split at h
  · exact Or.inl (Or.inl h)
  · exact Or.inl (Or.inr (Or.inl h))
  · exact Or.inl (Or.inr (Or.inr (Or.inl h)))
  · exact Or.inl (Or.inr (Or.inr (Or.inr (Or.inl h))))
  · exact Or.inl (Or.inr (Or.inr (Or.inr (Or.inr (Or.inl h)))))
  · exact Or.inl (Or.inr (Or.inr (Or.inr (Or.inr (Or.inr (Or.inl h))))))
  · exact Or.inl (Or.inr (Or.inr (Or.inr (Or.inr (Or.inr (Or.inr (Or.inl h)))))))
  · exact Or.inl (Or.inr (Or.inr (Or.inr (Or.inr (Or.inr (Or.inr (Or.inr (Or.inl h))))))))
  · exact Or.inl (Or.inr (Or.inr (Or.inr (Or.inr (Or.inr (Or.inr (Or.inr (Or.inr (Or.inl h)))))))))
  · exact Or.inl (Or.inr (Or.inr (Or.inr (Or.inr (Or.inr (Or.inr (Or.inr (Or.inr (Or.inr (Or.inl h))))))))))
  · exact Or.inl (Or.inr (Or.inr (Or.inr (Or.inr (Or.inr (Or.inr (Or.inr (Or.inr (Or.inr (Or.inr (Or.inl h)))))))))))
  · exact Or.inl (Or.inr (Or.inr (Or.inr (Or.inr (Or.inr (Or.inr (Or.inr (Or.inr (Or.inr (Or.inr (Or.inr (h))))))))))))
  · exact Or.inr (Or.inl h)
  · exact Or.inr (Or.inr (Or.inl h))
  · exact Or.inr (Or.inr (Or.inr (Or.inl h)))
  · exact Or.inr (Or.inr (Or.inr (Or.inr (Or.inl h))))
  · exact Or.inr (Or.inr (Or.inr (Or.inr (Or.inr (Or.inl h)))))
  · exact Or.inr (Or.inr (Or.inr (Or.inr (Or.inr (Or.inr (Or.inl h))))))
  · exact Or.inr (Or.inr (Or.inr (Or.inr (Or.inr (Or.inr (Or.inr (Or.inl h)))))))
  · exact Or.inr (Or.inr (Or.inr (Or.inr (Or.inr (Or.inr (Or.inr (Or.inr (Or.inl h))))))))
  · exact Or.inr (Or.inr (Or.inr (Or.inr (Or.inr (Or.inr (Or.inr (Or.inr (Or.inr (h)))))))))
  · cases h
theorem pm_at_in {h : Nat} {w : Cond} (e : pm_at h = some w) : w ∈ lw_tbl := pm_tc_in _ w (List.mem_of_getElem? e)
theorem pm_inl (ws : List Cond) (ps : List Nat) (h : ws = ps.filterMap pm_at) : ∀ w ∈ ws, w ∈ lw_tbl := by
  intro w hw
  rw [h] at hw
  obtain ⟨i, -, hi⟩ := List.mem_filterMap.mp hw
  exact pm_at_in hi
/-! THE TABLES, by program out of the table rows: classes, fields, methods, links, each with the place of its row in lw_tbl -/
def cR_M : String := "TypeRules"
def cF_M : u_T := fun k => match k with
  | 0 => ("TypeRules", "text", "[C", true)
  | 1 => ("TypeRules", "tokens", "LTypeRules$Tokens;", true)
  | 2 => ("TypeRules", "tree", "LTypeRules$Tree;", true)
  | 3 => ("TypeRules", "parser", "LTypeRules$Parser;", true)
  | 4 => ("TypeRules", "blocks", "LTypeRules$Blocks;", true)
  | 5 => ("TypeRules", "rules", "LTypeRules$Rules;", true)
  | 6 => ("TypeRules", "length", "I", false)
  | 7 => ("TypeRules", "fault", "I", false)
  | 8 => ("TypeRules", "faultPlace", "I", false)
  | 9 => ("TypeRules", "nodesAtHand", "I", false)
  | 10 => ("TypeRules", "blocksAtHand", "I", false)
  | _ => ("TypeRules", "cellsAtHand", "I", false)
def ct_M : Nat → FieldType := fun k => match k with
  | 0 => .array .char
  | 1 => .object "TypeRules$Tokens"
  | 2 => .object "TypeRules$Tree"
  | 3 => .object "TypeRules$Parser"
  | 4 => .object "TypeRules$Blocks"
  | 5 => .object "TypeRules$Rules"
  | 6 => .int
  | 7 => .int
  | 8 => .int
  | 9 => .int
  | 10 => .int
  | _ => .int
def cR_N : String := "TypeRules$Names"
def cF_N : u_T := fun k => match k with
  | 0 => ("TypeRules$Names", "letters", "[C", true)
  | 1 => ("TypeRules$Names", "starts", "[I", true)
  | 2 => ("TypeRules$Names", "heads", "[I", true)
  | 3 => ("TypeRules$Names", "older", "[I", true)
  | _ => ("TypeRules$Names", "count", "I", false)
def ct_N : Nat → FieldType := fun k => match k with
  | 0 => .array .char
  | 1 => .array .int
  | 2 => .array .int
  | 3 => .array .int
  | _ => .int
def cR_K : String := "TypeRules$Tokens"
def cF_K : u_T := fun k => match k with
  | 0 => ("TypeRules$Tokens", "text", "[C", true)
  | 1 => ("TypeRules$Tokens", "names", "LTypeRules$Names;", true)
  | 2 => ("TypeRules$Tokens", "kinds", "[I", true)
  | 3 => ("TypeRules$Tokens", "places", "[I", true)
  | 4 => ("TypeRules$Tokens", "values", "[I", true)
  | 5 => ("TypeRules$Tokens", "count", "I", false)
  | 6 => ("TypeRules$Tokens", "length", "I", false)
  | 7 => ("TypeRules$Tokens", "next", "I", false)
  | 8 => ("TypeRules$Tokens", "amount", "J", false)
  | 9 => ("TypeRules$Tokens", "here", "I", false)
  | _ => ("TypeRules$Tokens", "kindHere", "I", false)
def ct_K : Nat → FieldType := fun k => match k with
  | 0 => .array .char
  | 1 => .object "TypeRules$Names"
  | 2 => .array .int
  | 3 => .array .int
  | 4 => .array .int
  | 5 => .int
  | 6 => .int
  | 7 => .int
  | 8 => .long
  | 9 => .int
  | _ => .int
def cR_T : String := "TypeRules$Tree"
def cF_T : u_T := fun k => match k with
  | 0 => ("TypeRules$Tree", "kinds", "[I", true)
  | 1 => ("TypeRules$Tree", "places", "[I", true)
  | 2 => ("TypeRules$Tree", "values", "[I", true)
  | 3 => ("TypeRules$Tree", "sizes", "[I", true)
  | 4 => ("TypeRules$Tree", "parents", "[I", true)
  | 5 => ("TypeRules$Tree", "types", "[I", true)
  | 6 => ("TypeRules$Tree", "cells", "[I", true)
  | 7 => ("TypeRules$Tree", "meanings", "[I", true)
  | _ => ("TypeRules$Tree", "count", "I", false)
def ct_T : Nat → FieldType := fun k => match k with
  | 0 => .array .int
  | 1 => .array .int
  | 2 => .array .int
  | 3 => .array .int
  | 4 => .array .int
  | 5 => .array .int
  | 6 => .array .int
  | 7 => .array .int
  | _ => .int
def cR_P : String := "TypeRules$Parser"
def cF_P : u_T := fun k => match k with
  | 0 => ("TypeRules$Parser", "tokens", "LTypeRules$Tokens;", true)
  | 1 => ("TypeRules$Parser", "tree", "LTypeRules$Tree;", true)
  | 2 => ("TypeRules$Parser", "open", "I", false)
  | _ => ("TypeRules$Parser", "tooDeep", "Z", false)
def ct_P : Nat → FieldType := fun k => match k with
  | 0 => .object "TypeRules$Tokens"
  | 1 => .object "TypeRules$Tree"
  | 2 => .int
  | _ => .boolean
def cR_B : String := "TypeRules$Blocks"
def cF_B : u_T := fun k => match k with
  | 0 => ("TypeRules$Blocks", "variables", "LTypeRules$Variables;", true)
  | 1 => ("TypeRules$Blocks", "byName", "[I", true)
  | 2 => ("TypeRules$Blocks", "kinds", "[I", true)
  | 3 => ("TypeRules$Blocks", "frames", "[I", true)
  | 4 => ("TypeRules$Blocks", "places", "[I", true)
  | 5 => ("TypeRules$Blocks", "results", "[I", true)
  | 6 => ("TypeRules$Blocks", "inputs", "[I", true)
  | 7 => ("TypeRules$Blocks", "inputTypes", "[I", true)
  | 8 => ("TypeRules$Blocks", "count", "I", false)
  | 9 => ("TypeRules$Blocks", "cellsInAll", "I", false)
  | _ => ("TypeRules$Blocks", "hasProgram", "Z", false)
def ct_B : Nat → FieldType := fun k => match k with
  | 0 => .object "TypeRules$Variables"
  | 1 => .array .int
  | 2 => .array .int
  | 3 => .array .int
  | 4 => .array .int
  | 5 => .array .int
  | 6 => .array .int
  | 7 => .array .int
  | 8 => .int
  | 9 => .int
  | _ => .boolean
def cR_V : String := "TypeRules$Variables"
def cF_V : u_T := fun k => match k with
  | 0 => ("TypeRules$Variables", "newest", "[I", true)
  | 1 => ("TypeRules$Variables", "older", "[I", true)
  | 2 => ("TypeRules$Variables", "owners", "[I", true)
  | 3 => ("TypeRules$Variables", "sections", "[I", true)
  | 4 => ("TypeRules$Variables", "shapes", "[I", true)
  | 5 => ("TypeRules$Variables", "types", "[I", true)
  | 6 => ("TypeRules$Variables", "cells", "[I", true)
  | 7 => ("TypeRules$Variables", "readOnly", "[Z", true)
  | _ => ("TypeRules$Variables", "count", "I", false)
def ct_V : Nat → FieldType := fun k => match k with
  | 0 => .array .int
  | 1 => .array .int
  | 2 => .array .int
  | 3 => .array .int
  | 4 => .array .int
  | 5 => .array .int
  | 6 => .array .int
  | 7 => .array .boolean
  | _ => .int
def cR_R : String := "TypeRules$Rules"
def cF_R : u_T := fun k => match k with
  | 0 => ("TypeRules$Rules", "tree", "LTypeRules$Tree;", true)
  | 1 => ("TypeRules$Rules", "names", "LTypeRules$Names;", true)
  | 2 => ("TypeRules$Rules", "blocks", "LTypeRules$Blocks;", true)
  | 3 => ("TypeRules$Rules", "variables", "LTypeRules$Variables;", true)
  | 4 => ("TypeRules$Rules", "expressions", "LTypeRules$Expressions;", true)
  | 5 => ("TypeRules$Rules", "statements", "LTypeRules$Statements;", true)
  | 6 => ("TypeRules$Rules", "placesTaken", "[I", true)
  | _ => ("TypeRules$Rules", "placeOfFault", "I", false)
def ct_R : Nat → FieldType := fun k => match k with
  | 0 => .object "TypeRules$Tree"
  | 1 => .object "TypeRules$Names"
  | 2 => .object "TypeRules$Blocks"
  | 3 => .object "TypeRules$Variables"
  | 4 => .object "TypeRules$Expressions"
  | 5 => .object "TypeRules$Statements"
  | 6 => .array .int
  | _ => .int
def cR_E : String := "TypeRules$Expressions"
def cF_E : u_T := fun k => match k with
  | 0 => ("TypeRules$Expressions", "tree", "LTypeRules$Tree;", true)
  | 1 => ("TypeRules$Expressions", "blocks", "LTypeRules$Blocks;", true)
  | _ => ("TypeRules$Expressions", "variables", "LTypeRules$Variables;", true)
def ct_E : Nat → FieldType := fun k => match k with
  | 0 => .object "TypeRules$Tree"
  | 1 => .object "TypeRules$Blocks"
  | _ => .object "TypeRules$Variables"
def cR_S : String := "TypeRules$Statements"
def cF_S : u_T := fun k => match k with
  | 0 => ("TypeRules$Statements", "tree", "LTypeRules$Tree;", true)
  | 1 => ("TypeRules$Statements", "blocks", "LTypeRules$Blocks;", true)
  | _ => ("TypeRules$Statements", "variables", "LTypeRules$Variables;", true)
def ct_S : Nat → FieldType := fun k => match k with
  | 0 => .object "TypeRules$Tree"
  | 1 => .object "TypeRules$Blocks"
  | _ => .object "TypeRules$Variables"
def cR_X : String := "TypeRulesModel"
def cF_X : u_T := fun k => match k with
  | 0 => ("TypeRulesModel", "text", "[I", true)
  | 1 => ("TypeRulesModel", "length", "I", false)
  | 2 => ("TypeRulesModel", "at", "I", false)
  | 3 => ("TypeRulesModel", "token", "I", false)
  | 4 => ("TypeRulesModel", "tokenPlace", "I", false)
  | 5 => ("TypeRulesModel", "tokenValue", "I", false)
  | 6 => ("TypeRulesModel", "fault", "I", false)
  | 7 => ("TypeRulesModel", "faultPlace", "I", false)
  | 8 => ("TypeRulesModel", "open", "I", false)
  | 9 => ("TypeRulesModel", "names", "I", false)
  | 10 => ("TypeRulesModel", "nameAt", "[I", true)
  | 11 => ("TypeRulesModel", "nameSize", "[I", true)
  | 12 => ("TypeRulesModel", "nameNext", "[I", true)
  | 13 => ("TypeRulesModel", "nameCode", "[J", true)
  | 14 => ("TypeRulesModel", "chains", "[I", true)
  | 15 => ("TypeRulesModel", "nodes", "I", false)
  | 16 => ("TypeRulesModel", "kinds", "[I", true)
  | 17 => ("TypeRulesModel", "places", "[I", true)
  | 18 => ("TypeRulesModel", "values", "[I", true)
  | 19 => ("TypeRulesModel", "first", "[I", true)
  | 20 => ("TypeRulesModel", "last", "[I", true)
  | 21 => ("TypeRulesModel", "next", "[I", true)
  | 22 => ("TypeRulesModel", "parent", "[I", true)
  | 23 => ("TypeRulesModel", "types", "[I", true)
  | 24 => ("TypeRulesModel", "cells", "[I", true)
  | 25 => ("TypeRulesModel", "meanings", "[I", true)
  | 26 => ("TypeRulesModel", "pile", "[I", true)
  | 27 => ("TypeRulesModel", "piled", "I", false)
  | 28 => ("TypeRulesModel", "operands", "[I", true)
  | 29 => ("TypeRulesModel", "operandCount", "I", false)
  | 30 => ("TypeRulesModel", "between", "I", false)
  | 31 => ("TypeRulesModel", "nest", "[I", true)
  | 32 => ("TypeRulesModel", "nestNode", "[I", true)
  | 33 => ("TypeRulesModel", "nestBody", "[I", true)
  | 34 => ("TypeRulesModel", "nested", "I", false)
  | 35 => ("TypeRulesModel", "blocks", "I", false)
  | 36 => ("TypeRulesModel", "blockNode", "[I", true)
  | 37 => ("TypeRulesModel", "blockFrom", "[I", true)
  | 38 => ("TypeRulesModel", "blockTo", "[I", true)
  | 39 => ("TypeRulesModel", "frames", "[I", true)
  | 40 => ("TypeRulesModel", "blockPlaces", "[I", true)
  | 41 => ("TypeRulesModel", "variables", "I", false)
  | 42 => ("TypeRulesModel", "varName", "[I", true)
  | 43 => ("TypeRulesModel", "varSort", "[I", true)
  | 44 => ("TypeRulesModel", "varType", "[I", true)
  | 45 => ("TypeRulesModel", "varPart", "[I", true)
  | 46 => ("TypeRulesModel", "varAt", "[I", true)
  | 47 => ("TypeRulesModel", "varCell", "[I", true)
  | 48 => ("TypeRulesModel", "used", "I", false)
  | 49 => ("TypeRulesModel", "all", "I", false)
  | 50 => ("TypeRulesModel", "isJudged", "Z", false)
  | 51 => ("TypeRulesModel", "lastFault", "I", false)
  | 52 => ("TypeRulesModel", "lastPlace", "I", false)
  | 53 => ("TypeRulesModel", "order", "[I", true)
  | _ => ("TypeRulesModel", "ordered", "I", false)
def ct_X : Nat → FieldType := fun k => match k with
  | 0 => .array .int
  | 1 => .int
  | 2 => .int
  | 3 => .int
  | 4 => .int
  | 5 => .int
  | 6 => .int
  | 7 => .int
  | 8 => .int
  | 9 => .int
  | 10 => .array .int
  | 11 => .array .int
  | 12 => .array .int
  | 13 => .array .long
  | 14 => .array .int
  | 15 => .int
  | 16 => .array .int
  | 17 => .array .int
  | 18 => .array .int
  | 19 => .array .int
  | 20 => .array .int
  | 21 => .array .int
  | 22 => .array .int
  | 23 => .array .int
  | 24 => .array .int
  | 25 => .array .int
  | 26 => .array .int
  | 27 => .int
  | 28 => .array .int
  | 29 => .int
  | 30 => .int
  | 31 => .array .int
  | 32 => .array .int
  | 33 => .array .int
  | 34 => .int
  | 35 => .int
  | 36 => .array .int
  | 37 => .array .int
  | 38 => .array .int
  | 39 => .array .int
  | 40 => .array .int
  | 41 => .int
  | 42 => .array .int
  | 43 => .array .int
  | 44 => .array .int
  | 45 => .array .int
  | 46 => .array .int
  | 47 => .array .int
  | 48 => .int
  | 49 => .int
  | 50 => .boolean
  | 51 => .int
  | 52 => .int
  | 53 => .array .int
  | _ => .int
abbrev pm_cl : List vw_C := [(cR_M, cF_M, 12), (cR_N, cF_N, 5), (cR_K, cF_K, 11), (cR_T, cF_T, 9), (cR_P, cF_P, 4), (cR_B, cF_B, 11), (cR_V, cF_V, 9), (cR_R, cF_R, 8), (cR_E, cF_E, 3), (cR_S, cF_S, 3), (cR_X, cF_X, 55)]
def pm_ft (ci j : Nat) : FieldType := match ci with
  | 0 => ct_M j
  | 1 => ct_N j
  | 2 => ct_K j
  | 3 => ct_T j
  | 4 => ct_P j
  | 5 => ct_B j
  | 6 => ct_V j
  | 7 => ct_R j
  | 8 => ct_E j
  | 9 => ct_S j
  | _ => ct_X j
def pm_on (o : Nat) : String := match o with
  | 0 => "TypeRules"
  | 1 => "TypeRules$Names"
  | 2 => "TypeRules$Tokens"
  | 3 => "TypeRules$Tree"
  | 4 => "TypeRules$Parser"
  | 5 => "TypeRules$Blocks"
  | 6 => "TypeRules$Variables"
  | 7 => "TypeRules$Rules"
  | 8 => "TypeRules$Expressions"
  | 9 => "TypeRules$Statements"
  | 10 => "TypeRulesModel"
  | 11 => "java/util/Arrays"
  | 12 => "TypeRulesLaw"
  | 13 => "java/lang/String"
  | _ => "java/lang/StringLatin1"
theorem cn_M : ∀ a, a < 12 → ∀ b, b < 12 → a ≠ b → (cF_M a).2.1 ≠ (cF_M b).2.1 := by decide +kernel
theorem ct_M_ok : ∀ k, k < 12 → parseFieldDescriptor (cF_M k).2.2.1 = some (ct_M k) := by decide +kernel
abbrev cu_M : List Cond := u_ws cR_M cF_M 12
theorem ci_M : ∀ w ∈ u_ws cR_M cF_M 12, w ∈ lw_tbl := pm_inl (cu_M) [13143, 13145, 13147, 13149, 13151, 13153, 13155, 13157, 13159, 13161, 13163, 13165] (by decide +kernel)
theorem cn_N : ∀ a, a < 5 → ∀ b, b < 5 → a ≠ b → (cF_N a).2.1 ≠ (cF_N b).2.1 := by decide +kernel
theorem ct_N_ok : ∀ k, k < 5 → parseFieldDescriptor (cF_N k).2.2.1 = some (ct_N k) := by decide +kernel
abbrev cu_N : List Cond := u_ws cR_N cF_N 5
theorem ci_N : ∀ w ∈ u_ws cR_N cF_N 5, w ∈ lw_tbl := pm_inl (cu_N) [12120, 12122, 12124, 12126, 12128] (by decide +kernel)
theorem cn_K : ∀ a, a < 11 → ∀ b, b < 11 → a ≠ b → (cF_K a).2.1 ≠ (cF_K b).2.1 := by decide +kernel
theorem ct_K_ok : ∀ k, k < 11 → parseFieldDescriptor (cF_K k).2.2.1 = some (ct_K k) := by decide +kernel
abbrev cu_K : List Cond := u_ws cR_K cF_K 11
theorem ci_K : ∀ w ∈ u_ws cR_K cF_K 11, w ∈ lw_tbl := pm_inl (cu_K) [12151, 12153, 12155, 12157, 12159, 12161, 12163, 12165, 12167, 12169, 12171] (by decide +kernel)
theorem cn_T : ∀ a, a < 9 → ∀ b, b < 9 → a ≠ b → (cF_T a).2.1 ≠ (cF_T b).2.1 := by decide +kernel
theorem ct_T_ok : ∀ k, k < 9 → parseFieldDescriptor (cF_T k).2.2.1 = some (ct_T k) := by decide +kernel
abbrev cu_T : List Cond := u_ws cR_T cF_T 9
theorem ci_T : ∀ w ∈ u_ws cR_T cF_T 9, w ∈ lw_tbl := pm_inl (cu_T) [12189, 12191, 12193, 12195, 12197, 12199, 12201, 12203, 12205] (by decide +kernel)
theorem cn_P : ∀ a, a < 4 → ∀ b, b < 4 → a ≠ b → (cF_P a).2.1 ≠ (cF_P b).2.1 := by decide +kernel
theorem ct_P_ok : ∀ k, k < 4 → parseFieldDescriptor (cF_P k).2.2.1 = some (ct_P k) := by decide +kernel
abbrev cu_P : List Cond := u_ws cR_P cF_P 4
theorem ci_P : ∀ w ∈ u_ws cR_P cF_P 4, w ∈ lw_tbl := pm_inl (cu_P) [12218, 12220, 12222, 12224] (by decide +kernel)
theorem cn_B : ∀ a, a < 11 → ∀ b, b < 11 → a ≠ b → (cF_B a).2.1 ≠ (cF_B b).2.1 := by decide +kernel
theorem ct_B_ok : ∀ k, k < 11 → parseFieldDescriptor (cF_B k).2.2.1 = some (ct_B k) := by decide +kernel
abbrev cu_B : List Cond := u_ws cR_B cF_B 11
theorem ci_B : ∀ w ∈ u_ws cR_B cF_B 11, w ∈ lw_tbl := pm_inl (cu_B) [13039, 13041, 13043, 13045, 13047, 13049, 13051, 13053, 13055, 13057, 13059] (by decide +kernel)
theorem cn_V : ∀ a, a < 9 → ∀ b, b < 9 → a ≠ b → (cF_V a).2.1 ≠ (cF_V b).2.1 := by decide +kernel
theorem ct_V_ok : ∀ k, k < 9 → parseFieldDescriptor (cF_V k).2.2.1 = some (ct_V k) := by decide +kernel
abbrev cu_V : List Cond := u_ws cR_V cF_V 9
theorem ci_V : ∀ w ∈ u_ws cR_V cF_V 9, w ∈ lw_tbl := pm_inl (cu_V) [13008, 13010, 13012, 13014, 13016, 13018, 13020, 13022, 13024] (by decide +kernel)
theorem cn_R : ∀ a, a < 8 → ∀ b, b < 8 → a ≠ b → (cF_R a).2.1 ≠ (cF_R b).2.1 := by decide +kernel
theorem ct_R_ok : ∀ k, k < 8 → parseFieldDescriptor (cF_R k).2.2.1 = some (ct_R k) := by decide +kernel
abbrev cu_R : List Cond := u_ws cR_R cF_R 8
theorem ci_R : ∀ w ∈ u_ws cR_R cF_R 8, w ∈ lw_tbl := pm_inl (cu_R) [13114, 13116, 13118, 13120, 13122, 13124, 13126, 13128] (by decide +kernel)
theorem cn_E : ∀ a, a < 3 → ∀ b, b < 3 → a ≠ b → (cF_E a).2.1 ≠ (cF_E b).2.1 := by decide +kernel
theorem ct_E_ok : ∀ k, k < 3 → parseFieldDescriptor (cF_E k).2.2.1 = some (ct_E k) := by decide +kernel
abbrev cu_E : List Cond := u_ws cR_E cF_E 3
theorem ci_E : ∀ w ∈ u_ws cR_E cF_E 3, w ∈ lw_tbl := pm_inl (cu_E) [13082, 13084, 13086] (by decide +kernel)
theorem cn_S : ∀ a, a < 3 → ∀ b, b < 3 → a ≠ b → (cF_S a).2.1 ≠ (cF_S b).2.1 := by decide +kernel
theorem ct_S_ok : ∀ k, k < 3 → parseFieldDescriptor (cF_S k).2.2.1 = some (ct_S k) := by decide +kernel
abbrev cu_S : List Cond := u_ws cR_S cF_S 3
theorem ci_S : ∀ w ∈ u_ws cR_S cF_S 3, w ∈ lw_tbl := pm_inl (cu_S) [13099, 13101, 13103] (by decide +kernel)
theorem cn_X : ∀ a, a < 55 → ∀ b, b < 55 → a ≠ b → (cF_X a).2.1 ≠ (cF_X b).2.1 := by decide +kernel
theorem ct_X_ok : ∀ k, k < 55 → parseFieldDescriptor (cF_X k).2.2.1 = some (ct_X k) := by decide +kernel
abbrev cu_X : List Cond := u_ws cR_X cF_X 55
theorem ci_X : ∀ w ∈ u_ws cR_X cF_X 55, w ∈ lw_tbl := pm_inl (cu_X) [17109, 17111, 17113, 17115, 17117, 17119, 17121, 17123, 17125, 17127, 17129, 17131, 17133, 17135, 17137, 17139, 17141, 17143, 17145, 17147, 17149, 17151, 17153, 17155, 17157, 17159, 17161, 17163, 17165, 17167, 17169, 17171, 17173, 17175, 17177, 17179, 17181, 17183, 17185, 17187, 17189, 17191, 17193, 17195, 17197, 17199, 17201, 17203, 17205, 17207, 17209, 17211, 17213, 17215, 17217] (by decide +kernel)
/-- methods: place of the code row, class of the code, parameters, class of the object and one (0: static) -/
abbrev pm_Mr : Type := Nat × Nat × Nat × Nat
def pm_ms0 : List pm_Mr := [(12024, 0, 0, 1), (13171, 0, 0, 1), (13175, 0, 5, 1), (13179, 0, 1, 1), (13183, 0, 1, 1), (13187, 0, 0, 1), (17008, 0, 1, 1), (17012, 0, 1, 1), (17017, 0, 1, 1), (17022, 0, 1, 1), (17030, 0, 1, 1), (17038, 0, 1, 1), (17043, 0, 1, 1), (12032, 1, 0, 2), (12041, 1, 1, 2), (12090, 1, 3, 2), (12093, 1, 3, 0), (12096, 1, 1, 0), (12100, 1, 4, 2), (12104, 1, 4, 2), (13195, 1, 0, 2), (15073, 1, 0, 2), (15139, 1, 1, 0), (12138, 2, 2, 3), (13191, 2, 1, 3), (13200, 2, 0, 3), (13204, 2, 0, 3), (13208, 2, 1, 3), (13212, 2, 0, 3), (13216, 2, 2, 3), (13220, 2, 3, 3), (13224, 2, 0, 3), (13228, 2, 1, 3), (13231, 2, 1, 0), (13234, 2, 1, 0), (14003, 2, 0, 3), (14007, 2, 1, 3), (14013, 2, 1, 3), (14016, 2, 1, 0), (14021, 2, 0, 3)]
def pm_ms1 : List pm_Mr := [(14027, 2, 0, 3), (14032, 2, 0, 3), (14035, 2, 1, 0), (14039, 2, 1, 3), (14042, 2, 2, 0), (14127, 2, 0, 3), (14134, 2, 0, 3), (14138, 2, 0, 3), (14142, 2, 0, 3), (14150, 2, 1, 3), (14158, 2, 0, 3), (14166, 2, 1, 3), (14222, 2, 0, 3), (14230, 2, 1, 3), (15064, 2, 0, 3), (12178, 3, 0, 4), (14115, 3, 0, 4), (14119, 3, 3, 4), (14146, 3, 2, 4), (14186, 3, 1, 4), (15006, 3, 0, 4), (15028, 3, 4, 4), (15040, 3, 2, 4), (15107, 3, 1, 4), (15112, 3, 2, 4), (15120, 3, 1, 4), (15128, 3, 1, 4), (15151, 3, 2, 4), (15155, 3, 2, 4), (15159, 3, 1, 4), (16049, 3, 2, 4), (16077, 3, 1, 4), (16105, 3, 1, 4), (16169, 3, 2, 4), (16233, 3, 1, 4), (17026, 3, 1, 4), (17034, 3, 1, 4), (12212, 4, 2, 5), (14111, 4, 0, 5), (14123, 4, 0, 5)]
def pm_ms2 : List pm_Mr := [(14130, 4, 1, 0), (14154, 4, 0, 5), (14162, 4, 0, 5), (14170, 4, 0, 5), (14174, 4, 0, 5), (14178, 4, 0, 5), (14182, 4, 0, 5), (14190, 4, 0, 5), (14194, 4, 0, 5), (14198, 4, 0, 5), (14202, 4, 3, 5), (14206, 4, 0, 5), (14210, 4, 0, 5), (14214, 4, 0, 5), (14218, 4, 0, 5), (14226, 4, 0, 5), (14234, 4, 0, 5), (14238, 4, 0, 5), (15002, 4, 1, 5), (15010, 4, 0, 5), (15014, 4, 1, 5), (15018, 4, 0, 5), (15022, 4, 0, 5), (15036, 4, 0, 5), (15044, 4, 0, 5), (15048, 4, 0, 5), (15052, 4, 0, 5), (15056, 4, 0, 5), (15060, 4, 0, 5), (12231, 5, 0, 6), (13071, 5, 0, 6), (15077, 5, 1, 6), (15081, 5, 3, 6), (15085, 5, 1, 6), (15132, 5, 0, 6), (15136, 5, 1, 6), (15144, 5, 0, 6), (15171, 5, 0, 6), (15176, 5, 1, 6), (15180, 5, 0, 6)]
def pm_ms3 : List pm_Mr := [(15184, 5, 1, 6), (15196, 5, 1, 6), (15231, 5, 2, 6), (16018, 5, 1, 6), (16114, 5, 2, 6), (16122, 5, 1, 6), (17002, 5, 0, 6), (17047, 5, 1, 6), (12237, 6, 0, 7), (15091, 6, 1, 7), (15097, 6, 3, 7), (15101, 6, 4, 7), (15235, 6, 0, 7), (16014, 6, 1, 7), (16030, 6, 2, 7), (16041, 6, 1, 7), (16045, 6, 1, 7), (16053, 6, 1, 7), (16088, 6, 3, 7), (16165, 6, 1, 7), (13066, 7, 3, 8), (15069, 7, 0, 8), (15116, 7, 1, 8), (15124, 7, 1, 8), (15163, 7, 1, 8), (15167, 7, 0, 8), (15188, 7, 1, 8), (15192, 7, 1, 8), (15200, 7, 1, 8), (15204, 7, 2, 8), (15208, 7, 1, 8), (15212, 7, 2, 8), (15216, 7, 1, 8), (15223, 7, 4, 8), (15227, 7, 1, 8), (15239, 7, 1, 8), (16005, 7, 1, 8), (16009, 7, 1, 8), (16022, 7, 1, 8), (16026, 7, 2, 8)]
def pm_ms4 : List pm_Mr := [(16058, 7, 1, 8), (16063, 7, 1, 8), (16237, 7, 0, 8), (13076, 8, 2, 9), (15219, 8, 2, 0), (16034, 8, 1, 9), (16068, 8, 1, 9), (16073, 8, 1, 9), (16080, 8, 1, 0), (16084, 8, 1, 9), (16093, 8, 1, 9), (16099, 8, 1, 0), (16110, 8, 2, 9), (16117, 8, 2, 0), (16126, 8, 2, 9), (16129, 8, 2, 0), (16132, 8, 2, 0), (16137, 8, 1, 9), (16141, 8, 1, 9), (13093, 9, 2, 10), (16145, 9, 1, 10), (16150, 9, 1, 10), (16155, 9, 2, 10), (16159, 9, 1, 10), (16179, 9, 1, 10), (16188, 9, 1, 10), (16194, 9, 1, 10), (16199, 9, 1, 10), (16203, 9, 1, 10), (16207, 9, 2, 10), (16211, 9, 3, 0), (16217, 9, 1, 10), (16221, 9, 1, 10), (16225, 9, 1, 10), (16229, 9, 1, 10), (17052, 10, 0, 11), (17224, 10, 0, 11), (17228, 10, 5, 11), (17232, 10, 1, 11), (17236, 10, 1, 11)]
def pm_ms5 : List pm_Mr := [(18000, 10, 0, 11), (18004, 10, 0, 11), (18008, 10, 3, 11), (18012, 10, 0, 11), (18016, 10, 0, 11), (18020, 10, 1, 11), (18024, 10, 2, 11), (18028, 10, 0, 11), (18032, 10, 1, 11), (18035, 10, 1, 0), (18038, 10, 1, 0), (18041, 10, 1, 0), (18050, 10, 1, 11), (18054, 10, 1, 0), (18057, 10, 1, 0), (18061, 10, 0, 11), (18065, 10, 2, 11), (18068, 10, 1, 0), (18090, 10, 1, 0), (18113, 10, 1, 0), (18124, 10, 3, 11), (18128, 10, 0, 11), (18134, 10, 0, 11), (18140, 10, 1, 11), (18144, 10, 1, 11), (18148, 10, 1, 11), (18152, 10, 4, 11), (18156, 10, 2, 11), (18160, 10, 0, 11), (18164, 10, 1, 11), (18168, 10, 0, 11), (18172, 10, 1, 11), (18176, 10, 1, 11), (18180, 10, 1, 11), (18184, 10, 1, 11), (18188, 10, 1, 11), (18192, 10, 1, 11), (18196, 10, 1, 11), (18200, 10, 1, 11), (18204, 10, 2, 11)]
def pm_ms6 : List pm_Mr := [(18208, 10, 2, 11), (18212, 10, 1, 11), (18216, 10, 1, 11), (18220, 10, 2, 11), (18224, 10, 1, 11), (18228, 10, 0, 11), (18232, 10, 0, 11), (18236, 10, 1, 11), (19000, 10, 0, 11), (19004, 10, 1, 11), (19008, 10, 0, 11), (19011, 10, 1, 0), (19015, 10, 1, 11), (19019, 10, 0, 11), (19022, 10, 1, 0), (19025, 10, 1, 0), (19029, 10, 3, 11), (19033, 10, 1, 11), (19037, 10, 3, 11), (19041, 10, 1, 11), (19045, 10, 1, 11), (19049, 10, 0, 11), (19053, 10, 0, 11), (19057, 10, 1, 11), (19061, 10, 0, 11), (19065, 10, 0, 11), (19069, 10, 1, 11), (19073, 10, 0, 11), (19076, 10, 1, 0), (19088, 10, 1, 0), (19102, 10, 2, 11), (19106, 10, 4, 11), (19110, 10, 1, 11), (19114, 10, 0, 11), (19118, 10, 1, 11), (19122, 10, 2, 11), (19126, 10, 1, 11), (19130, 10, 1, 11), (19134, 10, 1, 11), (19138, 10, 1, 11)]
def pm_ms7 : List pm_Mr := [(19141, 10, 3, 0), (19144, 10, 1, 0), (19148, 10, 1, 11), (19152, 10, 1, 11), (19156, 10, 2, 11), (19160, 10, 1, 11), (19164, 10, 1, 11), (19169, 10, 1, 11), (19173, 10, 2, 11), (19177, 10, 2, 11), (19180, 10, 2, 0), (19184, 10, 1, 11), (19188, 10, 2, 11), (19192, 10, 1, 11), (19196, 10, 2, 11), (19199, 10, 2, 0), (19217, 10, 2, 0), (19221, 10, 1, 11), (19225, 10, 1, 11), (19229, 10, 1, 11), (19233, 10, 1, 11), (19238, 10, 1, 11), (20002, 10, 1, 11), (20006, 10, 1, 11), (20010, 10, 1, 11), (20014, 10, 1, 11), (20018, 10, 1, 11), (20022, 10, 1, 11), (20026, 10, 1, 11), (20029, 10, 1, 0), (20033, 10, 2, 11), (20036, 10, 2, 0), (20040, 10, 1, 11), (20044, 10, 1, 11), (20048, 10, 1, 11), (20052, 10, 1, 11), (20056, 10, 1, 11), (20060, 10, 1, 11), (20064, 10, 1, 11), (20068, 10, 1, 11)]
def pm_ms8 : List pm_Mr := [(20072, 10, 1, 11), (20076, 10, 1, 11), (12036, 11, 2, 0), (12045, 13, 0, 14), (12049, 13, 0, 14), (14047, 13, 1, 14), (14051, 13, 2, 14), (14055, 13, 0, 14), (14059, 13, 0, 14), (12054, 14, 1, 0), (12057, 14, 5, 0), (14062, 14, 4, 0), (14065, 14, 1, 0), (14072, 14, 4, 0)]
def pm_ms : List pm_Mr := pm_ms0 ++ (pm_ms1 ++ (pm_ms2 ++ (pm_ms3 ++ (pm_ms4 ++ (pm_ms5 ++ (pm_ms6 ++ (pm_ms7 ++ (pm_ms8))))))))
/-- fields by the class of the code and the index: class of the object, slot, place of the link row -/
def pm_fds : List (List (Nat × Nat × Nat × Nat)) := [[(9, 0, 0, 13131), (21, 0, 1, 13132), (28, 0, 2, 13133), (37, 0, 3, 13134), (44, 0, 4, 13135), (53, 0, 5, 13136), (57, 0, 6, 13137), (61, 0, 7, 13138), (64, 0, 8, 13139), (67, 0, 9, 13140), (70, 0, 10, 13141), (73, 0, 11, 13142)],
  [(13, 1, 0, 12115), (17, 1, 1, 12116), (21, 1, 2, 12117), (24, 1, 3, 12118), (27, 1, 4, 12119)],
  [(9, 2, 0, 12140), (15, 2, 1, 12141), (19, 2, 2, 12142), (23, 2, 3, 12143), (26, 2, 4, 12144), (29, 2, 5, 12145), (33, 2, 6, 12146), (36, 2, 7, 12147), (39, 2, 8, 12148), (43, 2, 9, 12149), (48, 2, 10, 12150)],
  [(9, 3, 0, 12180), (15, 3, 1, 12181), (18, 3, 2, 12182), (21, 3, 3, 12183), (24, 3, 4, 12184), (27, 3, 5, 12185), (30, 3, 6, 12186), (33, 3, 7, 12187), (36, 3, 8, 12188)],
  [(9, 4, 0, 12214), (15, 4, 1, 12215), (19, 4, 2, 12216), (23, 4, 3, 12217)],
  [(14, 5, 0, 13028), (20, 5, 1, 13029), (24, 5, 2, 13030), (27, 5, 3, 13031), (30, 5, 4, 13032), (33, 5, 5, 13033), (36, 5, 6, 13034), (39, 5, 7, 13035), (42, 5, 8, 13036), (46, 5, 9, 13037), (49, 5, 10, 13038)],
  [(11, 6, 0, 12239), (17, 6, 1, 13000), (20, 6, 2, 13001), (23, 6, 3, 13002), (26, 6, 4, 13003), (29, 6, 5, 13004), (32, 6, 6, 13005), (35, 6, 7, 13006), (39, 6, 8, 13007)],
  [(9, 7, 0, 13106), (15, 7, 1, 13107), (19, 7, 2, 13108), (29, 7, 3, 13109), (37, 7, 4, 13110), (44, 7, 5, 13111), (48, 7, 6, 13112), (52, 7, 7, 13113)],
  [(9, 8, 0, 13079), (15, 8, 1, 13080), (25, 8, 2, 13081)],
  [(9, 9, 0, 13096), (15, 9, 1, 13097), (25, 9, 2, 13098)],
  [(7, 10, 0, 17054), (13, 10, 10, 17064), (16, 10, 11, 17065), (19, 10, 12, 17066), (22, 10, 13, 17067), (26, 10, 14, 17068), (29, 10, 16, 17070), (32, 10, 17, 17071), (35, 10, 18, 17072), (38, 10, 19, 17073), (41, 10, 20, 17074), (44, 10, 21, 17075), (47, 10, 22, 17076), (50, 10, 23, 17077), (53, 10, 24, 17078), (56, 10, 25, 17079), (59, 10, 26, 17080), (62, 10, 28, 17082), (65, 10, 31, 17085), (68, 10, 32, 17086), (71, 10, 33, 17087), (74, 10, 36, 17090), (77, 10, 37, 17091), (80, 10, 38, 17092), (83, 10, 39, 17093), (86, 10, 40, 17094), (89, 10, 42, 17096), (92, 10, 43, 17097), (95, 10, 44, 17098), (98, 10, 45, 17099), (101, 10, 46, 17100), (104, 10, 47, 17101), (107, 10, 52, 17106), (111, 10, 53, 17107), (114, 10, 1, 17055), (121, 10, 2, 17056), (135, 10, 6, 17060), (138, 10, 7, 17061), (151, 10, 4, 17058), (154, 10, 5, 17059), (157, 10, 3, 17057), (318, 10, 9, 17063), (321, 10, 15, 17069), (343, 10, 8, 17062), (385, 10, 27, 17081), (388, 10, 29, 17083), (415, 10, 30, 17084), (438, 10, 34, 17088), (542, 10, 35, 17089), (552, 10, 41, 17095), (568, 10, 48, 17102), (635, 10, 49, 17103), (713, 10, 50, 17104), (717, 10, 51, 17105), (720, 10, 54, 17108)],
  [],
  [],
  [],
  []]
def pm_sfs : List (List (Nat × Nat × Nat)) := [[], [], [], [], [(159, 0, 15023)], [(61, 1, 15086)], [(43, 2, 15092)], [(199, 3, 16000)], [(117, 4, 16100)], [], [], [], [], [], []]
def pm_sn : List (String × String × String) := [("TypeRules$Parser", "BINDING", "[I"), ("TypeRules$Blocks", "STANDARD_CELLS", "[I"), ("TypeRules$Variables", "PINS", "[I"), ("TypeRules$Rules", "FIRST_CELLS", "[I"), ("TypeRules$Expressions", "OPERAND_COUNTS", "[I")]
def pm_sa : List (List Int32) := [[0, 1, 2, 3, 3, 4, 4, 4, 4, 5, 5, 6, 6, 6], [6, 6, 6, 6, 6, 3, 3, 3, 3], [0, 0, 1, 0, 0, 0, 1, 1, 2, 1, 0, 2, 2, 0, 2, 0, 3, 2, 2, 3, 1, 0, 1, 0, 0, 1, 1, 1, 2, 1, 1, 2, 2, 0, 2, 1, 3, 2, 2, 3, 2, 0, 1, 0, 0, 2, 1, 1, 2, 1, 2, 2, 2, 0, 2, 2, 3, 2, 2, 3, 3, 4, 1, 0, 0, 3, 5, 1, 0, 1, 3, 6, 1, 1, 2, 3, 2, 2, 0, 3, 3, 7, 2, 1, 4, 4, 8, 1, 0, 0, 4, 9, 1, 0, 1, 4, 6, 1, 1, 2, 4, 2, 2, 0, 3, 4, 7, 2, 1, 4, 5, 10, 1, 0, 0, 5, 2, 2, 0, 1, 6, 10, 1, 0, 0, 6, 2, 2, 0, 1, 7, 11, 1, 0, 0, 7, 5, 1, 0, 1, 7, 12, 2, 0, 2, 8, 13, 1, 0, 0, 8, 14, 1, 0, 1, 8, 12, 2, 0, 2], [0, 256, 512, 768, 832, 896], [1, 2, 2, 3, 3, 2, 2, 1, 1, 1]]
/-- String constants: class of the code, index, place of its row; their texts and bytes -/
def pm_stt_ : List (Nat × Nat × Nat) := [(1, 37, 12037), (1, 43, 12108), (1, 45, 12109), (1, 47, 12110), (1, 49, 12111), (1, 51, 12112), (1, 53, 12113), (1, 55, 12114), (2, 150, 14043)]
def pm_stx : List String := ["FUNCTION END_FUNCTION FUNCTION_BLOCK END_FUNCTION_BLOCK PROGRAM END_PROGRAM", "VAR VAR_INPUT VAR_OUTPUT END_VAR AT BOOL INT DINT ARRAY OF", "IF THEN ELSIF ELSE END_IF CASE END_CASE FOR TO BY DO END_FOR EXIT RETURN", "OR XOR AND MOD NOT TRUE FALSE", "LADDER END_LADDER RUNG END_RUNG", "TON TOF TP CTU CTD R_TRIG F_TRIG SR RS", "ABS MIN MAX LIMIT SEL SHL SHR TO_INT TO_DINT TO_BOOL", "IN PT Q ET CU R PV CV CD LD CLK S1 Q1 S R1", "()[],;:.+-*/=<>&|"]
def pm_sby : List (List Int32) := [[70, 85, 78, 67, 84, 73, 79, 78, 32, 69, 78, 68, 95, 70, 85, 78, 67, 84, 73, 79, 78, 32, 70, 85, 78, 67, 84, 73, 79, 78, 95, 66, 76, 79, 67, 75, 32, 69, 78, 68, 95, 70, 85, 78, 67, 84, 73, 79, 78, 95, 66, 76, 79, 67, 75, 32, 80, 82, 79, 71, 82, 65, 77, 32, 69, 78, 68, 95, 80, 82, 79, 71, 82, 65, 77],
  [86, 65, 82, 32, 86, 65, 82, 95, 73, 78, 80, 85, 84, 32, 86, 65, 82, 95, 79, 85, 84, 80, 85, 84, 32, 69, 78, 68, 95, 86, 65, 82, 32, 65, 84, 32, 66, 79, 79, 76, 32, 73, 78, 84, 32, 68, 73, 78, 84, 32, 65, 82, 82, 65, 89, 32, 79, 70],
  [73, 70, 32, 84, 72, 69, 78, 32, 69, 76, 83, 73, 70, 32, 69, 76, 83, 69, 32, 69, 78, 68, 95, 73, 70, 32, 67, 65, 83, 69, 32, 69, 78, 68, 95, 67, 65, 83, 69, 32, 70, 79, 82, 32, 84, 79, 32, 66, 89, 32, 68, 79, 32, 69, 78, 68, 95, 70, 79, 82, 32, 69, 88, 73, 84, 32, 82, 69, 84, 85, 82, 78],
  [79, 82, 32, 88, 79, 82, 32, 65, 78, 68, 32, 77, 79, 68, 32, 78, 79, 84, 32, 84, 82, 85, 69, 32, 70, 65, 76, 83, 69],
  [76, 65, 68, 68, 69, 82, 32, 69, 78, 68, 95, 76, 65, 68, 68, 69, 82, 32, 82, 85, 78, 71, 32, 69, 78, 68, 95, 82, 85, 78, 71],
  [84, 79, 78, 32, 84, 79, 70, 32, 84, 80, 32, 67, 84, 85, 32, 67, 84, 68, 32, 82, 95, 84, 82, 73, 71, 32, 70, 95, 84, 82, 73, 71, 32, 83, 82, 32, 82, 83],
  [65, 66, 83, 32, 77, 73, 78, 32, 77, 65, 88, 32, 76, 73, 77, 73, 84, 32, 83, 69, 76, 32, 83, 72, 76, 32, 83, 72, 82, 32, 84, 79, 95, 73, 78, 84, 32, 84, 79, 95, 68, 73, 78, 84, 32, 84, 79, 95, 66, 79, 79, 76],
  [73, 78, 32, 80, 84, 32, 81, 32, 69, 84, 32, 67, 85, 32, 82, 32, 80, 86, 32, 67, 86, 32, 67, 68, 32, 76, 68, 32, 67, 76, 75, 32, 83, 49, 32, 81, 49, 32, 83, 32, 82, 49],
  [40, 41, 91, 93, 44, 59, 58, 46, 43, 45, 42, 47, 61, 60, 62, 38, 124]]
/-- fields of String: index, which (0 coder, 1 value, 2 COMPACT_STRINGS), place of the row -/
def pm_sgf_ : List (Nat × Nat × Nat) := [(9, 1, 20078), (15, 0, 20077), (38, 2, 12050)]
/-- calls by the class of the code and the index: kind (0 virtual, 1 static, 2 min, 3 max, 4 arraycopy), method, places of the link row, of instanceMethod or static, of selects, of initialized -/
def pm_mts : List (List (Nat × Nat × Nat × Nat × Nat × Nat × Nat)) := [[(76, 0, 3, 13176, 13178, 3, 12001), (80, 0, 24, 13188, 13189, 13190, 12009), (83, 0, 78, 14108, 14109, 14110, 12011), (87, 0, 46, 15065, 14132, 14133, 12009), (90, 0, 141, 15066, 15067, 15068, 12014), (93, 0, 162, 16234, 16235, 16236, 12014), (96, 0, 60, 16238, 15004, 15005, 12010), (99, 0, 126, 16239, 17000, 17001, 12012), (102, 0, 119, 17004, 15178, 15179, 12012), (105, 0, 65, 17013, 15118, 15119, 12010), (109, 0, 71, 17018, 16075, 16076, 12010), (112, 0, 75, 17023, 17024, 17025, 12010), (115, 0, 76, 17031, 17032, 17033, 12010), (118, 0, 118, 17039, 15174, 15175, 12012), (121, 0, 127, 17044, 17045, 17046, 12012)],
  [(31, 1, 322, 12034, 12035, 0, 12003), (39, 0, 14, 12038, 12040, 0, 12002), (57, 0, 323, 12042, 12043, 12044, 12004), (63, 0, 15, 12087, 12088, 12089, 12002), (67, 1, 16, 12091, 12092, 0, 12002), (70, 2, 0, 12105, 12106, 12107, 12008), (76, 0, 18, 12097, 12099, 1, 12002), (80, 0, 19, 12101, 12103, 2, 12002), (84, 1, 17, 12094, 12095, 0, 12002)],
  [(51, 0, 20, 13192, 13193, 13194, 12002), (56, 2, 0, 13196, 12106, 12107, 12008), (62, 0, 25, 13197, 13199, 4, 12009), (66, 0, 26, 13201, 13203, 5, 12009), (69, 0, 29, 13213, 13215, 8, 12009), (73, 0, 27, 13205, 13207, 6, 12009), (77, 0, 30, 13217, 13219, 9, 12009), (81, 0, 31, 13221, 13223, 10, 12009), (84, 1, 34, 13232, 13233, 0, 12009), (88, 0, 39, 14018, 14020, 15, 12009), (91, 1, 38, 14014, 14015, 0, 12009), (94, 0, 40, 14024, 14026, 1000, 12009), (97, 0, 41, 14029, 14031, 1001, 12009), (100, 0, 43, 14036, 14038, 1002, 12009), (103, 0, 28, 13209, 13211, 7, 12009), (106, 0, 15, 14028, 12088, 12089, 12002), (110, 0, 32, 13225, 13227, 11, 12009), (117, 0, 37, 14010, 14012, 14, 12009), (120, 0, 35, 14000, 14002, 12, 12009), (126, 1, 33, 13229, 13230, 0, 12009), (132, 5, 0, 13237, 13238, 13239, 12008), (135, 1, 17, 13235, 12095, 0, 12002), (139, 0, 36, 14004, 14006, 13, 12009), (144, 1, 42, 14033, 14034, 0, 12009), (147, 1, 44, 14040, 14041, 0, 12009), (152, 0, 325, 14044, 14045, 14046, 12004)],
  [(40, 0, 57, 15029, 14117, 14118, 12010), (44, 4, 0, 15030, 15031, 15032, 12019), (50, 3, 0, 15108, 14067, 14068, 12008), (56, 0, 63, 16106, 15105, 15106, 12010), (60, 0, 69, 16170, 15157, 15158, 12010), (63, 0, 65, 16171, 15118, 15119, 12010), (68, 0, 66, 16172, 15126, 15127, 12010)],
  [(27, 0, 56, 14112, 14113, 14114, 12010), (34, 0, 57, 14116, 14117, 14118, 12010), (38, 0, 79, 14120, 14122, 1003, 12011), (42, 0, 59, 14183, 14184, 14185, 12010), (48, 0, 51, 14163, 14164, 14165, 12009), (54, 0, 54, 15061, 15062, 15063, 12009), (58, 0, 45, 14124, 14125, 14126, 12009), (61, 1, 80, 14128, 14129, 0, 12011), (65, 0, 46, 14131, 14132, 14133, 12009), (68, 0, 47, 14135, 14136, 14137, 12009), (71, 0, 48, 14139, 14140, 14141, 12009), (74, 0, 58, 14143, 14144, 14145, 12010), (78, 0, 49, 14147, 14148, 14149, 12009), (81, 0, 81, 14151, 14153, 1004, 12011), (84, 0, 82, 14159, 14161, 1005, 12011), (87, 0, 87, 14187, 14189, 1010, 12011), (90, 0, 94, 14215, 14217, 2001, 12011), (93, 0, 83, 14167, 14169, 1006, 12011), (96, 0, 84, 14171, 14173, 1007, 12011), (99, 0, 85, 14175, 14177, 1008, 12011), (102, 0, 86, 14179, 14181, 1009, 12011), (105, 0, 50, 14155, 14156, 14157, 12009), (108, 0, 52, 14219, 14220, 14221, 12009), (111, 0, 95, 14223, 14225, 2002, 12011), (114, 0, 53, 14227, 14228, 14229, 12009), (117, 0, 96, 14231, 14233, 2003, 12011), (120, 0, 103, 15033, 15035, 2010, 12011), (123, 0, 104, 15041, 15043, 2011, 12011), (126, 0, 105, 15045, 15047, 2012, 12011), (129, 0, 108, 15057, 15059, 2015, 12011), (132, 0, 100, 15011, 15013, 2007, 12011), (135, 0, 62, 15037, 15038, 15039, 12010), (138, 0, 98, 14239, 15001, 2005, 12011), (141, 0, 97, 14235, 14237, 2004, 12011), (144, 0, 106, 15049, 15051, 2013, 12011), (147, 0, 107, 15053, 15055, 2014, 12011), (150, 0, 60, 15003, 15004, 15005, 12010), (153, 0, 99, 15007, 15009, 2006, 12011), (156, 0, 102, 15019, 15021, 2009, 12011), (163, 0, 61, 15025, 15026, 15027, 12010), (167, 0, 101, 15015, 15017, 2008, 12011), (170, 0, 92, 14207, 14209, 1015, 12011), (173, 0, 88, 14191, 14193, 1011, 12011), (176, 0, 93, 14211, 14213, 2000, 12011), (179, 0, 89, 14195, 14197, 1012, 12011), (182, 0, 91, 14203, 14205, 1014, 12011), (185, 0, 90, 14199, 14201, 1013, 12011)],
  [(57, 0, 112, 15078, 15079, 15080, 12012), (64, 0, 113, 15082, 15083, 15084, 12012), (68, 0, 129, 15088, 15089, 15090, 12013), (72, 3, 0, 17003, 14067, 14068, 12008), (78, 0, 116, 15172, 15142, 15143, 12012), (82, 0, 118, 15173, 15174, 15175, 12012)],
  [(46, 0, 130, 15094, 15095, 15096, 12013), (52, 0, 131, 15098, 15099, 15100, 12013), (56, 0, 134, 16089, 16028, 16029, 12013)],
  [(23, 0, 110, 13068, 13069, 13070, 12012), (56, 0, 21, 15070, 15071, 15072, 12002), (62, 0, 111, 15074, 15075, 15076, 12012), (66, 1, 322, 15102, 12035, 0, 12003), (72, 0, 60, 15103, 15004, 15005, 12010), (75, 0, 63, 15104, 15105, 15106, 12010), (79, 0, 64, 15109, 15110, 15111, 12010), (83, 0, 142, 15113, 15115, 3000, 12014), (86, 0, 69, 15156, 15157, 15158, 12010), (89, 0, 144, 15160, 15162, 3002, 12014), (92, 0, 74, 16230, 16231, 16232, 12010), (95, 0, 65, 15117, 15118, 15119, 12010), (98, 0, 143, 15121, 15123, 3001, 12014), (101, 0, 113, 15147, 15083, 15084, 12012), (104, 0, 67, 15148, 15149, 15150, 12010), (107, 0, 68, 15152, 15153, 15154, 12010), (110, 0, 66, 15125, 15126, 15127, 12010), (113, 0, 114, 15129, 15130, 15131, 12012), (117, 0, 115, 15133, 15134, 15135, 12012), (120, 1, 22, 15137, 15138, 0, 12002), (125, 0, 112, 15140, 15079, 15080, 12012), (129, 0, 116, 15141, 15142, 15143, 12012), (132, 0, 130, 15145, 15095, 15096, 12013), (138, 0, 131, 15146, 15099, 15100, 12013), (142, 0, 145, 15164, 15166, 3003, 12014), (145, 0, 120, 15181, 15182, 15183, 12012), (148, 0, 146, 15185, 15187, 3004, 12014), (151, 0, 148, 15197, 15199, 3006, 12014), (154, 0, 158, 16019, 16021, 4000, 12014), (157, 0, 160, 16055, 16057, 4002, 12014), (160, 0, 70, 16059, 16047, 16048, 12010), (163, 0, 161, 16060, 16062, 4003, 12014), (166, 0, 147, 15189, 15191, 3005, 12014), (170, 0, 154, 15224, 15226, 3012, 12014), (173, 0, 166, 16065, 16066, 16067, 12015), (176, 0, 180, 16142, 16143, 16144, 12016), (177, 0, 117, 15168, 15169, 15170, 12012), (180, 0, 119, 15177, 15178, 15179, 12012), (183, 0, 121, 15193, 15194, 15195, 12012), (186, 0, 159, 16023, 16025, 4001, 12014), (190, 0, 165, 16031, 16032, 16033, 12015), (193, 0, 134, 16027, 16028, 16029, 12013), (196, 0, 155, 15236, 15238, 3013, 12014), (202, 0, 157, 16006, 16008, 3015, 12014), (208, 0, 122, 15228, 15229, 15230, 12012), (211, 0, 149, 15201, 15203, 3007, 12014), (215, 0, 150, 15205, 15207, 3008, 12014), (218, 0, 151, 15209, 15211, 3009, 12014), (221, 0, 153, 15220, 15222, 3011, 12014), (222, 0, 118, 16010, 15174, 15175, 12012), (225, 0, 152, 15213, 15215, 3010, 12014), (228, 1, 164, 15217, 15218, 0, 12015), (231, 0, 132, 15232, 15233, 15234, 12013), (232, 0, 156, 16002, 16004, 3014, 12014), (235, 0, 133, 16011, 16012, 16013, 12013), (238, 0, 123, 16015, 16016, 16017, 12012)],
  [(19, 0, 110, 13078, 13069, 13070, 12012), (28, 0, 65, 16069, 15118, 15119, 12010), (34, 0, 66, 16036, 15126, 15127, 12010), (37, 0, 70, 16046, 16047, 16048, 12010), (41, 0, 167, 16070, 16072, 4004, 12015), (44, 0, 169, 16081, 16083, 4005, 12015), (47, 0, 170, 16090, 16092, 4006, 12015), (50, 0, 177, 16134, 16136, 4009, 12015), (53, 0, 178, 16138, 16140, 4010, 12015), (56, 0, 116, 16035, 15142, 15143, 12012), (60, 0, 134, 16037, 16028, 16029, 12013), (66, 0, 135, 16038, 16039, 16040, 12013), (71, 0, 136, 16042, 16043, 16044, 12013), (74, 0, 137, 16050, 16051, 16052, 12013), (77, 0, 67, 16054, 15149, 15150, 12010), (80, 0, 71, 16074, 16075, 16076, 12010), (83, 1, 168, 16078, 16079, 0, 12015), (87, 0, 138, 16085, 16086, 16087, 12013), (91, 1, 22, 16094, 15138, 0, 12002), (96, 0, 122, 16095, 15229, 15230, 12012), (99, 0, 120, 16096, 15182, 15183, 12012), (102, 1, 171, 16097, 16098, 0, 12015), (105, 0, 72, 16102, 16103, 16104, 12010), (108, 0, 172, 16107, 16109, 4007, 12015), (111, 0, 174, 16123, 16125, 4008, 12015), (114, 0, 68, 16133, 15153, 15154, 12010), (121, 0, 124, 16111, 16112, 16113, 12012), (124, 1, 173, 16115, 16116, 0, 12015), (128, 0, 63, 16118, 15105, 15106, 12010), (131, 0, 125, 16119, 16120, 16121, 12012), (134, 1, 175, 16127, 16128, 0, 12015), (137, 1, 176, 16130, 16131, 0, 12015)],
  [(19, 0, 110, 13095, 13069, 13070, 12012), (28, 0, 65, 16146, 15118, 15119, 12010), (34, 0, 181, 16147, 16149, 4011, 12016), (37, 0, 184, 16176, 16178, 4014, 12016), (40, 0, 185, 16185, 16187, 4015, 12016), (43, 0, 186, 16191, 16193, 5000, 12016), (46, 0, 71, 16174, 16075, 16076, 12010), (49, 1, 168, 16195, 16079, 0, 12015), (55, 0, 187, 16196, 16198, 5001, 12016), (58, 0, 188, 16200, 16202, 5002, 12016), (61, 0, 73, 16166, 16167, 16168, 12010), (65, 0, 113, 16213, 15083, 15084, 12012), (68, 0, 191, 16214, 16216, 5004, 12016), (71, 0, 193, 16222, 16224, 5006, 12016), (74, 0, 194, 16226, 16228, 5007, 12016), (77, 0, 116, 16160, 15142, 15143, 12012), (81, 0, 134, 16161, 16028, 16029, 12013), (87, 0, 183, 16156, 16158, 4013, 12016), (89, 0, 139, 16162, 16163, 16164, 12013), (92, 0, 66, 16151, 15126, 15127, 12010), (95, 0, 182, 16152, 16154, 4012, 12016), (98, 0, 63, 16173, 15105, 15106, 12010), (101, 1, 173, 16175, 16116, 0, 12015), (104, 0, 135, 16180, 16039, 16040, 12013), (109, 0, 136, 16181, 16043, 16044, 12013), (112, 0, 137, 16182, 16051, 16052, 12013), (115, 0, 67, 16183, 15149, 15150, 12010), (119, 0, 68, 16184, 15153, 15154, 12010), (122, 0, 69, 16189, 15157, 15158, 12010), (125, 0, 138, 16190, 16086, 16087, 12013), (129, 0, 189, 16204, 16206, 5003, 12016), (132, 1, 164, 16208, 15218, 0, 12015), (135, 1, 190, 16209, 16210, 0, 12016), (141, 0, 192, 16218, 16220, 5005, 12016)],
  [(117, 0, 198, 17229, 17231, 5008, 12017), (124, 1, 211, 18039, 18040, 0, 12017), (128, 1, 214, 18055, 18056, 0, 12017), (132, 1, 210, 18036, 18037, 0, 12017), (141, 0, 205, 18017, 18019, 5013, 12017), (144, 0, 206, 18021, 18023, 5014, 12017), (148, 0, 204, 18013, 18015, 5012, 12017), (160, 0, 207, 18025, 18027, 5015, 12017), (163, 0, 215, 18058, 18060, 6002, 12017), (166, 0, 221, 18125, 18127, 6005, 12017), (169, 0, 222, 18131, 18133, 6006, 12017), (172, 0, 223, 18137, 18139, 6007, 12017), (175, 1, 209, 18033, 18034, 0, 12017), (184, 1, 213, 18052, 18053, 0, 12017), (187, 0, 208, 18029, 18031, 6000, 12017), (191, 0, 212, 18047, 18049, 6001, 12017), (247, 1, 218, 18088, 18089, 0, 12017), (304, 0, 216, 18062, 18064, 6003, 12017), (308, 1, 217, 18066, 18067, 0, 12017), (311, 1, 219, 18111, 18112, 0, 12017), (314, 0, 220, 18121, 18123, 6004, 12017), (324, 0, 202, 18005, 18007, 5010, 12017), (328, 0, 227, 18153, 18155, 6011, 12017), (331, 0, 224, 18141, 18143, 6008, 12017), (334, 0, 203, 18009, 18011, 5011, 12017), (337, 0, 230, 18165, 18167, 6014, 12017), (340, 0, 229, 18161, 18163, 6013, 12017), (346, 0, 238, 18197, 18199, 7006, 12017), (349, 0, 226, 18149, 18151, 6010, 12017), (353, 0, 233, 18177, 18179, 7001, 12017), (356, 0, 228, 18157, 18159, 6012, 12017), (360, 0, 234, 18181, 18183, 7002, 12017), (363, 0, 231, 18169, 18171, 6015, 12017), (366, 0, 232, 18173, 18175, 7000, 12017), (369, 0, 235, 18185, 18187, 7003, 12017), (372, 0, 240, 18205, 18207, 7008, 12017), (375, 0, 236, 18189, 18191, 7004, 12017), (378, 0, 237, 18193, 18195, 7005, 12017), (381, 0, 239, 18201, 18203, 7007, 12017), (391, 0, 253, 19016, 19018, 8004, 12017), (394, 1, 254, 19020, 19021, 0, 12017), (397, 0, 247, 18233, 18235, 7015, 12017), (400, 0, 248, 18237, 18239, 8000, 12017), (403, 0, 249, 19001, 19003, 8001, 12017), (406, 1, 251, 19009, 19010, 0, 12017), (409, 0, 252, 19012, 19014, 8003, 12017), (412, 1, 255, 19023, 19024, 0, 12017), (418, 0, 246, 18229, 18231, 7014, 12017), (422, 0, 250, 19005, 19007, 8002, 12017), (425, 0, 245, 18225, 18227, 7013, 12017), (428, 0, 244, 18221, 18223, 7012, 12017), (431, 0, 243, 18217, 18219, 7011, 12017), (434, 0, 256, 19026, 19028, 8005, 12017), (441, 0, 258, 19034, 19036, 8007, 12017), (444, 0, 260, 19042, 19044, 8009, 12017), (447, 0, 257, 19030, 19032, 8006, 12017), (450, 0, 262, 19050, 19052, 8011, 12017), (453, 0, 263, 19054, 19056, 8012, 12017), (456, 0, 264, 19058, 19060, 8013, 12017), (459, 0, 242, 18213, 18215, 7010, 12017), (462, 0, 259, 19038, 19040, 8008, 12017), (465, 0, 241, 18209, 18211, 7009, 12017), (468, 0, 261, 19046, 19048, 8010, 12017), (471, 0, 225, 18145, 18147, 6009, 12017), (545, 0, 284, 19153, 19155, 9013, 12017), (548, 1, 295, 19197, 19198, 0, 12017), (555, 0, 267, 19070, 19072, 9000, 12017), (558, 1, 268, 19074, 19075, 0, 12017), (562, 1, 269, 19086, 19087, 0, 12017), (565, 0, 270, 19099, 19101, 9001, 12017), (571, 0, 271, 19103, 19105, 9002, 12017), (575, 0, 278, 19131, 19133, 9009, 12017), (580, 0, 279, 19135, 19137, 9010, 12017), (583, 1, 280, 19139, 19140, 0, 12017), (587, 1, 281, 19142, 19143, 0, 12017), (590, 0, 283, 19149, 19151, 9012, 12017), (593, 0, 292, 19185, 19187, 10004, 12017), (596, 0, 306, 20015, 20017, 11000, 12017), (599, 0, 294, 19193, 19195, 10006, 12017), (602, 1, 296, 19215, 19216, 0, 12017), (605, 1, 311, 20034, 20035, 0, 12017), (608, 1, 309, 20027, 20028, 0, 12017), (611, 0, 276, 19123, 19125, 9007, 12017), (614, 0, 310, 20030, 20032, 11003, 12017), (617, 1, 290, 19178, 19179, 0, 12017), (621, 0, 289, 19174, 19176, 10002, 12017), (624, 0, 288, 19170, 19172, 10001, 12017), (629, 0, 303, 20003, 20005, 10013, 12017), (632, 0, 275, 19119, 19121, 9006, 12017), (638, 0, 273, 19111, 19113, 9004, 12017), (641, 0, 274, 19115, 19117, 9005, 12017), (644, 0, 277, 19127, 19129, 9008, 12017), (647, 0, 282, 19145, 19147, 9011, 12017), (650, 0, 285, 19157, 19159, 9014, 12017), (653, 0, 286, 19161, 19163, 9015, 12017), (656, 0, 287, 19166, 19168, 10000, 12017), (659, 0, 291, 19181, 19183, 10003, 12017), (662, 0, 293, 19189, 19191, 10005, 12017), (665, 0, 297, 19218, 19220, 10007, 12017), (668, 0, 298, 19222, 19224, 10008, 12017), (671, 0, 299, 19226, 19228, 10009, 12017), (674, 0, 300, 19230, 19232, 10010, 12017), (677, 0, 301, 19235, 19237, 10011, 12017), (680, 0, 302, 19239, 20001, 10012, 12017), (683, 0, 304, 20007, 20009, 10014, 12017), (686, 0, 305, 20011, 20013, 10015, 12017), (689, 0, 307, 20019, 20021, 11001, 12017), (692, 0, 308, 20023, 20025, 11002, 12017), (695, 0, 312, 20037, 20039, 11004, 12017), (698, 0, 313, 20041, 20043, 11005, 12017), (701, 0, 266, 19066, 19068, 8015, 12017), (704, 0, 272, 19107, 19109, 9003, 12017), (707, 0, 201, 18001, 18003, 5009, 12017), (710, 0, 265, 19062, 19064, 8014, 12017), (723, 0, 316, 20053, 20055, 11006, 12017)],
  [],
  [(13, 0, 1, 13168, 13169, 13170, 12001), (17, 0, 196, 17221, 17222, 17223, 12017), (18, 0, 2, 13172, 13173, 13174, 12001), (22, 0, 197, 17225, 17226, 17227, 12017), (23, 0, 4, 13180, 13181, 13182, 12001), (27, 0, 199, 17233, 17234, 17235, 12017), (28, 0, 5, 13184, 13185, 13186, 12001), (31, 0, 200, 17237, 17238, 17239, 12017), (32, 0, 6, 17005, 17006, 17007, 12001), (35, 0, 314, 20045, 20046, 20047, 12017), (36, 0, 7, 17009, 17010, 17011, 12001), (39, 0, 315, 20049, 20050, 20051, 12017), (40, 0, 8, 17014, 17015, 17016, 12001), (43, 0, 317, 20057, 20058, 20059, 12017), (44, 0, 9, 17019, 17020, 17021, 12001), (47, 0, 318, 20061, 20062, 20063, 12017), (48, 0, 10, 17027, 17028, 17029, 12001), (51, 0, 319, 20065, 20066, 20067, 12017), (52, 0, 11, 17035, 17036, 17037, 12001), (55, 0, 320, 20069, 20070, 20071, 12017), (56, 0, 12, 17040, 17041, 17042, 12001), (59, 0, 321, 20073, 20074, 20075, 12017)],
  [(299, 1, 329, 12052, 12053, 0, 12005), (335, 0, 328, 14056, 14057, 14058, 12004), (492, 0, 324, 12046, 12047, 12048, 12004), (505, 0, 327, 14052, 14053, 14054, 12004), (633, 0, 326, 14048, 14049, 14050, 12004), (637, 1, 331, 14060, 14061, 0, 12005)],
  [(13, 1, 330, 12055, 12056, 0, 12005), (38, 2, 0, 14069, 12106, 12107, 12008), (88, 1, 332, 14063, 14064, 0, 12005), (92, 3, 0, 14066, 14067, 14068, 12008), (95, 1, 333, 14070, 14071, 0, 12005)]]
def pm_cts : List (List (Nat × Int32 × Nat)) := [[], [], [(142, 60000, 14008), (143, 3600000, 14009)], [], [], [], [], [], [], [], [], [], [], [], []]
def pm_ctls : List (List (Nat × Int64 × Nat)) := [[], [], [(113, 16, 14022), (115, 2, 14023), (124, 2147483647, 14017), (130, 4294967296, 13236)], [], [], [], [], [(206, 256, 16064)], [], [(139, 1000000, 16212)], [(178, -1, 18042), (180, 4000000000, 18043), (182, 2147483647, 18051), (195, 16, 18129), (197, 2, 18130), (199, 1000, 18044), (201, 60000, 18045), (203, 3600000, 18046), (205, 255, 18135), (207, 63, 18136), (209, 5068043006759227214, 18069), (211, 4994004212793036355, 18070), (213, 22608498589319501, 18071), (215, 4994004212960612167, 18072), (217, 5652818, 18073), (219, 6215339529953235029, 18074), (221, 6215339530054358096, 18075), (223, 19507828957266258, 18076), (225, 16724, 18077), (227, 1112493900, 18078), (229, 4804180, 18079), (231, 1145654868, 18080), (233, 280553996633, 18081), (235, 20294, 18082), (237, 18758, 18083), (239, 1414022478, 18084), (241, 297633270086, 18085), (243, 1162629957, 18086), (245, 76202456860998, 18087), (250, 1128354629, 18091), (252, 4994004212741395269, 18092), (254, 4607826, 18093), (256, 21583, 18094), (258, 16985, 18095), (260, 17487, 18096), (262, 19507828956221266, 18097), (264, 1163413844, 18098), (266, 90457721098830, 18099), (268, 20306, 18100), (270, 5787474, 18101), (272, 4279876, 18102), (274, 5066564, 18103), (276, 5132116, 18104), (278, 1414681925, 18105), (280, 301743231813, 18106), (282, 83843201910098, 18107), (284, 4994004212892386372, 18108), (286, 1381322311, 18109), (288, 4994004212994362951, 18110), (290, 1414090574, 18114), (292, 104738352743243, 18115), (294, 6073472770510048335, 18116), (296, 5390669, 18117), (298, 84, 18118), (300, 21844, 18119), (302, 17746, 18120), (474, 4276819, 19089), (476, 5065038, 19090), (478, 5063000, 19091), (480, 327647316308, 19092), (482, 5457228, 19093), (484, 5457996, 19094), (486, 5458002, 19095), (488, 92699877789268, 19096), (490, 23731168629837396, 19097), (492, 23731168596676428, 19098), (494, 5525326, 19077), (496, 5525318, 19078), (498, 21584, 19079), (500, 4412501, 19080), (502, 4412484, 19081), (504, 90569390049607, 19082), (506, 77375250516295, 19083), (508, 21330, 19084), (510, 21075, 19085), (512, 18766, 19200), (514, 20564, 19201), (516, 81, 19202), (518, 17748, 19203), (520, 17237, 19204), (522, 17220, 19205), (524, 82, 19206), (526, 19524, 19207), (528, 20566, 19208), (530, 17238, 19209), (532, 4410443, 19210), (534, 21297, 19211), (536, 83, 19212), (538, 21041, 19213), (540, 20785, 19214), (578, 256, 19165), (627, 1000000, 19234)], [], [], [], []]
/-- the layout: the objects of the classes, one each, then their arrays -/
abbrev pm_Y0 : List ((Nat × Nat) ⊕ (Nat × List Nat)) := [.inr (0, [13, 4, 5, 6, 7, 9, 0, 0, 0, 0, 0, 0]), .inr (1, [14, 15, 16, 17, 0]), .inr (2, [13, 3, 18, 19, 20, 0, 0, 0, 1, 0, 0]), .inr (3, [21, 22, 23, 24, 25, 26, 27, 28, 0]), .inr (4, [4, 5, 0, 0]), .inr (5, [8, 29, 30, 31, 32, 33, 34, 35, 0, 0, 0]), .inr (6, [36, 37, 38, 39, 40, 41, 42, 43, 0]), .inr (7, [5, 3, 7, 8, 10, 11, 44, 0]), .inr (8, [5, 7, 8]), .inr (9, [5, 7, 8]), .inr (10, [45, 0, 0, 0, 0, 0, 0, 0, 0, 0, 46, 47, 48, 49, 50, 0, 51, 52, 53, 54, 55, 56, 57, 58, 59, 60, 61, 0, 62, 0, 0, 63, 64, 65, 0, 0, 66, 67, 68, 69, 70, 0, 71, 72, 73, 74, 75, 76, 0, 0, 0, 0, 0, 77, 0]), .inl (1, 8192), .inl (1, 8704), .inl (0, 4172), .inl (0, 1024), .inl (0, 4171), .inl (0, 8193), .inl (0, 8193), .inl (0, 8193), .inl (0, 16386), .inl (0, 16386), .inl (0, 16386), .inl (0, 16386), .inl (0, 16386), .inl (0, 16386), .inl (0, 16386), .inl (0, 16386), .inl (0, 4171), .inl (0, 418), .inl (0, 418), .inl (0, 418), .inl (0, 418), .inl (0, 418), .inl (0, 3344), .inl (0, 4171), .inl (0, 4128), .inl (0, 4128), .inl (0, 4128), .inl (0, 4128), .inl (0, 4128), .inl (0, 4128), .inl (2, 4128), .inl (0, 960), .inl (0, 8192), .inl (0, 4200), .inl (0, 4200), .inl (0, 4200), .inl (3, 4200), .inl (0, 4096), .inl (0, 20000), .inl (0, 20000), .inl (0, 20000), .inl (0, 20000), .inl (0, 20000), .inl (0, 20000), .inl (0, 20000), .inl (0, 20000), .inl (0, 20000), .inl (0, 20000), .inl (0, 400), .inl (0, 400), .inl (0, 70), .inl (0, 70), .inl (0, 70), .inl (0, 800), .inl (0, 800), .inl (0, 800), .inl (0, 800), .inl (0, 800), .inl (0, 5000), .inl (0, 5000), .inl (0, 5000), .inl (0, 5000), .inl (0, 5000), .inl (0, 5000), .inl (0, 20000)]
