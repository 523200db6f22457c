/-! THE WORDS OF THE TABLES, the classes, the methods (printed by wip/whole/tools/gen_prog.py) -/
def mx_W : List Cond := lw_tbl.filter goodWord
theorem mx_win {w : Cond} (i : Nat) (h : lw_tbl[i]? = some w) (hg : goodWord w = true) : w ∈ mx_W := List.mem_filter.mpr ⟨List.mem_of_getElem? h, hg⟩
theorem mx_W_good : mx_Good mx_W := fun w hw => good_of_word (List.mem_filter.mp hw).2
theorem mx_W_in {w : Cond} (h : w ∈ mx_W) : w ∈ lw_tbl := (List.mem_filter.mp h).1
def TT_0 : u_T := fun k => match k with
  | 0 => ("CorridorCells", "ground", "LCorridorCells$Ground;", true)
  | 1 => ("CorridorCells", "search", "LCorridorCells$Search;", true)
  | 2 => ("CorridorCells", "found", "[LCorridorCells$Way;", true)
  | 3 => ("CorridorCells", "foundCount", "I", false)
  | 4 => ("CorridorCells", "lastNodes", "J", false)
  | 5 => ("CorridorCells", "lastBound", "J", false)
  | _ => ("CorridorCells", "lastProved", "Z", false)
def tt_0 : Nat → FieldType := fun k => match k with
  | 0 => .object "CorridorCells$Ground"
  | 1 => .object "CorridorCells$Search"
  | 2 => .array (.object "CorridorCells$Way")
  | 3 => .int
  | 4 => .long
  | 5 => .long
  | _ => .boolean
theorem tn_0 : ∀ a, a < 7 → ∀ b, b < 7 → a ≠ b → (TT_0 a).2.1 ≠ (TT_0 b).2.1 := by decide +kernel
theorem tt_0_ok : ∀ k, k < 7 → parseFieldDescriptor (TT_0 k).2.2.1 = some (tt_0 k) := by decide +kernel
theorem tw_0 : ∀ w ∈ u_ws "CorridorCells" TT_0 7, w ∈ mx_W := by
  intro w hw
  have h : (u_ws "CorridorCells" TT_0 7).all (fun w => decide (w ∈ lw_tbl) && goodWord w) = true := by decide +kernel
  have h2 := List.all_eq_true.mp h w hw
  rw [Bool.and_eq_true] at h2
  exact List.mem_filter.mpr ⟨of_decide_eq_true h2.1, h2.2⟩
def df_0 : List Value := [.null, .null, .null, .int 0, .long 0, .long 0, .int 0]
theorem df_0_ok : ∀ j, j < 7 → defaultValue (tt_0 j) = vp_V df_0 j := by decide +kernel
def TT_1 : u_T := fun k => match k with
  | 0 => ("CorridorCells$Ground", "width", "I", true)
  | 1 => ("CorridorCells$Ground", "height", "I", true)
  | 2 => ("CorridorCells$Ground", "size", "I", true)
  | 3 => ("CorridorCells$Ground", "columns", "[I", true)
  | 4 => ("CorridorCells$Ground", "rows", "[I", true)
  | 5 => ("CorridorCells$Ground", "neighbours", "[I", true)
  | 6 => ("CorridorCells$Ground", "prices", "[I", true)
  | 7 => ("CorridorCells$Ground", "levels", "[I", true)
  | 8 => ("CorridorCells$Ground", "barred", "[Z", true)
  | 9 => ("CorridorCells$Ground", "mosts", "[I", true)
  | 10 => ("CorridorCells$Ground", "cents", "[I", true)
  | 11 => ("CorridorCells$Ground", "zones", "[I", true)
  | 12 => ("CorridorCells$Ground", "marks", "[I", true)
  | 13 => ("CorridorCells$Ground", "values", "[I", true)
  | 14 => ("CorridorCells$Ground", "weights", "[J", true)
  | 15 => ("CorridorCells$Ground", "reach", "I", false)
  | 16 => ("CorridorCells$Ground", "slope", "I", false)
  | _ => ("CorridorCells$Ground", "turn", "I", false)
def tt_1 : Nat → FieldType := fun k => match k with
  | 0 => .int
  | 1 => .int
  | 2 => .int
  | 3 => .array .int
  | 4 => .array .int
  | 5 => .array .int
  | 6 => .array .int
  | 7 => .array .int
  | 8 => .array .boolean
  | 9 => .array .int
  | 10 => .array .int
  | 11 => .array .int
  | 12 => .array .int
  | 13 => .array .int
  | 14 => .array .long
  | 15 => .int
  | 16 => .int
  | _ => .int
theorem tn_1 : ∀ a, a < 18 → ∀ b, b < 18 → a ≠ b → (TT_1 a).2.1 ≠ (TT_1 b).2.1 := by decide +kernel
theorem tt_1_ok : ∀ k, k < 18 → parseFieldDescriptor (TT_1 k).2.2.1 = some (tt_1 k) := by decide +kernel
theorem tw_1 : ∀ w ∈ u_ws "CorridorCells$Ground" TT_1 18, w ∈ mx_W := by
  intro w hw
  have h : (u_ws "CorridorCells$Ground" TT_1 18).all (fun w => decide (w ∈ lw_tbl) && goodWord w) = true := by decide +kernel
  have h2 := List.all_eq_true.mp h w hw
  rw [Bool.and_eq_true] at h2
  exact List.mem_filter.mpr ⟨of_decide_eq_true h2.1, h2.2⟩
def df_1 : List Value := [.int 0, .int 0, .int 0, .null, .null, .null, .null, .null, .null, .null, .null, .null, .null, .null, .null, .int 0, .int 0, .int 0]
theorem df_1_ok : ∀ j, j < 18 → defaultValue (tt_1 j) = vp_V df_1 j := by decide +kernel
def TT_2 : u_T := fun k => match k with
  | 0 => ("CorridorCells$Search", "ground", "LCorridorCells$Ground;", true)
  | 1 => ("CorridorCells$Search", "queue", "LCorridorCells$LabelQueue;", true)
  | 2 => ("CorridorCells$Search", "bases", "[I", true)
  | 3 => ("CorridorCells$Search", "units", "[J", true)
  | 4 => ("CorridorCells$Search", "shared", "[Z", true)
  | 5 => ("CorridorCells$Search", "first", "I", false)
  | 6 => ("CorridorCells$Search", "last", "I", false)
  | 7 => ("CorridorCells$Search", "sharedMost", "I", false)
  | 8 => ("CorridorCells$Search", "headingRows", "I", false)
  | _ => ("CorridorCells$Search", "lastCost", "J", false)
def tt_2 : Nat → FieldType := fun k => match k with
  | 0 => .object "CorridorCells$Ground"
  | 1 => .object "CorridorCells$LabelQueue"
  | 2 => .array .int
  | 3 => .array .long
  | 4 => .array .boolean
  | 5 => .int
  | 6 => .int
  | 7 => .int
  | 8 => .int
  | _ => .long
theorem tn_2 : ∀ a, a < 10 → ∀ b, b < 10 → a ≠ b → (TT_2 a).2.1 ≠ (TT_2 b).2.1 := by decide +kernel
theorem tt_2_ok : ∀ k, k < 10 → parseFieldDescriptor (TT_2 k).2.2.1 = some (tt_2 k) := by decide +kernel
theorem tw_2 : ∀ w ∈ u_ws "CorridorCells$Search" TT_2 10, w ∈ mx_W := by
  intro w hw
  have h : (u_ws "CorridorCells$Search" TT_2 10).all (fun w => decide (w ∈ lw_tbl) && goodWord w) = true := by decide +kernel
  have h2 := List.all_eq_true.mp h w hw
  rw [Bool.and_eq_true] at h2
  exact List.mem_filter.mpr ⟨of_decide_eq_true h2.1, h2.2⟩
def df_2 : List Value := [.null, .null, .null, .null, .null, .int 0, .int 0, .int 0, .int 0, .long 0]
theorem df_2_ok : ∀ j, j < 10 → defaultValue (tt_2 j) = vp_V df_2 j := by decide +kernel
def TT_3 : u_T := fun k => match k with
  | 0 => ("CorridorCells$LabelQueue", "costs", "[J", false)
  | 1 => ("CorridorCells$LabelQueue", "ranks", "[J", false)
  | 2 => ("CorridorCells$LabelQueue", "spots", "[I", false)
  | 3 => ("CorridorCells$LabelQueue", "heap", "[I", false)
  | 4 => ("CorridorCells$LabelQueue", "rowCount", "I", false)
  | _ => ("CorridorCells$LabelQueue", "count", "I", false)
def tt_3 : Nat → FieldType := fun k => match k with
  | 0 => .array .long
  | 1 => .array .long
  | 2 => .array .int
  | 3 => .array .int
  | 4 => .int
  | _ => .int
theorem tn_3 : ∀ a, a < 6 → ∀ b, b < 6 → a ≠ b → (TT_3 a).2.1 ≠ (TT_3 b).2.1 := by decide +kernel
theorem tt_3_ok : ∀ k, k < 6 → parseFieldDescriptor (TT_3 k).2.2.1 = some (tt_3 k) := by decide +kernel
theorem tw_3 : ∀ w ∈ u_ws "CorridorCells$LabelQueue" TT_3 6, w ∈ mx_W := by
  intro w hw
  have h : (u_ws "CorridorCells$LabelQueue" TT_3 6).all (fun w => decide (w ∈ lw_tbl) && goodWord w) = true := by decide +kernel
  have h2 := List.all_eq_true.mp h w hw
  rw [Bool.and_eq_true] at h2
  exact List.mem_filter.mpr ⟨of_decide_eq_true h2.1, h2.2⟩
def df_3 : List Value := [.null, .null, .null, .null, .int 0, .int 0]
theorem df_3_ok : ∀ j, j < 6 → defaultValue (tt_3 j) = vp_V df_3 j := by decide +kernel
def TT_4 : u_T := fun k => match k with
  | 0 => ("CorridorCells$Way", "places", "[I", false)
  | 1 => ("CorridorCells$Way", "headings", "[I", false)
  | _ => ("CorridorCells$Way", "length", "I", false)
def tt_4 : Nat → FieldType := fun k => match k with
  | 0 => .array .int
  | 1 => .array .int
  | _ => .int
theorem tn_4 : ∀ a, a < 3 → ∀ b, b < 3 → a ≠ b → (TT_4 a).2.1 ≠ (TT_4 b).2.1 := by decide +kernel
theorem tt_4_ok : ∀ k, k < 3 → parseFieldDescriptor (TT_4 k).2.2.1 = some (tt_4 k) := by decide +kernel
theorem tw_4 : ∀ w ∈ u_ws "CorridorCells$Way" TT_4 3, w ∈ mx_W := by
  intro w hw
  have h : (u_ws "CorridorCells$Way" TT_4 3).all (fun w => decide (w ∈ lw_tbl) && goodWord w) = true := by decide +kernel
  have h2 := List.all_eq_true.mp h w hw
  rw [Bool.and_eq_true] at h2
  exact List.mem_filter.mpr ⟨of_decide_eq_true h2.1, h2.2⟩
def df_4 : List Value := [.null, .null, .int 0]
theorem df_4_ok : ∀ j, j < 3 → defaultValue (tt_4 j) = vp_V df_4 j := by decide +kernel
def TT_5 : u_T := fun k => match k with
  | 0 => ("CorridorCellsModel", "width", "I", true)
  | 1 => ("CorridorCellsModel", "height", "I", true)
  | 2 => ("CorridorCellsModel", "costs", "[I", true)
  | 3 => ("CorridorCellsModel", "levels", "[I", true)
  | 4 => ("CorridorCellsModel", "barred", "[Z", true)
  | 5 => ("CorridorCellsModel", "mosts", "[I", true)
  | 6 => ("CorridorCellsModel", "cents", "[I", true)
  | 7 => ("CorridorCellsModel", "values", "[I", true)
  | 8 => ("CorridorCellsModel", "marks", "[I", true)
  | 9 => ("CorridorCellsModel", "zones", "[I", true)
  | 10 => ("CorridorCellsModel", "weights", "[I", true)
  | 11 => ("CorridorCellsModel", "reach", "I", false)
  | 12 => ("CorridorCellsModel", "slope", "I", false)
  | 13 => ("CorridorCellsModel", "turn", "I", false)
  | 14 => ("CorridorCellsModel", "found", "I", false)
  | 15 => ("CorridorCellsModel", "hand", "I", false)
  | 16 => ("CorridorCellsModel", "places", "[I", true)
  | 17 => ("CorridorCellsModel", "cells", "[I", true)
  | 18 => ("CorridorCellsModel", "headings", "[I", true)
  | 19 => ("CorridorCellsModel", "nodes", "I", false)
  | 20 => ("CorridorCellsModel", "bound", "J", false)
  | 21 => ("CorridorCellsModel", "proved", "Z", false)
  | 22 => ("CorridorCellsModel", "from", "I", false)
  | 23 => ("CorridorCellsModel", "end", "I", false)
  | 24 => ("CorridorCellsModel", "shares", "I", false)
  | 25 => ("CorridorCellsModel", "shared", "[Z", true)
  | 26 => ("CorridorCellsModel", "rests", "[J", true)
  | 27 => ("CorridorCellsModel", "turnRests", "[I", true)
  | 28 => ("CorridorCellsModel", "moveRests", "[I", true)
  | 29 => ("CorridorCellsModel", "states", "[I", true)
  | 30 => ("CorridorCellsModel", "spots", "[I", true)
  | 31 => ("CorridorCellsModel", "size", "I", false)
  | _ => ("CorridorCellsModel", "heap", "[I", true)
def tt_5 : Nat → FieldType := fun k => match k with
  | 0 => .int
  | 1 => .int
  | 2 => .array .int
  | 3 => .array .int
  | 4 => .array .boolean
  | 5 => .array .int
  | 6 => .array .int
  | 7 => .array .int
  | 8 => .array .int
  | 9 => .array .int
  | 10 => .array .int
  | 11 => .int
  | 12 => .int
  | 13 => .int
  | 14 => .int
  | 15 => .int
  | 16 => .array .int
  | 17 => .array .int
  | 18 => .array .int
  | 19 => .int
  | 20 => .long
  | 21 => .boolean
  | 22 => .int
  | 23 => .int
  | 24 => .int
  | 25 => .array .boolean
  | 26 => .array .long
  | 27 => .array .int
  | 28 => .array .int
  | 29 => .array .int
  | 30 => .array .int
  | 31 => .int
  | _ => .array .int
theorem tn_5 : ∀ a, a < 33 → ∀ b, b < 33 → a ≠ b → (TT_5 a).2.1 ≠ (TT_5 b).2.1 := by decide +kernel
theorem tt_5_ok : ∀ k, k < 33 → parseFieldDescriptor (TT_5 k).2.2.1 = some (tt_5 k) := by decide +kernel
theorem tw_5 : ∀ w ∈ u_ws "CorridorCellsModel" TT_5 33, w ∈ mx_W := by
  intro w hw
  have h : (u_ws "CorridorCellsModel" TT_5 33).all (fun w => decide (w ∈ lw_tbl) && goodWord w) = true := by decide +kernel
  have h2 := List.all_eq_true.mp h w hw
  rw [Bool.and_eq_true] at h2
  exact List.mem_filter.mpr ⟨of_decide_eq_true h2.1, h2.2⟩
def df_5 : List Value := [.int 0, .int 0, .null, .null, .null, .null, .null, .null, .null, .null, .null, .int 0, .int 0, .int 0, .int 0, .int 0, .null, .null, .null, .int 0, .long 0, .int 0, .int 0, .int 0, .int 0, .null, .null, .null, .null, .null, .null, .int 0, .null]
theorem df_5_ok : ∀ j, j < 33 → defaultValue (tt_5 j) = vp_V df_5 j := by decide +kernel
def TT_6 : u_T := fun k => match k with
  | 0 => ("CorridorCells$Span", "leastUpper", "J", false)
  | 1 => ("CorridorCells$Span", "leastLower", "J", false)
  | 2 => ("CorridorCells$Span", "greatestUpper", "J", false)
  | 3 => ("CorridorCells$Span", "greatestLower", "J", false)
  | _ => ("CorridorCells$Span", "isEmpty", "Z", false)
def tt_6 : Nat → FieldType := fun k => match k with
  | 0 => .long
  | 1 => .long
  | 2 => .long
  | 3 => .long
  | _ => .boolean
theorem tn_6 : ∀ a, a < 5 → ∀ b, b < 5 → a ≠ b → (TT_6 a).2.1 ≠ (TT_6 b).2.1 := by decide +kernel
theorem tt_6_ok : ∀ k, k < 5 → parseFieldDescriptor (TT_6 k).2.2.1 = some (tt_6 k) := by decide +kernel
theorem tw_6 : ∀ w ∈ u_ws "CorridorCells$Span" TT_6 5, w ∈ mx_W := by
  intro w hw
  have h : (u_ws "CorridorCells$Span" TT_6 5).all (fun w => decide (w ∈ lw_tbl) && goodWord w) = true := by decide +kernel
  have h2 := List.all_eq_true.mp h w hw
  rw [Bool.and_eq_true] at h2
  exact List.mem_filter.mpr ⟨of_decide_eq_true h2.1, h2.2⟩
def df_6 : List Value := [.long 0, .long 0, .long 0, .long 0, .int 0]
theorem df_6_ok : ∀ j, j < 5 → defaultValue (tt_6 j) = vp_V df_6 j := by decide +kernel
def mx_cl_ : List vw_C := [("CorridorCells", TT_0, 7), ("CorridorCells$Ground", TT_1, 18), ("CorridorCells$Search", TT_2, 10), ("CorridorCells$LabelQueue", TT_3, 6), ("CorridorCells$Way", TT_4, 3), ("CorridorCellsModel", TT_5, 33), ("CorridorCells$Span", TT_6, 5)]
def mx_kt : Nat → Option FieldType := fun k => match k with
  | 0 => some .int
  | 1 => some .long
  | 2 => some .boolean
  | 3 => some (.object "CorridorCells$Way")
  | _ => none
def mx_ns : List Cond := [.fieldLinkNest "CorridorCells$Ground" 31 "CorridorCells" "DX" "[I" "CorridorCells", .fieldLinkNest "CorridorCells$Ground" 34 "CorridorCells" "DY" "[I" "CorridorCells", .arrayOver (.object "CorridorCells$Way"), .methodLinkNest "CorridorCells" 42 ⟨"CorridorCells$Way", "<init>", "()V"⟩ "CorridorCells", .fieldLinkNest "CorridorCells$Search" 157 "CorridorCells" "LENGTHS" "[I" "CorridorCells", .fieldLinkNest "CorridorCells$Way" 22 "CorridorCells" "LENGTHS" "[I" "CorridorCells", .methodLinkNest "CorridorCells" 165 ⟨"CorridorCells$Span", "<init>", "()V"⟩ "CorridorCells", .methodLinkNest "CorridorCells$Span" 35 ⟨"CorridorCells", "compareFractions", "(JJJJ)I"⟩ "CorridorCells", .methodLinkNest "CorridorCells$Span" 43 ⟨"CorridorCells", "leastTerm", "(JJI)J"⟩ "CorridorCells"]
theorem mx_ns_in : ∀ w ∈ mx_ns, w ∈ lw_tbl := by decide +kernel
def mx_zs : List (String × String × String × Nat) := [("CorridorCells", "DX", "[I", 1), ("CorridorCells", "DY", "[I", 2), ("CorridorCells", "LENGTHS", "[I", 3)]
/-- a world of this claim: its classes, kinds of arrays, nest words, static fields -/
def mx_GG (G : mxG) : Prop := gL G = mx_cl_ ∧ gT G = mx_kt ∧ gN G = mx_ns ∧ gZ G = mx_zs
theorem mx_nin {G : mxG} (hG : mx_GG G) {w : Cond} (h : w ∈ mx_ns) : w ∈ gN G := by rw [hG.2.2.1]; exact h
theorem mx_zin {G : mxG} (hG : mx_GG G) {q : String × String × String × Nat} (h : q ∈ mx_zs) : q ∈ gZ G := by rw [hG.2.2.2]; exact h
theorem cl_0 {G : mxG} (hG : mx_GG G) : mx_Cl G mx_W 0 "CorridorCells" TT_0 7 tt_0 := ⟨by rw [hG.1]; rfl, by decide, tw_0, tt_0_ok, tn_0⟩
theorem cl_1 {G : mxG} (hG : mx_GG G) : mx_Cl G mx_W 1 "CorridorCells$Ground" TT_1 18 tt_1 := ⟨by rw [hG.1]; rfl, by decide, tw_1, tt_1_ok, tn_1⟩
theorem cl_2 {G : mxG} (hG : mx_GG G) : mx_Cl G mx_W 2 "CorridorCells$Search" TT_2 10 tt_2 := ⟨by rw [hG.1]; rfl, by decide, tw_2, tt_2_ok, tn_2⟩
theorem cl_3 {G : mxG} (hG : mx_GG G) : mx_Cl G mx_W 3 "CorridorCells$LabelQueue" TT_3 6 tt_3 := ⟨by rw [hG.1]; rfl, by decide, tw_3, tt_3_ok, tn_3⟩
theorem cl_4 {G : mxG} (hG : mx_GG G) : mx_Cl G mx_W 4 "CorridorCells$Way" TT_4 3 tt_4 := ⟨by rw [hG.1]; rfl, by decide, tw_4, tt_4_ok, tn_4⟩
theorem cl_5 {G : mxG} (hG : mx_GG G) : mx_Cl G mx_W 5 "CorridorCellsModel" TT_5 33 tt_5 := ⟨by rw [hG.1]; rfl, by decide, tw_5, tt_5_ok, tn_5⟩
theorem cl_6 {G : mxG} (hG : mx_GG G) : mx_Cl G mx_W 6 "CorridorCells$Span" TT_6 5 tt_6 := ⟨by rw [hG.1]; rfl, by decide, tw_6, tt_6_ok, tn_6⟩
theorem kt_0 {G : mxG} (hG : mx_GG G) : gT G 0 = some .int := by rw [hG.2.1]; rfl
theorem kt_1 {G : mxG} (hG : mx_GG G) : gT G 1 = some .long := by rw [hG.2.1]; rfl
theorem kt_2 {G : mxG} (hG : mx_GG G) : gT G 2 = some .boolean := by rw [hG.2.1]; rfl
theorem kt_3 {G : mxG} (hG : mx_GG G) : gT G 3 = some (.object "CorridorCells$Way") := by rw [hG.2.1]; rfl
def q_L_law : mxM := (⟨"CorridorCellsLaw", "law", "([I)Z"⟩, code, 4, some .boolean, 8, 209)
def q_X_init : mxM := (⟨"CorridorCells", "<init>", "(II)V"⟩, prog_1_method_1_code, 4, none, 3, 54)
def q_X_cell : mxM := (⟨"CorridorCells", "cell", "(IIII)Z"⟩, prog_1_method_2_code, 6, some .boolean, 1, 25)
def q_X_bar : mxM := (⟨"CorridorCells", "bar", "(II)Z"⟩, prog_1_method_3_code, 4, some .boolean, 1, 22)
def q_X_moves : mxM := (⟨"CorridorCells", "moves", "(III)Z"⟩, prog_1_method_4_code, 4, some .boolean, 1, 25)
def q_X_aim : mxM := (⟨"CorridorCells", "aim", "(IIIJ)Z"⟩, prog_1_method_5_code, 7, some .boolean, 2, 45)
def q_X_weight : mxM := (⟨"CorridorCells", "weight", "(IJJ)Z"⟩, prog_1_method_6_code, 6, some .boolean, 2, 45)
def q_X_run : mxM := (⟨"CorridorCells", "run", "(IIIIJ)I"⟩, prog_1_method_7_code, 9, some .int, 7, 180)
def q_X_at : mxM := (⟨"CorridorCells", "at", "(II)I"⟩, prog_1_method_8_code, 4, some .int, 1, 25)
def q_X_cost : mxM := (⟨"CorridorCells", "cost", "(I)J"⟩, prog_1_method_9_code, 3, some .long, 4, 93)
def q_X_bound : mxM := (⟨"CorridorCells", "bound", "()J"⟩, prog_1_method_10_code, 1, some .long, 0, 0)
def q_X_proved : mxM := (⟨"CorridorCells", "proved", "()Z"⟩, prog_1_method_11_code, 1, some .boolean, 0, 0)
def q_X_unlike : mxM := (⟨"CorridorCells", "unlike", "(JJ)I"⟩, prog_1_method_12_code, 10, some .int, 7, 180)
def q_X_span : mxM := (⟨"CorridorCells", "span", "(III)J"⟩, prog_1_method_13_code, 15, some .long, 4, 113)
def q_X_bridge : mxM := (⟨"CorridorCells", "bridge", "(IIIJ)Z"⟩, prog_1_method_14_code, 7, some .boolean, 1, 25)
def q_X_mark : mxM := (⟨"CorridorCells", "mark", "(IIII)I"⟩, prog_1_method_15_code, 6, some .int, 2, 45)
def q_X_zone : mxM := (⟨"CorridorCells", "zone", "(III)I"⟩, prog_1_method_16_code, 6, some .int, 2, 45)
def q_X_sum : mxM := (⟨"CorridorCells", "sum", "(I)J"⟩, prog_1_method_17_code, 7, some .long, 2, 45)
def q_X_turns : mxM := (⟨"CorridorCells", "turns", "()I"⟩, prog_1_method_18_code, 2, some .int, 1, 22)
def q_X_keeps : mxM := (⟨"CorridorCells", "keeps", "()Z"⟩, prog_1_method_19_code, 2, some .boolean, 4, 92)
def q_X_wayAtHand : mxM := (⟨"CorridorCells", "wayAtHand", "()LCorridorCells$Way;"⟩, prog_1_method_20_code, 1, some (.object "CorridorCells$Way"), 0, 0)
def q_X_seek : mxM := (⟨"CorridorCells", "seek", "(III)I"⟩, prog_1_method_21_code, 6, some .int, 6, 155)
def q_X_isAim : mxM := (⟨"CorridorCells", "isAim", "(I)Z"⟩, prog_1_method_22_code, 1, some .boolean, 1, 25)
def q_X_isZone : mxM := (⟨"CorridorCells", "isZone", "(I)Z"⟩, prog_1_method_23_code, 1, some .boolean, 1, 25)
def q_X_within : mxM := (⟨"CorridorCells", "within", "(JJJ)Z"⟩, prog_1_method_24_code, 6, some .boolean, 0, 0)
def q_X_greatestDivisor : mxM := (⟨"CorridorCells", "greatestDivisor", "(JJ)J"⟩, prog_1_method_25_code, 11, some .long, 0, 0)
def q_X_leastTerm : mxM := (⟨"CorridorCells", "leastTerm", "(JJI)J"⟩, prog_1_method_26_code, 9, some .long, 1, 30)
def q_X_compareFractions : mxM := (⟨"CorridorCells", "compareFractions", "(JJJJ)I"⟩, prog_1_method_27_code, 23, some .int, 1, 23)
def q_G_init : mxM := (⟨"CorridorCells$Ground", "<init>", "(II)V"⟩, prog_2_method_1_code, 6, none, 1, 22)
def q_G_numberOf : mxM := (⟨"CorridorCells$Ground", "numberOf", "(II)I"⟩, prog_2_method_2_code, 3, some .int, 0, 0)
def q_G_isBridged : mxM := (⟨"CorridorCells$Ground", "isBridged", "(I)Z"⟩, prog_2_method_3_code, 2, some .boolean, 0, 0)
def q_G_isClosedOff : mxM := (⟨"CorridorCells$Ground", "isClosedOff", "(I)Z"⟩, prog_2_method_4_code, 2, some .boolean, 0, 0)
def q_G_putMark : mxM := (⟨"CorridorCells$Ground", "putMark", "(III)I"⟩, prog_2_method_5_code, 6, some .int, 1, 20)
def q_G_valueOf : mxM := (⟨"CorridorCells$Ground", "valueOf", "(II)J"⟩, prog_2_method_6_code, 6, some .long, 1, 20)
def q_G_unitCost : mxM := (⟨"CorridorCells$Ground", "unitCost", "(I)J"⟩, prog_2_method_7_code, 5, some .long, 2, 45)
def q_G_headingStep : mxM := (⟨"CorridorCells$Ground", "headingStep", "()I"⟩, prog_2_method_8_code, 1, some .int, 0, 0)
def q_G_ahead : mxM := (⟨"CorridorCells$Ground", "ahead", "(II)I"⟩, prog_2_method_9_code, 3, some .int, 0, 0)
def q_G_behind : mxM := (⟨"CorridorCells$Ground", "behind", "(II)I"⟩, prog_2_method_10_code, 3, some .int, 0, 0)
def q_G_isTooSteep : mxM := (⟨"CorridorCells$Ground", "isTooSteep", "(II)Z"⟩, prog_2_method_11_code, 3, some .boolean, 1, 20)
def q_G_moveFrom : mxM := (⟨"CorridorCells$Ground", "moveFrom", "(III)I"⟩, prog_2_method_12_code, 7, some .int, 2, 42)
def q_G_bridgedUpTo : mxM := (⟨"CorridorCells$Ground", "bridgedUpTo", "(II)I"⟩, prog_2_method_13_code, 3, some .int, 1, 21)
def q_S_init : mxM := (⟨"CorridorCells$Search", "<init>", "(LCorridorCells$Ground;)V"⟩, prog_4_method_1_code, 2, none, 2, 33)
def q_S_shareNothing : mxM := (⟨"CorridorCells$Search", "shareNothing", "()V"⟩, prog_4_method_2_code, 2, none, 0, 0)
def q_S_share : mxM := (⟨"CorridorCells$Search", "share", "(LCorridorCells$Way;)V"⟩, prog_4_method_3_code, 4, none, 1, 20)
def q_S_close : mxM := (⟨"CorridorCells$Search", "close", "(IIIJ)I"⟩, prog_4_method_4_code, 9, some .int, 4, 127)
def q_S_layRows : mxM := (⟨"CorridorCells$Search", "layRows", "()V"⟩, prog_4_method_5_code, 4, none, 3, 69)
def q_S_openEnd : mxM := (⟨"CorridorCells$Search", "openEnd", "()V"⟩, prog_4_method_6_code, 3, none, 2, 58)
def q_S_openBefore : mxM := (⟨"CorridorCells$Search", "openBefore", "(I)V"⟩, prog_4_method_7_code, 10, none, 3, 98)
def q_S_openHeadings : mxM := (⟨"CorridorCells$Search", "openHeadings", "(IIII)V"⟩, prog_4_method_8_code, 21, none, 2, 58)
def q_S_trace : mxM := (⟨"CorridorCells$Search", "trace", "(ILCorridorCells$Way;)V"⟩, prog_4_method_9_code, 6, none, 5, 127)
def q_S_nextRow : mxM := (⟨"CorridorCells$Search", "nextRow", "(I)I"⟩, prog_4_method_10_code, 7, some .int, 4, 101)
def q_S_rowAfter : mxM := (⟨"CorridorCells$Search", "rowAfter", "(II)I"⟩, prog_4_method_11_code, 14, some .int, 3, 68)
def q_S_rowOf : mxM := (⟨"CorridorCells$Search", "rowOf", "(IIII)I"⟩, prog_4_method_12_code, 6, some .int, 0, 0)
def q_S_codeOf : mxM := (⟨"CorridorCells$Search", "codeOf", "(IIII)I"⟩, prog_4_method_13_code, 4, some .int, 0, 0)
def q_S_headingOf : mxM := (⟨"CorridorCells$Search", "headingOf", "(I)I"⟩, prog_4_method_14_code, 1, some .int, 0, 0)
def q_S_bridgedOf : mxM := (⟨"CorridorCells$Search", "bridgedOf", "(I)I"⟩, prog_4_method_15_code, 1, some .int, 0, 0)
def q_Q_init : mxM := (⟨"CorridorCells$LabelQueue", "<init>", "(I)V"⟩, prog_3_method_1_code, 2, none, 1, 12)
def q_Q_reset : mxM := (⟨"CorridorCells$LabelQueue", "reset", "(I)V"⟩, prog_3_method_2_code, 3, none, 2, 46)
def q_Q_codeOf : mxM := (⟨"CorridorCells$LabelQueue", "codeOf", "(I)I"⟩, prog_3_method_3_code, 2, some .int, 0, 0)
def q_Q_stepsOf : mxM := (⟨"CorridorCells$LabelQueue", "stepsOf", "(I)J"⟩, prog_3_method_4_code, 2, some .long, 0, 0)
def q_Q_movesOf : mxM := (⟨"CorridorCells$LabelQueue", "movesOf", "(I)I"⟩, prog_3_method_5_code, 2, some .int, 1, 21)
def q_Q_isEmpty : mxM := (⟨"CorridorCells$LabelQueue", "isEmpty", "()Z"⟩, prog_3_method_6_code, 1, some .boolean, 0, 0)
def q_Q_isTaken : mxM := (⟨"CorridorCells$LabelQueue", "isTaken", "(I)Z"⟩, prog_3_method_7_code, 2, some .boolean, 0, 0)
def q_Q_offer : mxM := (⟨"CorridorCells$LabelQueue", "offer", "(IJJI)V"⟩, prog_3_method_8_code, 10, none, 1, 29)
def q_Q_takeLeast : mxM := (⟨"CorridorCells$LabelQueue", "takeLeast", "()I"⟩, prog_3_method_9_code, 2, some .int, 2, 53)
def q_Q_isLess : mxM := (⟨"CorridorCells$LabelQueue", "isLess", "(JJI)Z"⟩, prog_3_method_10_code, 6, some .boolean, 0, 0)
def q_Q_rise : mxM := (⟨"CorridorCells$LabelQueue", "rise", "(II)V"⟩, prog_3_method_11_code, 10, none, 0, 0)
def q_Q_sink : mxM := (⟨"CorridorCells$LabelQueue", "sink", "(I)V"⟩, prog_3_method_12_code, 9, none, 1, 25)
def q_W_init : mxM := (⟨"CorridorCells$Way", "<init>", "()V"⟩, prog_6_method_1_code, 1, none, 1, 12)
def q_W_begin : mxM := (⟨"CorridorCells$Way", "begin", "(II)V"⟩, prog_6_method_2_code, 3, none, 0, 0)
def q_W_firstPlace : mxM := (⟨"CorridorCells$Way", "firstPlace", "()I"⟩, prog_6_method_3_code, 1, some .int, 0, 0)
def q_W_lastPlace : mxM := (⟨"CorridorCells$Way", "lastPlace", "()I"⟩, prog_6_method_4_code, 1, some .int, 0, 0)
def q_W_scaledCost : mxM := (⟨"CorridorCells$Way", "scaledCost", "(LCorridorCells$Ground;)J"⟩, prog_6_method_5_code, 5, some .long, 3, 69)
def q_W_amountOf : mxM := (⟨"CorridorCells$Way", "amountOf", "(LCorridorCells$Ground;I)J"⟩, prog_6_method_6_code, 6, some .long, 2, 45)
def q_W_turnCount : mxM := (⟨"CorridorCells$Way", "turnCount", "()I"⟩, prog_6_method_7_code, 3, some .int, 0, 0)
def q_W_isKept : mxM := (⟨"CorridorCells$Way", "isKept", "(LCorridorCells$Ground;)Z"⟩, prog_6_method_8_code, 5, some .boolean, 3, 68)
def q_M_init : mxM := (⟨"CorridorCellsModel", "<init>", "(II)V"⟩, prog_8_method_1_code, 3, none, 1, 12)
def q_M_within : mxM := (⟨"CorridorCellsModel", "within", "(JJJ)Z"⟩, prog_8_method_2_code, 6, some .boolean, 0, 0)
def q_M_isCell : mxM := (⟨"CorridorCellsModel", "isCell", "(II)Z"⟩, prog_8_method_3_code, 3, some .boolean, 1, 25)
def q_M_cell : mxM := (⟨"CorridorCellsModel", "cell", "(IIII)Z"⟩, prog_8_method_4_code, 5, some .boolean, 2, 47)
def q_M_bar : mxM := (⟨"CorridorCellsModel", "bar", "(II)Z"⟩, prog_8_method_5_code, 3, some .boolean, 2, 47)
def q_M_moves : mxM := (⟨"CorridorCellsModel", "moves", "(III)Z"⟩, prog_8_method_6_code, 4, some .boolean, 1, 25)
def q_M_aim : mxM := (⟨"CorridorCellsModel", "aim", "(IIIJ)Z"⟩, prog_8_method_7_code, 6, some .boolean, 2, 47)
def q_M_weight : mxM := (⟨"CorridorCellsModel", "weight", "(IJJ)Z"⟩, prog_8_method_8_code, 6, some .boolean, 1, 25)
def q_M_bridge : mxM := (⟨"CorridorCellsModel", "bridge", "(IIIJ)Z"⟩, prog_8_method_9_code, 6, some .boolean, 2, 47)
def q_M_mark : mxM := (⟨"CorridorCellsModel", "mark", "(IIII)I"⟩, prog_8_method_10_code, 8, some .int, 2, 47)
def q_M_zone : mxM := (⟨"CorridorCellsModel", "zone", "(III)I"⟩, prog_8_method_11_code, 5, some .int, 2, 47)
def q_M_isBridged : mxM := (⟨"CorridorCellsModel", "isBridged", "(I)Z"⟩, prog_8_method_12_code, 2, some .boolean, 0, 0)
def q_M_isShut : mxM := (⟨"CorridorCellsModel", "isShut", "(I)Z"⟩, prog_8_method_13_code, 2, some .boolean, 0, 0)
def q_M_valueOf : mxM := (⟨"CorridorCellsModel", "valueOf", "(II)I"⟩, prog_8_method_14_code, 5, some .int, 0, 0)
def q_M_costOf : mxM := (⟨"CorridorCellsModel", "costOf", "(II)J"⟩, prog_8_method_15_code, 6, some .long, 1, 24)
def q_M_stepX : mxM := (⟨"CorridorCellsModel", "stepX", "(I)I"⟩, prog_8_method_16_code, 3, some .int, 0, 0)
def q_M_stepY : mxM := (⟨"CorridorCellsModel", "stepY", "(I)I"⟩, prog_8_method_17_code, 3, some .int, 0, 0)
def q_M_lengthOf : mxM := (⟨"CorridorCellsModel", "lengthOf", "(I)I"⟩, prog_8_method_18_code, 1, some .int, 0, 0)
def q_M_differ : mxM := (⟨"CorridorCellsModel", "differ", "(II)I"⟩, prog_8_method_19_code, 3, some .int, 0, 0)
def q_M_isHeading : mxM := (⟨"CorridorCellsModel", "isHeading", "(I)Z"⟩, prog_8_method_20_code, 2, some .boolean, 0, 0)
def q_M_onward : mxM := (⟨"CorridorCellsModel", "onward", "(II)I"⟩, prog_8_method_21_code, 5, some .int, 2, 47)
def q_M_isFlat : mxM := (⟨"CorridorCellsModel", "isFlat", "(II)Z"⟩, prog_8_method_22_code, 4, some .boolean, 0, 0)
def q_M_follows : mxM := (⟨"CorridorCellsModel", "follows", "(IIII)Z"⟩, prog_8_method_23_code, 5, some .boolean, 1, 22)
def q_M_labelOf : mxM := (⟨"CorridorCellsModel", "labelOf", "(IIII)I"⟩, prog_8_method_24_code, 4, some .int, 0, 0)
def q_M_isBefore : mxM := (⟨"CorridorCellsModel", "isBefore", "(II)Z"⟩, prog_8_method_25_code, 3, some .boolean, 0, 0)
def q_M_lay : mxM := (⟨"CorridorCellsModel", "lay", "(II)V"⟩, prog_8_method_26_code, 3, none, 0, 0)
def q_M_rise : mxM := (⟨"CorridorCellsModel", "rise", "(I)V"⟩, prog_8_method_27_code, 4, none, 1, 22)
def q_M_takeLeast : mxM := (⟨"CorridorCellsModel", "takeLeast", "()I"⟩, prog_8_method_28_code, 6, some .int, 1, 22)
def q_M_offer : mxM := (⟨"CorridorCellsModel", "offer", "(IJII)V"⟩, prog_8_method_29_code, 7, none, 2, 45)
def q_M_spread : mxM := (⟨"CorridorCellsModel", "spread", "(I)V"⟩, prog_8_method_30_code, 13, none, 3, 71)
def q_M_search : mxM := (⟨"CorridorCellsModel", "search", "()I"⟩, prog_8_method_31_code, 3, some .int, 4, 103)
def q_M_keep : mxM := (⟨"CorridorCellsModel", "keep", "(I)I"⟩, prog_8_method_32_code, 5, some .int, 4, 104)
def q_M_next : mxM := (⟨"CorridorCellsModel", "next", "(I)I"⟩, prog_8_method_33_code, 14, some .int, 3, 71)
def q_M_run : mxM := (⟨"CorridorCellsModel", "run", "(IIIIJ)I"⟩, prog_8_method_34_code, 10, some .int, 5, 128)
def q_M_unlike : mxM := (⟨"CorridorCellsModel", "unlike", "(JJ)I"⟩, prog_8_method_35_code, 10, some .int, 5, 128)
def q_M_bound : mxM := (⟨"CorridorCellsModel", "bound", "()J"⟩, prog_8_method_36_code, 1, some .long, 0, 0)
def q_M_proved : mxM := (⟨"CorridorCellsModel", "proved", "()Z"⟩, prog_8_method_37_code, 1, some .boolean, 0, 0)
def q_M_at : mxM := (⟨"CorridorCellsModel", "at", "(II)I"⟩, prog_8_method_38_code, 4, some .int, 0, 0)
def q_M_wayCost : mxM := (⟨"CorridorCellsModel", "wayCost", "(II)J"⟩, prog_8_method_39_code, 6, some .long, 2, 49)
def q_M_wayValue : mxM := (⟨"CorridorCellsModel", "wayValue", "(II)J"⟩, prog_8_method_40_code, 7, some .long, 1, 24)
def q_M_divisor : mxM := (⟨"CorridorCellsModel", "divisor", "(JJ)J"⟩, prog_8_method_41_code, 10, some .long, 0, 0)
def q_M_cost : mxM := (⟨"CorridorCellsModel", "cost", "(I)J"⟩, prog_8_method_42_code, 6, some .long, 3, 74)
def q_M_isLess : mxM := (⟨"CorridorCellsModel", "isLess", "(JJJJ)Z"⟩, prog_8_method_43_code, 21, some .boolean, 0, 0)
def q_M_span : mxM := (⟨"CorridorCellsModel", "span", "(III)J"⟩, prog_8_method_44_code, 19, some .long, 3, 74)
def q_M_sum : mxM := (⟨"CorridorCellsModel", "sum", "(I)J"⟩, prog_8_method_45_code, 6, some .long, 0, 0)
def q_M_turns : mxM := (⟨"CorridorCellsModel", "turns", "()I"⟩, prog_8_method_46_code, 3, some .int, 0, 0)
def q_M_keeps : mxM := (⟨"CorridorCellsModel", "keeps", "()Z"⟩, prog_8_method_47_code, 9, some .boolean, 2, 46)
def q_P_init : mxM := (⟨"CorridorCells$Span", "<init>", "()V"⟩, prog_5_method_1_code, 1, none, 1, 12)
def q_P_keepBelow : mxM := (⟨"CorridorCells$Span", "keepBelow", "(JJ)V"⟩, prog_5_method_2_code, 5, none, 3, 89)
def q_P_lowerGreatest : mxM := (⟨"CorridorCells$Span", "lowerGreatest", "(JJ)V"⟩, prog_5_method_3_code, 5, none, 2, 65)
def q_P_raiseLeast : mxM := (⟨"CorridorCells$Span", "raiseLeast", "(JJ)V"⟩, prog_5_method_4_code, 5, none, 2, 65)
def q_P_told : mxM := (⟨"CorridorCells$Span", "told", "(II)J"⟩, prog_5_method_5_code, 4, some .long, 2, 65)
def q_JL_compare : mxM := (⟨"java/lang/Long", "compare", "(JJ)I"⟩, prog_10_method_42_code, 4, some .int, 0, 0)
def q_JM_abs : mxM := (⟨"java/lang/Math", "abs", "(I)I"⟩, prog_11_method_59_code, 1, some .int, 0, 0)
def q_JM_max : mxM := (⟨"java/lang/Math", "max", "(II)I"⟩, prog_11_method_65_code, 2, some .int, 0, 0)
def q_JM_min_I : mxM := (⟨"java/lang/Math", "min", "(II)I"⟩, prog_11_method_69_code, 2, some .int, 0, 0)
def q_JM_min_J : mxM := (⟨"java/lang/Math", "min", "(JJ)J"⟩, prog_11_method_70_code, 4, some .long, 0, 0)
def q_JA_rangeCheck : mxM := (⟨"java/util/Arrays", "rangeCheck", "(III)V"⟩, prog_12_method_30_code, 3, none, 0, 0)
def q_JA_fill : mxM := (⟨"java/util/Arrays", "fill", "([IIII)V"⟩, prog_12_method_104_code, 5, none, 1, 22)
def q_L_cell : mxM := (⟨"CorridorCellsLaw", "cell", "([II)I"⟩, method_2_code, 2, some .int, 0, 0)
def q_JI_bitCount : mxM := (⟨"java/lang/Integer", "bitCount", "(I)I"⟩, prog_9_method_49_code, 1, some .int, 0, 0)
