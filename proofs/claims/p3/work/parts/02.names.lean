/-! names: by program (wip/gen/names.py) out of JAVAP.txt and Statement.lean -/
def tw_T : List Cond := lw_tbl.filter goodWord
theorem tw_good {w : Cond} (h : w ∈ tw_T) : goodWord w = true := (List.mem_filter.mp h).2
theorem tw_sub {w : Cond} (h : w ∈ tw_T) : w ∈ lw_tbl := (List.mem_filter.mp h).1
theorem tw_of {w : Cond} (i : Nat) (h : tables_1[i]? = some w) (g : goodWord w = true) : w ∈ tw_T := List.mem_filter.mpr ⟨List.mem_append_right _ (List.mem_of_getElem? h), g⟩
theorem tw_in {c1 c2 : Cond} (h : c2 ∈ tw_T) : GoodIn (c1 :: tw_T) (c2 :: tw_T) := fun w hw => by
  have h1 : w ∈ tw_T := by rcases List.mem_cons.mp hw with rfl | h2 <;> assumption
  exact ⟨List.mem_cons_of_mem _ h1, good_of_word (tw_good h1)⟩
theorem tw_inL {c2 : Cond} (h : c2 ∈ tw_T) : GoodIn lw_tbl (c2 :: tw_T) := fun w hw => by
  have h1 : w ∈ tw_T := by rcases List.mem_cons.mp hw with rfl | h2 <;> assumption
  exact ⟨tw_sub h1, good_of_word (tw_good h1)⟩
theorem tw_inV {c1 c2 : Cond} {own C : String} {i : Nat} {y : MethodName} (h1 : Cond.methodLink own i y ∈ tw_T) (h2 : Cond.instanceMethod y ∈ tw_T) (h3 : Cond.selects C y y ∈ tw_T) (h4 : Cond.initialized C ∈ tw_T) (h : c2 ∈ tw_T) : GoodIn (c1 :: tw_T) (wsV own i C y (c2 :: tw_T)) := fun w hw => by
  have h9 : w ∈ tw_T := by
    simp only [wsV, List.cons_append, List.nil_append, List.mem_cons] at hw
    rcases hw with rfl | rfl | rfl | rfl | rfl | h5 <;> assumption
  exact ⟨List.mem_cons_of_mem _ h9, good_of_word (tw_good h9)⟩
theorem tw_inVL {c2 : Cond} {own C : String} {i : Nat} {y : MethodName} (h1 : Cond.methodLink own i y ∈ tw_T) (h2 : Cond.instanceMethod y ∈ tw_T) (h3 : Cond.selects C y y ∈ tw_T) (h4 : Cond.initialized C ∈ tw_T) (h : c2 ∈ tw_T) : GoodIn lw_tbl (wsV own i C y (c2 :: tw_T)) := fun w hw => ⟨tw_sub ((tw_inV (c1 := c2) h1 h2 h3 h4 h w hw).1 |> fun q => by rcases List.mem_cons.mp q with rfl | h5 <;> assumption), ((tw_inV (c1 := c2) h1 h2 h3 h4 h w hw).2)⟩
theorem tw_priv (k : Nat) (q : MethodName × Nat) (h : lw_privs[k]? = some q) (g : goodWord (Cond.selects q.1.cls q.1 q.1) = true) : Cond.selects q.1.cls q.1 q.1 ∈ tw_T := List.mem_filter.mpr ⟨List.mem_append_left _ (List.mem_map.mpr ⟨q, List.mem_of_getElem? h, rfl⟩), g⟩
abbrev R_SP : String := "GlyphLines$Span"
def F_SP : u_T := fun k => match k with
  | 0 => ("GlyphLines$Span", "cells", "[I", true)
  | 1 => ("GlyphLines$Span", "start", "I", false)
  | 2 => ("GlyphLines$Span", "size", "I", false)
  | _ => ("GlyphLines$Span", "missed", "Z", false)
def t_SP : Nat → FieldType := fun k => match k with
  | 0 => .array .int
  | 1 => .int
  | 2 => .int
  | _ => .boolean
theorem n_SP : ∀ a, a < 4 → ∀ b, b < 4 → a ≠ b → (F_SP a).2.1 ≠ (F_SP b).2.1 := by decide +kernel
theorem t_SP_ok : ∀ k, k < 4 → parseFieldDescriptor (F_SP k).2.2.1 = some (t_SP k) := by decide +kernel
abbrev R_CM : String := "GlyphLines$CharacterMap"
def F_CM : u_T := fun k => match k with
  | 0 => ("GlyphLines$CharacterMap", "cmap", "LGlyphLines$Span;", true)
  | 1 => ("GlyphLines$CharacterMap", "place", "I", false)
  | _ => ("GlyphLines$CharacterMap", "ranges", "I", false)
def t_CM : Nat → FieldType := fun k => match k with
  | 0 => .object "GlyphLines$Span"
  | 1 => .int
  | _ => .int
theorem n_CM : ∀ a, a < 3 → ∀ b, b < 3 → a ≠ b → (F_CM a).2.1 ≠ (F_CM b).2.1 := by decide +kernel
theorem t_CM_ok : ∀ k, k < 3 → parseFieldDescriptor (F_CM k).2.2.1 = some (t_CM k) := by decide +kernel
abbrev R_DI : String := "GlyphLines$Directory"
def F_DI : u_T := fun k => match k with
  | 0 => ("GlyphLines$Directory", "whole", "LGlyphLines$Span;", true)
  | 1 => ("GlyphLines$Directory", "table", "LGlyphLines$Span;", true)
  | _ => ("GlyphLines$Directory", "tables", "I", false)
def t_DI : Nat → FieldType := fun k => match k with
  | 0 => .object "GlyphLines$Span"
  | 1 => .object "GlyphLines$Span"
  | _ => .int
theorem n_DI : ∀ a, a < 3 → ∀ b, b < 3 → a ≠ b → (F_DI a).2.1 ≠ (F_DI b).2.1 := by decide +kernel
theorem t_DI_ok : ∀ k, k < 3 → parseFieldDescriptor (F_DI k).2.2.1 = some (t_DI k) := by decide +kernel
abbrev R_PA : String := "GlyphLines$Pairs"
def F_PA : u_T := fun k => match k with
  | 0 => ("GlyphLines$Pairs", "kern", "LGlyphLines$Span;", true)
  | _ => ("GlyphLines$Pairs", "pairs", "I", false)
def t_PA : Nat → FieldType := fun k => match k with
  | 0 => .object "GlyphLines$Span"
  | _ => .int
theorem n_PA : ∀ a, a < 2 → ∀ b, b < 2 → a ≠ b → (F_PA a).2.1 ≠ (F_PA b).2.1 := by decide +kernel
theorem t_PA_ok : ∀ k, k < 2 → parseFieldDescriptor (F_PA k).2.2.1 = some (t_PA k) := by decide +kernel
abbrev R_FO : String := "GlyphLines$Font"
def F_FO : u_T := fun k => match k with
  | 0 => ("GlyphLines$Font", "cells", "[I", true)
  | 1 => ("GlyphLines$Font", "directory", "LGlyphLines$Directory;", true)
  | 2 => ("GlyphLines$Font", "head", "LGlyphLines$Span;", true)
  | 3 => ("GlyphLines$Font", "maxp", "LGlyphLines$Span;", true)
  | 4 => ("GlyphLines$Font", "hhea", "LGlyphLines$Span;", true)
  | 5 => ("GlyphLines$Font", "hmtx", "LGlyphLines$Span;", true)
  | 6 => ("GlyphLines$Font", "loca", "LGlyphLines$Span;", true)
  | 7 => ("GlyphLines$Font", "glyf", "LGlyphLines$Span;", true)
  | 8 => ("GlyphLines$Font", "map", "LGlyphLines$CharacterMap;", true)
  | 9 => ("GlyphLines$Font", "pairs", "LGlyphLines$Pairs;", true)
  | 10 => ("GlyphLines$Font", "data", "[LGlyphLines$Span;", true)
  | 11 => ("GlyphLines$Font", "em", "I", false)
  | 12 => ("GlyphLines$Font", "glyphs", "I", false)
  | 13 => ("GlyphLines$Font", "widths", "I", false)
  | _ => ("GlyphLines$Font", "isLong", "Z", false)
def t_FO : Nat → FieldType := fun k => match k with
  | 0 => .array .int
  | 1 => .object "GlyphLines$Directory"
  | 2 => .object "GlyphLines$Span"
  | 3 => .object "GlyphLines$Span"
  | 4 => .object "GlyphLines$Span"
  | 5 => .object "GlyphLines$Span"
  | 6 => .object "GlyphLines$Span"
  | 7 => .object "GlyphLines$Span"
  | 8 => .object "GlyphLines$CharacterMap"
  | 9 => .object "GlyphLines$Pairs"
  | 10 => .array (.object "GlyphLines$Span")
  | 11 => .int
  | 12 => .int
  | 13 => .int
  | _ => .boolean
theorem n_FO : ∀ a, a < 15 → ∀ b, b < 15 → a ≠ b → (F_FO a).2.1 ≠ (F_FO b).2.1 := by decide +kernel
theorem t_FO_ok : ∀ k, k < 15 → parseFieldDescriptor (F_FO k).2.2.1 = some (t_FO k) := by decide +kernel
abbrev R_MO : String := "GlyphLines$Move"
def F_MO : u_T := fun k => match k with
  | 0 => ("GlyphLines$Move", "a", "I", false)
  | 1 => ("GlyphLines$Move", "b", "I", false)
  | 2 => ("GlyphLines$Move", "c", "I", false)
  | 3 => ("GlyphLines$Move", "d", "I", false)
  | 4 => ("GlyphLines$Move", "dx", "I", false)
  | _ => ("GlyphLines$Move", "dy", "I", false)
def t_MO : Nat → FieldType := fun k => match k with
  | 0 => .int
  | 1 => .int
  | 2 => .int
  | 3 => .int
  | 4 => .int
  | _ => .int
theorem n_MO : ∀ a, a < 6 → ∀ b, b < 6 → a ≠ b → (F_MO a).2.1 ≠ (F_MO b).2.1 := by decide +kernel
theorem t_MO_ok : ∀ k, k < 6 → parseFieldDescriptor (F_MO k).2.2.1 = some (t_MO k) := by decide +kernel
abbrev R_OU : String := "GlyphLines$Outline"
def F_OU : u_T := fun k => match k with
  | 0 => ("GlyphLines$Outline", "xs", "[I", true)
  | 1 => ("GlyphLines$Outline", "ys", "[I", true)
  | 2 => ("GlyphLines$Outline", "isOn", "[Z", true)
  | 3 => ("GlyphLines$Outline", "contourOf", "[I", true)
  | 4 => ("GlyphLines$Outline", "flags", "[I", true)
  | 5 => ("GlyphLines$Outline", "move", "LGlyphLines$Move;", true)
  | 6 => ("GlyphLines$Outline", "points", "I", false)
  | _ => ("GlyphLines$Outline", "contours", "I", false)
def t_OU : Nat → FieldType := fun k => match k with
  | 0 => .array .int
  | 1 => .array .int
  | 2 => .array .boolean
  | 3 => .array .int
  | 4 => .array .int
  | 5 => .object "GlyphLines$Move"
  | 6 => .int
  | _ => .int
theorem n_OU : ∀ a, a < 8 → ∀ b, b < 8 → a ≠ b → (F_OU a).2.1 ≠ (F_OU b).2.1 := by decide +kernel
theorem t_OU_ok : ∀ k, k < 8 → parseFieldDescriptor (F_OU k).2.2.1 = some (t_OU k) := by decide +kernel
abbrev R_PI : String := "GlyphLines$Picture"
def F_PI : u_T := fun k => match k with
  | 0 => ("GlyphLines$Picture", "rows", "[J", true)
  | _ => ("GlyphLines$Picture", "steps", "[I", true)
def t_PI : Nat → FieldType := fun k => match k with
  | 0 => .array .long
  | _ => .array .int
theorem n_PI : ∀ a, a < 2 → ∀ b, b < 2 → a ≠ b → (F_PI a).2.1 ≠ (F_PI b).2.1 := by decide +kernel
theorem t_PI_ok : ∀ k, k < 2 → parseFieldDescriptor (F_PI k).2.2.1 = some (t_PI k) := by decide +kernel
abbrev R_BR : String := "GlyphLines$Brush"
def F_BR : u_T := fun k => match k with
  | 0 => ("GlyphLines$Brush", "picture", "LGlyphLines$Picture;", true)
  | 1 => ("GlyphLines$Brush", "outline", "LGlyphLines$Outline;", true)
  | 2 => ("GlyphLines$Brush", "ringX", "[I", true)
  | 3 => ("GlyphLines$Brush", "ringY", "[I", true)
  | 4 => ("GlyphLines$Brush", "ringOn", "[Z", true)
  | 5 => ("GlyphLines$Brush", "ringSize", "I", false)
  | 6 => ("GlyphLines$Brush", "em", "I", false)
  | 7 => ("GlyphLines$Brush", "ppem", "I", false)
  | 8 => ("GlyphLines$Brush", "pen", "I", false)
  | _ => ("GlyphLines$Brush", "glyphBefore", "I", false)
def t_BR : Nat → FieldType := fun k => match k with
  | 0 => .object "GlyphLines$Picture"
  | 1 => .object "GlyphLines$Outline"
  | 2 => .array .int
  | 3 => .array .int
  | 4 => .array .boolean
  | 5 => .int
  | 6 => .int
  | 7 => .int
  | 8 => .int
  | _ => .int
theorem n_BR : ∀ a, a < 10 → ∀ b, b < 10 → a ≠ b → (F_BR a).2.1 ≠ (F_BR b).2.1 := by decide +kernel
theorem t_BR_ok : ∀ k, k < 10 → parseFieldDescriptor (F_BR k).2.2.1 = some (t_BR k) := by decide +kernel
abbrev R_GL : String := "GlyphLines"
def F_GL : u_T := fun k => match k with
  | 0 => ("GlyphLines", "file", "[I", true)
  | 1 => ("GlyphLines", "fileSize", "I", false)
  | 2 => ("GlyphLines", "font", "LGlyphLines$Font;", false)
  | 3 => ("GlyphLines", "spare", "LGlyphLines$Font;", false)
  | 4 => ("GlyphLines", "hasFont", "Z", false)
  | 5 => ("GlyphLines", "outline", "LGlyphLines$Outline;", true)
  | 6 => ("GlyphLines", "picture", "LGlyphLines$Picture;", true)
  | 7 => ("GlyphLines", "brush", "LGlyphLines$Brush;", true)
  | 8 => ("GlyphLines", "text", "[I", true)
  | _ => ("GlyphLines", "textSize", "I", false)
def t_GL : Nat → FieldType := fun k => match k with
  | 0 => .array .int
  | 1 => .int
  | 2 => .object "GlyphLines$Font"
  | 3 => .object "GlyphLines$Font"
  | 4 => .boolean
  | 5 => .object "GlyphLines$Outline"
  | 6 => .object "GlyphLines$Picture"
  | 7 => .object "GlyphLines$Brush"
  | 8 => .array .int
  | _ => .int
theorem n_GL : ∀ a, a < 10 → ∀ b, b < 10 → a ≠ b → (F_GL a).2.1 ≠ (F_GL b).2.1 := by decide +kernel
theorem t_GL_ok : ∀ k, k < 10 → parseFieldDescriptor (F_GL k).2.2.1 = some (t_GL k) := by decide +kernel
abbrev R_MD : String := "GlyphLinesModel"
def F_MD : u_T := fun k => match k with
  | 0 => ("GlyphLinesModel", "fault", "I", false)
  | 1 => ("GlyphLinesModel", "size", "I", false)
  | 2 => ("GlyphLinesModel", "file", "[I", true)
  | 3 => ("GlyphLinesModel", "side", "I", false)
  | 4 => ("GlyphLinesModel", "isFont", "Z", false)
  | 5 => ("GlyphLinesModel", "bytes", "[I", true)
  | 6 => ("GlyphLinesModel", "places", "[I", true)
  | 7 => ("GlyphLinesModel", "lengths", "[I", true)
  | 8 => ("GlyphLinesModel", "glyphCount", "[I", true)
  | 9 => ("GlyphLinesModel", "ems", "[I", true)
  | 10 => ("GlyphLinesModel", "wides", "[I", true)
  | 11 => ("GlyphLinesModel", "forms", "[I", true)
  | 12 => ("GlyphLinesModel", "parts", "[I", true)
  | 13 => ("GlyphLinesModel", "charts", "[I", true)
  | 14 => ("GlyphLinesModel", "pointCount", "[I", true)
  | 15 => ("GlyphLinesModel", "contourCount", "[I", true)
  | 16 => ("GlyphLinesModel", "depths", "[I", true)
  | 17 => ("GlyphLinesModel", "xs", "[I", true)
  | 18 => ("GlyphLinesModel", "ys", "[I", true)
  | 19 => ("GlyphLinesModel", "ons", "[I", true)
  | 20 => ("GlyphLinesModel", "contours", "[I", true)
  | 21 => ("GlyphLinesModel", "bad", "Z", false)
  | 22 => ("GlyphLinesModel", "at", "I", false)
  | 23 => ("GlyphLinesModel", "end", "I", false)
  | 24 => ("GlyphLinesModel", "flags", "[I", true)
  | 25 => ("GlyphLinesModel", "part", "[I", true)
  | 26 => ("GlyphLinesModel", "typed", "I", false)
  | 27 => ("GlyphLinesModel", "text", "[I", true)
  | 28 => ("GlyphLinesModel", "ring", "I", false)
  | 29 => ("GlyphLinesModel", "ringX", "[I", true)
  | 30 => ("GlyphLinesModel", "ringY", "[I", true)
  | 31 => ("GlyphLinesModel", "ringOn", "[Z", true)
  | 32 => ("GlyphLinesModel", "waiting", "I", false)
  | 33 => ("GlyphLinesModel", "curves", "[I", true)
  | 34 => ("GlyphLinesModel", "windings", "[I", true)
  | _ => ("GlyphLinesModel", "rows", "[J", true)
def t_MD : Nat → FieldType := fun k => match k with
  | 0 => .int
  | 1 => .int
  | 2 => .array .int
  | 3 => .int
  | 4 => .boolean
  | 5 => .array .int
  | 6 => .array .int
  | 7 => .array .int
  | 8 => .array .int
  | 9 => .array .int
  | 10 => .array .int
  | 11 => .array .int
  | 12 => .array .int
  | 13 => .array .int
  | 14 => .array .int
  | 15 => .array .int
  | 16 => .array .int
  | 17 => .array .int
  | 18 => .array .int
  | 19 => .array .int
  | 20 => .array .int
  | 21 => .boolean
  | 22 => .int
  | 23 => .int
  | 24 => .array .int
  | 25 => .array .int
  | 26 => .int
  | 27 => .array .int
  | 28 => .int
  | 29 => .array .int
  | 30 => .array .int
  | 31 => .array .boolean
  | 32 => .int
  | 33 => .array .int
  | 34 => .array .int
  | _ => .array .long
theorem n_MD : ∀ a, a < 36 → ∀ b, b < 36 → a ≠ b → (F_MD a).2.1 ≠ (F_MD b).2.1 := by decide +kernel
theorem t_MD_ok : ∀ k, k < 36 → parseFieldDescriptor (F_MD k).2.2.1 = some (t_MD k) := by decide +kernel
abbrev R_LW : String := "GlyphLinesLaw"
abbrev cls_ : List vw_C := [(R_SP, F_SP, 4), (R_CM, F_CM, 3), (R_DI, F_DI, 3), (R_PA, F_PA, 2), (R_FO, F_FO, 15), (R_MO, F_MO, 6), (R_OU, F_OU, 8), (R_PI, F_PI, 2), (R_BR, F_BR, 10), (R_GL, F_GL, 10), (R_MD, F_MD, 36)]
abbrev R_JI : String := "java/lang/Integer"
abbrev R_JM : String := "java/lang/Math"
abbrev R_JA : String := "java/util/Arrays"
theorem w_59 : (Jvm.Cond.laysFinal "GlyphLines$Span" "GlyphLines$Span" "cells" "[I") ∈ tw_T := tw_of 59 (by decide +kernel) (by decide +kernel)
theorem w_61 : (Jvm.Cond.lays "GlyphLines$Span" "GlyphLines$Span" "start" "I") ∈ tw_T := tw_of 61 (by decide +kernel) (by decide +kernel)
theorem w_63 : (Jvm.Cond.lays "GlyphLines$Span" "GlyphLines$Span" "size" "I") ∈ tw_T := tw_of 63 (by decide +kernel) (by decide +kernel)
theorem w_65 : (Jvm.Cond.lays "GlyphLines$Span" "GlyphLines$Span" "missed" "Z") ∈ tw_T := tw_of 65 (by decide +kernel) (by decide +kernel)
theorem w_72 : (Jvm.Cond.laysFinal "GlyphLines$Directory" "GlyphLines$Directory" "whole" "LGlyphLines$Span;") ∈ tw_T := tw_of 72 (by decide +kernel) (by decide +kernel)
theorem w_74 : (Jvm.Cond.laysFinal "GlyphLines$Directory" "GlyphLines$Directory" "table" "LGlyphLines$Span;") ∈ tw_T := tw_of 74 (by decide +kernel) (by decide +kernel)
theorem w_76 : (Jvm.Cond.lays "GlyphLines$Directory" "GlyphLines$Directory" "tables" "I") ∈ tw_T := tw_of 76 (by decide +kernel) (by decide +kernel)
theorem w_93 : (Jvm.Cond.laysFinal "GlyphLines$CharacterMap" "GlyphLines$CharacterMap" "cmap" "LGlyphLines$Span;") ∈ tw_T := tw_of 93 (by decide +kernel) (by decide +kernel)
theorem w_95 : (Jvm.Cond.lays "GlyphLines$CharacterMap" "GlyphLines$CharacterMap" "place" "I") ∈ tw_T := tw_of 95 (by decide +kernel) (by decide +kernel)
theorem w_97 : (Jvm.Cond.lays "GlyphLines$CharacterMap" "GlyphLines$CharacterMap" "ranges" "I") ∈ tw_T := tw_of 97 (by decide +kernel) (by decide +kernel)
theorem w_111 : (Jvm.Cond.laysFinal "GlyphLines$Pairs" "GlyphLines$Pairs" "kern" "LGlyphLines$Span;") ∈ tw_T := tw_of 111 (by decide +kernel) (by decide +kernel)
theorem w_113 : (Jvm.Cond.lays "GlyphLines$Pairs" "GlyphLines$Pairs" "pairs" "I") ∈ tw_T := tw_of 113 (by decide +kernel) (by decide +kernel)
theorem w_135 : (Jvm.Cond.laysFinal "GlyphLines$Font" "GlyphLines$Font" "cells" "[I") ∈ tw_T := tw_of 135 (by decide +kernel) (by decide +kernel)
theorem w_137 : (Jvm.Cond.laysFinal "GlyphLines$Font" "GlyphLines$Font" "directory" "LGlyphLines$Directory;") ∈ tw_T := tw_of 137 (by decide +kernel) (by decide +kernel)
theorem w_139 : (Jvm.Cond.laysFinal "GlyphLines$Font" "GlyphLines$Font" "head" "LGlyphLines$Span;") ∈ tw_T := tw_of 139 (by decide +kernel) (by decide +kernel)
theorem w_141 : (Jvm.Cond.laysFinal "GlyphLines$Font" "GlyphLines$Font" "maxp" "LGlyphLines$Span;") ∈ tw_T := tw_of 141 (by decide +kernel) (by decide +kernel)
theorem w_143 : (Jvm.Cond.laysFinal "GlyphLines$Font" "GlyphLines$Font" "hhea" "LGlyphLines$Span;") ∈ tw_T := tw_of 143 (by decide +kernel) (by decide +kernel)
theorem w_145 : (Jvm.Cond.laysFinal "GlyphLines$Font" "GlyphLines$Font" "hmtx" "LGlyphLines$Span;") ∈ tw_T := tw_of 145 (by decide +kernel) (by decide +kernel)
theorem w_147 : (Jvm.Cond.laysFinal "GlyphLines$Font" "GlyphLines$Font" "loca" "LGlyphLines$Span;") ∈ tw_T := tw_of 147 (by decide +kernel) (by decide +kernel)
theorem w_149 : (Jvm.Cond.laysFinal "GlyphLines$Font" "GlyphLines$Font" "glyf" "LGlyphLines$Span;") ∈ tw_T := tw_of 149 (by decide +kernel) (by decide +kernel)
theorem w_151 : (Jvm.Cond.laysFinal "GlyphLines$Font" "GlyphLines$Font" "map" "LGlyphLines$CharacterMap;") ∈ tw_T := tw_of 151 (by decide +kernel) (by decide +kernel)
theorem w_153 : (Jvm.Cond.laysFinal "GlyphLines$Font" "GlyphLines$Font" "pairs" "LGlyphLines$Pairs;") ∈ tw_T := tw_of 153 (by decide +kernel) (by decide +kernel)
theorem w_155 : (Jvm.Cond.laysFinal "GlyphLines$Font" "GlyphLines$Font" "data" "[LGlyphLines$Span;") ∈ tw_T := tw_of 155 (by decide +kernel) (by decide +kernel)
theorem w_157 : (Jvm.Cond.lays "GlyphLines$Font" "GlyphLines$Font" "em" "I") ∈ tw_T := tw_of 157 (by decide +kernel) (by decide +kernel)
theorem w_159 : (Jvm.Cond.lays "GlyphLines$Font" "GlyphLines$Font" "glyphs" "I") ∈ tw_T := tw_of 159 (by decide +kernel) (by decide +kernel)
theorem w_161 : (Jvm.Cond.lays "GlyphLines$Font" "GlyphLines$Font" "widths" "I") ∈ tw_T := tw_of 161 (by decide +kernel) (by decide +kernel)
theorem w_163 : (Jvm.Cond.lays "GlyphLines$Font" "GlyphLines$Font" "isLong" "Z") ∈ tw_T := tw_of 163 (by decide +kernel) (by decide +kernel)
theorem w_184 : (Jvm.Cond.lays "GlyphLines$Move" "GlyphLines$Move" "a" "I") ∈ tw_T := tw_of 184 (by decide +kernel) (by decide +kernel)
theorem w_186 : (Jvm.Cond.lays "GlyphLines$Move" "GlyphLines$Move" "b" "I") ∈ tw_T := tw_of 186 (by decide +kernel) (by decide +kernel)
theorem w_188 : (Jvm.Cond.lays "GlyphLines$Move" "GlyphLines$Move" "c" "I") ∈ tw_T := tw_of 188 (by decide +kernel) (by decide +kernel)
theorem w_190 : (Jvm.Cond.lays "GlyphLines$Move" "GlyphLines$Move" "d" "I") ∈ tw_T := tw_of 190 (by decide +kernel) (by decide +kernel)
theorem w_192 : (Jvm.Cond.lays "GlyphLines$Move" "GlyphLines$Move" "dx" "I") ∈ tw_T := tw_of 192 (by decide +kernel) (by decide +kernel)
theorem w_194 : (Jvm.Cond.lays "GlyphLines$Move" "GlyphLines$Move" "dy" "I") ∈ tw_T := tw_of 194 (by decide +kernel) (by decide +kernel)
theorem w_217 : (Jvm.Cond.laysFinal "GlyphLines$Outline" "GlyphLines$Outline" "xs" "[I") ∈ tw_T := tw_of 217 (by decide +kernel) (by decide +kernel)
theorem w_219 : (Jvm.Cond.laysFinal "GlyphLines$Outline" "GlyphLines$Outline" "ys" "[I") ∈ tw_T := tw_of 219 (by decide +kernel) (by decide +kernel)
theorem w_221 : (Jvm.Cond.laysFinal "GlyphLines$Outline" "GlyphLines$Outline" "isOn" "[Z") ∈ tw_T := tw_of 221 (by decide +kernel) (by decide +kernel)
theorem w_223 : (Jvm.Cond.laysFinal "GlyphLines$Outline" "GlyphLines$Outline" "contourOf" "[I") ∈ tw_T := tw_of 223 (by decide +kernel) (by decide +kernel)
theorem w_225 : (Jvm.Cond.laysFinal "GlyphLines$Outline" "GlyphLines$Outline" "flags" "[I") ∈ tw_T := tw_of 225 (by decide +kernel) (by decide +kernel)
theorem w_227 : (Jvm.Cond.laysFinal "GlyphLines$Outline" "GlyphLines$Outline" "move" "LGlyphLines$Move;") ∈ tw_T := tw_of 227 (by decide +kernel) (by decide +kernel)
theorem w_229 : (Jvm.Cond.lays "GlyphLines$Outline" "GlyphLines$Outline" "points" "I") ∈ tw_T := tw_of 229 (by decide +kernel) (by decide +kernel)
theorem w_231 : (Jvm.Cond.lays "GlyphLines$Outline" "GlyphLines$Outline" "contours" "I") ∈ tw_T := tw_of 231 (by decide +kernel) (by decide +kernel)
theorem w_243 : (Jvm.Cond.laysFinal "GlyphLines$Picture" "GlyphLines$Picture" "rows" "[J") ∈ tw_T := tw_of 243 (by decide +kernel) (by decide +kernel)
theorem w_245 : (Jvm.Cond.laysFinal "GlyphLines$Picture" "GlyphLines$Picture" "steps" "[I") ∈ tw_T := tw_of 245 (by decide +kernel) (by decide +kernel)
theorem w_266 : (Jvm.Cond.laysFinal "GlyphLines$Brush" "GlyphLines$Brush" "picture" "LGlyphLines$Picture;") ∈ tw_T := tw_of 266 (by decide +kernel) (by decide +kernel)
theorem w_268 : (Jvm.Cond.laysFinal "GlyphLines$Brush" "GlyphLines$Brush" "outline" "LGlyphLines$Outline;") ∈ tw_T := tw_of 268 (by decide +kernel) (by decide +kernel)
theorem w_270 : (Jvm.Cond.laysFinal "GlyphLines$Brush" "GlyphLines$Brush" "ringX" "[I") ∈ tw_T := tw_of 270 (by decide +kernel) (by decide +kernel)
theorem w_272 : (Jvm.Cond.laysFinal "GlyphLines$Brush" "GlyphLines$Brush" "ringY" "[I") ∈ tw_T := tw_of 272 (by decide +kernel) (by decide +kernel)
theorem w_274 : (Jvm.Cond.laysFinal "GlyphLines$Brush" "GlyphLines$Brush" "ringOn" "[Z") ∈ tw_T := tw_of 274 (by decide +kernel) (by decide +kernel)
theorem w_276 : (Jvm.Cond.lays "GlyphLines$Brush" "GlyphLines$Brush" "ringSize" "I") ∈ tw_T := tw_of 276 (by decide +kernel) (by decide +kernel)
theorem w_278 : (Jvm.Cond.lays "GlyphLines$Brush" "GlyphLines$Brush" "em" "I") ∈ tw_T := tw_of 278 (by decide +kernel) (by decide +kernel)
theorem w_280 : (Jvm.Cond.lays "GlyphLines$Brush" "GlyphLines$Brush" "ppem" "I") ∈ tw_T := tw_of 280 (by decide +kernel) (by decide +kernel)
theorem w_282 : (Jvm.Cond.lays "GlyphLines$Brush" "GlyphLines$Brush" "pen" "I") ∈ tw_T := tw_of 282 (by decide +kernel) (by decide +kernel)
theorem w_284 : (Jvm.Cond.lays "GlyphLines$Brush" "GlyphLines$Brush" "glyphBefore" "I") ∈ tw_T := tw_of 284 (by decide +kernel) (by decide +kernel)
theorem w_297 : (Jvm.Cond.laysFinal "GlyphLines" "GlyphLines" "file" "[I") ∈ tw_T := tw_of 297 (by decide +kernel) (by decide +kernel)
theorem w_299 : (Jvm.Cond.lays "GlyphLines" "GlyphLines" "fileSize" "I") ∈ tw_T := tw_of 299 (by decide +kernel) (by decide +kernel)
theorem w_301 : (Jvm.Cond.lays "GlyphLines" "GlyphLines" "font" "LGlyphLines$Font;") ∈ tw_T := tw_of 301 (by decide +kernel) (by decide +kernel)
theorem w_303 : (Jvm.Cond.lays "GlyphLines" "GlyphLines" "spare" "LGlyphLines$Font;") ∈ tw_T := tw_of 303 (by decide +kernel) (by decide +kernel)
theorem w_305 : (Jvm.Cond.lays "GlyphLines" "GlyphLines" "hasFont" "Z") ∈ tw_T := tw_of 305 (by decide +kernel) (by decide +kernel)
theorem w_307 : (Jvm.Cond.laysFinal "GlyphLines" "GlyphLines" "outline" "LGlyphLines$Outline;") ∈ tw_T := tw_of 307 (by decide +kernel) (by decide +kernel)
theorem w_309 : (Jvm.Cond.laysFinal "GlyphLines" "GlyphLines" "picture" "LGlyphLines$Picture;") ∈ tw_T := tw_of 309 (by decide +kernel) (by decide +kernel)
theorem w_311 : (Jvm.Cond.laysFinal "GlyphLines" "GlyphLines" "brush" "LGlyphLines$Brush;") ∈ tw_T := tw_of 311 (by decide +kernel) (by decide +kernel)
theorem w_313 : (Jvm.Cond.laysFinal "GlyphLines" "GlyphLines" "text" "[I") ∈ tw_T := tw_of 313 (by decide +kernel) (by decide +kernel)
theorem w_315 : (Jvm.Cond.lays "GlyphLines" "GlyphLines" "textSize" "I") ∈ tw_T := tw_of 315 (by decide +kernel) (by decide +kernel)
theorem w_888 : (Jvm.Cond.lays "GlyphLinesModel" "GlyphLinesModel" "fault" "I") ∈ tw_T := tw_of 888 (by decide +kernel) (by decide +kernel)
theorem w_890 : (Jvm.Cond.lays "GlyphLinesModel" "GlyphLinesModel" "size" "I") ∈ tw_T := tw_of 890 (by decide +kernel) (by decide +kernel)
theorem w_892 : (Jvm.Cond.laysFinal "GlyphLinesModel" "GlyphLinesModel" "file" "[I") ∈ tw_T := tw_of 892 (by decide +kernel) (by decide +kernel)
theorem w_894 : (Jvm.Cond.lays "GlyphLinesModel" "GlyphLinesModel" "side" "I") ∈ tw_T := tw_of 894 (by decide +kernel) (by decide +kernel)
theorem w_896 : (Jvm.Cond.lays "GlyphLinesModel" "GlyphLinesModel" "isFont" "Z") ∈ tw_T := tw_of 896 (by decide +kernel) (by decide +kernel)
theorem w_898 : (Jvm.Cond.laysFinal "GlyphLinesModel" "GlyphLinesModel" "bytes" "[I") ∈ tw_T := tw_of 898 (by decide +kernel) (by decide +kernel)
theorem w_900 : (Jvm.Cond.laysFinal "GlyphLinesModel" "GlyphLinesModel" "places" "[I") ∈ tw_T := tw_of 900 (by decide +kernel) (by decide +kernel)
theorem w_902 : (Jvm.Cond.laysFinal "GlyphLinesModel" "GlyphLinesModel" "lengths" "[I") ∈ tw_T := tw_of 902 (by decide +kernel) (by decide +kernel)
theorem w_904 : (Jvm.Cond.laysFinal "GlyphLinesModel" "GlyphLinesModel" "glyphCount" "[I") ∈ tw_T := tw_of 904 (by decide +kernel) (by decide +kernel)
theorem w_906 : (Jvm.Cond.laysFinal "GlyphLinesModel" "GlyphLinesModel" "ems" "[I") ∈ tw_T := tw_of 906 (by decide +kernel) (by decide +kernel)
theorem w_908 : (Jvm.Cond.laysFinal "GlyphLinesModel" "GlyphLinesModel" "wides" "[I") ∈ tw_T := tw_of 908 (by decide +kernel) (by decide +kernel)
theorem w_910 : (Jvm.Cond.laysFinal "GlyphLinesModel" "GlyphLinesModel" "forms" "[I") ∈ tw_T := tw_of 910 (by decide +kernel) (by decide +kernel)
theorem w_912 : (Jvm.Cond.laysFinal "GlyphLinesModel" "GlyphLinesModel" "parts" "[I") ∈ tw_T := tw_of 912 (by decide +kernel) (by decide +kernel)
theorem w_914 : (Jvm.Cond.laysFinal "GlyphLinesModel" "GlyphLinesModel" "charts" "[I") ∈ tw_T := tw_of 914 (by decide +kernel) (by decide +kernel)
theorem w_916 : (Jvm.Cond.laysFinal "GlyphLinesModel" "GlyphLinesModel" "pointCount" "[I") ∈ tw_T := tw_of 916 (by decide +kernel) (by decide +kernel)
theorem w_918 : (Jvm.Cond.laysFinal "GlyphLinesModel" "GlyphLinesModel" "contourCount" "[I") ∈ tw_T := tw_of 918 (by decide +kernel) (by decide +kernel)
theorem w_920 : (Jvm.Cond.laysFinal "GlyphLinesModel" "GlyphLinesModel" "depths" "[I") ∈ tw_T := tw_of 920 (by decide +kernel) (by decide +kernel)
theorem w_922 : (Jvm.Cond.laysFinal "GlyphLinesModel" "GlyphLinesModel" "xs" "[I") ∈ tw_T := tw_of 922 (by decide +kernel) (by decide +kernel)
theorem w_924 : (Jvm.Cond.laysFinal "GlyphLinesModel" "GlyphLinesModel" "ys" "[I") ∈ tw_T := tw_of 924 (by decide +kernel) (by decide +kernel)
theorem w_926 : (Jvm.Cond.laysFinal "GlyphLinesModel" "GlyphLinesModel" "ons" "[I") ∈ tw_T := tw_of 926 (by decide +kernel) (by decide +kernel)
theorem w_928 : (Jvm.Cond.laysFinal "GlyphLinesModel" "GlyphLinesModel" "contours" "[I") ∈ tw_T := tw_of 928 (by decide +kernel) (by decide +kernel)
theorem w_930 : (Jvm.Cond.lays "GlyphLinesModel" "GlyphLinesModel" "bad" "Z") ∈ tw_T := tw_of 930 (by decide +kernel) (by decide +kernel)
theorem w_932 : (Jvm.Cond.lays "GlyphLinesModel" "GlyphLinesModel" "at" "I") ∈ tw_T := tw_of 932 (by decide +kernel) (by decide +kernel)
theorem w_934 : (Jvm.Cond.lays "GlyphLinesModel" "GlyphLinesModel" "end" "I") ∈ tw_T := tw_of 934 (by decide +kernel) (by decide +kernel)
theorem w_936 : (Jvm.Cond.laysFinal "GlyphLinesModel" "GlyphLinesModel" "flags" "[I") ∈ tw_T := tw_of 936 (by decide +kernel) (by decide +kernel)
theorem w_938 : (Jvm.Cond.laysFinal "GlyphLinesModel" "GlyphLinesModel" "part" "[I") ∈ tw_T := tw_of 938 (by decide +kernel) (by decide +kernel)
theorem w_940 : (Jvm.Cond.lays "GlyphLinesModel" "GlyphLinesModel" "typed" "I") ∈ tw_T := tw_of 940 (by decide +kernel) (by decide +kernel)
theorem w_942 : (Jvm.Cond.laysFinal "GlyphLinesModel" "GlyphLinesModel" "text" "[I") ∈ tw_T := tw_of 942 (by decide +kernel) (by decide +kernel)
theorem w_944 : (Jvm.Cond.lays "GlyphLinesModel" "GlyphLinesModel" "ring" "I") ∈ tw_T := tw_of 944 (by decide +kernel) (by decide +kernel)
theorem w_946 : (Jvm.Cond.laysFinal "GlyphLinesModel" "GlyphLinesModel" "ringX" "[I") ∈ tw_T := tw_of 946 (by decide +kernel) (by decide +kernel)
theorem w_948 : (Jvm.Cond.laysFinal "GlyphLinesModel" "GlyphLinesModel" "ringY" "[I") ∈ tw_T := tw_of 948 (by decide +kernel) (by decide +kernel)
theorem w_950 : (Jvm.Cond.laysFinal "GlyphLinesModel" "GlyphLinesModel" "ringOn" "[Z") ∈ tw_T := tw_of 950 (by decide +kernel) (by decide +kernel)
theorem w_952 : (Jvm.Cond.lays "GlyphLinesModel" "GlyphLinesModel" "waiting" "I") ∈ tw_T := tw_of 952 (by decide +kernel) (by decide +kernel)
theorem w_954 : (Jvm.Cond.laysFinal "GlyphLinesModel" "GlyphLinesModel" "curves" "[I") ∈ tw_T := tw_of 954 (by decide +kernel) (by decide +kernel)
theorem w_956 : (Jvm.Cond.laysFinal "GlyphLinesModel" "GlyphLinesModel" "windings" "[I") ∈ tw_T := tw_of 956 (by decide +kernel) (by decide +kernel)
theorem w_958 : (Jvm.Cond.laysFinal "GlyphLinesModel" "GlyphLinesModel" "rows" "[J") ∈ tw_T := tw_of 958 (by decide +kernel) (by decide +kernel)
theorem k_SP : ∀ k, k < 4 → u_lay R_SP F_SP k ∈ tw_T := fun k hk => match k, hk with
  | 0, _ => w_59
  | 1, _ => w_61
  | 2, _ => w_63
  | 3, _ => w_65
  | n + 4, h => absurd h (by omega)
theorem in_SP {c1 : Cond} : ∀ w ∈ u_ws R_SP F_SP 4, w ∈ c1 :: tw_T := fun w hw => by
  obtain ⟨k, hk, rfl⟩ := List.mem_map.mp hw
  exact List.mem_cons_of_mem _ (k_SP k (List.mem_range.mp hk))
theorem inl_SP : ∀ w ∈ u_ws R_SP F_SP 4, w ∈ lw_tbl := fun w hw => by
  obtain ⟨k, hk, rfl⟩ := List.mem_map.mp hw
  exact tw_sub (k_SP k (List.mem_range.mp hk))
theorem k_CM : ∀ k, k < 3 → u_lay R_CM F_CM k ∈ tw_T := fun k hk => match k, hk with
  | 0, _ => w_93
  | 1, _ => w_95
  | 2, _ => w_97
  | n + 3, h => absurd h (by omega)
theorem in_CM {c1 : Cond} : ∀ w ∈ u_ws R_CM F_CM 3, w ∈ c1 :: tw_T := fun w hw => by
  obtain ⟨k, hk, rfl⟩ := List.mem_map.mp hw
  exact List.mem_cons_of_mem _ (k_CM k (List.mem_range.mp hk))
theorem inl_CM : ∀ w ∈ u_ws R_CM F_CM 3, w ∈ lw_tbl := fun w hw => by
  obtain ⟨k, hk, rfl⟩ := List.mem_map.mp hw
  exact tw_sub (k_CM k (List.mem_range.mp hk))
theorem k_DI : ∀ k, k < 3 → u_lay R_DI F_DI k ∈ tw_T := fun k hk => match k, hk with
  | 0, _ => w_72
  | 1, _ => w_74
  | 2, _ => w_76
  | n + 3, h => absurd h (by omega)
theorem in_DI {c1 : Cond} : ∀ w ∈ u_ws R_DI F_DI 3, w ∈ c1 :: tw_T := fun w hw => by
  obtain ⟨k, hk, rfl⟩ := List.mem_map.mp hw
  exact List.mem_cons_of_mem _ (k_DI k (List.mem_range.mp hk))
theorem inl_DI : ∀ w ∈ u_ws R_DI F_DI 3, w ∈ lw_tbl := fun w hw => by
  obtain ⟨k, hk, rfl⟩ := List.mem_map.mp hw
  exact tw_sub (k_DI k (List.mem_range.mp hk))
theorem k_PA : ∀ k, k < 2 → u_lay R_PA F_PA k ∈ tw_T := fun k hk => match k, hk with
  | 0, _ => w_111
  | 1, _ => w_113
  | n + 2, h => absurd h (by omega)
theorem in_PA {c1 : Cond} : ∀ w ∈ u_ws R_PA F_PA 2, w ∈ c1 :: tw_T := fun w hw => by
  obtain ⟨k, hk, rfl⟩ := List.mem_map.mp hw
  exact List.mem_cons_of_mem _ (k_PA k (List.mem_range.mp hk))
theorem inl_PA : ∀ w ∈ u_ws R_PA F_PA 2, w ∈ lw_tbl := fun w hw => by
  obtain ⟨k, hk, rfl⟩ := List.mem_map.mp hw
  exact tw_sub (k_PA k (List.mem_range.mp hk))
theorem k_FO : ∀ k, k < 15 → u_lay R_FO F_FO k ∈ tw_T := fun k hk => match k, hk with
  | 0, _ => w_135
  | 1, _ => w_137
  | 2, _ => w_139
  | 3, _ => w_141
  | 4, _ => w_143
  | 5, _ => w_145
  | 6, _ => w_147
  | 7, _ => w_149
  | 8, _ => w_151
  | 9, _ => w_153
  | 10, _ => w_155
  | 11, _ => w_157
  | 12, _ => w_159
  | 13, _ => w_161
  | 14, _ => w_163
  | n + 15, h => absurd h (by omega)
theorem in_FO {c1 : Cond} : ∀ w ∈ u_ws R_FO F_FO 15, w ∈ c1 :: tw_T := fun w hw => by
  obtain ⟨k, hk, rfl⟩ := List.mem_map.mp hw
  exact List.mem_cons_of_mem _ (k_FO k (List.mem_range.mp hk))
theorem inl_FO : ∀ w ∈ u_ws R_FO F_FO 15, w ∈ lw_tbl := fun w hw => by
  obtain ⟨k, hk, rfl⟩ := List.mem_map.mp hw
  exact tw_sub (k_FO k (List.mem_range.mp hk))
theorem k_MO : ∀ k, k < 6 → u_lay R_MO F_MO k ∈ tw_T := fun k hk => match k, hk with
  | 0, _ => w_184
  | 1, _ => w_186
  | 2, _ => w_188
  | 3, _ => w_190
  | 4, _ => w_192
  | 5, _ => w_194
  | n + 6, h => absurd h (by omega)
theorem in_MO {c1 : Cond} : ∀ w ∈ u_ws R_MO F_MO 6, w ∈ c1 :: tw_T := fun w hw => by
  obtain ⟨k, hk, rfl⟩ := List.mem_map.mp hw
  exact List.mem_cons_of_mem _ (k_MO k (List.mem_range.mp hk))
theorem inl_MO : ∀ w ∈ u_ws R_MO F_MO 6, w ∈ lw_tbl := fun w hw => by
  obtain ⟨k, hk, rfl⟩ := List.mem_map.mp hw
  exact tw_sub (k_MO k (List.mem_range.mp hk))
theorem k_OU : ∀ k, k < 8 → u_lay R_OU F_OU k ∈ tw_T := fun k hk => match k, hk with
  | 0, _ => w_217
  | 1, _ => w_219
  | 2, _ => w_221
  | 3, _ => w_223
  | 4, _ => w_225
  | 5, _ => w_227
  | 6, _ => w_229
  | 7, _ => w_231
  | n + 8, h => absurd h (by omega)
theorem in_OU {c1 : Cond} : ∀ w ∈ u_ws R_OU F_OU 8, w ∈ c1 :: tw_T := fun w hw => by
  obtain ⟨k, hk, rfl⟩ := List.mem_map.mp hw
  exact List.mem_cons_of_mem _ (k_OU k (List.mem_range.mp hk))
theorem inl_OU : ∀ w ∈ u_ws R_OU F_OU 8, w ∈ lw_tbl := fun w hw => by
  obtain ⟨k, hk, rfl⟩ := List.mem_map.mp hw
  exact tw_sub (k_OU k (List.mem_range.mp hk))
theorem k_PI : ∀ k, k < 2 → u_lay R_PI F_PI k ∈ tw_T := fun k hk => match k, hk with
  | 0, _ => w_243
  | 1, _ => w_245
  | n + 2, h => absurd h (by omega)
theorem in_PI {c1 : Cond} : ∀ w ∈ u_ws R_PI F_PI 2, w ∈ c1 :: tw_T := fun w hw => by
  obtain ⟨k, hk, rfl⟩ := List.mem_map.mp hw
  exact List.mem_cons_of_mem _ (k_PI k (List.mem_range.mp hk))
theorem inl_PI : ∀ w ∈ u_ws R_PI F_PI 2, w ∈ lw_tbl := fun w hw => by
  obtain ⟨k, hk, rfl⟩ := List.mem_map.mp hw
  exact tw_sub (k_PI k (List.mem_range.mp hk))
theorem k_BR : ∀ k, k < 10 → u_lay R_BR F_BR k ∈ tw_T := fun k hk => match k, hk with
  | 0, _ => w_266
  | 1, _ => w_268
  | 2, _ => w_270
  | 3, _ => w_272
  | 4, _ => w_274
  | 5, _ => w_276
  | 6, _ => w_278
  | 7, _ => w_280
  | 8, _ => w_282
  | 9, _ => w_284
  | n + 10, h => absurd h (by omega)
theorem in_BR {c1 : Cond} : ∀ w ∈ u_ws R_BR F_BR 10, w ∈ c1 :: tw_T := fun w hw => by
  obtain ⟨k, hk, rfl⟩ := List.mem_map.mp hw
  exact List.mem_cons_of_mem _ (k_BR k (List.mem_range.mp hk))
theorem inl_BR : ∀ w ∈ u_ws R_BR F_BR 10, w ∈ lw_tbl := fun w hw => by
  obtain ⟨k, hk, rfl⟩ := List.mem_map.mp hw
  exact tw_sub (k_BR k (List.mem_range.mp hk))
theorem k_GL : ∀ k, k < 10 → u_lay R_GL F_GL k ∈ tw_T := fun k hk => match k, hk with
  | 0, _ => w_297
  | 1, _ => w_299
  | 2, _ => w_301
  | 3, _ => w_303
  | 4, _ => w_305
  | 5, _ => w_307
  | 6, _ => w_309
  | 7, _ => w_311
  | 8, _ => w_313
  | 9, _ => w_315
  | n + 10, h => absurd h (by omega)
theorem in_GL {c1 : Cond} : ∀ w ∈ u_ws R_GL F_GL 10, w ∈ c1 :: tw_T := fun w hw => by
  obtain ⟨k, hk, rfl⟩ := List.mem_map.mp hw
  exact List.mem_cons_of_mem _ (k_GL k (List.mem_range.mp hk))
theorem inl_GL : ∀ w ∈ u_ws R_GL F_GL 10, w ∈ lw_tbl := fun w hw => by
  obtain ⟨k, hk, rfl⟩ := List.mem_map.mp hw
  exact tw_sub (k_GL k (List.mem_range.mp hk))
theorem k_MD : ∀ k, k < 36 → u_lay R_MD F_MD k ∈ tw_T := fun k hk => match k, hk with
  | 0, _ => w_888
  | 1, _ => w_890
  | 2, _ => w_892
  | 3, _ => w_894
  | 4, _ => w_896
  | 5, _ => w_898
  | 6, _ => w_900
  | 7, _ => w_902
  | 8, _ => w_904
  | 9, _ => w_906
  | 10, _ => w_908
  | 11, _ => w_910
  | 12, _ => w_912
  | 13, _ => w_914
  | 14, _ => w_916
  | 15, _ => w_918
  | 16, _ => w_920
  | 17, _ => w_922
  | 18, _ => w_924
  | 19, _ => w_926
  | 20, _ => w_928
  | 21, _ => w_930
  | 22, _ => w_932
  | 23, _ => w_934
  | 24, _ => w_936
  | 25, _ => w_938
  | 26, _ => w_940
  | 27, _ => w_942
  | 28, _ => w_944
  | 29, _ => w_946
  | 30, _ => w_948
  | 31, _ => w_950
  | 32, _ => w_952
  | 33, _ => w_954
  | 34, _ => w_956
  | 35, _ => w_958
  | n + 36, h => absurd h (by omega)
theorem in_MD {c1 : Cond} : ∀ w ∈ u_ws R_MD F_MD 36, w ∈ c1 :: tw_T := fun w hw => by
  obtain ⟨k, hk, rfl⟩ := List.mem_map.mp hw
  exact List.mem_cons_of_mem _ (k_MD k (List.mem_range.mp hk))
theorem inl_MD : ∀ w ∈ u_ws R_MD F_MD 36, w ∈ lw_tbl := fun w hw => by
  obtain ⟨k, hk, rfl⟩ := List.mem_map.mp hw
  exact tw_sub (k_MD k (List.mem_range.mp hk))
section SM
variable {p : Program} {l : Launch} {e : Env} {R : Room} {s : State} {m : MethodId} {args : Array Value} {below : List Frame} {meth : Method} {c : Code} {H : Heap} {locs : List Loc} {cells slots : Nat} {Q : State → Prop} {pc : Nat} {ls : Array Slot} {rest : List Value}
theorem lv_ci {x y : Int32} (h : x = y) (k : W p l e R s m args below meth c H locs cells slots Q (F0 m pc ls (.int y :: rest))) : W p l e R s m args below meth c H locs cells slots Q (F0 m pc ls (.int x :: rest)) := by subst h; exact k
theorem lv_cl {x y : Int64} (h : x = y) (k : W p l e R s m args below meth c H locs cells slots Q (F0 m pc ls (.long y :: rest))) : W p l e R s m args below meth c H locs cells slots Q (F0 m pc ls (.long x :: rest)) := by subst h; exact k
end SM
theorem tw_inS {c1 c2 : Cond} {own : String} {i : Nat} {y : MethodName} (h1 : Cond.methodLink own i y ∈ tw_T) (h2 : Cond.static y ∈ tw_T) (h4 : Cond.initialized own ∈ tw_T) (h : c2 ∈ tw_T) : GoodIn (c1 :: tw_T) (wsS own i y (c2 :: tw_T)) := fun w hw => by
  have h9 : w ∈ tw_T := by
    simp only [wsS, List.cons_append, List.nil_append, List.mem_cons] at hw
    rcases hw with rfl | rfl | rfl | rfl | h5 <;> assumption
  exact ⟨List.mem_cons_of_mem _ h9, good_of_word (tw_good h9)⟩
section JN
variable {p : Program} {l : Launch} {e : Env} {R : Room} {s : State} {m : MethodId} {args : Array Value} {below : List Frame} {meth : Method} {c : Code} {H : Heap} {locs : List Loc} {cells slots : Nat} {Q : State → Prop} {pc : Nat} {ls : Array Slot} {st0 : List Value}
/-- two ways that come together: walked once behind -/
theorem lv_join {α : Type} (J : Nat) (st : α → Heap → List Loc → Array Slot → Prop) (stk : α → List Value) (kj : ∀ (x : α) (H' : Heap) (locs' : List Loc) (ls' : Array Slot), st x H' locs' ls' → W p l e R s m args below meth c H' locs' cells slots Q (F0 m J ls' (stk x))) (k : (∀ (x : α) (H' : Heap) (locs' : List Loc) (ls' : Array Slot), st x H' locs' ls' → W p l e R s m args below meth c H' locs' cells slots Q (F0 m J ls' (stk x))) → W p l e R s m args below meth c H locs cells slots Q (F0 m pc ls st0)) : W p l e R s m args below meth c H locs cells slots Q (F0 m pc ls st0) := k kj
/-- a loop, by a measure -/
theorem lv_loop {α : Type} (J : Nat) (st : α → Heap → List Loc → Array Slot → Prop) (stk : α → List Value) (mea : α → Nat) (step : ∀ (x : α), (∀ (y : α) (H' : Heap) (locs' : List Loc) (ls' : Array Slot), mea y < mea x → st y H' locs' ls' → W p l e R s m args below meth c H' locs' cells slots Q (F0 m J ls' (stk y))) → ∀ (H' : Heap) (locs' : List Loc) (ls' : Array Slot), st x H' locs' ls' → W p l e R s m args below meth c H' locs' cells slots Q (F0 m J ls' (stk x))) (x : α) (H' : Heap) (locs' : List Loc) (ls' : Array Slot) (h : st x H' locs' ls') : W p l e R s m args below meth c H' locs' cells slots Q (F0 m J ls' (stk x)) := by
  have key : ∀ (fu : Nat) (y : α) (H' : Heap) (locs' : List Loc) (ls' : Array Slot), mea y < fu → st y H' locs' ls' → W p l e R s m args below meth c H' locs' cells slots Q (F0 m J ls' (stk y)) := by
    intro fu
    induction fu with
    | zero => intro y H' locs' ls' h1; exact absurd h1 (Nat.not_lt_zero _)
    | succ fu ih => intro y H' locs' ls' h1 h2; exact step y (fun z H' locs' ls' h3 h4 => ih z H' locs' ls' (by omega) h4) H' locs' ls' h2
  exact key (mea x + 1) x H' locs' ls' (by omega) h
end JN
def isB (f : Nat → Int32) : Prop := ∀ j, ∃ v : Nat, v < 256 ∧ f j = nI v
theorem u16_ok {x y z w : Int32} (h1 : ∃ v : Nat, v < 256 ∧ x = nI v) (h2 : ∃ v : Nat, v < 256 ∧ y = nI v) (e1 : z = x <<< ((8 : Int32) &&& 31)) (e2 : w = z ||| y) : ∃ v : Nat, v < 65536 ∧ w = nI v := by
  obtain ⟨a, ha, rfl⟩ := h1
  obtain ⟨b, hb, rfl⟩ := h2
  subst e1
  subst e2
  rw [pk_shlN (n := a) ((8 : Int32) &&& 31) 8 (by decide +kernel) (by omega)]
  refine ⟨(a * 2 ^ 8) ||| b, Nat.or_lt_two_pow (n := 16) (by omega) (by omega), ?_⟩
  apply Int32.toBitVec_inj.mp
  rw [Int32.toBitVec_or]
  show BitVec.ofNat 32 _ ||| BitVec.ofNat 32 _ = BitVec.ofNat 32 _
  rw [BitVec.ofNat_or]
theorem hold_le {i many : Int64} {n at_ : Nat} (hi : i = (nI at_).toInt64) (hm : many = 8) (hn : n < 2 ^ 31) (ha : at_ < 2 ^ 31) (h : i + many ≤ (nI n).toInt64) : at_ + 8 ≤ n := by
  subst hi
  subst hm
  rw [nI_l hn, nI_l ha] at h
  have e : lN at_ + (8 : Int64) = lN (at_ + 8) := lN_add at_ 8
  rw [e] at h
  exact (pk_lLE (by omega) (by omega)).mp h
def bI : Bool → Int32
  | true => 1
  | false => 0
theorem bI_or (a b : Bool) : bI a ||| bI b = bI (a || b) := by cases a <;> cases b <;> decide +kernel
theorem bI_n (b : Bool) : narrow .boolean (.int (bI b)) = .int (bI b) := by cases b <;> rfl
theorem bI_f (b : Bool) : fits .boolean (.int (bI b)) = true := by cases b <;> rfl
theorem bI_0 {b : Bool} (h : bI b = 0) : b = false := by
  cases b
  · rfl
  · exact absurd h (by decide +kernel)
theorem bI_1 {b : Bool} (h : ¬ bI b = 0) : b = true := by
  cases b
  · exact absurd rfl h
  · rfl
theorem sp_clamp (x : Int32) {N : Nat} (hN : N < 2 ^ 31) : ∃ a : Nat, a ≤ N ∧ (if (0 : Int32) < (if nI N < x then nI N else x) then (if nI N < x then nI N else x) else 0) = nI a := by
  by_cases h1 : nI N < x
  · simp only [if_pos h1]
    by_cases h2 : (0 : Int32) < nI N
    · exact ⟨N, Nat.le_refl _, by rw [if_pos h2]⟩
    · exact ⟨0, Nat.zero_le _, by rw [if_neg h2]; rfl⟩
  · simp only [if_neg h1]
    by_cases h2 : (0 : Int32) < x
    · obtain ⟨j, hj, rfl⟩ := nI_of (x := x) (fun z => absurd h2 (Int32.not_lt.mpr (Int32.le_of_lt z)))
      refine ⟨j, ?_, by rw [if_pos h2]⟩
      exact Nat.not_lt.mp (fun z => h1 ((nI_ltI hN hj).mpr z))
    · exact ⟨0, Nat.zero_le _, by rw [if_neg h2]; rfl⟩
theorem sp_ix {i : Int32} {n : Nat} (hn : n < 2 ^ 31) (h1 : ¬ i < 0) (h2 : i < nI n) : ∃ j : Nat, j < n ∧ i = nI j := by
  obtain ⟨j, hj, rfl⟩ := nI_of h1
  exact ⟨j, (nI_ltI hj hn).mp h2, rfl⟩
theorem sp_ix1 {i : Int32} {n : Nat} (hn : n < 2 ^ 31) (h1 : ¬ i < 0) (h2 : i < nI n - 1) : ∃ j : Nat, j + 1 < n ∧ i = nI j := by
  obtain ⟨j, hj, rfl⟩ := nI_of h1
  cases n with
  | zero =>
    have h3 : nI 0 - 1 < (0 : Int32) := by decide +kernel
    exact absurd (Int32.lt_trans h2 h3) (nI_pos hj)
  | succ n =>
    rw [nI_pred] at h2
    have := (nI_ltI hj (by omega)).mp h2
    exact ⟨j, by omega, rfl⟩
/-- the links of the class's parts to each other's private fields -/
def nests (U : State) : Prop := va_Nw (Jvm.Cond.fieldLinkNest "GlyphLines$Font" (182 : Nat) "GlyphLines$Span" "start" "I" "GlyphLines") U ∧ va_Nw (Jvm.Cond.fieldLinkNest "GlyphLines$Outline" (53 : Nat) "GlyphLines$Span" "size" "I" "GlyphLines") U ∧ va_Nw (Jvm.Cond.fieldLinkNest "GlyphLines$Directory" (59 : Nat) "GlyphLines$Span" "size" "I" "GlyphLines") U ∧ va_Nw (Jvm.Cond.fieldLinkNest "GlyphLines$Font" (149 : Nat) "GlyphLines$Span" "size" "I" "GlyphLines") U ∧ va_Nw (Jvm.Cond.fieldLinkNest "GlyphLines$Pairs" (26 : Nat) "GlyphLines$Span" "missed" "Z" "GlyphLines") U ∧ va_Nw (Jvm.Cond.fieldLinkNest "GlyphLines$Outline" (70 : Nat) "GlyphLines$Span" "missed" "Z" "GlyphLines") U ∧ va_Nw (Jvm.Cond.fieldLinkNest "GlyphLines$Font" (156 : Nat) "GlyphLines$Span" "missed" "Z" "GlyphLines") U ∧ va_Nw (Jvm.Cond.fieldLinkNest "GlyphLines$Font" (112 : Nat) "GlyphLines$CharacterMap" "cmap" "LGlyphLines$Span;" "GlyphLines") U ∧ va_Nw (Jvm.Cond.fieldLinkNest "GlyphLines$Font" (161 : Nat) "GlyphLines$Pairs" "kern" "LGlyphLines$Span;" "GlyphLines") U ∧ va_Nw (Jvm.Cond.fieldLinkNest "GlyphLines$Brush" (48 : Nat) "GlyphLines$Font" "em" "I" "GlyphLines") U ∧ va_Nw (Jvm.Cond.fieldLinkNest "GlyphLines$Outline" (44 : Nat) "GlyphLines$Font" "glyphs" "I" "GlyphLines") U ∧ va_Nw (Jvm.Cond.fieldLinkNest "GlyphLines" (162 : Nat) "GlyphLines$Font" "glyphs" "I" "GlyphLines") U ∧ va_Nw (Jvm.Cond.fieldLinkNest "GlyphLines$Brush" (114 : Nat) "GlyphLines$Outline" "xs" "[I" "GlyphLines") U ∧ va_Nw (Jvm.Cond.fieldLinkNest "GlyphLines" (118 : Nat) "GlyphLines$Outline" "xs" "[I" "GlyphLines") U ∧ va_Nw (Jvm.Cond.fieldLinkNest "GlyphLines$Brush" (117 : Nat) "GlyphLines$Outline" "ys" "[I" "GlyphLines") U ∧ va_Nw (Jvm.Cond.fieldLinkNest "GlyphLines" (121 : Nat) "GlyphLines$Outline" "ys" "[I" "GlyphLines") U ∧ va_Nw (Jvm.Cond.fieldLinkNest "GlyphLines$Brush" (104 : Nat) "GlyphLines$Outline" "isOn" "[Z" "GlyphLines") U ∧ va_Nw (Jvm.Cond.fieldLinkNest "GlyphLines" (124 : Nat) "GlyphLines$Outline" "isOn" "[Z" "GlyphLines") U ∧ va_Nw (Jvm.Cond.fieldLinkNest "GlyphLines$Brush" (85 : Nat) "GlyphLines$Outline" "contourOf" "[I" "GlyphLines") U ∧ va_Nw (Jvm.Cond.fieldLinkNest "GlyphLines" (128 : Nat) "GlyphLines$Outline" "contourOf" "[I" "GlyphLines") U ∧ va_Nw (Jvm.Cond.fieldLinkNest "GlyphLines$Brush" (82 : Nat) "GlyphLines$Outline" "points" "I" "GlyphLines") U ∧ va_Nw (Jvm.Cond.fieldLinkNest "GlyphLines" (108 : Nat) "GlyphLines$Outline" "points" "I" "GlyphLines") U ∧ va_Nw (Jvm.Cond.fieldLinkNest "GlyphLines" (111 : Nat) "GlyphLines$Outline" "contours" "I" "GlyphLines") U ∧ va_Nw (Jvm.Cond.fieldLinkNest "GlyphLines" (153 : Nat) "GlyphLines$Picture" "rows" "[J" "GlyphLines") U ∧ va_Nw (Jvm.Cond.fieldLinkNest "GlyphLines" (148 : Nat) "GlyphLines$Brush" "pen" "I" "GlyphLines") U
theorem nest_0 {U : State} (h : nests U) : va_Nw (Jvm.Cond.fieldLinkNest "GlyphLines$Font" (182 : Nat) "GlyphLines$Span" "start" "I" "GlyphLines") U := h.1
theorem nest_1 {U : State} (h : nests U) : va_Nw (Jvm.Cond.fieldLinkNest "GlyphLines$Outline" (53 : Nat) "GlyphLines$Span" "size" "I" "GlyphLines") U := h.2.1
theorem nest_2 {U : State} (h : nests U) : va_Nw (Jvm.Cond.fieldLinkNest "GlyphLines$Directory" (59 : Nat) "GlyphLines$Span" "size" "I" "GlyphLines") U := h.2.2.1
theorem nest_3 {U : State} (h : nests U) : va_Nw (Jvm.Cond.fieldLinkNest "GlyphLines$Font" (149 : Nat) "GlyphLines$Span" "size" "I" "GlyphLines") U := h.2.2.2.1
theorem nest_4 {U : State} (h : nests U) : va_Nw (Jvm.Cond.fieldLinkNest "GlyphLines$Pairs" (26 : Nat) "GlyphLines$Span" "missed" "Z" "GlyphLines") U := h.2.2.2.2.1
theorem nest_5 {U : State} (h : nests U) : va_Nw (Jvm.Cond.fieldLinkNest "GlyphLines$Outline" (70 : Nat) "GlyphLines$Span" "missed" "Z" "GlyphLines") U := h.2.2.2.2.2.1
theorem nest_6 {U : State} (h : nests U) : va_Nw (Jvm.Cond.fieldLinkNest "GlyphLines$Font" (156 : Nat) "GlyphLines$Span" "missed" "Z" "GlyphLines") U := h.2.2.2.2.2.2.1
theorem nest_7 {U : State} (h : nests U) : va_Nw (Jvm.Cond.fieldLinkNest "GlyphLines$Font" (112 : Nat) "GlyphLines$CharacterMap" "cmap" "LGlyphLines$Span;" "GlyphLines") U := h.2.2.2.2.2.2.2.1
theorem nest_8 {U : State} (h : nests U) : va_Nw (Jvm.Cond.fieldLinkNest "GlyphLines$Font" (161 : Nat) "GlyphLines$Pairs" "kern" "LGlyphLines$Span;" "GlyphLines") U := h.2.2.2.2.2.2.2.2.1
theorem nest_9 {U : State} (h : nests U) : va_Nw (Jvm.Cond.fieldLinkNest "GlyphLines$Brush" (48 : Nat) "GlyphLines$Font" "em" "I" "GlyphLines") U := h.2.2.2.2.2.2.2.2.2.1
theorem nest_10 {U : State} (h : nests U) : va_Nw (Jvm.Cond.fieldLinkNest "GlyphLines$Outline" (44 : Nat) "GlyphLines$Font" "glyphs" "I" "GlyphLines") U := h.2.2.2.2.2.2.2.2.2.2.1
theorem nest_11 {U : State} (h : nests U) : va_Nw (Jvm.Cond.fieldLinkNest "GlyphLines" (162 : Nat) "GlyphLines$Font" "glyphs" "I" "GlyphLines") U := h.2.2.2.2.2.2.2.2.2.2.2.1
theorem nest_12 {U : State} (h : nests U) : va_Nw (Jvm.Cond.fieldLinkNest "GlyphLines$Brush" (114 : Nat) "GlyphLines$Outline" "xs" "[I" "GlyphLines") U := h.2.2.2.2.2.2.2.2.2.2.2.2.1
theorem nest_13 {U : State} (h : nests U) : va_Nw (Jvm.Cond.fieldLinkNest "GlyphLines" (118 : Nat) "GlyphLines$Outline" "xs" "[I" "GlyphLines") U := h.2.2.2.2.2.2.2.2.2.2.2.2.2.1
theorem nest_14 {U : State} (h : nests U) : va_Nw (Jvm.Cond.fieldLinkNest "GlyphLines$Brush" (117 : Nat) "GlyphLines$Outline" "ys" "[I" "GlyphLines") U := h.2.2.2.2.2.2.2.2.2.2.2.2.2.2.1
theorem nest_15 {U : State} (h : nests U) : va_Nw (Jvm.Cond.fieldLinkNest "GlyphLines" (121 : Nat) "GlyphLines$Outline" "ys" "[I" "GlyphLines") U := h.2.2.2.2.2.2.2.2.2.2.2.2.2.2.2.1
theorem nest_16 {U : State} (h : nests U) : va_Nw (Jvm.Cond.fieldLinkNest "GlyphLines$Brush" (104 : Nat) "GlyphLines$Outline" "isOn" "[Z" "GlyphLines") U := h.2.2.2.2.2.2.2.2.2.2.2.2.2.2.2.2.1
theorem nest_17 {U : State} (h : nests U) : va_Nw (Jvm.Cond.fieldLinkNest "GlyphLines" (124 : Nat) "GlyphLines$Outline" "isOn" "[Z" "GlyphLines") U := h.2.2.2.2.2.2.2.2.2.2.2.2.2.2.2.2.2.1
theorem nest_18 {U : State} (h : nests U) : va_Nw (Jvm.Cond.fieldLinkNest "GlyphLines$Brush" (85 : Nat) "GlyphLines$Outline" "contourOf" "[I" "GlyphLines") U := h.2.2.2.2.2.2.2.2.2.2.2.2.2.2.2.2.2.2.1
theorem nest_19 {U : State} (h : nests U) : va_Nw (Jvm.Cond.fieldLinkNest "GlyphLines" (128 : Nat) "GlyphLines$Outline" "contourOf" "[I" "GlyphLines") U := h.2.2.2.2.2.2.2.2.2.2.2.2.2.2.2.2.2.2.2.1
theorem nest_20 {U : State} (h : nests U) : va_Nw (Jvm.Cond.fieldLinkNest "GlyphLines$Brush" (82 : Nat) "GlyphLines$Outline" "points" "I" "GlyphLines") U := h.2.2.2.2.2.2.2.2.2.2.2.2.2.2.2.2.2.2.2.2.1
theorem nest_21 {U : State} (h : nests U) : va_Nw (Jvm.Cond.fieldLinkNest "GlyphLines" (108 : Nat) "GlyphLines$Outline" "points" "I" "GlyphLines") U := h.2.2.2.2.2.2.2.2.2.2.2.2.2.2.2.2.2.2.2.2.2.1
theorem nest_22 {U : State} (h : nests U) : va_Nw (Jvm.Cond.fieldLinkNest "GlyphLines" (111 : Nat) "GlyphLines$Outline" "contours" "I" "GlyphLines") U := h.2.2.2.2.2.2.2.2.2.2.2.2.2.2.2.2.2.2.2.2.2.2.1
theorem nest_23 {U : State} (h : nests U) : va_Nw (Jvm.Cond.fieldLinkNest "GlyphLines" (153 : Nat) "GlyphLines$Picture" "rows" "[J" "GlyphLines") U := h.2.2.2.2.2.2.2.2.2.2.2.2.2.2.2.2.2.2.2.2.2.2.2.1
theorem nest_24 {U : State} (h : nests U) : va_Nw (Jvm.Cond.fieldLinkNest "GlyphLines" (148 : Nat) "GlyphLines$Brush" "pen" "I" "GlyphLines") U := h.2.2.2.2.2.2.2.2.2.2.2.2.2.2.2.2.2.2.2.2.2.2.2.2
theorem nests.warm {s U : State} (hW : s.WarmedH U.vm) (h : nests s) : nests U := ⟨va_Nw.warmF hW (nest_0 h), va_Nw.warmF hW (nest_1 h), va_Nw.warmF hW (nest_2 h), va_Nw.warmF hW (nest_3 h), va_Nw.warmF hW (nest_4 h), va_Nw.warmF hW (nest_5 h), va_Nw.warmF hW (nest_6 h), va_Nw.warmF hW (nest_7 h), va_Nw.warmF hW (nest_8 h), va_Nw.warmF hW (nest_9 h), va_Nw.warmF hW (nest_10 h), va_Nw.warmF hW (nest_11 h), va_Nw.warmF hW (nest_12 h), va_Nw.warmF hW (nest_13 h), va_Nw.warmF hW (nest_14 h), va_Nw.warmF hW (nest_15 h), va_Nw.warmF hW (nest_16 h), va_Nw.warmF hW (nest_17 h), va_Nw.warmF hW (nest_18 h), va_Nw.warmF hW (nest_19 h), va_Nw.warmF hW (nest_20 h), va_Nw.warmF hW (nest_21 h), va_Nw.warmF hW (nest_22 h), va_Nw.warmF hW (nest_23 h), va_Nw.warmF hW (nest_24 h)⟩
theorem nests.call {U : State} {g : JFrame} {mk : MethodId} {a : Array Value} (h : nests U) : nests (U.calling g mk a) := h.warm (State.WarmedH.refl U)
theorem cl_lt (x : Int32) : x.toNatClampNeg < 2 ^ 31 := by
  have := x.toInt_lt
  show x.toInt.toNat < 2 ^ 31
  omega
theorem cl_of {k : Nat} {x : Int32} (hk : k < 2 ^ 31) (h : ¬ x ≤ nI k) : k < x.toNatClampNeg := by
  have h1 := Int32.lt_iff_toInt_lt.mp (Int32.not_le.mp h)
  rw [nI_toInt hk] at h1
  show k < x.toInt.toNat
  omega
