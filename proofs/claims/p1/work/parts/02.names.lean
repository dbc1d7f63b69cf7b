/-! names: by program (wip/gen/names.py) out of JAVAP.txt and Statement.lean -/
def tw_T : List Cond := lw_tbl.filter goodWord
theorem tw_good {w : Cond} (h : w ∈ tw_T) : goodWord w = true := (List.mem_filter.mp h).2
theorem tw_sub {w : Cond} (h : w ∈ tw_T) : w ∈ lw_tbl := (List.mem_filter.mp h).1
theorem tw_of {w : Cond} (i : Nat) (h : tables_1[i]? = some w) (g : goodWord w = true) : w ∈ tw_T := List.mem_filter.mpr ⟨List.mem_append_right _ (List.mem_of_getElem? h), g⟩
theorem tw_in {c1 c2 : Cond} (h : c2 ∈ tw_T) : GoodIn (c1 :: tw_T) (c2 :: tw_T) := fun w hw => by
  have h1 : w ∈ tw_T := by rcases List.mem_cons.mp hw with rfl | h2 <;> assumption
  exact ⟨List.mem_cons_of_mem _ h1, good_of_word (tw_good h1)⟩
theorem tw_inL {c2 : Cond} (h : c2 ∈ tw_T) : GoodIn lw_tbl (c2 :: tw_T) := fun w hw => by
  have h1 : w ∈ tw_T := by rcases List.mem_cons.mp hw with rfl | h2 <;> assumption
  exact ⟨tw_sub h1, good_of_word (tw_good h1)⟩
theorem tw_inV {c1 c2 : Cond} {own C : String} {i : Nat} {y : MethodName} (h1 : Cond.methodLink own i y ∈ tw_T) (h2 : Cond.instanceMethod y ∈ tw_T) (h3 : Cond.selects C y y ∈ tw_T) (h4 : Cond.initialized C ∈ tw_T) (h : c2 ∈ tw_T) : GoodIn (c1 :: tw_T) (wsV own i C y (c2 :: tw_T)) := fun w hw => by
  have h9 : w ∈ tw_T := by
    simp only [wsV, List.cons_append, List.nil_append, List.mem_cons] at hw
    rcases hw with rfl | rfl | rfl | rfl | rfl | h5 <;> assumption
  exact ⟨List.mem_cons_of_mem _ h9, good_of_word (tw_good h9)⟩
theorem tw_inVL {c2 : Cond} {own C : String} {i : Nat} {y : MethodName} (h1 : Cond.methodLink own i y ∈ tw_T) (h2 : Cond.instanceMethod y ∈ tw_T) (h3 : Cond.selects C y y ∈ tw_T) (h4 : Cond.initialized C ∈ tw_T) (h : c2 ∈ tw_T) : GoodIn lw_tbl (wsV own i C y (c2 :: tw_T)) := fun w hw => ⟨tw_sub ((tw_inV (c1 := c2) h1 h2 h3 h4 h w hw).1 |> fun q => by rcases List.mem_cons.mp q with rfl | h5 <;> assumption), ((tw_inV (c1 := c2) h1 h2 h3 h4 h w hw).2)⟩
theorem tw_priv (k : Nat) (q : MethodName × Nat) (h : lw_privs[k]? = some q) (g : goodWord (Cond.selects q.1.cls q.1 q.1) = true) : Cond.selects q.1.cls q.1 q.1 ∈ tw_T := List.mem_filter.mpr ⟨List.mem_append_left _ (List.mem_map.mpr ⟨q, List.mem_of_getElem? h, rfl⟩), g⟩
abbrev R_SP : String := "GlyphLines$Span"
def F_SP : u_T := fun k => match k with
  | 0 => ("GlyphLines$Span", "cells", "[I", true)
  | 1 => ("GlyphLines$Span", "start", "I", false)
  | 2 => ("GlyphLines$Span", "size", "I", false)
  | _ => ("GlyphLines$Span", "missed", "Z", false)
def t_SP : Nat → FieldType := fun k => match k with
  | 0 => .array .int
  | 1 => .int
  | 2 => .int
  | _ => .boolean
theorem n_SP : ∀ a, a < 4 → ∀ b, b < 4 → a ≠ b → (F_SP a).2.1 ≠ (F_SP b).2.1 := by decide +kernel
theorem t_SP_ok : ∀ k, k < 4 → parseFieldDescriptor (F_SP k).2.2.1 = some (t_SP k) := by decide +kernel
abbrev R_CM : String := "GlyphLines$CharacterMap"
def F_CM : u_T := fun k => match k with
  | 0 => ("GlyphLines$CharacterMap", "cmap", "LGlyphLines$Span;", true)
  | 1 => ("GlyphLines$CharacterMap", "place", "I", false)
  | _ => ("GlyphLines$CharacterMap", "ranges", "I", false)
def t_CM : Nat → FieldType := fun k => match k with
  | 0 => .object "GlyphLines$Span"
  | 1 => .int
  | _ => .int
theorem n_CM : ∀ a, a < 3 → ∀ b, b < 3 → a ≠ b → (F_CM a).2.1 ≠ (F_CM b).2.1 := by decide +kernel
theorem t_CM_ok : ∀ k, k < 3 → parseFieldDescriptor (F_CM k).2.2.1 = some (t_CM k) := by decide +kernel
abbrev R_DI : String := "GlyphLines$Directory"
def F_DI : u_T := fun k => match k with
  | 0 => ("GlyphLines$Directory", "whole", "LGlyphLines$Span;", true)
  | 1 => ("GlyphLines$Directory", "table", "LGlyphLines$Span;", true)
  | _ => ("GlyphLines$Directory", "tables", "I", false)
def t_DI : Nat → FieldType := fun k => match k with
  | 0 => .object "GlyphLines$Span"
  | 1 => .object "GlyphLines$Span"
  | _ => .int
theorem n_DI : ∀ a, a < 3 → ∀ b, b < 3 → a ≠ b → (F_DI a).2.1 ≠ (F_DI b).2.1 := by decide +kernel
theorem t_DI_ok : ∀ k, k < 3 → parseFieldDescriptor (F_DI k).2.2.1 = some (t_DI k) := by decide +kernel
abbrev R_PA : String := "GlyphLines$Pairs"
def F_PA : u_T := fun k => match k with
  | 0 => ("GlyphLines$Pairs", "kern", "LGlyphLines$Span;", true)
  | _ => ("GlyphLines$Pairs", "pairs", "I", false)
def t_PA : Nat → FieldType := fun k => match k with
  | 0 => .object "GlyphLines$Span"
  | _ => .int
theorem n_PA : ∀ a, a < 2 → ∀ b, b < 2 → a ≠ b → (F_PA a).2.1 ≠ (F_PA b).2.1 := by decide +kernel
theorem t_PA_ok : ∀ k, k < 2 → parseFieldDescriptor (F_PA k).2.2.1 = some (t_PA k) := by decide +kernel
abbrev R_FO : String := "GlyphLines$Font"
def F_FO : u_T := fun k => match k with
  | 0 => ("GlyphLines$Font", "cells", "[I", true)
  | 1 => ("GlyphLines$Font", "directory", "LGlyphLines$Directory;", true)
  | 2 => ("GlyphLines$Font", "head", "LGlyphLines$Span;", true)
  | 3 => ("GlyphLines$Font", "maxp", "LGlyphLines$Span;", true)
  | 4 => ("GlyphLines$Font", "hhea", "LGlyphLines$Span;", true)
  | 5 => ("GlyphLines$Font", "hmtx", "LGlyphLines$Span;", true)
  | 6 => ("GlyphLines$Font", "loca", "LGlyphLines$Span;", true)
  | 7 => ("GlyphLines$Font", "glyf", "LGlyphLines$Span;", true)
  | 8 => ("GlyphLines$Font", "map", "LGlyphLines$CharacterMap;", true)
  | 9 => ("GlyphLines$Font", "pairs", "LGlyphLines$Pairs;", true)
  | 10 => ("GlyphLines$Font", "data", "[LGlyphLines$Span;", true)
  | 11 => ("GlyphLines$Font", "em", "I", false)
  | 12 => ("GlyphLines$Font", "glyphs", "I", false)
  | 13 => ("GlyphLines$Font", "widths", "I", false)
  | _ => ("GlyphLines$Font", "isLong", "Z", false)
def t_FO : Nat → FieldType := fun k => match k with
  | 0 => .array .int
  | 1 => .object "GlyphLines$Directory"
  | 2 => .object "GlyphLines$Span"
  | 3 => .object "GlyphLines$Span"
  | 4 => .object "GlyphLines$Span"
  | 5 => .object "GlyphLines$Span"
  | 6 => .object "GlyphLines$Span"
  | 7 => .object "GlyphLines$Span"
  | 8 => .object "GlyphLines$CharacterMap"
  | 9 => .object "GlyphLines$Pairs"
  | 10 => .array (.object "GlyphLines$Span")
  | 11 => .int
  | 12 => .int
  | 13 => .int
  | _ => .boolean
theorem n_FO : ∀ a, a < 15 → ∀ b, b < 15 → a ≠ b → (F_FO a).2.1 ≠ (F_FO b).2.1 := by decide +kernel
theorem t_FO_ok : ∀ k, k < 15 → parseFieldDescriptor (F_FO k).2.2.1 = some (t_FO k) := by decide +kernel
abbrev R_MO : String := "GlyphLines$Move"
def F_MO : u_T := fun k => match k with
  | 0 => ("GlyphLines$Move", "a", "I", false)
  | 1 => ("GlyphLines$Move", "b", "I", false)
  | 2 => ("GlyphLines$Move", "c", "I", false)
  | 3 => ("GlyphLines$Move", "d", "I", false)
  | 4 => ("GlyphLines$Move", "dx", "I", false)
  | _ => ("GlyphLines$Move", "dy", "I", false)
def t_MO : Nat → FieldType := fun k => match k with
  | 0 => .int
  | 1 => .int
  | 2 => .int
  | 3 => .int
  | 4 => .int
  | _ => .int
theorem n_MO : ∀ a, a < 6 → ∀ b, b < 6 → a ≠ b → (F_MO a).2.1 ≠ (F_MO b).2.1 := by decide +kernel
theorem t_MO_ok : ∀ k, k < 6 → parseFieldDescriptor (F_MO k).2.2.1 = some (t_MO k) := by decide +kernel
abbrev R_OU : String := "GlyphLines$Outline"
def F_OU : u_T := fun k => match k with
  | 0 => ("GlyphLines$Outline", "xs", "[I", true)
  | 1 => ("GlyphLines$Outline", "ys", "[I", true)
  | 2 => ("GlyphLines$Outline", "isOn", "[Z", true)
  | 3 => ("GlyphLines$Outline", "contourOf", "[I", true)
  | 4 => ("GlyphLines$Outline", "flags", "[I", true)
  | 5 => ("GlyphLines$Outline", "move", "LGlyphLines$Move;", true)
  | 6 => ("GlyphLines$Outline", "points", "I", false)
  | _ => ("GlyphLines$Outline", "contours", "I", false)
def t_OU : Nat → FieldType := fun k => match k with
  | 0 => .array .int
  | 1 => .array .int
  | 2 => .array .boolean
  | 3 => .array .int
  | 4 => .array .int
  | 5 => .object "GlyphLines$Move"
  | 6 => .int
  | _ => .int
theorem n_OU : ∀ a, a < 8 → ∀ b, b < 8 → a ≠ b → (F_OU a).2.1 ≠ (F_OU b).2.1 := by decide +kernel
theorem t_OU_ok : ∀ k, k < 8 → parseFieldDescriptor (F_OU k).2.2.1 = some (t_OU k) := by decide +kernel
abbrev R_PI : String := "GlyphLines$Picture"
def F_PI : u_T := fun k => match k with
  | 0 => ("GlyphLines$Picture", "rows", "[J", true)
  | _ => ("GlyphLines$Picture", "steps", "[I", true)
def t_PI : Nat → FieldType := fun k => match k with
  | 0 => .array .long
  | _ => .array .int
theorem n_PI : ∀ a, a < 2 → ∀ b, b < 2 → a ≠ b → (F_PI a).2.1 ≠ (F_PI b).2.1 := by decide +kernel
theorem t_PI_ok : ∀ k, k < 2 → parseFieldDescriptor (F_PI k).2.2.1 = some (t_PI k) := by decide +kernel
abbrev R_BR : String := "GlyphLines$Brush"
def F_BR : u_T := fun k => match k with
  | 0 => ("GlyphLines$Brush", "picture", "LGlyphLines$Picture;", true)
  | 1 => ("GlyphLines$Brush", "outline", "LGlyphLines$Outline;", true)
  | 2 => ("GlyphLines$Brush", "ringX", "[I", true)
  | 3 => ("GlyphLines$Brush", "ringY", "[I", true)
  | 4 => ("GlyphLines$Brush", "ringOn", "[Z", true)
  | 5 => ("GlyphLines$Brush", "ringSize", "I", false)
  | 6 => ("GlyphLines$Brush", "em", "I", false)
  | 7 => ("GlyphLines$Brush", "ppem", "I", false)
  | 8 => ("GlyphLines$Brush", "pen", "I", false)
  | _ => ("GlyphLines$Brush", "glyphBefore", "I", false)
def t_BR : Nat → FieldType := fun k => match k with
  | 0 => .object "GlyphLines$Picture"
  | 1 => .object "GlyphLines$Outline"
  | 2 => .array .int
  | 3 => .array .int
  | 4 => .array .boolean
  | 5 => .int
  | 6 => .int
  | 7 => .int
  | 8 => .int
  | _ => .int
theorem n_BR : ∀ a, a < 10 → ∀ b, b < 10 → a ≠ b → (F_BR a).2.1 ≠ (F_BR b).2.1 := by decide +kernel
theorem t_BR_ok : ∀ k, k < 10 → parseFieldDescriptor (F_BR k).2.2.1 = some (t_BR k) := by decide +kernel
abbrev R_GL : String := "GlyphLines"
def F_GL : u_T := fun k => match k with
  | 0 => ("GlyphLines", "file", "[I", true)
  | 1 => ("GlyphLines", "fileSize", "I", false)
  | 2 => ("GlyphLines", "font", "LGlyphLines$Font;", false)
  | 3 => ("GlyphLines", "spare", "LGlyphLines$Font;", false)
  | 4 => ("GlyphLines", "hasFont", "Z", false)
  | 5 => ("GlyphLines", "outline", "LGlyphLines$Outline;", true)
  | 6 => ("GlyphLines", "picture", "LGlyphLines$Picture;", true)
  | 7 => ("GlyphLines", "brush", "LGlyphLines$Brush;", true)
  | 8 => ("GlyphLines", "text", "[I", true)
  | _ => ("GlyphLines", "textSize", "I", false)
def t_GL : Nat → FieldType := fun k => match k with
  | 0 => .array .int
  | 1 => .int
  | 2 => .object "GlyphLines$Font"
  | 3 => .object "GlyphLines$Font"
  | 4 => .boolean
  | 5 => .object "GlyphLines$Outline"
  | 6 => .object "GlyphLines$Picture"
  | 7 => .object "GlyphLines$Brush"
  | 8 => .array .int
  | _ => .int
theorem n_GL : ∀ a, a < 10 → ∀ b, b < 10 → a ≠ b → (F_GL a).2.1 ≠ (F_GL b).2.1 := by decide +kernel
theorem t_GL_ok : ∀ k, k < 10 → parseFieldDescriptor (F_GL k).2.2.1 = some (t_GL k) := by decide +kernel
abbrev R_MD : String := "GlyphLinesModel"
def F_MD : u_T := fun k => match k with
  | 0 => ("GlyphLinesModel", "fault", "I", false)
  | 1 => ("GlyphLinesModel", "size", "I", false)
  | 2 => ("GlyphLinesModel", "file", "[I", true)
  | 3 => ("GlyphLinesModel", "side", "I", false)
  | 4 => ("GlyphLinesModel", "isFont", "Z", false)
  | 5 => ("GlyphLinesModel", "bytes", "[I", true)
  | 6 => ("GlyphLinesModel", "places", "[I", true)
  | 7 => ("GlyphLinesModel", "lengths", "[I", true)
  | 8 => ("GlyphLinesModel", "glyphCount", "[I", true)
  | 9 => ("GlyphLinesModel", "ems", "[I", true)
  | 10 => ("GlyphLinesModel", "wides", "[I", true)
  | 11 => ("GlyphLinesModel", "forms", "[I", true)
  | 12 => ("GlyphLinesModel", "parts", "[I", true)
  | 13 => ("GlyphLinesModel", "charts", "[I", true)
  | 14 => ("GlyphLinesModel", "pointCount", "[I", true)
  | 15 => ("GlyphLinesModel", "contourCount", "[I", true)
  | 16 => ("GlyphLinesModel", "depths", "[I", true)
  | 17 => ("GlyphLinesModel", "xs", "[I", true)
  | 18 => ("GlyphLinesModel", "ys", "[I", true)
  | 19 => ("GlyphLinesModel", "ons", "[I", true)
  | 20 => ("GlyphLinesModel", "contours", "[I", true)
  | 21 => ("GlyphLinesModel", "bad", "Z", false)
  | 22 => ("GlyphLinesModel", "at", "I", false)
  | 23 => ("GlyphLinesModel", "end", "I", false)
  | 24 => ("GlyphLinesModel", "flags", "[I", true)
  | 25 => ("GlyphLinesModel", "part", "[I", true)
  | 26 => ("GlyphLinesModel", "typed", "I", false)
  | 27 => ("GlyphLinesModel", "text", "[I", true)
  | 28 => ("GlyphLinesModel", "ring", "I", false)
  | 29 => ("GlyphLinesModel", "ringX", "[I", true)
  | 30 => ("GlyphLinesModel", "ringY", "[I", true)
  | 31 => ("GlyphLinesModel", "ringOn", "[Z", true)
  | 32 => ("GlyphLinesModel", "waiting", "I", false)
  | 33 => ("GlyphLinesModel", "curves", "[I", true)
  | 34 => ("GlyphLinesModel", "windings", "[I", true)
  | _ => ("GlyphLinesModel", "rows", "[J", true)
def t_MD : Nat → FieldType := fun k => match k with
  | 0 => .int
  | 1 => .int
  | 2 => .array .int
  | 3 => .int
  | 4 => .boolean
  | 5 => .array .int
  | 6 => .array .int
  | 7 => .array .int
  | 8 => .array .int
  | 9 => .array .int
  | 10 => .array .int
  | 11 => .array .int
  | 12 => .array .int
  | 13 => .array .int
  | 14 => .array .int
  | 15 => .array .int
  | 16 => .array .int
  | 17 => .array .int
  | 18 => .array .int
  | 19 => .array .int
  | 20 => .array .int
  | 21 => .boolean
  | 22 => .int
  | 23 => .int
  | 24 => .array .int
  | 25 => .array .int
  | 26 => .int
  | 27 => .array .int
  | 28 => .int
  | 29 => .array .int
  | 30 => .array .int
  | 31 => .array .boolean
  | 32 => .int
  | 33 => .array .int
  | 34 => .array .int
  | _ => .array .long
theorem n_MD : ∀ a, a < 36 → ∀ b, b < 36 → a ≠ b → (F_MD a).2.1 ≠ (F_MD b).2.1 := by decide +kernel
theorem t_MD_ok : ∀ k, k < 36 → parseFieldDescriptor (F_MD k).2.2.1 = some (t_MD k) := by decide +kernel
abbrev R_LW : String := "GlyphLinesLaw"
abbrev cls_ : List vw_C := [(R_SP, F_SP, 4), (R_CM, F_CM, 3), (R_DI, F_DI, 3), (R_PA, F_PA, 2), (R_FO, F_FO, 15), (R_MO, F_MO, 6), (R_OU, F_OU, 8), (R_PI, F_PI, 2), (R_BR, F_BR, 10), (R_GL, F_GL, 10), (R_MD, F_MD, 36)]
abbrev b_SP_init : ByteArray := prog_10_method_1_code
def y_SP_init : MethodName := ⟨R_SP, "<init>", "([I)V"⟩
def s_SP_init : List Cond := .code y_SP_init b_SP_init 2 none :: tw_T
abbrev b_CM_init : ByteArray := prog_3_method_1_code
def y_CM_init : MethodName := ⟨R_CM, "<init>", "([I)V"⟩
def s_CM_init : List Cond := .code y_CM_init b_CM_init 2 none :: tw_T
abbrev b_PA_init : ByteArray := prog_8_method_1_code
def y_PA_init : MethodName := ⟨R_PA, "<init>", "([I)V"⟩
def s_PA_init : List Cond := .code y_PA_init b_PA_init 2 none :: tw_T
abbrev b_DI_init : ByteArray := prog_4_method_1_code
def y_DI_init : MethodName := ⟨R_DI, "<init>", "([I)V"⟩
def s_DI_init : List Cond := .code y_DI_init b_DI_init 2 none :: tw_T
abbrev b_FO_init : ByteArray := prog_5_method_1_code
def y_FO_init : MethodName := ⟨R_FO, "<init>", "()V"⟩
def s_FO_init : List Cond := .code y_FO_init b_FO_init 1 none :: tw_T
abbrev b_MO_init : ByteArray := prog_6_method_1_code
def y_MO_init : MethodName := ⟨R_MO, "<init>", "()V"⟩
def s_MO_init : List Cond := .code y_MO_init b_MO_init 1 none :: tw_T
abbrev b_OU_init : ByteArray := prog_7_method_1_code
def y_OU_init : MethodName := ⟨R_OU, "<init>", "()V"⟩
def s_OU_init : List Cond := .code y_OU_init b_OU_init 1 none :: tw_T
abbrev b_PI_init : ByteArray := prog_9_method_1_code
def y_PI_init : MethodName := ⟨R_PI, "<init>", "()V"⟩
def s_PI_init : List Cond := .code y_PI_init b_PI_init 1 none :: tw_T
abbrev b_BR_init : ByteArray := prog_2_method_1_code
def y_BR_init : MethodName := ⟨R_BR, "<init>", "(LGlyphLines$Picture;LGlyphLines$Outline;)V"⟩
def s_BR_init : List Cond := .code y_BR_init b_BR_init 3 none :: tw_T
abbrev b_GL_init : ByteArray := prog_1_method_1_code
def y_GL_init : MethodName := ⟨R_GL, "<init>", "()V"⟩
def s_GL_init : List Cond := .code y_GL_init b_GL_init 1 none :: tw_T
abbrev b_MD_init : ByteArray := prog_12_method_1_code
def y_MD_init : MethodName := ⟨R_MD, "<init>", "()V"⟩
def s_MD_init : List Cond := .code y_MD_init b_MD_init 1 none :: tw_T
abbrev b_GL_requireFont : ByteArray := prog_1_method_15_code
def y_GL_requireFont : MethodName := ⟨R_GL, "requireFont", "()V"⟩
def s_GL_requireFont : List Cond := .code y_GL_requireFont b_GL_requireFont 1 none :: tw_T
abbrev b_GL_glyph : ByteArray := prog_1_method_7_code
def y_GL_glyph : MethodName := ⟨R_GL, "glyph", "(I)I"⟩
def s_GL_glyph : List Cond := .code y_GL_glyph b_GL_glyph 2 (some .int) :: tw_T
abbrev b_GL_measure : ByteArray := prog_1_method_8_code
def y_GL_measure : MethodName := ⟨R_GL, "measure", "(II)I"⟩
def s_GL_measure : List Cond := .code y_GL_measure b_GL_measure 3 (some .int) :: tw_T
abbrev b_GL_point : ByteArray := prog_1_method_9_code
def y_GL_point : MethodName := ⟨R_GL, "point", "(III)I"⟩
def s_GL_point : List Cond := .code y_GL_point b_GL_point 4 (some .int) :: tw_T
abbrev b_GL_kerning : ByteArray := prog_1_method_10_code
def y_GL_kerning : MethodName := ⟨R_GL, "kerning", "(II)I"⟩
def s_GL_kerning : List Cond := .code y_GL_kerning b_GL_kerning 3 (some .int) :: tw_T
abbrev b_GL_paint : ByteArray := prog_1_method_13_code
def y_GL_paint : MethodName := ⟨R_GL, "paint", "(I)I"⟩
def s_GL_paint : List Cond := .code y_GL_paint b_GL_paint 3 (some .int) :: tw_T
abbrev b_GL_put : ByteArray := prog_1_method_3_code
def y_GL_put : MethodName := ⟨R_GL, "put", "(II)I"⟩
def s_GL_put : List Cond := .code y_GL_put b_GL_put 4 (some .int) :: tw_T
abbrev b_GL_cut : ByteArray := prog_1_method_5_code
def y_GL_cut : MethodName := ⟨R_GL, "cut", "(I)I"⟩
def s_GL_cut : List Cond := .code y_GL_cut b_GL_cut 4 (some .int) :: tw_T
abbrev b_GL_row : ByteArray := prog_1_method_14_code
def y_GL_row : MethodName := ⟨R_GL, "row", "(I)J"⟩
def s_GL_row : List Cond := .code y_GL_row b_GL_row 2 (some .long) :: tw_T
abbrev b_GL_feed : ByteArray := prog_1_method_2_code
def y_GL_feed : MethodName := ⟨R_GL, "feed", "(I)I"⟩
def s_GL_feed : List Cond := .code y_GL_feed b_GL_feed 3 (some .int) :: tw_T
abbrev b_GL_at : ByteArray := prog_1_method_4_code
def y_GL_at : MethodName := ⟨R_GL, "at", "(I)I"⟩
def s_GL_at : List Cond := .code y_GL_at b_GL_at 2 (some .int) :: tw_T
abbrev b_GL_wipe : ByteArray := prog_1_method_12_code
def y_GL_wipe : MethodName := ⟨R_GL, "wipe", "()I"⟩
def s_GL_wipe : List Cond := .code y_GL_wipe b_GL_wipe 2 (some .int) :: tw_T
abbrev b_GL_isCharacter : ByteArray := prog_1_method_17_code
def y_GL_isCharacter : MethodName := ⟨R_GL, "isCharacter", "(I)Z"⟩
def s_GL_isCharacter : List Cond := .code y_GL_isCharacter b_GL_isCharacter 1 (some .boolean) :: tw_T
abbrev b_GL_type : ByteArray := prog_1_method_11_code
def y_GL_type : MethodName := ⟨R_GL, "type", "(I)Z"⟩
def s_GL_type : List Cond := .code y_GL_type b_GL_type 2 (some .boolean) :: tw_T
abbrev b_SP_lay : ByteArray := prog_10_method_2_code
def y_SP_lay : MethodName := ⟨R_SP, "lay", "(II)V"⟩
def s_SP_lay : List Cond := .code y_SP_lay b_SP_lay 3 none :: tw_T
abbrev b_SP_u16 : ByteArray := prog_10_method_5_code
def y_SP_u16 : MethodName := ⟨R_SP, "u16", "(I)I"⟩
def s_SP_u16 : List Cond := .code y_SP_u16 b_SP_u16 2 (some .int) :: tw_T
abbrev b_SP_u32 : ByteArray := prog_10_method_6_code
def y_SP_u32 : MethodName := ⟨R_SP, "u32", "(I)J"⟩
def s_SP_u32 : List Cond := .code y_SP_u32 b_SP_u32 6 (some .long) :: tw_T
abbrev b_DI_isRight : ByteArray := prog_4_method_2_code
def y_DI_isRight : MethodName := ⟨R_DI, "isRight", "(I)Z"⟩
def s_DI_isRight : List Cond := .code y_DI_isRight b_DI_isRight 7 (some .boolean) :: tw_T
abbrev b_FO_loadFrom : ByteArray := prog_5_method_2_code
def y_FO_loadFrom : MethodName := ⟨R_FO, "loadFrom", "([IIZLGlyphLines$Outline;)I"⟩
def s_FO_loadFrom : List Cond := .code y_FO_loadFrom b_FO_loadFrom 6 (some .int) :: tw_T
abbrev b_GL_load : ByteArray := prog_1_method_6_code
def y_GL_load : MethodName := ⟨R_GL, "load", "(Z)I"⟩
def s_GL_load : List Cond := .code y_GL_load b_GL_load 4 (some .int) :: tw_T
theorem w_1 : (Jvm.Cond.initialized "GlyphLines") ∈ tw_T := tw_of 1 (by decide +kernel) (by decide +kernel)
theorem w_2 : (Jvm.Cond.initialized "GlyphLines$Font") ∈ tw_T := tw_of 2 (by decide +kernel) (by decide +kernel)
theorem w_3 : (Jvm.Cond.initialized "GlyphLines$Directory") ∈ tw_T := tw_of 3 (by decide +kernel) (by decide +kernel)
theorem w_4 : (Jvm.Cond.initialized "GlyphLines$Span") ∈ tw_T := tw_of 4 (by decide +kernel) (by decide +kernel)
theorem w_5 : (Jvm.Cond.initialized "GlyphLines$CharacterMap") ∈ tw_T := tw_of 5 (by decide +kernel) (by decide +kernel)
theorem w_6 : (Jvm.Cond.initialized "GlyphLines$Pairs") ∈ tw_T := tw_of 6 (by decide +kernel) (by decide +kernel)
theorem w_7 : (Jvm.Cond.initialized "GlyphLines$Outline") ∈ tw_T := tw_of 7 (by decide +kernel) (by decide +kernel)
theorem w_8 : (Jvm.Cond.initialized "GlyphLines$Move") ∈ tw_T := tw_of 8 (by decide +kernel) (by decide +kernel)
theorem w_9 : (Jvm.Cond.initialized "GlyphLines$Picture") ∈ tw_T := tw_of 9 (by decide +kernel) (by decide +kernel)
theorem w_10 : (Jvm.Cond.initialized "GlyphLines$Brush") ∈ tw_T := tw_of 10 (by decide +kernel) (by decide +kernel)
theorem w_15 : (Jvm.Cond.initialized "java/lang/IndexOutOfBoundsException") ∈ tw_T := tw_of 15 (by decide +kernel) (by decide +kernel)
theorem w_16 : (Jvm.Cond.initialized "java/lang/IllegalArgumentException") ∈ tw_T := tw_of 16 (by decide +kernel) (by decide +kernel)
theorem w_17 : (Jvm.Cond.initialized "java/lang/Math") ∈ tw_T := tw_of 17 (by decide +kernel) (by decide +kernel)
theorem w_18 : (Jvm.Cond.initialized "java/lang/System") ∈ tw_T := tw_of 18 (by decide +kernel) (by decide +kernel)
theorem w_20 : (Jvm.Cond.initialized "java/lang/IllegalStateException") ∈ tw_T := tw_of 20 (by decide +kernel) (by decide +kernel)
theorem w_26 : (Jvm.Cond.code ({ cls := "GlyphLines", name := "<init>", desc := "()V" } : Jvm.MethodName) prog_1_method_1_code (1 : Nat) (Option.none : Option Jvm.ClassFile.FieldType)) ∈ tw_T := tw_of 26 (by decide +kernel) (by decide +kernel)
theorem w_27 : (Jvm.Cond.methodLink "GlyphLines" (1 : Nat) ({ cls := "java/lang/Object", name := "<init>", desc := "()V" } : Jvm.MethodName)) ∈ tw_T := tw_of 27 (by decide +kernel) (by decide +kernel)
theorem w_28 : (Jvm.Cond.instanceMethod ({ cls := "java/lang/Object", name := "<init>", desc := "()V" } : Jvm.MethodName)) ∈ tw_T := tw_of 28 (by decide +kernel) (by decide +kernel)
theorem w_29 : (Jvm.Cond.code ({ cls := "java/lang/Object", name := "<init>", desc := "()V" } : Jvm.MethodName) object_method_1_code (1 : Nat) (Option.none : Option Jvm.ClassFile.FieldType)) ∈ tw_T := tw_of 29 (by decide +kernel) (by decide +kernel)
theorem w_30 : (Jvm.Cond.classLink "GlyphLines" (17 : Nat) "GlyphLines$Font") ∈ tw_T := tw_of 30 (by decide +kernel) (by decide +kernel)
theorem w_31 : (Jvm.Cond.instantiable "GlyphLines$Font" (15 : Nat)) ∈ tw_T := tw_of 31 (by decide +kernel) (by decide +kernel)
theorem w_32 : (Jvm.Cond.methodLink "GlyphLines" (19 : Nat) ({ cls := "GlyphLines$Font", name := "<init>", desc := "()V" } : Jvm.MethodName)) ∈ tw_T := tw_of 32 (by decide +kernel) (by decide +kernel)
theorem w_33 : (Jvm.Cond.instanceMethod ({ cls := "GlyphLines$Font", name := "<init>", desc := "()V" } : Jvm.MethodName)) ∈ tw_T := tw_of 33 (by decide +kernel) (by decide +kernel)
theorem w_34 : (Jvm.Cond.code ({ cls := "GlyphLines$Font", name := "<init>", desc := "()V" } : Jvm.MethodName) prog_5_method_1_code (1 : Nat) (Option.none : Option Jvm.ClassFile.FieldType)) ∈ tw_T := tw_of 34 (by decide +kernel) (by decide +kernel)
theorem w_35 : (Jvm.Cond.methodLink "GlyphLines$Font" (3 : Nat) ({ cls := "java/lang/Object", name := "<init>", desc := "()V" } : Jvm.MethodName)) ∈ tw_T := tw_of 35 (by decide +kernel) (by decide +kernel)
theorem w_36 : (Jvm.Cond.classLink "GlyphLines$Font" (15 : Nat) "GlyphLines$Directory") ∈ tw_T := tw_of 36 (by decide +kernel) (by decide +kernel)
theorem w_37 : (Jvm.Cond.instantiable "GlyphLines$Directory" (3 : Nat)) ∈ tw_T := tw_of 37 (by decide +kernel) (by decide +kernel)
theorem w_38 : (Jvm.Cond.methodLink "GlyphLines$Font" (17 : Nat) ({ cls := "GlyphLines$Directory", name := "<init>", desc := "([I)V" } : Jvm.MethodName)) ∈ tw_T := tw_of 38 (by decide +kernel) (by decide +kernel)
theorem w_39 : (Jvm.Cond.instanceMethod ({ cls := "GlyphLines$Directory", name := "<init>", desc := "([I)V" } : Jvm.MethodName)) ∈ tw_T := tw_of 39 (by decide +kernel) (by decide +kernel)
theorem w_40 : (Jvm.Cond.code ({ cls := "GlyphLines$Directory", name := "<init>", desc := "([I)V" } : Jvm.MethodName) prog_4_method_1_code (2 : Nat) (Option.none : Option Jvm.ClassFile.FieldType)) ∈ tw_T := tw_of 40 (by decide +kernel) (by decide +kernel)
theorem w_41 : (Jvm.Cond.methodLink "GlyphLines$Directory" (1 : Nat) ({ cls := "java/lang/Object", name := "<init>", desc := "()V" } : Jvm.MethodName)) ∈ tw_T := tw_of 41 (by decide +kernel) (by decide +kernel)
theorem w_42 : (Jvm.Cond.classLink "GlyphLines$Directory" (13 : Nat) "GlyphLines$Span") ∈ tw_T := tw_of 42 (by decide +kernel) (by decide +kernel)
theorem w_43 : (Jvm.Cond.instantiable "GlyphLines$Span" (4 : Nat)) ∈ tw_T := tw_of 43 (by decide +kernel) (by decide +kernel)
theorem w_44 : (Jvm.Cond.methodLink "GlyphLines$Directory" (15 : Nat) ({ cls := "GlyphLines$Span", name := "<init>", desc := "([I)V" } : Jvm.MethodName)) ∈ tw_T := tw_of 44 (by decide +kernel) (by decide +kernel)
theorem w_45 : (Jvm.Cond.instanceMethod ({ cls := "GlyphLines$Span", name := "<init>", desc := "([I)V" } : Jvm.MethodName)) ∈ tw_T := tw_of 45 (by decide +kernel) (by decide +kernel)
theorem w_46 : (Jvm.Cond.code ({ cls := "GlyphLines$Span", name := "<init>", desc := "([I)V" } : Jvm.MethodName) prog_10_method_1_code (2 : Nat) (Option.none : Option Jvm.ClassFile.FieldType)) ∈ tw_T := tw_of 46 (by decide +kernel) (by decide +kernel)
theorem w_47 : (Jvm.Cond.methodLink "GlyphLines$Span" (1 : Nat) ({ cls := "java/lang/Object", name := "<init>", desc := "()V" } : Jvm.MethodName)) ∈ tw_T := tw_of 47 (by decide +kernel) (by decide +kernel)
theorem w_48 : (Jvm.Cond.fieldLink "GlyphLines$Span" (20 : Nat) "GlyphLines$Span" "cells" "[I") ∈ tw_T := tw_of 48 (by decide +kernel) (by decide +kernel)
theorem w_49 : (Jvm.Cond.fieldLink "GlyphLines$Span" (7 : Nat) "GlyphLines$Span" "start" "I") ∈ tw_T := tw_of 49 (by decide +kernel) (by decide +kernel)
theorem w_51 : (Jvm.Cond.fieldLink "GlyphLines$Span" (13 : Nat) "GlyphLines$Span" "size" "I") ∈ tw_T := tw_of 51 (by decide +kernel) (by decide +kernel)
theorem w_55 : (Jvm.Cond.fieldLink "GlyphLines$Span" (16 : Nat) "GlyphLines$Span" "missed" "Z") ∈ tw_T := tw_of 55 (by decide +kernel) (by decide +kernel)
theorem w_59 : (Jvm.Cond.laysFinal "GlyphLines$Span" "GlyphLines$Span" "cells" "[I") ∈ tw_T := tw_of 59 (by decide +kernel) (by decide +kernel)
theorem w_61 : (Jvm.Cond.lays "GlyphLines$Span" "GlyphLines$Span" "start" "I") ∈ tw_T := tw_of 61 (by decide +kernel) (by decide +kernel)
theorem w_63 : (Jvm.Cond.lays "GlyphLines$Span" "GlyphLines$Span" "size" "I") ∈ tw_T := tw_of 63 (by decide +kernel) (by decide +kernel)
theorem w_65 : (Jvm.Cond.lays "GlyphLines$Span" "GlyphLines$Span" "missed" "Z") ∈ tw_T := tw_of 65 (by decide +kernel) (by decide +kernel)
theorem w_68 : (Jvm.Cond.arrayClass Jvm.ClassFile.FieldType.int) ∈ tw_T := tw_of 68 (by decide +kernel) (by decide +kernel)
theorem w_69 : (Jvm.Cond.fieldLink "GlyphLines$Directory" (18 : Nat) "GlyphLines$Directory" "whole" "LGlyphLines$Span;") ∈ tw_T := tw_of 69 (by decide +kernel) (by decide +kernel)
theorem w_70 : (Jvm.Cond.fieldLink "GlyphLines$Directory" (22 : Nat) "GlyphLines$Directory" "table" "LGlyphLines$Span;") ∈ tw_T := tw_of 70 (by decide +kernel) (by decide +kernel)
theorem w_71 : (Jvm.Cond.fieldLink "GlyphLines$Directory" (7 : Nat) "GlyphLines$Directory" "tables" "I") ∈ tw_T := tw_of 71 (by decide +kernel) (by decide +kernel)
theorem w_72 : (Jvm.Cond.laysFinal "GlyphLines$Directory" "GlyphLines$Directory" "whole" "LGlyphLines$Span;") ∈ tw_T := tw_of 72 (by decide +kernel) (by decide +kernel)
theorem w_74 : (Jvm.Cond.laysFinal "GlyphLines$Directory" "GlyphLines$Directory" "table" "LGlyphLines$Span;") ∈ tw_T := tw_of 74 (by decide +kernel) (by decide +kernel)
theorem w_76 : (Jvm.Cond.lays "GlyphLines$Directory" "GlyphLines$Directory" "tables" "I") ∈ tw_T := tw_of 76 (by decide +kernel) (by decide +kernel)
theorem w_79 : (Jvm.Cond.classLink "GlyphLines$Font" (24 : Nat) "GlyphLines$Span") ∈ tw_T := tw_of 79 (by decide +kernel) (by decide +kernel)
theorem w_80 : (Jvm.Cond.methodLink "GlyphLines$Font" (26 : Nat) ({ cls := "GlyphLines$Span", name := "<init>", desc := "([I)V" } : Jvm.MethodName)) ∈ tw_T := tw_of 80 (by decide +kernel) (by decide +kernel)
theorem w_81 : (Jvm.Cond.classLink "GlyphLines$Font" (46 : Nat) "GlyphLines$CharacterMap") ∈ tw_T := tw_of 81 (by decide +kernel) (by decide +kernel)
theorem w_82 : (Jvm.Cond.instantiable "GlyphLines$CharacterMap" (3 : Nat)) ∈ tw_T := tw_of 82 (by decide +kernel) (by decide +kernel)
theorem w_83 : (Jvm.Cond.methodLink "GlyphLines$Font" (48 : Nat) ({ cls := "GlyphLines$CharacterMap", name := "<init>", desc := "([I)V" } : Jvm.MethodName)) ∈ tw_T := tw_of 83 (by decide +kernel) (by decide +kernel)
theorem w_84 : (Jvm.Cond.instanceMethod ({ cls := "GlyphLines$CharacterMap", name := "<init>", desc := "([I)V" } : Jvm.MethodName)) ∈ tw_T := tw_of 84 (by decide +kernel) (by decide +kernel)
theorem w_85 : (Jvm.Cond.code ({ cls := "GlyphLines$CharacterMap", name := "<init>", desc := "([I)V" } : Jvm.MethodName) prog_3_method_1_code (2 : Nat) (Option.none : Option Jvm.ClassFile.FieldType)) ∈ tw_T := tw_of 85 (by decide +kernel) (by decide +kernel)
theorem w_86 : (Jvm.Cond.methodLink "GlyphLines$CharacterMap" (3 : Nat) ({ cls := "java/lang/Object", name := "<init>", desc := "()V" } : Jvm.MethodName)) ∈ tw_T := tw_of 86 (by decide +kernel) (by decide +kernel)
theorem w_87 : (Jvm.Cond.classLink "GlyphLines$CharacterMap" (18 : Nat) "GlyphLines$Span") ∈ tw_T := tw_of 87 (by decide +kernel) (by decide +kernel)
theorem w_88 : (Jvm.Cond.methodLink "GlyphLines$CharacterMap" (20 : Nat) ({ cls := "GlyphLines$Span", name := "<init>", desc := "([I)V" } : Jvm.MethodName)) ∈ tw_T := tw_of 88 (by decide +kernel) (by decide +kernel)
theorem w_89 : (Jvm.Cond.fieldLink "GlyphLines$CharacterMap" (23 : Nat) "GlyphLines$CharacterMap" "cmap" "LGlyphLines$Span;") ∈ tw_T := tw_of 89 (by decide +kernel) (by decide +kernel)
theorem w_91 : (Jvm.Cond.fieldLink "GlyphLines$CharacterMap" (9 : Nat) "GlyphLines$CharacterMap" "place" "I") ∈ tw_T := tw_of 91 (by decide +kernel) (by decide +kernel)
theorem w_92 : (Jvm.Cond.fieldLink "GlyphLines$CharacterMap" (15 : Nat) "GlyphLines$CharacterMap" "ranges" "I") ∈ tw_T := tw_of 92 (by decide +kernel) (by decide +kernel)
theorem w_93 : (Jvm.Cond.laysFinal "GlyphLines$CharacterMap" "GlyphLines$CharacterMap" "cmap" "LGlyphLines$Span;") ∈ tw_T := tw_of 93 (by decide +kernel) (by decide +kernel)
theorem w_95 : (Jvm.Cond.lays "GlyphLines$CharacterMap" "GlyphLines$CharacterMap" "place" "I") ∈ tw_T := tw_of 95 (by decide +kernel) (by decide +kernel)
theorem w_97 : (Jvm.Cond.lays "GlyphLines$CharacterMap" "GlyphLines$CharacterMap" "ranges" "I") ∈ tw_T := tw_of 97 (by decide +kernel) (by decide +kernel)
theorem w_100 : (Jvm.Cond.classLink "GlyphLines$Font" (53 : Nat) "GlyphLines$Pairs") ∈ tw_T := tw_of 100 (by decide +kernel) (by decide +kernel)
theorem w_101 : (Jvm.Cond.instantiable "GlyphLines$Pairs" (2 : Nat)) ∈ tw_T := tw_of 101 (by decide +kernel) (by decide +kernel)
theorem w_102 : (Jvm.Cond.methodLink "GlyphLines$Font" (55 : Nat) ({ cls := "GlyphLines$Pairs", name := "<init>", desc := "([I)V" } : Jvm.MethodName)) ∈ tw_T := tw_of 102 (by decide +kernel) (by decide +kernel)
theorem w_103 : (Jvm.Cond.instanceMethod ({ cls := "GlyphLines$Pairs", name := "<init>", desc := "([I)V" } : Jvm.MethodName)) ∈ tw_T := tw_of 103 (by decide +kernel) (by decide +kernel)
theorem w_104 : (Jvm.Cond.code ({ cls := "GlyphLines$Pairs", name := "<init>", desc := "([I)V" } : Jvm.MethodName) prog_8_method_1_code (2 : Nat) (Option.none : Option Jvm.ClassFile.FieldType)) ∈ tw_T := tw_of 104 (by decide +kernel) (by decide +kernel)
theorem w_105 : (Jvm.Cond.methodLink "GlyphLines$Pairs" (1 : Nat) ({ cls := "java/lang/Object", name := "<init>", desc := "()V" } : Jvm.MethodName)) ∈ tw_T := tw_of 105 (by decide +kernel) (by decide +kernel)
theorem w_106 : (Jvm.Cond.classLink "GlyphLines$Pairs" (13 : Nat) "GlyphLines$Span") ∈ tw_T := tw_of 106 (by decide +kernel) (by decide +kernel)
theorem w_107 : (Jvm.Cond.methodLink "GlyphLines$Pairs" (15 : Nat) ({ cls := "GlyphLines$Span", name := "<init>", desc := "([I)V" } : Jvm.MethodName)) ∈ tw_T := tw_of 107 (by decide +kernel) (by decide +kernel)
theorem w_108 : (Jvm.Cond.fieldLink "GlyphLines$Pairs" (18 : Nat) "GlyphLines$Pairs" "kern" "LGlyphLines$Span;") ∈ tw_T := tw_of 108 (by decide +kernel) (by decide +kernel)
theorem w_110 : (Jvm.Cond.fieldLink "GlyphLines$Pairs" (7 : Nat) "GlyphLines$Pairs" "pairs" "I") ∈ tw_T := tw_of 110 (by decide +kernel) (by decide +kernel)
theorem w_111 : (Jvm.Cond.laysFinal "GlyphLines$Pairs" "GlyphLines$Pairs" "kern" "LGlyphLines$Span;") ∈ tw_T := tw_of 111 (by decide +kernel) (by decide +kernel)
theorem w_113 : (Jvm.Cond.lays "GlyphLines$Pairs" "GlyphLines$Pairs" "pairs" "I") ∈ tw_T := tw_of 113 (by decide +kernel) (by decide +kernel)
theorem w_117 : (Jvm.Cond.fieldLink "GlyphLines$Font" (9 : Nat) "GlyphLines$Font" "cells" "[I") ∈ tw_T := tw_of 117 (by decide +kernel) (by decide +kernel)
theorem w_118 : (Jvm.Cond.fieldLink "GlyphLines$Font" (20 : Nat) "GlyphLines$Font" "directory" "LGlyphLines$Directory;") ∈ tw_T := tw_of 118 (by decide +kernel) (by decide +kernel)
theorem w_119 : (Jvm.Cond.fieldLink "GlyphLines$Font" (27 : Nat) "GlyphLines$Font" "head" "LGlyphLines$Span;") ∈ tw_T := tw_of 119 (by decide +kernel) (by decide +kernel)
theorem w_120 : (Jvm.Cond.fieldLink "GlyphLines$Font" (31 : Nat) "GlyphLines$Font" "maxp" "LGlyphLines$Span;") ∈ tw_T := tw_of 120 (by decide +kernel) (by decide +kernel)
theorem w_121 : (Jvm.Cond.fieldLink "GlyphLines$Font" (34 : Nat) "GlyphLines$Font" "hhea" "LGlyphLines$Span;") ∈ tw_T := tw_of 121 (by decide +kernel) (by decide +kernel)
theorem w_122 : (Jvm.Cond.fieldLink "GlyphLines$Font" (37 : Nat) "GlyphLines$Font" "hmtx" "LGlyphLines$Span;") ∈ tw_T := tw_of 122 (by decide +kernel) (by decide +kernel)
theorem w_123 : (Jvm.Cond.fieldLink "GlyphLines$Font" (40 : Nat) "GlyphLines$Font" "loca" "LGlyphLines$Span;") ∈ tw_T := tw_of 123 (by decide +kernel) (by decide +kernel)
theorem w_124 : (Jvm.Cond.fieldLink "GlyphLines$Font" (43 : Nat) "GlyphLines$Font" "glyf" "LGlyphLines$Span;") ∈ tw_T := tw_of 124 (by decide +kernel) (by decide +kernel)
theorem w_125 : (Jvm.Cond.fieldLink "GlyphLines$Font" (49 : Nat) "GlyphLines$Font" "map" "LGlyphLines$CharacterMap;") ∈ tw_T := tw_of 125 (by decide +kernel) (by decide +kernel)
theorem w_126 : (Jvm.Cond.fieldLink "GlyphLines$Font" (56 : Nat) "GlyphLines$Font" "pairs" "LGlyphLines$Pairs;") ∈ tw_T := tw_of 126 (by decide +kernel) (by decide +kernel)
theorem w_127 : (Jvm.Cond.fieldLink "GlyphLines$Font" (60 : Nat) "GlyphLines$Font" "data" "[LGlyphLines$Span;") ∈ tw_T := tw_of 127 (by decide +kernel) (by decide +kernel)
theorem w_128 : (Jvm.Cond.fieldLink "GlyphLines$Font" (64 : Nat) "GlyphLines$Font" "em" "I") ∈ tw_T := tw_of 128 (by decide +kernel) (by decide +kernel)
theorem w_130 : (Jvm.Cond.fieldLink "GlyphLines$Font" (68 : Nat) "GlyphLines$Font" "glyphs" "I") ∈ tw_T := tw_of 130 (by decide +kernel) (by decide +kernel)
theorem w_133 : (Jvm.Cond.fieldLink "GlyphLines$Font" (71 : Nat) "GlyphLines$Font" "widths" "I") ∈ tw_T := tw_of 133 (by decide +kernel) (by decide +kernel)
theorem w_134 : (Jvm.Cond.fieldLink "GlyphLines$Font" (74 : Nat) "GlyphLines$Font" "isLong" "Z") ∈ tw_T := tw_of 134 (by decide +kernel) (by decide +kernel)
theorem w_135 : (Jvm.Cond.laysFinal "GlyphLines$Font" "GlyphLines$Font" "cells" "[I") ∈ tw_T := tw_of 135 (by decide +kernel) (by decide +kernel)
theorem w_137 : (Jvm.Cond.laysFinal "GlyphLines$Font" "GlyphLines$Font" "directory" "LGlyphLines$Directory;") ∈ tw_T := tw_of 137 (by decide +kernel) (by decide +kernel)
theorem w_139 : (Jvm.Cond.laysFinal "GlyphLines$Font" "GlyphLines$Font" "head" "LGlyphLines$Span;") ∈ tw_T := tw_of 139 (by decide +kernel) (by decide +kernel)
theorem w_141 : (Jvm.Cond.laysFinal "GlyphLines$Font" "GlyphLines$Font" "maxp" "LGlyphLines$Span;") ∈ tw_T := tw_of 141 (by decide +kernel) (by decide +kernel)
theorem w_143 : (Jvm.Cond.laysFinal "GlyphLines$Font" "GlyphLines$Font" "hhea" "LGlyphLines$Span;") ∈ tw_T := tw_of 143 (by decide +kernel) (by decide +kernel)
theorem w_145 : (Jvm.Cond.laysFinal "GlyphLines$Font" "GlyphLines$Font" "hmtx" "LGlyphLines$Span;") ∈ tw_T := tw_of 145 (by decide +kernel) (by decide +kernel)
theorem w_147 : (Jvm.Cond.laysFinal "GlyphLines$Font" "GlyphLines$Font" "loca" "LGlyphLines$Span;") ∈ tw_T := tw_of 147 (by decide +kernel) (by decide +kernel)
theorem w_149 : (Jvm.Cond.laysFinal "GlyphLines$Font" "GlyphLines$Font" "glyf" "LGlyphLines$Span;") ∈ tw_T := tw_of 149 (by decide +kernel) (by decide +kernel)
theorem w_151 : (Jvm.Cond.laysFinal "GlyphLines$Font" "GlyphLines$Font" "map" "LGlyphLines$CharacterMap;") ∈ tw_T := tw_of 151 (by decide +kernel) (by decide +kernel)
theorem w_153 : (Jvm.Cond.laysFinal "GlyphLines$Font" "GlyphLines$Font" "pairs" "LGlyphLines$Pairs;") ∈ tw_T := tw_of 153 (by decide +kernel) (by decide +kernel)
theorem w_155 : (Jvm.Cond.laysFinal "GlyphLines$Font" "GlyphLines$Font" "data" "[LGlyphLines$Span;") ∈ tw_T := tw_of 155 (by decide +kernel) (by decide +kernel)
theorem w_157 : (Jvm.Cond.lays "GlyphLines$Font" "GlyphLines$Font" "em" "I") ∈ tw_T := tw_of 157 (by decide +kernel) (by decide +kernel)
theorem w_159 : (Jvm.Cond.lays "GlyphLines$Font" "GlyphLines$Font" "glyphs" "I") ∈ tw_T := tw_of 159 (by decide +kernel) (by decide +kernel)
theorem w_161 : (Jvm.Cond.lays "GlyphLines$Font" "GlyphLines$Font" "widths" "I") ∈ tw_T := tw_of 161 (by decide +kernel) (by decide +kernel)
theorem w_163 : (Jvm.Cond.lays "GlyphLines$Font" "GlyphLines$Font" "isLong" "Z") ∈ tw_T := tw_of 163 (by decide +kernel) (by decide +kernel)
theorem w_166 : (Jvm.Cond.classLink "GlyphLines" (31 : Nat) "GlyphLines$Outline") ∈ tw_T := tw_of 166 (by decide +kernel) (by decide +kernel)
theorem w_167 : (Jvm.Cond.instantiable "GlyphLines$Outline" (8 : Nat)) ∈ tw_T := tw_of 167 (by decide +kernel) (by decide +kernel)
theorem w_168 : (Jvm.Cond.methodLink "GlyphLines" (33 : Nat) ({ cls := "GlyphLines$Outline", name := "<init>", desc := "()V" } : Jvm.MethodName)) ∈ tw_T := tw_of 168 (by decide +kernel) (by decide +kernel)
theorem w_169 : (Jvm.Cond.instanceMethod ({ cls := "GlyphLines$Outline", name := "<init>", desc := "()V" } : Jvm.MethodName)) ∈ tw_T := tw_of 169 (by decide +kernel) (by decide +kernel)
theorem w_170 : (Jvm.Cond.code ({ cls := "GlyphLines$Outline", name := "<init>", desc := "()V" } : Jvm.MethodName) prog_7_method_1_code (1 : Nat) (Option.none : Option Jvm.ClassFile.FieldType)) ∈ tw_T := tw_of 170 (by decide +kernel) (by decide +kernel)
theorem w_171 : (Jvm.Cond.methodLink "GlyphLines$Outline" (1 : Nat) ({ cls := "java/lang/Object", name := "<init>", desc := "()V" } : Jvm.MethodName)) ∈ tw_T := tw_of 171 (by decide +kernel) (by decide +kernel)
theorem w_172 : (Jvm.Cond.classLink "GlyphLines$Outline" (26 : Nat) "GlyphLines$Move") ∈ tw_T := tw_of 172 (by decide +kernel) (by decide +kernel)
theorem w_173 : (Jvm.Cond.instantiable "GlyphLines$Move" (6 : Nat)) ∈ tw_T := tw_of 173 (by decide +kernel) (by decide +kernel)
theorem w_174 : (Jvm.Cond.methodLink "GlyphLines$Outline" (28 : Nat) ({ cls := "GlyphLines$Move", name := "<init>", desc := "()V" } : Jvm.MethodName)) ∈ tw_T := tw_of 174 (by decide +kernel) (by decide +kernel)
theorem w_175 : (Jvm.Cond.instanceMethod ({ cls := "GlyphLines$Move", name := "<init>", desc := "()V" } : Jvm.MethodName)) ∈ tw_T := tw_of 175 (by decide +kernel) (by decide +kernel)
theorem w_176 : (Jvm.Cond.code ({ cls := "GlyphLines$Move", name := "<init>", desc := "()V" } : Jvm.MethodName) prog_6_method_1_code (1 : Nat) (Option.none : Option Jvm.ClassFile.FieldType)) ∈ tw_T := tw_of 176 (by decide +kernel) (by decide +kernel)
theorem w_177 : (Jvm.Cond.methodLink "GlyphLines$Move" (1 : Nat) ({ cls := "java/lang/Object", name := "<init>", desc := "()V" } : Jvm.MethodName)) ∈ tw_T := tw_of 177 (by decide +kernel) (by decide +kernel)
theorem w_178 : (Jvm.Cond.fieldLink "GlyphLines$Move" (7 : Nat) "GlyphLines$Move" "a" "I") ∈ tw_T := tw_of 178 (by decide +kernel) (by decide +kernel)
theorem w_179 : (Jvm.Cond.fieldLink "GlyphLines$Move" (13 : Nat) "GlyphLines$Move" "b" "I") ∈ tw_T := tw_of 179 (by decide +kernel) (by decide +kernel)
theorem w_180 : (Jvm.Cond.fieldLink "GlyphLines$Move" (16 : Nat) "GlyphLines$Move" "c" "I") ∈ tw_T := tw_of 180 (by decide +kernel) (by decide +kernel)
theorem w_181 : (Jvm.Cond.fieldLink "GlyphLines$Move" (19 : Nat) "GlyphLines$Move" "d" "I") ∈ tw_T := tw_of 181 (by decide +kernel) (by decide +kernel)
theorem w_182 : (Jvm.Cond.fieldLink "GlyphLines$Move" (22 : Nat) "GlyphLines$Move" "dx" "I") ∈ tw_T := tw_of 182 (by decide +kernel) (by decide +kernel)
theorem w_183 : (Jvm.Cond.fieldLink "GlyphLines$Move" (25 : Nat) "GlyphLines$Move" "dy" "I") ∈ tw_T := tw_of 183 (by decide +kernel) (by decide +kernel)
theorem w_184 : (Jvm.Cond.lays "GlyphLines$Move" "GlyphLines$Move" "a" "I") ∈ tw_T := tw_of 184 (by decide +kernel) (by decide +kernel)
theorem w_186 : (Jvm.Cond.lays "GlyphLines$Move" "GlyphLines$Move" "b" "I") ∈ tw_T := tw_of 186 (by decide +kernel) (by decide +kernel)
theorem w_188 : (Jvm.Cond.lays "GlyphLines$Move" "GlyphLines$Move" "c" "I") ∈ tw_T := tw_of 188 (by decide +kernel) (by decide +kernel)
theorem w_190 : (Jvm.Cond.lays "GlyphLines$Move" "GlyphLines$Move" "d" "I") ∈ tw_T := tw_of 190 (by decide +kernel) (by decide +kernel)
theorem w_192 : (Jvm.Cond.lays "GlyphLines$Move" "GlyphLines$Move" "dx" "I") ∈ tw_T := tw_of 192 (by decide +kernel) (by decide +kernel)
theorem w_194 : (Jvm.Cond.lays "GlyphLines$Move" "GlyphLines$Move" "dy" "I") ∈ tw_T := tw_of 194 (by decide +kernel) (by decide +kernel)
theorem w_197 : (Jvm.Cond.arrayClass Jvm.ClassFile.FieldType.boolean) ∈ tw_T := tw_of 197 (by decide +kernel) (by decide +kernel)
theorem w_198 : (Jvm.Cond.fieldLink "GlyphLines$Outline" (9 : Nat) "GlyphLines$Outline" "xs" "[I") ∈ tw_T := tw_of 198 (by decide +kernel) (by decide +kernel)
theorem w_201 : (Jvm.Cond.fieldLink "GlyphLines$Outline" (13 : Nat) "GlyphLines$Outline" "ys" "[I") ∈ tw_T := tw_of 201 (by decide +kernel) (by decide +kernel)
theorem w_204 : (Jvm.Cond.fieldLink "GlyphLines$Outline" (16 : Nat) "GlyphLines$Outline" "isOn" "[Z") ∈ tw_T := tw_of 204 (by decide +kernel) (by decide +kernel)
theorem w_207 : (Jvm.Cond.fieldLink "GlyphLines$Outline" (20 : Nat) "GlyphLines$Outline" "contourOf" "[I") ∈ tw_T := tw_of 207 (by decide +kernel) (by decide +kernel)
theorem w_210 : (Jvm.Cond.fieldLink "GlyphLines$Outline" (23 : Nat) "GlyphLines$Outline" "flags" "[I") ∈ tw_T := tw_of 210 (by decide +kernel) (by decide +kernel)
theorem w_211 : (Jvm.Cond.fieldLink "GlyphLines$Outline" (29 : Nat) "GlyphLines$Outline" "move" "LGlyphLines$Move;") ∈ tw_T := tw_of 211 (by decide +kernel) (by decide +kernel)
theorem w_212 : (Jvm.Cond.fieldLink "GlyphLines$Outline" (33 : Nat) "GlyphLines$Outline" "points" "I") ∈ tw_T := tw_of 212 (by decide +kernel) (by decide +kernel)
theorem w_215 : (Jvm.Cond.fieldLink "GlyphLines$Outline" (37 : Nat) "GlyphLines$Outline" "contours" "I") ∈ tw_T := tw_of 215 (by decide +kernel) (by decide +kernel)
theorem w_217 : (Jvm.Cond.laysFinal "GlyphLines$Outline" "GlyphLines$Outline" "xs" "[I") ∈ tw_T := tw_of 217 (by decide +kernel) (by decide +kernel)
theorem w_219 : (Jvm.Cond.laysFinal "GlyphLines$Outline" "GlyphLines$Outline" "ys" "[I") ∈ tw_T := tw_of 219 (by decide +kernel) (by decide +kernel)
theorem w_221 : (Jvm.Cond.laysFinal "GlyphLines$Outline" "GlyphLines$Outline" "isOn" "[Z") ∈ tw_T := tw_of 221 (by decide +kernel) (by decide +kernel)
theorem w_223 : (Jvm.Cond.laysFinal "GlyphLines$Outline" "GlyphLines$Outline" "contourOf" "[I") ∈ tw_T := tw_of 223 (by decide +kernel) (by decide +kernel)
theorem w_225 : (Jvm.Cond.laysFinal "GlyphLines$Outline" "GlyphLines$Outline" "flags" "[I") ∈ tw_T := tw_of 225 (by decide +kernel) (by decide +kernel)
theorem w_227 : (Jvm.Cond.laysFinal "GlyphLines$Outline" "GlyphLines$Outline" "move" "LGlyphLines$Move;") ∈ tw_T := tw_of 227 (by decide +kernel) (by decide +kernel)
theorem w_229 : (Jvm.Cond.lays "GlyphLines$Outline" "GlyphLines$Outline" "points" "I") ∈ tw_T := tw_of 229 (by decide +kernel) (by decide +kernel)
theorem w_231 : (Jvm.Cond.lays "GlyphLines$Outline" "GlyphLines$Outline" "contours" "I") ∈ tw_T := tw_of 231 (by decide +kernel) (by decide +kernel)
theorem w_234 : (Jvm.Cond.classLink "GlyphLines" (38 : Nat) "GlyphLines$Picture") ∈ tw_T := tw_of 234 (by decide +kernel) (by decide +kernel)
theorem w_235 : (Jvm.Cond.instantiable "GlyphLines$Picture" (2 : Nat)) ∈ tw_T := tw_of 235 (by decide +kernel) (by decide +kernel)
theorem w_236 : (Jvm.Cond.methodLink "GlyphLines" (40 : Nat) ({ cls := "GlyphLines$Picture", name := "<init>", desc := "()V" } : Jvm.MethodName)) ∈ tw_T := tw_of 236 (by decide +kernel) (by decide +kernel)
theorem w_237 : (Jvm.Cond.instanceMethod ({ cls := "GlyphLines$Picture", name := "<init>", desc := "()V" } : Jvm.MethodName)) ∈ tw_T := tw_of 237 (by decide +kernel) (by decide +kernel)
theorem w_238 : (Jvm.Cond.code ({ cls := "GlyphLines$Picture", name := "<init>", desc := "()V" } : Jvm.MethodName) prog_9_method_1_code (1 : Nat) (Option.none : Option Jvm.ClassFile.FieldType)) ∈ tw_T := tw_of 238 (by decide +kernel) (by decide +kernel)
theorem w_239 : (Jvm.Cond.methodLink "GlyphLines$Picture" (1 : Nat) ({ cls := "java/lang/Object", name := "<init>", desc := "()V" } : Jvm.MethodName)) ∈ tw_T := tw_of 239 (by decide +kernel) (by decide +kernel)
theorem w_240 : (Jvm.Cond.fieldLink "GlyphLines$Picture" (9 : Nat) "GlyphLines$Picture" "rows" "[J") ∈ tw_T := tw_of 240 (by decide +kernel) (by decide +kernel)
theorem w_242 : (Jvm.Cond.fieldLink "GlyphLines$Picture" (13 : Nat) "GlyphLines$Picture" "steps" "[I") ∈ tw_T := tw_of 242 (by decide +kernel) (by decide +kernel)
theorem w_243 : (Jvm.Cond.laysFinal "GlyphLines$Picture" "GlyphLines$Picture" "rows" "[J") ∈ tw_T := tw_of 243 (by decide +kernel) (by decide +kernel)
theorem w_245 : (Jvm.Cond.laysFinal "GlyphLines$Picture" "GlyphLines$Picture" "steps" "[I") ∈ tw_T := tw_of 245 (by decide +kernel) (by decide +kernel)
theorem w_248 : (Jvm.Cond.arrayClass Jvm.ClassFile.FieldType.long) ∈ tw_T := tw_of 248 (by decide +kernel) (by decide +kernel)
theorem w_249 : (Jvm.Cond.classLink "GlyphLines" (45 : Nat) "GlyphLines$Brush") ∈ tw_T := tw_of 249 (by decide +kernel) (by decide +kernel)
theorem w_250 : (Jvm.Cond.instantiable "GlyphLines$Brush" (10 : Nat)) ∈ tw_T := tw_of 250 (by decide +kernel) (by decide +kernel)
theorem w_251 : (Jvm.Cond.methodLink "GlyphLines" (47 : Nat) ({ cls := "GlyphLines$Brush", name := "<init>", desc := "(LGlyphLines$Picture;LGlyphLines$Outline;)V" } : Jvm.MethodName)) ∈ tw_T := tw_of 251 (by decide +kernel) (by decide +kernel)
theorem w_252 : (Jvm.Cond.instanceMethod ({ cls := "GlyphLines$Brush", name := "<init>", desc := "(LGlyphLines$Picture;LGlyphLines$Outline;)V" } : Jvm.MethodName)) ∈ tw_T := tw_of 252 (by decide +kernel) (by decide +kernel)
theorem w_253 : (Jvm.Cond.code ({ cls := "GlyphLines$Brush", name := "<init>", desc := "(LGlyphLines$Picture;LGlyphLines$Outline;)V" } : Jvm.MethodName) prog_2_method_1_code (3 : Nat) (Option.none : Option Jvm.ClassFile.FieldType)) ∈ tw_T := tw_of 253 (by decide +kernel) (by decide +kernel)
theorem w_254 : (Jvm.Cond.methodLink "GlyphLines$Brush" (3 : Nat) ({ cls := "java/lang/Object", name := "<init>", desc := "()V" } : Jvm.MethodName)) ∈ tw_T := tw_of 254 (by decide +kernel) (by decide +kernel)
theorem w_255 : (Jvm.Cond.fieldLink "GlyphLines$Brush" (40 : Nat) "GlyphLines$Brush" "picture" "LGlyphLines$Picture;") ∈ tw_T := tw_of 255 (by decide +kernel) (by decide +kernel)
theorem w_256 : (Jvm.Cond.fieldLink "GlyphLines$Brush" (44 : Nat) "GlyphLines$Brush" "outline" "LGlyphLines$Outline;") ∈ tw_T := tw_of 256 (by decide +kernel) (by decide +kernel)
theorem w_257 : (Jvm.Cond.fieldLink "GlyphLines$Brush" (11 : Nat) "GlyphLines$Brush" "ringX" "[I") ∈ tw_T := tw_of 257 (by decide +kernel) (by decide +kernel)
theorem w_258 : (Jvm.Cond.fieldLink "GlyphLines$Brush" (17 : Nat) "GlyphLines$Brush" "ringY" "[I") ∈ tw_T := tw_of 258 (by decide +kernel) (by decide +kernel)
theorem w_259 : (Jvm.Cond.fieldLink "GlyphLines$Brush" (20 : Nat) "GlyphLines$Brush" "ringOn" "[Z") ∈ tw_T := tw_of 259 (by decide +kernel) (by decide +kernel)
theorem w_260 : (Jvm.Cond.fieldLink "GlyphLines$Brush" (24 : Nat) "GlyphLines$Brush" "ringSize" "I") ∈ tw_T := tw_of 260 (by decide +kernel) (by decide +kernel)
theorem w_261 : (Jvm.Cond.fieldLink "GlyphLines$Brush" (28 : Nat) "GlyphLines$Brush" "em" "I") ∈ tw_T := tw_of 261 (by decide +kernel) (by decide +kernel)
theorem w_262 : (Jvm.Cond.fieldLink "GlyphLines$Brush" (31 : Nat) "GlyphLines$Brush" "ppem" "I") ∈ tw_T := tw_of 262 (by decide +kernel) (by decide +kernel)
theorem w_263 : (Jvm.Cond.fieldLink "GlyphLines$Brush" (34 : Nat) "GlyphLines$Brush" "pen" "I") ∈ tw_T := tw_of 263 (by decide +kernel) (by decide +kernel)
theorem w_265 : (Jvm.Cond.fieldLink "GlyphLines$Brush" (37 : Nat) "GlyphLines$Brush" "glyphBefore" "I") ∈ tw_T := tw_of 265 (by decide +kernel) (by decide +kernel)
theorem w_266 : (Jvm.Cond.laysFinal "GlyphLines$Brush" "GlyphLines$Brush" "picture" "LGlyphLines$Picture;") ∈ tw_T := tw_of 266 (by decide +kernel) (by decide +kernel)
theorem w_268 : (Jvm.Cond.laysFinal "GlyphLines$Brush" "GlyphLines$Brush" "outline" "LGlyphLines$Outline;") ∈ tw_T := tw_of 268 (by decide +kernel) (by decide +kernel)
theorem w_270 : (Jvm.Cond.laysFinal "GlyphLines$Brush" "GlyphLines$Brush" "ringX" "[I") ∈ tw_T := tw_of 270 (by decide +kernel) (by decide +kernel)
theorem w_272 : (Jvm.Cond.laysFinal "GlyphLines$Brush" "GlyphLines$Brush" "ringY" "[I") ∈ tw_T := tw_of 272 (by decide +kernel) (by decide +kernel)
theorem w_274 : (Jvm.Cond.laysFinal "GlyphLines$Brush" "GlyphLines$Brush" "ringOn" "[Z") ∈ tw_T := tw_of 274 (by decide +kernel) (by decide +kernel)
theorem w_276 : (Jvm.Cond.lays "GlyphLines$Brush" "GlyphLines$Brush" "ringSize" "I") ∈ tw_T := tw_of 276 (by decide +kernel) (by decide +kernel)
theorem w_278 : (Jvm.Cond.lays "GlyphLines$Brush" "GlyphLines$Brush" "em" "I") ∈ tw_T := tw_of 278 (by decide +kernel) (by decide +kernel)
theorem w_280 : (Jvm.Cond.lays "GlyphLines$Brush" "GlyphLines$Brush" "ppem" "I") ∈ tw_T := tw_of 280 (by decide +kernel) (by decide +kernel)
theorem w_282 : (Jvm.Cond.lays "GlyphLines$Brush" "GlyphLines$Brush" "pen" "I") ∈ tw_T := tw_of 282 (by decide +kernel) (by decide +kernel)
theorem w_284 : (Jvm.Cond.lays "GlyphLines$Brush" "GlyphLines$Brush" "glyphBefore" "I") ∈ tw_T := tw_of 284 (by decide +kernel) (by decide +kernel)
theorem w_287 : (Jvm.Cond.fieldLink "GlyphLines" (9 : Nat) "GlyphLines" "file" "[I") ∈ tw_T := tw_of 287 (by decide +kernel) (by decide +kernel)
theorem w_288 : (Jvm.Cond.fieldLink "GlyphLines" (13 : Nat) "GlyphLines" "fileSize" "I") ∈ tw_T := tw_of 288 (by decide +kernel) (by decide +kernel)
theorem w_289 : (Jvm.Cond.fieldLink "GlyphLines" (20 : Nat) "GlyphLines" "font" "LGlyphLines$Font;") ∈ tw_T := tw_of 289 (by decide +kernel) (by decide +kernel)
theorem w_290 : (Jvm.Cond.fieldLink "GlyphLines" (24 : Nat) "GlyphLines" "spare" "LGlyphLines$Font;") ∈ tw_T := tw_of 290 (by decide +kernel) (by decide +kernel)
theorem w_291 : (Jvm.Cond.fieldLink "GlyphLines" (27 : Nat) "GlyphLines" "hasFont" "Z") ∈ tw_T := tw_of 291 (by decide +kernel) (by decide +kernel)
theorem w_292 : (Jvm.Cond.fieldLink "GlyphLines" (34 : Nat) "GlyphLines" "outline" "LGlyphLines$Outline;") ∈ tw_T := tw_of 292 (by decide +kernel) (by decide +kernel)
theorem w_293 : (Jvm.Cond.fieldLink "GlyphLines" (41 : Nat) "GlyphLines" "picture" "LGlyphLines$Picture;") ∈ tw_T := tw_of 293 (by decide +kernel) (by decide +kernel)
theorem w_294 : (Jvm.Cond.fieldLink "GlyphLines" (50 : Nat) "GlyphLines" "brush" "LGlyphLines$Brush;") ∈ tw_T := tw_of 294 (by decide +kernel) (by decide +kernel)
theorem w_295 : (Jvm.Cond.fieldLink "GlyphLines" (54 : Nat) "GlyphLines" "text" "[I") ∈ tw_T := tw_of 295 (by decide +kernel) (by decide +kernel)
theorem w_296 : (Jvm.Cond.fieldLink "GlyphLines" (57 : Nat) "GlyphLines" "textSize" "I") ∈ tw_T := tw_of 296 (by decide +kernel) (by decide +kernel)
theorem w_297 : (Jvm.Cond.laysFinal "GlyphLines" "GlyphLines" "file" "[I") ∈ tw_T := tw_of 297 (by decide +kernel) (by decide +kernel)
theorem w_299 : (Jvm.Cond.lays "GlyphLines" "GlyphLines" "fileSize" "I") ∈ tw_T := tw_of 299 (by decide +kernel) (by decide +kernel)
theorem w_301 : (Jvm.Cond.lays "GlyphLines" "GlyphLines" "font" "LGlyphLines$Font;") ∈ tw_T := tw_of 301 (by decide +kernel) (by decide +kernel)
theorem w_303 : (Jvm.Cond.lays "GlyphLines" "GlyphLines" "spare" "LGlyphLines$Font;") ∈ tw_T := tw_of 303 (by decide +kernel) (by decide +kernel)
theorem w_305 : (Jvm.Cond.lays "GlyphLines" "GlyphLines" "hasFont" "Z") ∈ tw_T := tw_of 305 (by decide +kernel) (by decide +kernel)
theorem w_307 : (Jvm.Cond.laysFinal "GlyphLines" "GlyphLines" "outline" "LGlyphLines$Outline;") ∈ tw_T := tw_of 307 (by decide +kernel) (by decide +kernel)
theorem w_309 : (Jvm.Cond.laysFinal "GlyphLines" "GlyphLines" "picture" "LGlyphLines$Picture;") ∈ tw_T := tw_of 309 (by decide +kernel) (by decide +kernel)
theorem w_311 : (Jvm.Cond.laysFinal "GlyphLines" "GlyphLines" "brush" "LGlyphLines$Brush;") ∈ tw_T := tw_of 311 (by decide +kernel) (by decide +kernel)
theorem w_313 : (Jvm.Cond.laysFinal "GlyphLines" "GlyphLines" "text" "[I") ∈ tw_T := tw_of 313 (by decide +kernel) (by decide +kernel)
theorem w_315 : (Jvm.Cond.lays "GlyphLines" "GlyphLines" "textSize" "I") ∈ tw_T := tw_of 315 (by decide +kernel) (by decide +kernel)
theorem w_321 : (Jvm.Cond.code ({ cls := "GlyphLines", name := "feed", desc := "(I)I" } : Jvm.MethodName) prog_1_method_2_code (3 : Nat) (Option.some Jvm.ClassFile.FieldType.int)) ∈ tw_T := tw_of 321 (by decide +kernel) (by decide +kernel)
theorem w_325 : (Jvm.Cond.code ({ cls := "GlyphLines", name := "at", desc := "(I)I" } : Jvm.MethodName) prog_1_method_4_code (2 : Nat) (Option.some Jvm.ClassFile.FieldType.int)) ∈ tw_T := tw_of 325 (by decide +kernel) (by decide +kernel)
theorem w_329 : (Jvm.Cond.code ({ cls := "GlyphLines", name := "load", desc := "(Z)I" } : Jvm.MethodName) prog_1_method_6_code (4 : Nat) (Option.some Jvm.ClassFile.FieldType.int)) ∈ tw_T := tw_of 329 (by decide +kernel) (by decide +kernel)
theorem w_330 : (Jvm.Cond.methodLink "GlyphLines" (80 : Nat) ({ cls := "GlyphLines$Font", name := "loadFrom", desc := "([IIZLGlyphLines$Outline;)I" } : Jvm.MethodName)) ∈ tw_T := tw_of 330 (by decide +kernel) (by decide +kernel)
theorem w_331 : (Jvm.Cond.instanceMethod ({ cls := "GlyphLines$Font", name := "loadFrom", desc := "([IIZLGlyphLines$Outline;)I" } : Jvm.MethodName)) ∈ tw_T := tw_of 331 (by decide +kernel) (by decide +kernel)
theorem w_332 : (Jvm.Cond.selects "GlyphLines$Font" ({ cls := "GlyphLines$Font", name := "loadFrom", desc := "([IIZLGlyphLines$Outline;)I" } : Jvm.MethodName) ({ cls := "GlyphLines$Font", name := "loadFrom", desc := "([IIZLGlyphLines$Outline;)I" } : Jvm.MethodName)) ∈ tw_T := tw_of 332 (by decide +kernel) (by decide +kernel)
theorem w_333 : (Jvm.Cond.code ({ cls := "GlyphLines$Font", name := "loadFrom", desc := "([IIZLGlyphLines$Outline;)I" } : Jvm.MethodName) prog_5_method_2_code (6 : Nat) (Option.some Jvm.ClassFile.FieldType.int)) ∈ tw_T := tw_of 333 (by decide +kernel) (by decide +kernel)
theorem w_334 : (Jvm.Cond.methodLink "GlyphLines$Font" (78 : Nat) ({ cls := "java/lang/Math", name := "min", desc := "(II)I" } : Jvm.MethodName)) ∈ tw_T := tw_of 334 (by decide +kernel) (by decide +kernel)
theorem w_335 : (Jvm.Cond.static ({ cls := "java/lang/Math", name := "min", desc := "(II)I" } : Jvm.MethodName)) ∈ tw_T := tw_of 335 (by decide +kernel) (by decide +kernel)
theorem w_336 : (Jvm.Cond.code ({ cls := "java/lang/Math", name := "min", desc := "(II)I" } : Jvm.MethodName) prog_18_method_69_code (2 : Nat) (Option.some Jvm.ClassFile.FieldType.int)) ∈ tw_T := tw_of 336 (by decide +kernel) (by decide +kernel)
theorem w_337 : (Jvm.Cond.methodLink "GlyphLines$Font" (84 : Nat) ({ cls := "java/lang/System", name := "arraycopy", desc := "(Ljava/lang/Object;ILjava/lang/Object;II)V" } : Jvm.MethodName)) ∈ tw_T := tw_of 337 (by decide +kernel) (by decide +kernel)
theorem w_338 : (Jvm.Cond.static ({ cls := "java/lang/System", name := "arraycopy", desc := "(Ljava/lang/Object;ILjava/lang/Object;II)V" } : Jvm.MethodName)) ∈ tw_T := tw_of 338 (by decide +kernel) (by decide +kernel)
theorem w_339 : (Jvm.Cond.native ({ cls := "java/lang/System", name := "arraycopy", desc := "(Ljava/lang/Object;ILjava/lang/Object;II)V" } : Jvm.MethodName)) ∈ tw_T := tw_of 339 (by decide +kernel) (by decide +kernel)
theorem w_340 : (Jvm.Cond.methodLink "GlyphLines$Font" (90 : Nat) ({ cls := "GlyphLines$Directory", name := "isRight", desc := "(I)Z" } : Jvm.MethodName)) ∈ tw_T := tw_of 340 (by decide +kernel) (by decide +kernel)
theorem w_341 : (Jvm.Cond.instanceMethod ({ cls := "GlyphLines$Directory", name := "isRight", desc := "(I)Z" } : Jvm.MethodName)) ∈ tw_T := tw_of 341 (by decide +kernel) (by decide +kernel)
theorem w_342 : (Jvm.Cond.selects "GlyphLines$Directory" ({ cls := "GlyphLines$Directory", name := "isRight", desc := "(I)Z" } : Jvm.MethodName) ({ cls := "GlyphLines$Directory", name := "isRight", desc := "(I)Z" } : Jvm.MethodName)) ∈ tw_T := tw_of 342 (by decide +kernel) (by decide +kernel)
theorem w_343 : (Jvm.Cond.code ({ cls := "GlyphLines$Directory", name := "isRight", desc := "(I)Z" } : Jvm.MethodName) prog_4_method_2_code (7 : Nat) (Option.some Jvm.ClassFile.FieldType.boolean)) ∈ tw_T := tw_of 343 (by decide +kernel) (by decide +kernel)
theorem w_344 : (Jvm.Cond.methodLink "GlyphLines$Directory" (25 : Nat) ({ cls := "GlyphLines$Span", name := "lay", desc := "(II)V" } : Jvm.MethodName)) ∈ tw_T := tw_of 344 (by decide +kernel) (by decide +kernel)
theorem w_345 : (Jvm.Cond.instanceMethod ({ cls := "GlyphLines$Span", name := "lay", desc := "(II)V" } : Jvm.MethodName)) ∈ tw_T := tw_of 345 (by decide +kernel) (by decide +kernel)
theorem w_346 : (Jvm.Cond.selects "GlyphLines$Span" ({ cls := "GlyphLines$Span", name := "lay", desc := "(II)V" } : Jvm.MethodName) ({ cls := "GlyphLines$Span", name := "lay", desc := "(II)V" } : Jvm.MethodName)) ∈ tw_T := tw_of 346 (by decide +kernel) (by decide +kernel)
theorem w_347 : (Jvm.Cond.code ({ cls := "GlyphLines$Span", name := "lay", desc := "(II)V" } : Jvm.MethodName) prog_10_method_2_code (3 : Nat) (Option.none : Option Jvm.ClassFile.FieldType)) ∈ tw_T := tw_of 347 (by decide +kernel) (by decide +kernel)
theorem w_348 : (Jvm.Cond.methodLink "GlyphLines$Span" (24 : Nat) ({ cls := "java/lang/Math", name := "min", desc := "(II)I" } : Jvm.MethodName)) ∈ tw_T := tw_of 348 (by decide +kernel) (by decide +kernel)
theorem w_349 : (Jvm.Cond.methodLink "GlyphLines$Span" (30 : Nat) ({ cls := "java/lang/Math", name := "max", desc := "(II)I" } : Jvm.MethodName)) ∈ tw_T := tw_of 349 (by decide +kernel) (by decide +kernel)
theorem w_350 : (Jvm.Cond.static ({ cls := "java/lang/Math", name := "max", desc := "(II)I" } : Jvm.MethodName)) ∈ tw_T := tw_of 350 (by decide +kernel) (by decide +kernel)
theorem w_351 : (Jvm.Cond.code ({ cls := "java/lang/Math", name := "max", desc := "(II)I" } : Jvm.MethodName) prog_18_method_65_code (2 : Nat) (Option.some Jvm.ClassFile.FieldType.int)) ∈ tw_T := tw_of 351 (by decide +kernel) (by decide +kernel)
theorem w_352 : (Jvm.Cond.methodLink "GlyphLines$Directory" (29 : Nat) ({ cls := "GlyphLines$Span", name := "u16", desc := "(I)I" } : Jvm.MethodName)) ∈ tw_T := tw_of 352 (by decide +kernel) (by decide +kernel)
theorem w_353 : (Jvm.Cond.instanceMethod ({ cls := "GlyphLines$Span", name := "u16", desc := "(I)I" } : Jvm.MethodName)) ∈ tw_T := tw_of 353 (by decide +kernel) (by decide +kernel)
theorem w_354 : (Jvm.Cond.selects "GlyphLines$Span" ({ cls := "GlyphLines$Span", name := "u16", desc := "(I)I" } : Jvm.MethodName) ({ cls := "GlyphLines$Span", name := "u16", desc := "(I)I" } : Jvm.MethodName)) ∈ tw_T := tw_of 354 (by decide +kernel) (by decide +kernel)
theorem w_355 : (Jvm.Cond.code ({ cls := "GlyphLines$Span", name := "u16", desc := "(I)I" } : Jvm.MethodName) prog_10_method_5_code (2 : Nat) (Option.some Jvm.ClassFile.FieldType.int)) ∈ tw_T := tw_of 355 (by decide +kernel) (by decide +kernel)
theorem w_356 : (Jvm.Cond.methodLink "GlyphLines$Directory" (33 : Nat) ({ cls := "GlyphLines$Span", name := "u32", desc := "(I)J" } : Jvm.MethodName)) ∈ tw_T := tw_of 356 (by decide +kernel) (by decide +kernel)
theorem w_357 : (Jvm.Cond.instanceMethod ({ cls := "GlyphLines$Span", name := "u32", desc := "(I)J" } : Jvm.MethodName)) ∈ tw_T := tw_of 357 (by decide +kernel) (by decide +kernel)
theorem w_358 : (Jvm.Cond.selects "GlyphLines$Span" ({ cls := "GlyphLines$Span", name := "u32", desc := "(I)J" } : Jvm.MethodName) ({ cls := "GlyphLines$Span", name := "u32", desc := "(I)J" } : Jvm.MethodName)) ∈ tw_T := tw_of 358 (by decide +kernel) (by decide +kernel)
theorem w_359 : (Jvm.Cond.code ({ cls := "GlyphLines$Span", name := "u32", desc := "(I)J" } : Jvm.MethodName) prog_10_method_6_code (6 : Nat) (Option.some Jvm.ClassFile.FieldType.long)) ∈ tw_T := tw_of 359 (by decide +kernel) (by decide +kernel)
theorem w_360 : (Jvm.Cond.constantLong "GlyphLines$Directory" (37 : Nat) (65536 : Int64)) ∈ tw_T := tw_of 360 (by decide +kernel) (by decide +kernel)
theorem w_539 : (Jvm.Cond.code ({ cls := "GlyphLines", name := "type", desc := "(I)Z" } : Jvm.MethodName) prog_1_method_11_code (2 : Nat) (Option.some Jvm.ClassFile.FieldType.boolean)) ∈ tw_T := tw_of 539 (by decide +kernel) (by decide +kernel)
theorem w_540 : (Jvm.Cond.methodLink "GlyphLines" (87 : Nat) ({ cls := "GlyphLines", name := "isCharacter", desc := "(I)Z" } : Jvm.MethodName)) ∈ tw_T := tw_of 540 (by decide +kernel) (by decide +kernel)
theorem w_541 : (Jvm.Cond.static ({ cls := "GlyphLines", name := "isCharacter", desc := "(I)Z" } : Jvm.MethodName)) ∈ tw_T := tw_of 541 (by decide +kernel) (by decide +kernel)
theorem w_542 : (Jvm.Cond.code ({ cls := "GlyphLines", name := "isCharacter", desc := "(I)Z" } : Jvm.MethodName) prog_1_method_17_code (1 : Nat) (Option.some Jvm.ClassFile.FieldType.boolean)) ∈ tw_T := tw_of 542 (by decide +kernel) (by decide +kernel)
theorem w_543 : (Jvm.Cond.constant "GlyphLines" (167 : Nat) (65535 : Int32)) ∈ tw_T := tw_of 543 (by decide +kernel) (by decide +kernel)
theorem w_547 : (Jvm.Cond.code ({ cls := "GlyphLines", name := "wipe", desc := "()I" } : Jvm.MethodName) prog_1_method_12_code (2 : Nat) (Option.some Jvm.ClassFile.FieldType.int)) ∈ tw_T := tw_of 547 (by decide +kernel) (by decide +kernel)
theorem w_556 : (Jvm.Cond.code ({ cls := "GlyphLines", name := "put", desc := "(II)I" } : Jvm.MethodName) prog_1_method_3_code (4 : Nat) (Option.some Jvm.ClassFile.FieldType.int)) ∈ tw_T := tw_of 556 (by decide +kernel) (by decide +kernel)
theorem w_557 : (Jvm.Cond.classLink "GlyphLines" (60 : Nat) "java/lang/IndexOutOfBoundsException") ∈ tw_T := tw_of 557 (by decide +kernel) (by decide +kernel)
theorem w_625 : (Jvm.Cond.classLink "GlyphLines" (67 : Nat) "java/lang/IllegalArgumentException") ∈ tw_T := tw_of 625 (by decide +kernel) (by decide +kernel)
theorem w_647 : (Jvm.Cond.code ({ cls := "GlyphLines", name := "cut", desc := "(I)I" } : Jvm.MethodName) prog_1_method_5_code (4 : Nat) (Option.some Jvm.ClassFile.FieldType.int)) ∈ tw_T := tw_of 647 (by decide +kernel) (by decide +kernel)
theorem w_649 : (Jvm.Cond.methodLink "GlyphLines" (74 : Nat) ({ cls := "java/lang/Math", name := "min", desc := "(II)I" } : Jvm.MethodName)) ∈ tw_T := tw_of 649 (by decide +kernel) (by decide +kernel)
theorem w_657 : (Jvm.Cond.code ({ cls := "GlyphLines", name := "glyph", desc := "(I)I" } : Jvm.MethodName) prog_1_method_7_code (2 : Nat) (Option.some Jvm.ClassFile.FieldType.int)) ∈ tw_T := tw_of 657 (by decide +kernel) (by decide +kernel)
theorem w_658 : (Jvm.Cond.methodLink "GlyphLines" (84 : Nat) ({ cls := "GlyphLines", name := "requireFont", desc := "()V" } : Jvm.MethodName)) ∈ tw_T := tw_of 658 (by decide +kernel) (by decide +kernel)
theorem w_660 : (Jvm.Cond.instanceMethod ({ cls := "GlyphLines", name := "requireFont", desc := "()V" } : Jvm.MethodName)) ∈ tw_T := tw_of 660 (by decide +kernel) (by decide +kernel)
theorem w_661 : (Jvm.Cond.code ({ cls := "GlyphLines", name := "requireFont", desc := "()V" } : Jvm.MethodName) prog_1_method_15_code (1 : Nat) (Option.none : Option Jvm.ClassFile.FieldType)) ∈ tw_T := tw_of 661 (by decide +kernel) (by decide +kernel)
theorem w_662 : (Jvm.Cond.classLink "GlyphLines" (157 : Nat) "java/lang/IllegalStateException") ∈ tw_T := tw_of 662 (by decide +kernel) (by decide +kernel)
theorem w_698 : (Jvm.Cond.code ({ cls := "GlyphLines", name := "measure", desc := "(II)I" } : Jvm.MethodName) prog_1_method_8_code (3 : Nat) (Option.some Jvm.ClassFile.FieldType.int)) ∈ tw_T := tw_of 698 (by decide +kernel) (by decide +kernel)
theorem w_716 : (Jvm.Cond.code ({ cls := "GlyphLines", name := "point", desc := "(III)I" } : Jvm.MethodName) prog_1_method_9_code (4 : Nat) (Option.some Jvm.ClassFile.FieldType.int)) ∈ tw_T := tw_of 716 (by decide +kernel) (by decide +kernel)
theorem w_725 : (Jvm.Cond.code ({ cls := "GlyphLines", name := "kerning", desc := "(II)I" } : Jvm.MethodName) prog_1_method_10_code (3 : Nat) (Option.some Jvm.ClassFile.FieldType.int)) ∈ tw_T := tw_of 725 (by decide +kernel) (by decide +kernel)
theorem w_740 : (Jvm.Cond.code ({ cls := "GlyphLines", name := "paint", desc := "(I)I" } : Jvm.MethodName) prog_1_method_13_code (3 : Nat) (Option.some Jvm.ClassFile.FieldType.int)) ∈ tw_T := tw_of 740 (by decide +kernel) (by decide +kernel)
theorem w_844 : (Jvm.Cond.code ({ cls := "GlyphLines", name := "row", desc := "(I)J" } : Jvm.MethodName) prog_1_method_14_code (2 : Nat) (Option.some Jvm.ClassFile.FieldType.long)) ∈ tw_T := tw_of 844 (by decide +kernel) (by decide +kernel)
theorem w_850 : (Jvm.Cond.code ({ cls := "GlyphLinesModel", name := "<init>", desc := "()V" } : Jvm.MethodName) prog_12_method_1_code (1 : Nat) (Option.none : Option Jvm.ClassFile.FieldType)) ∈ tw_T := tw_of 850 (by decide +kernel) (by decide +kernel)
theorem w_851 : (Jvm.Cond.methodLink "GlyphLinesModel" (1 : Nat) ({ cls := "java/lang/Object", name := "<init>", desc := "()V" } : Jvm.MethodName)) ∈ tw_T := tw_of 851 (by decide +kernel) (by decide +kernel)
theorem w_854 : (Jvm.Cond.fieldLink "GlyphLinesModel" (7 : Nat) "GlyphLinesModel" "file" "[I") ∈ tw_T := tw_of 854 (by decide +kernel) (by decide +kernel)
theorem w_857 : (Jvm.Cond.fieldLink "GlyphLinesModel" (13 : Nat) "GlyphLinesModel" "bytes" "[I") ∈ tw_T := tw_of 857 (by decide +kernel) (by decide +kernel)
theorem w_858 : (Jvm.Cond.fieldLink "GlyphLinesModel" (16 : Nat) "GlyphLinesModel" "places" "[I") ∈ tw_T := tw_of 858 (by decide +kernel) (by decide +kernel)
theorem w_859 : (Jvm.Cond.fieldLink "GlyphLinesModel" (19 : Nat) "GlyphLinesModel" "lengths" "[I") ∈ tw_T := tw_of 859 (by decide +kernel) (by decide +kernel)
theorem w_860 : (Jvm.Cond.fieldLink "GlyphLinesModel" (22 : Nat) "GlyphLinesModel" "glyphCount" "[I") ∈ tw_T := tw_of 860 (by decide +kernel) (by decide +kernel)
theorem w_861 : (Jvm.Cond.fieldLink "GlyphLinesModel" (25 : Nat) "GlyphLinesModel" "ems" "[I") ∈ tw_T := tw_of 861 (by decide +kernel) (by decide +kernel)
theorem w_862 : (Jvm.Cond.fieldLink "GlyphLinesModel" (28 : Nat) "GlyphLinesModel" "wides" "[I") ∈ tw_T := tw_of 862 (by decide +kernel) (by decide +kernel)
theorem w_863 : (Jvm.Cond.fieldLink "GlyphLinesModel" (31 : Nat) "GlyphLinesModel" "forms" "[I") ∈ tw_T := tw_of 863 (by decide +kernel) (by decide +kernel)
theorem w_864 : (Jvm.Cond.fieldLink "GlyphLinesModel" (34 : Nat) "GlyphLinesModel" "parts" "[I") ∈ tw_T := tw_of 864 (by decide +kernel) (by decide +kernel)
theorem w_865 : (Jvm.Cond.fieldLink "GlyphLinesModel" (37 : Nat) "GlyphLinesModel" "charts" "[I") ∈ tw_T := tw_of 865 (by decide +kernel) (by decide +kernel)
theorem w_866 : (Jvm.Cond.fieldLink "GlyphLinesModel" (40 : Nat) "GlyphLinesModel" "pointCount" "[I") ∈ tw_T := tw_of 866 (by decide +kernel) (by decide +kernel)
theorem w_867 : (Jvm.Cond.fieldLink "GlyphLinesModel" (43 : Nat) "GlyphLinesModel" "contourCount" "[I") ∈ tw_T := tw_of 867 (by decide +kernel) (by decide +kernel)
theorem w_868 : (Jvm.Cond.fieldLink "GlyphLinesModel" (46 : Nat) "GlyphLinesModel" "depths" "[I") ∈ tw_T := tw_of 868 (by decide +kernel) (by decide +kernel)
theorem w_869 : (Jvm.Cond.fieldLink "GlyphLinesModel" (49 : Nat) "GlyphLinesModel" "xs" "[I") ∈ tw_T := tw_of 869 (by decide +kernel) (by decide +kernel)
theorem w_870 : (Jvm.Cond.fieldLink "GlyphLinesModel" (52 : Nat) "GlyphLinesModel" "ys" "[I") ∈ tw_T := tw_of 870 (by decide +kernel) (by decide +kernel)
theorem w_871 : (Jvm.Cond.fieldLink "GlyphLinesModel" (55 : Nat) "GlyphLinesModel" "ons" "[I") ∈ tw_T := tw_of 871 (by decide +kernel) (by decide +kernel)
theorem w_872 : (Jvm.Cond.fieldLink "GlyphLinesModel" (58 : Nat) "GlyphLinesModel" "contours" "[I") ∈ tw_T := tw_of 872 (by decide +kernel) (by decide +kernel)
theorem w_876 : (Jvm.Cond.fieldLink "GlyphLinesModel" (61 : Nat) "GlyphLinesModel" "flags" "[I") ∈ tw_T := tw_of 876 (by decide +kernel) (by decide +kernel)
theorem w_877 : (Jvm.Cond.fieldLink "GlyphLinesModel" (64 : Nat) "GlyphLinesModel" "part" "[I") ∈ tw_T := tw_of 877 (by decide +kernel) (by decide +kernel)
theorem w_879 : (Jvm.Cond.fieldLink "GlyphLinesModel" (67 : Nat) "GlyphLinesModel" "text" "[I") ∈ tw_T := tw_of 879 (by decide +kernel) (by decide +kernel)
theorem w_881 : (Jvm.Cond.fieldLink "GlyphLinesModel" (70 : Nat) "GlyphLinesModel" "ringX" "[I") ∈ tw_T := tw_of 881 (by decide +kernel) (by decide +kernel)
theorem w_882 : (Jvm.Cond.fieldLink "GlyphLinesModel" (73 : Nat) "GlyphLinesModel" "ringY" "[I") ∈ tw_T := tw_of 882 (by decide +kernel) (by decide +kernel)
theorem w_883 : (Jvm.Cond.fieldLink "GlyphLinesModel" (76 : Nat) "GlyphLinesModel" "ringOn" "[Z") ∈ tw_T := tw_of 883 (by decide +kernel) (by decide +kernel)
theorem w_885 : (Jvm.Cond.fieldLink "GlyphLinesModel" (80 : Nat) "GlyphLinesModel" "curves" "[I") ∈ tw_T := tw_of 885 (by decide +kernel) (by decide +kernel)
theorem w_886 : (Jvm.Cond.fieldLink "GlyphLinesModel" (83 : Nat) "GlyphLinesModel" "windings" "[I") ∈ tw_T := tw_of 886 (by decide +kernel) (by decide +kernel)
theorem w_887 : (Jvm.Cond.fieldLink "GlyphLinesModel" (86 : Nat) "GlyphLinesModel" "rows" "[J") ∈ tw_T := tw_of 887 (by decide +kernel) (by decide +kernel)
theorem w_888 : (Jvm.Cond.lays "GlyphLinesModel" "GlyphLinesModel" "fault" "I") ∈ tw_T := tw_of 888 (by decide +kernel) (by decide +kernel)
theorem w_890 : (Jvm.Cond.lays "GlyphLinesModel" "GlyphLinesModel" "size" "I") ∈ tw_T := tw_of 890 (by decide +kernel) (by decide +kernel)
theorem w_892 : (Jvm.Cond.laysFinal "GlyphLinesModel" "GlyphLinesModel" "file" "[I") ∈ tw_T := tw_of 892 (by decide +kernel) (by decide +kernel)
theorem w_894 : (Jvm.Cond.lays "GlyphLinesModel" "GlyphLinesModel" "side" "I") ∈ tw_T := tw_of 894 (by decide +kernel) (by decide +kernel)
theorem w_896 : (Jvm.Cond.lays "GlyphLinesModel" "GlyphLinesModel" "isFont" "Z") ∈ tw_T := tw_of 896 (by decide +kernel) (by decide +kernel)
theorem w_898 : (Jvm.Cond.laysFinal "GlyphLinesModel" "GlyphLinesModel" "bytes" "[I") ∈ tw_T := tw_of 898 (by decide +kernel) (by decide +kernel)
theorem w_900 : (Jvm.Cond.laysFinal "GlyphLinesModel" "GlyphLinesModel" "places" "[I") ∈ tw_T := tw_of 900 (by decide +kernel) (by decide +kernel)
theorem w_902 : (Jvm.Cond.laysFinal "GlyphLinesModel" "GlyphLinesModel" "lengths" "[I") ∈ tw_T := tw_of 902 (by decide +kernel) (by decide +kernel)
theorem w_904 : (Jvm.Cond.laysFinal "GlyphLinesModel" "GlyphLinesModel" "glyphCount" "[I") ∈ tw_T := tw_of 904 (by decide +kernel) (by decide +kernel)
theorem w_906 : (Jvm.Cond.laysFinal "GlyphLinesModel" "GlyphLinesModel" "ems" "[I") ∈ tw_T := tw_of 906 (by decide +kernel) (by decide +kernel)
theorem w_908 : (Jvm.Cond.laysFinal "GlyphLinesModel" "GlyphLinesModel" "wides" "[I") ∈ tw_T := tw_of 908 (by decide +kernel) (by decide +kernel)
theorem w_910 : (Jvm.Cond.laysFinal "GlyphLinesModel" "GlyphLinesModel" "forms" "[I") ∈ tw_T := tw_of 910 (by decide +kernel) (by decide +kernel)
theorem w_912 : (Jvm.Cond.laysFinal "GlyphLinesModel" "GlyphLinesModel" "parts" "[I") ∈ tw_T := tw_of 912 (by decide +kernel) (by decide +kernel)
theorem w_914 : (Jvm.Cond.laysFinal "GlyphLinesModel" "GlyphLinesModel" "charts" "[I") ∈ tw_T := tw_of 914 (by decide +kernel) (by decide +kernel)
theorem w_916 : (Jvm.Cond.laysFinal "GlyphLinesModel" "GlyphLinesModel" "pointCount" "[I") ∈ tw_T := tw_of 916 (by decide +kernel) (by decide +kernel)
theorem w_918 : (Jvm.Cond.laysFinal "GlyphLinesModel" "GlyphLinesModel" "contourCount" "[I") ∈ tw_T := tw_of 918 (by decide +kernel) (by decide +kernel)
theorem w_920 : (Jvm.Cond.laysFinal "GlyphLinesModel" "GlyphLinesModel" "depths" "[I") ∈ tw_T := tw_of 920 (by decide +kernel) (by decide +kernel)
theorem w_922 : (Jvm.Cond.laysFinal "GlyphLinesModel" "GlyphLinesModel" "xs" "[I") ∈ tw_T := tw_of 922 (by decide +kernel) (by decide +kernel)
theorem w_924 : (Jvm.Cond.laysFinal "GlyphLinesModel" "GlyphLinesModel" "ys" "[I") ∈ tw_T := tw_of 924 (by decide +kernel) (by decide +kernel)
theorem w_926 : (Jvm.Cond.laysFinal "GlyphLinesModel" "GlyphLinesModel" "ons" "[I") ∈ tw_T := tw_of 926 (by decide +kernel) (by decide +kernel)
theorem w_928 : (Jvm.Cond.laysFinal "GlyphLinesModel" "GlyphLinesModel" "contours" "[I") ∈ tw_T := tw_of 928 (by decide +kernel) (by decide +kernel)
theorem w_930 : (Jvm.Cond.lays "GlyphLinesModel" "GlyphLinesModel" "bad" "Z") ∈ tw_T := tw_of 930 (by decide +kernel) (by decide +kernel)
theorem w_932 : (Jvm.Cond.lays "GlyphLinesModel" "GlyphLinesModel" "at" "I") ∈ tw_T := tw_of 932 (by decide +kernel) (by decide +kernel)
theorem w_934 : (Jvm.Cond.lays "GlyphLinesModel" "GlyphLinesModel" "end" "I") ∈ tw_T := tw_of 934 (by decide +kernel) (by decide +kernel)
theorem w_936 : (Jvm.Cond.laysFinal "GlyphLinesModel" "GlyphLinesModel" "flags" "[I") ∈ tw_T := tw_of 936 (by decide +kernel) (by decide +kernel)
theorem w_938 : (Jvm.Cond.laysFinal "GlyphLinesModel" "GlyphLinesModel" "part" "[I") ∈ tw_T := tw_of 938 (by decide +kernel) (by decide +kernel)
theorem w_940 : (Jvm.Cond.lays "GlyphLinesModel" "GlyphLinesModel" "typed" "I") ∈ tw_T := tw_of 940 (by decide +kernel) (by decide +kernel)
theorem w_942 : (Jvm.Cond.laysFinal "GlyphLinesModel" "GlyphLinesModel" "text" "[I") ∈ tw_T := tw_of 942 (by decide +kernel) (by decide +kernel)
theorem w_944 : (Jvm.Cond.lays "GlyphLinesModel" "GlyphLinesModel" "ring" "I") ∈ tw_T := tw_of 944 (by decide +kernel) (by decide +kernel)
theorem w_946 : (Jvm.Cond.laysFinal "GlyphLinesModel" "GlyphLinesModel" "ringX" "[I") ∈ tw_T := tw_of 946 (by decide +kernel) (by decide +kernel)
theorem w_948 : (Jvm.Cond.laysFinal "GlyphLinesModel" "GlyphLinesModel" "ringY" "[I") ∈ tw_T := tw_of 948 (by decide +kernel) (by decide +kernel)
theorem w_950 : (Jvm.Cond.laysFinal "GlyphLinesModel" "GlyphLinesModel" "ringOn" "[Z") ∈ tw_T := tw_of 950 (by decide +kernel) (by decide +kernel)
theorem w_952 : (Jvm.Cond.lays "GlyphLinesModel" "GlyphLinesModel" "waiting" "I") ∈ tw_T := tw_of 952 (by decide +kernel) (by decide +kernel)
theorem w_954 : (Jvm.Cond.laysFinal "GlyphLinesModel" "GlyphLinesModel" "curves" "[I") ∈ tw_T := tw_of 954 (by decide +kernel) (by decide +kernel)
theorem w_956 : (Jvm.Cond.laysFinal "GlyphLinesModel" "GlyphLinesModel" "windings" "[I") ∈ tw_T := tw_of 956 (by decide +kernel) (by decide +kernel)
theorem w_958 : (Jvm.Cond.laysFinal "GlyphLinesModel" "GlyphLinesModel" "rows" "[J") ∈ tw_T := tw_of 958 (by decide +kernel) (by decide +kernel)
theorem wp_22 : Cond.selects "GlyphLines" ({ cls := "GlyphLines", name := "requireFont", desc := "()V" } : Jvm.MethodName) ({ cls := "GlyphLines", name := "requireFont", desc := "()V" } : Jvm.MethodName) ∈ tw_T := tw_priv 22 (({ cls := "GlyphLines", name := "requireFont", desc := "()V" } : Jvm.MethodName), 10) (by decide +kernel) (by decide +kernel)
theorem k_SP : ∀ k, k < 4 → u_lay R_SP F_SP k ∈ tw_T := fun k hk => match k, hk with
  | 0, _ => w_59
  | 1, _ => w_61
  | 2, _ => w_63
  | 3, _ => w_65
  | n + 4, h => absurd h (by omega)
theorem in_SP {c1 : Cond} : ∀ w ∈ u_ws R_SP F_SP 4, w ∈ c1 :: tw_T := fun w hw => by
  obtain ⟨k, hk, rfl⟩ := List.mem_map.mp hw
  exact List.mem_cons_of_mem _ (k_SP k (List.mem_range.mp hk))
theorem inl_SP : ∀ w ∈ u_ws R_SP F_SP 4, w ∈ lw_tbl := fun w hw => by
  obtain ⟨k, hk, rfl⟩ := List.mem_map.mp hw
  exact tw_sub (k_SP k (List.mem_range.mp hk))
theorem k_CM : ∀ k, k < 3 → u_lay R_CM F_CM k ∈ tw_T := fun k hk => match k, hk with
  | 0, _ => w_93
  | 1, _ => w_95
  | 2, _ => w_97
  | n + 3, h => absurd h (by omega)
theorem in_CM {c1 : Cond} : ∀ w ∈ u_ws R_CM F_CM 3, w ∈ c1 :: tw_T := fun w hw => by
  obtain ⟨k, hk, rfl⟩ := List.mem_map.mp hw
  exact List.mem_cons_of_mem _ (k_CM k (List.mem_range.mp hk))
theorem inl_CM : ∀ w ∈ u_ws R_CM F_CM 3, w ∈ lw_tbl := fun w hw => by
  obtain ⟨k, hk, rfl⟩ := List.mem_map.mp hw
  exact tw_sub (k_CM k (List.mem_range.mp hk))
theorem k_DI : ∀ k, k < 3 → u_lay R_DI F_DI k ∈ tw_T := fun k hk => match k, hk with
  | 0, _ => w_72
  | 1, _ => w_74
  | 2, _ => w_76
  | n + 3, h => absurd h (by omega)
theorem in_DI {c1 : Cond} : ∀ w ∈ u_ws R_DI F_DI 3, w ∈ c1 :: tw_T := fun w hw => by
  obtain ⟨k, hk, rfl⟩ := List.mem_map.mp hw
  exact List.mem_cons_of_mem _ (k_DI k (List.mem_range.mp hk))
theorem inl_DI : ∀ w ∈ u_ws R_DI F_DI 3, w ∈ lw_tbl := fun w hw => by
  obtain ⟨k, hk, rfl⟩ := List.mem_map.mp hw
  exact tw_sub (k_DI k (List.mem_range.mp hk))
theorem k_PA : ∀ k, k < 2 → u_lay R_PA F_PA k ∈ tw_T := fun k hk => match k, hk with
  | 0, _ => w_111
  | 1, _ => w_113
  | n + 2, h => absurd h (by omega)
theorem in_PA {c1 : Cond} : ∀ w ∈ u_ws R_PA F_PA 2, w ∈ c1 :: tw_T := fun w hw => by
  obtain ⟨k, hk, rfl⟩ := List.mem_map.mp hw
  exact List.mem_cons_of_mem _ (k_PA k (List.mem_range.mp hk))
theorem inl_PA : ∀ w ∈ u_ws R_PA F_PA 2, w ∈ lw_tbl := fun w hw => by
  obtain ⟨k, hk, rfl⟩ := List.mem_map.mp hw
  exact tw_sub (k_PA k (List.mem_range.mp hk))
theorem k_FO : ∀ k, k < 15 → u_lay R_FO F_FO k ∈ tw_T := fun k hk => match k, hk with
  | 0, _ => w_135
  | 1, _ => w_137
  | 2, _ => w_139
  | 3, _ => w_141
  | 4, _ => w_143
  | 5, _ => w_145
  | 6, _ => w_147
  | 7, _ => w_149
  | 8, _ => w_151
  | 9, _ => w_153
  | 10, _ => w_155
  | 11, _ => w_157
  | 12, _ => w_159
  | 13, _ => w_161
  | 14, _ => w_163
  | n + 15, h => absurd h (by omega)
theorem in_FO {c1 : Cond} : ∀ w ∈ u_ws R_FO F_FO 15, w ∈ c1 :: tw_T := fun w hw => by
  obtain ⟨k, hk, rfl⟩ := List.mem_map.mp hw
  exact List.mem_cons_of_mem _ (k_FO k (List.mem_range.mp hk))
theorem inl_FO : ∀ w ∈ u_ws R_FO F_FO 15, w ∈ lw_tbl := fun w hw => by
  obtain ⟨k, hk, rfl⟩ := List.mem_map.mp hw
  exact tw_sub (k_FO k (List.mem_range.mp hk))
theorem k_MO : ∀ k, k < 6 → u_lay R_MO F_MO k ∈ tw_T := fun k hk => match k, hk with
  | 0, _ => w_184
  | 1, _ => w_186
  | 2, _ => w_188
  | 3, _ => w_190
  | 4, _ => w_192
  | 5, _ => w_194
  | n + 6, h => absurd h (by omega)
theorem in_MO {c1 : Cond} : ∀ w ∈ u_ws R_MO F_MO 6, w ∈ c1 :: tw_T := fun w hw => by
  obtain ⟨k, hk, rfl⟩ := List.mem_map.mp hw
  exact List.mem_cons_of_mem _ (k_MO k (List.mem_range.mp hk))
theorem inl_MO : ∀ w ∈ u_ws R_MO F_MO 6, w ∈ lw_tbl := fun w hw => by
  obtain ⟨k, hk, rfl⟩ := List.mem_map.mp hw
  exact tw_sub (k_MO k (List.mem_range.mp hk))
theorem k_OU : ∀ k, k < 8 → u_lay R_OU F_OU k ∈ tw_T := fun k hk => match k, hk with
  | 0, _ => w_217
  | 1, _ => w_219
  | 2, _ => w_221
  | 3, _ => w_223
  | 4, _ => w_225
  | 5, _ => w_227
  | 6, _ => w_229
  | 7, _ => w_231
  | n + 8, h => absurd h (by omega)
theorem in_OU {c1 : Cond} : ∀ w ∈ u_ws R_OU F_OU 8, w ∈ c1 :: tw_T := fun w hw => by
  obtain ⟨k, hk, rfl⟩ := List.mem_map.mp hw
  exact List.mem_cons_of_mem _ (k_OU k (List.mem_range.mp hk))
theorem inl_OU : ∀ w ∈ u_ws R_OU F_OU 8, w ∈ lw_tbl := fun w hw => by
  obtain ⟨k, hk, rfl⟩ := List.mem_map.mp hw
  exact tw_sub (k_OU k (List.mem_range.mp hk))
theorem k_PI : ∀ k, k < 2 → u_lay R_PI F_PI k ∈ tw_T := fun k hk => match k, hk with
  | 0, _ => w_243
  | 1, _ => w_245
  | n + 2, h => absurd h (by omega)
theorem in_PI {c1 : Cond} : ∀ w ∈ u_ws R_PI F_PI 2, w ∈ c1 :: tw_T := fun w hw => by
  obtain ⟨k, hk, rfl⟩ := List.mem_map.mp hw
  exact List.mem_cons_of_mem _ (k_PI k (List.mem_range.mp hk))
theorem inl_PI : ∀ w ∈ u_ws R_PI F_PI 2, w ∈ lw_tbl := fun w hw => by
  obtain ⟨k, hk, rfl⟩ := List.mem_map.mp hw
  exact tw_sub (k_PI k (List.mem_range.mp hk))
theorem k_BR : ∀ k, k < 10 → u_lay R_BR F_BR k ∈ tw_T := fun k hk => match k, hk with
  | 0, _ => w_266
  | 1, _ => w_268
  | 2, _ => w_270
  | 3, _ => w_272
  | 4, _ => w_274
  | 5, _ => w_276
  | 6, _ => w_278
  | 7, _ => w_280
  | 8, _ => w_282
  | 9, _ => w_284
  | n + 10, h => absurd h (by omega)
theorem in_BR {c1 : Cond} : ∀ w ∈ u_ws R_BR F_BR 10, w ∈ c1 :: tw_T := fun w hw => by
  obtain ⟨k, hk, rfl⟩ := List.mem_map.mp hw
  exact List.mem_cons_of_mem _ (k_BR k (List.mem_range.mp hk))
theorem inl_BR : ∀ w ∈ u_ws R_BR F_BR 10, w ∈ lw_tbl := fun w hw => by
  obtain ⟨k, hk, rfl⟩ := List.mem_map.mp hw
  exact tw_sub (k_BR k (List.mem_range.mp hk))
theorem k_GL : ∀ k, k < 10 → u_lay R_GL F_GL k ∈ tw_T := fun k hk => match k, hk with
  | 0, _ => w_297
  | 1, _ => w_299
  | 2, _ => w_301
  | 3, _ => w_303
  | 4, _ => w_305
  | 5, _ => w_307
  | 6, _ => w_309
  | 7, _ => w_311
  | 8, _ => w_313
  | 9, _ => w_315
  | n + 10, h => absurd h (by omega)
theorem in_GL {c1 : Cond} : ∀ w ∈ u_ws R_GL F_GL 10, w ∈ c1 :: tw_T := fun w hw => by
  obtain ⟨k, hk, rfl⟩ := List.mem_map.mp hw
  exact List.mem_cons_of_mem _ (k_GL k (List.mem_range.mp hk))
theorem inl_GL : ∀ w ∈ u_ws R_GL F_GL 10, w ∈ lw_tbl := fun w hw => by
  obtain ⟨k, hk, rfl⟩ := List.mem_map.mp hw
  exact tw_sub (k_GL k (List.mem_range.mp hk))
theorem k_MD : ∀ k, k < 36 → u_lay R_MD F_MD k ∈ tw_T := fun k hk => match k, hk with
  | 0, _ => w_888
  | 1, _ => w_890
  | 2, _ => w_892
  | 3, _ => w_894
  | 4, _ => w_896
  | 5, _ => w_898
  | 6, _ => w_900
  | 7, _ => w_902
  | 8, _ => w_904
  | 9, _ => w_906
  | 10, _ => w_908
  | 11, _ => w_910
  | 12, _ => w_912
  | 13, _ => w_914
  | 14, _ => w_916
  | 15, _ => w_918
  | 16, _ => w_920
  | 17, _ => w_922
  | 18, _ => w_924
  | 19, _ => w_926
  | 20, _ => w_928
  | 21, _ => w_930
  | 22, _ => w_932
  | 23, _ => w_934
  | 24, _ => w_936
  | 25, _ => w_938
  | 26, _ => w_940
  | 27, _ => w_942
  | 28, _ => w_944
  | 29, _ => w_946
  | 30, _ => w_948
  | 31, _ => w_950
  | 32, _ => w_952
  | 33, _ => w_954
  | 34, _ => w_956
  | 35, _ => w_958
  | n + 36, h => absurd h (by omega)
theorem in_MD {c1 : Cond} : ∀ w ∈ u_ws R_MD F_MD 36, w ∈ c1 :: tw_T := fun w hw => by
  obtain ⟨k, hk, rfl⟩ := List.mem_map.mp hw
  exact List.mem_cons_of_mem _ (k_MD k (List.mem_range.mp hk))
theorem inl_MD : ∀ w ∈ u_ws R_MD F_MD 36, w ∈ lw_tbl := fun w hw => by
  obtain ⟨k, hk, rfl⟩ := List.mem_map.mp hw
  exact tw_sub (k_MD k (List.mem_range.mp hk))
theorem d_SP_init_0 : decode b_SP_init 0 = .ok (.aload_n 0, 1) := by decide +kernel
theorem d_SP_init_1 : decode b_SP_init 1 = .ok (.invokespecial 1, 3) := by decide +kernel
theorem d_SP_init_4 : decode b_SP_init 4 = .ok (.aload_n 0, 1) := by decide +kernel
theorem d_SP_init_5 : decode b_SP_init 5 = .ok (.iconst 0, 1) := by decide +kernel
theorem d_SP_init_6 : decode b_SP_init 6 = .ok (.putfield 7, 3) := by decide +kernel
theorem d_SP_init_9 : decode b_SP_init 9 = .ok (.aload_n 0, 1) := by decide +kernel
theorem d_SP_init_10 : decode b_SP_init 10 = .ok (.iconst 0, 1) := by decide +kernel
theorem d_SP_init_11 : decode b_SP_init 11 = .ok (.putfield 13, 3) := by decide +kernel
theorem d_SP_init_14 : decode b_SP_init 14 = .ok (.aload_n 0, 1) := by decide +kernel
theorem d_SP_init_15 : decode b_SP_init 15 = .ok (.iconst 0, 1) := by decide +kernel
theorem d_SP_init_16 : decode b_SP_init 16 = .ok (.putfield 16, 3) := by decide +kernel
theorem d_SP_init_19 : decode b_SP_init 19 = .ok (.aload_n 0, 1) := by decide +kernel
theorem d_SP_init_20 : decode b_SP_init 20 = .ok (.aload_n 1, 1) := by decide +kernel
theorem d_SP_init_21 : decode b_SP_init 21 = .ok (.putfield 20, 3) := by decide +kernel
theorem d_SP_init_24 : decode b_SP_init 24 = .ok (.return_, 1) := by decide +kernel
theorem d_CM_init_0 : decode b_CM_init 0 = .ok (.aload_n 0, 1) := by decide +kernel
theorem d_CM_init_1 : decode b_CM_init 1 = .ok (.invokespecial 3, 3) := by decide +kernel
theorem d_CM_init_4 : decode b_CM_init 4 = .ok (.aload_n 0, 1) := by decide +kernel
theorem d_CM_init_5 : decode b_CM_init 5 = .ok (.iconst 0, 1) := by decide +kernel
theorem d_CM_init_6 : decode b_CM_init 6 = .ok (.putfield 9, 3) := by decide +kernel
theorem d_CM_init_9 : decode b_CM_init 9 = .ok (.aload_n 0, 1) := by decide +kernel
theorem d_CM_init_10 : decode b_CM_init 10 = .ok (.iconst 0, 1) := by decide +kernel
theorem d_CM_init_11 : decode b_CM_init 11 = .ok (.putfield 15, 3) := by decide +kernel
theorem d_CM_init_14 : decode b_CM_init 14 = .ok (.aload_n 0, 1) := by decide +kernel
theorem d_CM_init_15 : decode b_CM_init 15 = .ok (.new 18, 3) := by decide +kernel
theorem d_CM_init_18 : decode b_CM_init 18 = .ok (.dup, 1) := by decide +kernel
theorem d_CM_init_19 : decode b_CM_init 19 = .ok (.aload_n 1, 1) := by decide +kernel
theorem d_CM_init_20 : decode b_CM_init 20 = .ok (.invokespecial 20, 3) := by decide +kernel
theorem d_CM_init_23 : decode b_CM_init 23 = .ok (.putfield 23, 3) := by decide +kernel
theorem d_CM_init_26 : decode b_CM_init 26 = .ok (.return_, 1) := by decide +kernel
theorem d_PA_init_0 : decode b_PA_init 0 = .ok (.aload_n 0, 1) := by decide +kernel
theorem d_PA_init_1 : decode b_PA_init 1 = .ok (.invokespecial 1, 3) := by decide +kernel
theorem d_PA_init_4 : decode b_PA_init 4 = .ok (.aload_n 0, 1) := by decide +kernel
theorem d_PA_init_5 : decode b_PA_init 5 = .ok (.iconst 0, 1) := by decide +kernel
theorem d_PA_init_6 : decode b_PA_init 6 = .ok (.putfield 7, 3) := by decide +kernel
theorem d_PA_init_9 : decode b_PA_init 9 = .ok (.aload_n 0, 1) := by decide +kernel
theorem d_PA_init_10 : decode b_PA_init 10 = .ok (.new 13, 3) := by decide +kernel
theorem d_PA_init_13 : decode b_PA_init 13 = .ok (.dup, 1) := by decide +kernel
theorem d_PA_init_14 : decode b_PA_init 14 = .ok (.aload_n 1, 1) := by decide +kernel
theorem d_PA_init_15 : decode b_PA_init 15 = .ok (.invokespecial 15, 3) := by decide +kernel
theorem d_PA_init_18 : decode b_PA_init 18 = .ok (.putfield 18, 3) := by decide +kernel
theorem d_PA_init_21 : decode b_PA_init 21 = .ok (.return_, 1) := by decide +kernel
theorem d_DI_init_0 : decode b_DI_init 0 = .ok (.aload_n 0, 1) := by decide +kernel
theorem d_DI_init_1 : decode b_DI_init 1 = .ok (.invokespecial 1, 3) := by decide +kernel
theorem d_DI_init_4 : decode b_DI_init 4 = .ok (.aload_n 0, 1) := by decide +kernel
theorem d_DI_init_5 : decode b_DI_init 5 = .ok (.iconst 0, 1) := by decide +kernel
theorem d_DI_init_6 : decode b_DI_init 6 = .ok (.putfield 7, 3) := by decide +kernel
theorem d_DI_init_9 : decode b_DI_init 9 = .ok (.aload_n 0, 1) := by decide +kernel
theorem d_DI_init_10 : decode b_DI_init 10 = .ok (.new 13, 3) := by decide +kernel
theorem d_DI_init_13 : decode b_DI_init 13 = .ok (.dup, 1) := by decide +kernel
theorem d_DI_init_14 : decode b_DI_init 14 = .ok (.aload_n 1, 1) := by decide +kernel
theorem d_DI_init_15 : decode b_DI_init 15 = .ok (.invokespecial 15, 3) := by decide +kernel
theorem d_DI_init_18 : decode b_DI_init 18 = .ok (.putfield 18, 3) := by decide +kernel
theorem d_DI_init_21 : decode b_DI_init 21 = .ok (.aload_n 0, 1) := by decide +kernel
theorem d_DI_init_22 : decode b_DI_init 22 = .ok (.new 13, 3) := by decide +kernel
theorem d_DI_init_25 : decode b_DI_init 25 = .ok (.dup, 1) := by decide +kernel
theorem d_DI_init_26 : decode b_DI_init 26 = .ok (.aload_n 1, 1) := by decide +kernel
theorem d_DI_init_27 : decode b_DI_init 27 = .ok (.invokespecial 15, 3) := by decide +kernel
theorem d_DI_init_30 : decode b_DI_init 30 = .ok (.putfield 22, 3) := by decide +kernel
theorem d_DI_init_33 : decode b_DI_init 33 = .ok (.return_, 1) := by decide +kernel
theorem d_FO_init_0 : decode b_FO_init 0 = .ok (.aload_n 0, 1) := by decide +kernel
theorem d_FO_init_1 : decode b_FO_init 1 = .ok (.invokespecial 3, 3) := by decide +kernel
theorem d_FO_init_4 : decode b_FO_init 4 = .ok (.aload_n 0, 1) := by decide +kernel
theorem d_FO_init_5 : decode b_FO_init 5 = .ok (.sipush 1200, 3) := by decide +kernel
theorem d_FO_init_8 : decode b_FO_init 8 = .ok (.newarray .int, 2) := by decide +kernel
theorem d_FO_init_10 : decode b_FO_init 10 = .ok (.putfield 9, 3) := by decide +kernel
theorem d_FO_init_13 : decode b_FO_init 13 = .ok (.aload_n 0, 1) := by decide +kernel
theorem d_FO_init_14 : decode b_FO_init 14 = .ok (.new 15, 3) := by decide +kernel
theorem d_FO_init_17 : decode b_FO_init 17 = .ok (.dup, 1) := by decide +kernel
theorem d_FO_init_18 : decode b_FO_init 18 = .ok (.aload_n 0, 1) := by decide +kernel
theorem d_FO_init_19 : decode b_FO_init 19 = .ok (.getfield 9, 3) := by decide +kernel
theorem d_FO_init_22 : decode b_FO_init 22 = .ok (.invokespecial 17, 3) := by decide +kernel
theorem d_FO_init_25 : decode b_FO_init 25 = .ok (.putfield 20, 3) := by decide +kernel
theorem d_FO_init_28 : decode b_FO_init 28 = .ok (.aload_n 0, 1) := by decide +kernel
theorem d_FO_init_29 : decode b_FO_init 29 = .ok (.new 24, 3) := by decide +kernel
theorem d_FO_init_32 : decode b_FO_init 32 = .ok (.dup, 1) := by decide +kernel
theorem d_FO_init_33 : decode b_FO_init 33 = .ok (.aload_n 0, 1) := by decide +kernel
theorem d_FO_init_34 : decode b_FO_init 34 = .ok (.getfield 9, 3) := by decide +kernel
theorem d_FO_init_37 : decode b_FO_init 37 = .ok (.invokespecial 26, 3) := by decide +kernel
theorem d_FO_init_40 : decode b_FO_init 40 = .ok (.putfield 27, 3) := by decide +kernel
theorem d_FO_init_43 : decode b_FO_init 43 = .ok (.aload_n 0, 1) := by decide +kernel
theorem d_FO_init_44 : decode b_FO_init 44 = .ok (.new 24, 3) := by decide +kernel
theorem d_FO_init_47 : decode b_FO_init 47 = .ok (.dup, 1) := by decide +kernel
theorem d_FO_init_48 : decode b_FO_init 48 = .ok (.aload_n 0, 1) := by decide +kernel
theorem d_FO_init_49 : decode b_FO_init 49 = .ok (.getfield 9, 3) := by decide +kernel
theorem d_FO_init_52 : decode b_FO_init 52 = .ok (.invokespecial 26, 3) := by decide +kernel
theorem d_FO_init_55 : decode b_FO_init 55 = .ok (.putfield 31, 3) := by decide +kernel
theorem d_FO_init_58 : decode b_FO_init 58 = .ok (.aload_n 0, 1) := by decide +kernel
theorem d_FO_init_59 : decode b_FO_init 59 = .ok (.new 24, 3) := by decide +kernel
theorem d_FO_init_62 : decode b_FO_init 62 = .ok (.dup, 1) := by decide +kernel
theorem d_FO_init_63 : decode b_FO_init 63 = .ok (.aload_n 0, 1) := by decide +kernel
theorem d_FO_init_64 : decode b_FO_init 64 = .ok (.getfield 9, 3) := by decide +kernel
theorem d_FO_init_67 : decode b_FO_init 67 = .ok (.invokespecial 26, 3) := by decide +kernel
theorem d_FO_init_70 : decode b_FO_init 70 = .ok (.putfield 34, 3) := by decide +kernel
theorem d_FO_init_73 : decode b_FO_init 73 = .ok (.aload_n 0, 1) := by decide +kernel
theorem d_FO_init_74 : decode b_FO_init 74 = .ok (.new 24, 3) := by decide +kernel
theorem d_FO_init_77 : decode b_FO_init 77 = .ok (.dup, 1) := by decide +kernel
theorem d_FO_init_78 : decode b_FO_init 78 = .ok (.aload_n 0, 1) := by decide +kernel
theorem d_FO_init_79 : decode b_FO_init 79 = .ok (.getfield 9, 3) := by decide +kernel
theorem d_FO_init_82 : decode b_FO_init 82 = .ok (.invokespecial 26, 3) := by decide +kernel
theorem d_FO_init_85 : decode b_FO_init 85 = .ok (.putfield 37, 3) := by decide +kernel
theorem d_FO_init_88 : decode b_FO_init 88 = .ok (.aload_n 0, 1) := by decide +kernel
theorem d_FO_init_89 : decode b_FO_init 89 = .ok (.new 24, 3) := by decide +kernel
theorem d_FO_init_92 : decode b_FO_init 92 = .ok (.dup, 1) := by decide +kernel
theorem d_FO_init_93 : decode b_FO_init 93 = .ok (.aload_n 0, 1) := by decide +kernel
theorem d_FO_init_94 : decode b_FO_init 94 = .ok (.getfield 9, 3) := by decide +kernel
theorem d_FO_init_97 : decode b_FO_init 97 = .ok (.invokespecial 26, 3) := by decide +kernel
theorem d_FO_init_100 : decode b_FO_init 100 = .ok (.putfield 40, 3) := by decide +kernel
theorem d_FO_init_103 : decode b_FO_init 103 = .ok (.aload_n 0, 1) := by decide +kernel
theorem d_FO_init_104 : decode b_FO_init 104 = .ok (.new 24, 3) := by decide +kernel
theorem d_FO_init_107 : decode b_FO_init 107 = .ok (.dup, 1) := by decide +kernel
theorem d_FO_init_108 : decode b_FO_init 108 = .ok (.aload_n 0, 1) := by decide +kernel
theorem d_FO_init_109 : decode b_FO_init 109 = .ok (.getfield 9, 3) := by decide +kernel
theorem d_FO_init_112 : decode b_FO_init 112 = .ok (.invokespecial 26, 3) := by decide +kernel
theorem d_FO_init_115 : decode b_FO_init 115 = .ok (.putfield 43, 3) := by decide +kernel
theorem d_FO_init_118 : decode b_FO_init 118 = .ok (.aload_n 0, 1) := by decide +kernel
theorem d_FO_init_119 : decode b_FO_init 119 = .ok (.new 46, 3) := by decide +kernel
theorem d_FO_init_122 : decode b_FO_init 122 = .ok (.dup, 1) := by decide +kernel
theorem d_FO_init_123 : decode b_FO_init 123 = .ok (.aload_n 0, 1) := by decide +kernel
theorem d_FO_init_124 : decode b_FO_init 124 = .ok (.getfield 9, 3) := by decide +kernel
theorem d_FO_init_127 : decode b_FO_init 127 = .ok (.invokespecial 48, 3) := by decide +kernel
theorem d_FO_init_130 : decode b_FO_init 130 = .ok (.putfield 49, 3) := by decide +kernel
theorem d_FO_init_133 : decode b_FO_init 133 = .ok (.aload_n 0, 1) := by decide +kernel
theorem d_FO_init_134 : decode b_FO_init 134 = .ok (.new 53, 3) := by decide +kernel
theorem d_FO_init_137 : decode b_FO_init 137 = .ok (.dup, 1) := by decide +kernel
theorem d_FO_init_138 : decode b_FO_init 138 = .ok (.aload_n 0, 1) := by decide +kernel
theorem d_FO_init_139 : decode b_FO_init 139 = .ok (.getfield 9, 3) := by decide +kernel
theorem d_FO_init_142 : decode b_FO_init 142 = .ok (.invokespecial 55, 3) := by decide +kernel
theorem d_FO_init_145 : decode b_FO_init 145 = .ok (.putfield 56, 3) := by decide +kernel
theorem d_FO_init_148 : decode b_FO_init 148 = .ok (.aload_n 0, 1) := by decide +kernel
theorem d_FO_init_149 : decode b_FO_init 149 = .ok (.iconst 3, 1) := by decide +kernel
theorem d_FO_init_150 : decode b_FO_init 150 = .ok (.anewarray 24, 3) := by decide +kernel
theorem d_FO_init_153 : decode b_FO_init 153 = .ok (.dup, 1) := by decide +kernel
theorem d_FO_init_154 : decode b_FO_init 154 = .ok (.iconst 0, 1) := by decide +kernel
theorem d_FO_init_155 : decode b_FO_init 155 = .ok (.new 24, 3) := by decide +kernel
theorem d_FO_init_158 : decode b_FO_init 158 = .ok (.dup, 1) := by decide +kernel
theorem d_FO_init_159 : decode b_FO_init 159 = .ok (.aload_n 0, 1) := by decide +kernel
theorem d_FO_init_160 : decode b_FO_init 160 = .ok (.getfield 9, 3) := by decide +kernel
theorem d_FO_init_163 : decode b_FO_init 163 = .ok (.invokespecial 26, 3) := by decide +kernel
theorem d_FO_init_166 : decode b_FO_init 166 = .ok (.aastore, 1) := by decide +kernel
theorem d_FO_init_167 : decode b_FO_init 167 = .ok (.dup, 1) := by decide +kernel
theorem d_FO_init_168 : decode b_FO_init 168 = .ok (.iconst 1, 1) := by decide +kernel
theorem d_FO_init_169 : decode b_FO_init 169 = .ok (.new 24, 3) := by decide +kernel
theorem d_FO_init_172 : decode b_FO_init 172 = .ok (.dup, 1) := by decide +kernel
theorem d_FO_init_173 : decode b_FO_init 173 = .ok (.aload_n 0, 1) := by decide +kernel
theorem d_FO_init_174 : decode b_FO_init 174 = .ok (.getfield 9, 3) := by decide +kernel
theorem d_FO_init_177 : decode b_FO_init 177 = .ok (.invokespecial 26, 3) := by decide +kernel
theorem d_FO_init_180 : decode b_FO_init 180 = .ok (.aastore, 1) := by decide +kernel
theorem d_FO_init_181 : decode b_FO_init 181 = .ok (.dup, 1) := by decide +kernel
theorem d_FO_init_182 : decode b_FO_init 182 = .ok (.iconst 2, 1) := by decide +kernel
theorem d_FO_init_183 : decode b_FO_init 183 = .ok (.new 24, 3) := by decide +kernel
theorem d_FO_init_186 : decode b_FO_init 186 = .ok (.dup, 1) := by decide +kernel
theorem d_FO_init_187 : decode b_FO_init 187 = .ok (.aload_n 0, 1) := by decide +kernel
theorem d_FO_init_188 : decode b_FO_init 188 = .ok (.getfield 9, 3) := by decide +kernel
theorem d_FO_init_191 : decode b_FO_init 191 = .ok (.invokespecial 26, 3) := by decide +kernel
theorem d_FO_init_194 : decode b_FO_init 194 = .ok (.aastore, 1) := by decide +kernel
theorem d_FO_init_195 : decode b_FO_init 195 = .ok (.putfield 60, 3) := by decide +kernel
theorem d_FO_init_198 : decode b_FO_init 198 = .ok (.aload_n 0, 1) := by decide +kernel
theorem d_FO_init_199 : decode b_FO_init 199 = .ok (.bipush 64, 2) := by decide +kernel
theorem d_FO_init_201 : decode b_FO_init 201 = .ok (.putfield 64, 3) := by decide +kernel
theorem d_FO_init_204 : decode b_FO_init 204 = .ok (.aload_n 0, 1) := by decide +kernel
theorem d_FO_init_205 : decode b_FO_init 205 = .ok (.iconst 0, 1) := by decide +kernel
theorem d_FO_init_206 : decode b_FO_init 206 = .ok (.putfield 68, 3) := by decide +kernel
theorem d_FO_init_209 : decode b_FO_init 209 = .ok (.aload_n 0, 1) := by decide +kernel
theorem d_FO_init_210 : decode b_FO_init 210 = .ok (.iconst 0, 1) := by decide +kernel
theorem d_FO_init_211 : decode b_FO_init 211 = .ok (.putfield 71, 3) := by decide +kernel
theorem d_FO_init_214 : decode b_FO_init 214 = .ok (.aload_n 0, 1) := by decide +kernel
theorem d_FO_init_215 : decode b_FO_init 215 = .ok (.iconst 0, 1) := by decide +kernel
theorem d_FO_init_216 : decode b_FO_init 216 = .ok (.putfield 74, 3) := by decide +kernel
theorem d_FO_init_219 : decode b_FO_init 219 = .ok (.return_, 1) := by decide +kernel
theorem d_MO_init_0 : decode b_MO_init 0 = .ok (.aload_n 0, 1) := by decide +kernel
theorem d_MO_init_1 : decode b_MO_init 1 = .ok (.invokespecial 1, 3) := by decide +kernel
theorem d_MO_init_4 : decode b_MO_init 4 = .ok (.aload_n 0, 1) := by decide +kernel
theorem d_MO_init_5 : decode b_MO_init 5 = .ok (.iconst 0, 1) := by decide +kernel
theorem d_MO_init_6 : decode b_MO_init 6 = .ok (.putfield 7, 3) := by decide +kernel
theorem d_MO_init_9 : decode b_MO_init 9 = .ok (.aload_n 0, 1) := by decide +kernel
theorem d_MO_init_10 : decode b_MO_init 10 = .ok (.iconst 0, 1) := by decide +kernel
theorem d_MO_init_11 : decode b_MO_init 11 = .ok (.putfield 13, 3) := by decide +kernel
theorem d_MO_init_14 : decode b_MO_init 14 = .ok (.aload_n 0, 1) := by decide +kernel
theorem d_MO_init_15 : decode b_MO_init 15 = .ok (.iconst 0, 1) := by decide +kernel
theorem d_MO_init_16 : decode b_MO_init 16 = .ok (.putfield 16, 3) := by decide +kernel
theorem d_MO_init_19 : decode b_MO_init 19 = .ok (.aload_n 0, 1) := by decide +kernel
theorem d_MO_init_20 : decode b_MO_init 20 = .ok (.iconst 0, 1) := by decide +kernel
theorem d_MO_init_21 : decode b_MO_init 21 = .ok (.putfield 19, 3) := by decide +kernel
theorem d_MO_init_24 : decode b_MO_init 24 = .ok (.aload_n 0, 1) := by decide +kernel
theorem d_MO_init_25 : decode b_MO_init 25 = .ok (.iconst 0, 1) := by decide +kernel
theorem d_MO_init_26 : decode b_MO_init 26 = .ok (.putfield 22, 3) := by decide +kernel
theorem d_MO_init_29 : decode b_MO_init 29 = .ok (.aload_n 0, 1) := by decide +kernel
theorem d_MO_init_30 : decode b_MO_init 30 = .ok (.iconst 0, 1) := by decide +kernel
theorem d_MO_init_31 : decode b_MO_init 31 = .ok (.putfield 25, 3) := by decide +kernel
theorem d_MO_init_34 : decode b_MO_init 34 = .ok (.return_, 1) := by decide +kernel
theorem d_OU_init_0 : decode b_OU_init 0 = .ok (.aload_n 0, 1) := by decide +kernel
theorem d_OU_init_1 : decode b_OU_init 1 = .ok (.invokespecial 1, 3) := by decide +kernel
theorem d_OU_init_4 : decode b_OU_init 4 = .ok (.aload_n 0, 1) := by decide +kernel
theorem d_OU_init_5 : decode b_OU_init 5 = .ok (.bipush 64, 2) := by decide +kernel
theorem d_OU_init_7 : decode b_OU_init 7 = .ok (.newarray .int, 2) := by decide +kernel
theorem d_OU_init_9 : decode b_OU_init 9 = .ok (.putfield 9, 3) := by decide +kernel
theorem d_OU_init_12 : decode b_OU_init 12 = .ok (.aload_n 0, 1) := by decide +kernel
theorem d_OU_init_13 : decode b_OU_init 13 = .ok (.bipush 64, 2) := by decide +kernel
theorem d_OU_init_15 : decode b_OU_init 15 = .ok (.newarray .int, 2) := by decide +kernel
theorem d_OU_init_17 : decode b_OU_init 17 = .ok (.putfield 13, 3) := by decide +kernel
theorem d_OU_init_20 : decode b_OU_init 20 = .ok (.aload_n 0, 1) := by decide +kernel
theorem d_OU_init_21 : decode b_OU_init 21 = .ok (.bipush 64, 2) := by decide +kernel
theorem d_OU_init_23 : decode b_OU_init 23 = .ok (.newarray .boolean, 2) := by decide +kernel
theorem d_OU_init_25 : decode b_OU_init 25 = .ok (.putfield 16, 3) := by decide +kernel
theorem d_OU_init_28 : decode b_OU_init 28 = .ok (.aload_n 0, 1) := by decide +kernel
theorem d_OU_init_29 : decode b_OU_init 29 = .ok (.bipush 64, 2) := by decide +kernel
theorem d_OU_init_31 : decode b_OU_init 31 = .ok (.newarray .int, 2) := by decide +kernel
theorem d_OU_init_33 : decode b_OU_init 33 = .ok (.putfield 20, 3) := by decide +kernel
theorem d_OU_init_36 : decode b_OU_init 36 = .ok (.aload_n 0, 1) := by decide +kernel
theorem d_OU_init_37 : decode b_OU_init 37 = .ok (.bipush 24, 2) := by decide +kernel
theorem d_OU_init_39 : decode b_OU_init 39 = .ok (.newarray .int, 2) := by decide +kernel
theorem d_OU_init_41 : decode b_OU_init 41 = .ok (.putfield 23, 3) := by decide +kernel
theorem d_OU_init_44 : decode b_OU_init 44 = .ok (.aload_n 0, 1) := by decide +kernel
theorem d_OU_init_45 : decode b_OU_init 45 = .ok (.new 26, 3) := by decide +kernel
theorem d_OU_init_48 : decode b_OU_init 48 = .ok (.dup, 1) := by decide +kernel
theorem d_OU_init_49 : decode b_OU_init 49 = .ok (.invokespecial 28, 3) := by decide +kernel
theorem d_OU_init_52 : decode b_OU_init 52 = .ok (.putfield 29, 3) := by decide +kernel
theorem d_OU_init_55 : decode b_OU_init 55 = .ok (.aload_n 0, 1) := by decide +kernel
theorem d_OU_init_56 : decode b_OU_init 56 = .ok (.iconst 0, 1) := by decide +kernel
theorem d_OU_init_57 : decode b_OU_init 57 = .ok (.putfield 33, 3) := by decide +kernel
theorem d_OU_init_60 : decode b_OU_init 60 = .ok (.aload_n 0, 1) := by decide +kernel
theorem d_OU_init_61 : decode b_OU_init 61 = .ok (.iconst 0, 1) := by decide +kernel
theorem d_OU_init_62 : decode b_OU_init 62 = .ok (.putfield 37, 3) := by decide +kernel
theorem d_OU_init_65 : decode b_OU_init 65 = .ok (.return_, 1) := by decide +kernel
theorem d_PI_init_0 : decode b_PI_init 0 = .ok (.aload_n 0, 1) := by decide +kernel
theorem d_PI_init_1 : decode b_PI_init 1 = .ok (.invokespecial 1, 3) := by decide +kernel
theorem d_PI_init_4 : decode b_PI_init 4 = .ok (.aload_n 0, 1) := by decide +kernel
theorem d_PI_init_5 : decode b_PI_init 5 = .ok (.bipush 24, 2) := by decide +kernel
theorem d_PI_init_7 : decode b_PI_init 7 = .ok (.newarray .long, 2) := by decide +kernel
theorem d_PI_init_9 : decode b_PI_init 9 = .ok (.putfield 9, 3) := by decide +kernel
theorem d_PI_init_12 : decode b_PI_init 12 = .ok (.aload_n 0, 1) := by decide +kernel
theorem d_PI_init_13 : decode b_PI_init 13 = .ok (.sipush 1152, 3) := by decide +kernel
theorem d_PI_init_16 : decode b_PI_init 16 = .ok (.newarray .int, 2) := by decide +kernel
theorem d_PI_init_18 : decode b_PI_init 18 = .ok (.putfield 13, 3) := by decide +kernel
theorem d_PI_init_21 : decode b_PI_init 21 = .ok (.return_, 1) := by decide +kernel
theorem d_BR_init_0 : decode b_BR_init 0 = .ok (.aload_n 0, 1) := by decide +kernel
theorem d_BR_init_1 : decode b_BR_init 1 = .ok (.invokespecial 3, 3) := by decide +kernel
theorem d_BR_init_4 : decode b_BR_init 4 = .ok (.aload_n 0, 1) := by decide +kernel
theorem d_BR_init_5 : decode b_BR_init 5 = .ok (.bipush 48, 2) := by decide +kernel
theorem d_BR_init_7 : decode b_BR_init 7 = .ok (.newarray .int, 2) := by decide +kernel
theorem d_BR_init_9 : decode b_BR_init 9 = .ok (.putfield 11, 3) := by decide +kernel
theorem d_BR_init_12 : decode b_BR_init 12 = .ok (.aload_n 0, 1) := by decide +kernel
theorem d_BR_init_13 : decode b_BR_init 13 = .ok (.bipush 48, 2) := by decide +kernel
theorem d_BR_init_15 : decode b_BR_init 15 = .ok (.newarray .int, 2) := by decide +kernel
theorem d_BR_init_17 : decode b_BR_init 17 = .ok (.putfield 17, 3) := by decide +kernel
theorem d_BR_init_20 : decode b_BR_init 20 = .ok (.aload_n 0, 1) := by decide +kernel
theorem d_BR_init_21 : decode b_BR_init 21 = .ok (.bipush 48, 2) := by decide +kernel
theorem d_BR_init_23 : decode b_BR_init 23 = .ok (.newarray .boolean, 2) := by decide +kernel
theorem d_BR_init_25 : decode b_BR_init 25 = .ok (.putfield 20, 3) := by decide +kernel
theorem d_BR_init_28 : decode b_BR_init 28 = .ok (.aload_n 0, 1) := by decide +kernel
theorem d_BR_init_29 : decode b_BR_init 29 = .ok (.iconst 0, 1) := by decide +kernel
theorem d_BR_init_30 : decode b_BR_init 30 = .ok (.putfield 24, 3) := by decide +kernel
theorem d_BR_init_33 : decode b_BR_init 33 = .ok (.aload_n 0, 1) := by decide +kernel
theorem d_BR_init_34 : decode b_BR_init 34 = .ok (.iconst 1, 1) := by decide +kernel
theorem d_BR_init_35 : decode b_BR_init 35 = .ok (.putfield 28, 3) := by decide +kernel
theorem d_BR_init_38 : decode b_BR_init 38 = .ok (.aload_n 0, 1) := by decide +kernel
theorem d_BR_init_39 : decode b_BR_init 39 = .ok (.iconst 0, 1) := by decide +kernel
theorem d_BR_init_40 : decode b_BR_init 40 = .ok (.putfield 31, 3) := by decide +kernel
theorem d_BR_init_43 : decode b_BR_init 43 = .ok (.aload_n 0, 1) := by decide +kernel
theorem d_BR_init_44 : decode b_BR_init 44 = .ok (.iconst 0, 1) := by decide +kernel
theorem d_BR_init_45 : decode b_BR_init 45 = .ok (.putfield 34, 3) := by decide +kernel
theorem d_BR_init_48 : decode b_BR_init 48 = .ok (.aload_n 0, 1) := by decide +kernel
theorem d_BR_init_49 : decode b_BR_init 49 = .ok (.iconst (-1), 1) := by decide +kernel
theorem d_BR_init_50 : decode b_BR_init 50 = .ok (.putfield 37, 3) := by decide +kernel
theorem d_BR_init_53 : decode b_BR_init 53 = .ok (.aload_n 0, 1) := by decide +kernel
theorem d_BR_init_54 : decode b_BR_init 54 = .ok (.aload_n 1, 1) := by decide +kernel
theorem d_BR_init_55 : decode b_BR_init 55 = .ok (.putfield 40, 3) := by decide +kernel
theorem d_BR_init_58 : decode b_BR_init 58 = .ok (.aload_n 0, 1) := by decide +kernel
theorem d_BR_init_59 : decode b_BR_init 59 = .ok (.aload_n 2, 1) := by decide +kernel
theorem d_BR_init_60 : decode b_BR_init 60 = .ok (.putfield 44, 3) := by decide +kernel
theorem d_BR_init_63 : decode b_BR_init 63 = .ok (.return_, 1) := by decide +kernel
theorem d_GL_init_0 : decode b_GL_init 0 = .ok (.aload_n 0, 1) := by decide +kernel
theorem d_GL_init_1 : decode b_GL_init 1 = .ok (.invokespecial 1, 3) := by decide +kernel
theorem d_GL_init_4 : decode b_GL_init 4 = .ok (.aload_n 0, 1) := by decide +kernel
theorem d_GL_init_5 : decode b_GL_init 5 = .ok (.sipush 1200, 3) := by decide +kernel
theorem d_GL_init_8 : decode b_GL_init 8 = .ok (.newarray .int, 2) := by decide +kernel
theorem d_GL_init_10 : decode b_GL_init 10 = .ok (.putfield 9, 3) := by decide +kernel
theorem d_GL_init_13 : decode b_GL_init 13 = .ok (.aload_n 0, 1) := by decide +kernel
theorem d_GL_init_14 : decode b_GL_init 14 = .ok (.iconst 0, 1) := by decide +kernel
theorem d_GL_init_15 : decode b_GL_init 15 = .ok (.putfield 13, 3) := by decide +kernel
theorem d_GL_init_18 : decode b_GL_init 18 = .ok (.aload_n 0, 1) := by decide +kernel
theorem d_GL_init_19 : decode b_GL_init 19 = .ok (.new 17, 3) := by decide +kernel
theorem d_GL_init_22 : decode b_GL_init 22 = .ok (.dup, 1) := by decide +kernel
theorem d_GL_init_23 : decode b_GL_init 23 = .ok (.invokespecial 19, 3) := by decide +kernel
theorem d_GL_init_26 : decode b_GL_init 26 = .ok (.putfield 20, 3) := by decide +kernel
theorem d_GL_init_29 : decode b_GL_init 29 = .ok (.aload_n 0, 1) := by decide +kernel
theorem d_GL_init_30 : decode b_GL_init 30 = .ok (.new 17, 3) := by decide +kernel
theorem d_GL_init_33 : decode b_GL_init 33 = .ok (.dup, 1) := by decide +kernel
theorem d_GL_init_34 : decode b_GL_init 34 = .ok (.invokespecial 19, 3) := by decide +kernel
theorem d_GL_init_37 : decode b_GL_init 37 = .ok (.putfield 24, 3) := by decide +kernel
theorem d_GL_init_40 : decode b_GL_init 40 = .ok (.aload_n 0, 1) := by decide +kernel
theorem d_GL_init_41 : decode b_GL_init 41 = .ok (.iconst 0, 1) := by decide +kernel
theorem d_GL_init_42 : decode b_GL_init 42 = .ok (.putfield 27, 3) := by decide +kernel
theorem d_GL_init_45 : decode b_GL_init 45 = .ok (.aload_n 0, 1) := by decide +kernel
theorem d_GL_init_46 : decode b_GL_init 46 = .ok (.new 31, 3) := by decide +kernel
theorem d_GL_init_49 : decode b_GL_init 49 = .ok (.dup, 1) := by decide +kernel
theorem d_GL_init_50 : decode b_GL_init 50 = .ok (.invokespecial 33, 3) := by decide +kernel
theorem d_GL_init_53 : decode b_GL_init 53 = .ok (.putfield 34, 3) := by decide +kernel
theorem d_GL_init_56 : decode b_GL_init 56 = .ok (.aload_n 0, 1) := by decide +kernel
theorem d_GL_init_57 : decode b_GL_init 57 = .ok (.new 38, 3) := by decide +kernel
theorem d_GL_init_60 : decode b_GL_init 60 = .ok (.dup, 1) := by decide +kernel
theorem d_GL_init_61 : decode b_GL_init 61 = .ok (.invokespecial 40, 3) := by decide +kernel
theorem d_GL_init_64 : decode b_GL_init 64 = .ok (.putfield 41, 3) := by decide +kernel
theorem d_GL_init_67 : decode b_GL_init 67 = .ok (.aload_n 0, 1) := by decide +kernel
theorem d_GL_init_68 : decode b_GL_init 68 = .ok (.new 45, 3) := by decide +kernel
theorem d_GL_init_71 : decode b_GL_init 71 = .ok (.dup, 1) := by decide +kernel
theorem d_GL_init_72 : decode b_GL_init 72 = .ok (.aload_n 0, 1) := by decide +kernel
theorem d_GL_init_73 : decode b_GL_init 73 = .ok (.getfield 41, 3) := by decide +kernel
theorem d_GL_init_76 : decode b_GL_init 76 = .ok (.aload_n 0, 1) := by decide +kernel
theorem d_GL_init_77 : decode b_GL_init 77 = .ok (.getfield 34, 3) := by decide +kernel
theorem d_GL_init_80 : decode b_GL_init 80 = .ok (.invokespecial 47, 3) := by decide +kernel
theorem d_GL_init_83 : decode b_GL_init 83 = .ok (.putfield 50, 3) := by decide +kernel
theorem d_GL_init_86 : decode b_GL_init 86 = .ok (.aload_n 0, 1) := by decide +kernel
theorem d_GL_init_87 : decode b_GL_init 87 = .ok (.bipush 12, 2) := by decide +kernel
theorem d_GL_init_89 : decode b_GL_init 89 = .ok (.newarray .int, 2) := by decide +kernel
theorem d_GL_init_91 : decode b_GL_init 91 = .ok (.putfield 54, 3) := by decide +kernel
theorem d_GL_init_94 : decode b_GL_init 94 = .ok (.aload_n 0, 1) := by decide +kernel
theorem d_GL_init_95 : decode b_GL_init 95 = .ok (.iconst 0, 1) := by decide +kernel
theorem d_GL_init_96 : decode b_GL_init 96 = .ok (.putfield 57, 3) := by decide +kernel
theorem d_GL_init_99 : decode b_GL_init 99 = .ok (.return_, 1) := by decide +kernel
theorem d_MD_init_0 : decode b_MD_init 0 = .ok (.aload_n 0, 1) := by decide +kernel
theorem d_MD_init_1 : decode b_MD_init 1 = .ok (.invokespecial 1, 3) := by decide +kernel
theorem d_MD_init_4 : decode b_MD_init 4 = .ok (.aload_n 0, 1) := by decide +kernel
theorem d_MD_init_5 : decode b_MD_init 5 = .ok (.sipush 1200, 3) := by decide +kernel
theorem d_MD_init_8 : decode b_MD_init 8 = .ok (.newarray .int, 2) := by decide +kernel
theorem d_MD_init_10 : decode b_MD_init 10 = .ok (.putfield 7, 3) := by decide +kernel
theorem d_MD_init_13 : decode b_MD_init 13 = .ok (.aload_n 0, 1) := by decide +kernel
theorem d_MD_init_14 : decode b_MD_init 14 = .ok (.sipush 2400, 3) := by decide +kernel
theorem d_MD_init_17 : decode b_MD_init 17 = .ok (.newarray .int, 2) := by decide +kernel
theorem d_MD_init_19 : decode b_MD_init 19 = .ok (.putfield 13, 3) := by decide +kernel
theorem d_MD_init_22 : decode b_MD_init 22 = .ok (.aload_n 0, 1) := by decide +kernel
theorem d_MD_init_23 : decode b_MD_init 23 = .ok (.bipush 16, 2) := by decide +kernel
theorem d_MD_init_25 : decode b_MD_init 25 = .ok (.newarray .int, 2) := by decide +kernel
theorem d_MD_init_27 : decode b_MD_init 27 = .ok (.putfield 16, 3) := by decide +kernel
theorem d_MD_init_30 : decode b_MD_init 30 = .ok (.aload_n 0, 1) := by decide +kernel
theorem d_MD_init_31 : decode b_MD_init 31 = .ok (.bipush 16, 2) := by decide +kernel
theorem d_MD_init_33 : decode b_MD_init 33 = .ok (.newarray .int, 2) := by decide +kernel
theorem d_MD_init_35 : decode b_MD_init 35 = .ok (.putfield 19, 3) := by decide +kernel
theorem d_MD_init_38 : decode b_MD_init 38 = .ok (.aload_n 0, 1) := by decide +kernel
theorem d_MD_init_39 : decode b_MD_init 39 = .ok (.iconst 2, 1) := by decide +kernel
theorem d_MD_init_40 : decode b_MD_init 40 = .ok (.newarray .int, 2) := by decide +kernel
theorem d_MD_init_42 : decode b_MD_init 42 = .ok (.putfield 22, 3) := by decide +kernel
theorem d_MD_init_45 : decode b_MD_init 45 = .ok (.aload_n 0, 1) := by decide +kernel
theorem d_MD_init_46 : decode b_MD_init 46 = .ok (.iconst 2, 1) := by decide +kernel
theorem d_MD_init_47 : decode b_MD_init 47 = .ok (.newarray .int, 2) := by decide +kernel
theorem d_MD_init_49 : decode b_MD_init 49 = .ok (.putfield 25, 3) := by decide +kernel
theorem d_MD_init_52 : decode b_MD_init 52 = .ok (.aload_n 0, 1) := by decide +kernel
theorem d_MD_init_53 : decode b_MD_init 53 = .ok (.iconst 2, 1) := by decide +kernel
theorem d_MD_init_54 : decode b_MD_init 54 = .ok (.newarray .int, 2) := by decide +kernel
theorem d_MD_init_56 : decode b_MD_init 56 = .ok (.putfield 28, 3) := by decide +kernel
theorem d_MD_init_59 : decode b_MD_init 59 = .ok (.aload_n 0, 1) := by decide +kernel
theorem d_MD_init_60 : decode b_MD_init 60 = .ok (.iconst 2, 1) := by decide +kernel
theorem d_MD_init_61 : decode b_MD_init 61 = .ok (.newarray .int, 2) := by decide +kernel
theorem d_MD_init_63 : decode b_MD_init 63 = .ok (.putfield 31, 3) := by decide +kernel
theorem d_MD_init_66 : decode b_MD_init 66 = .ok (.aload_n 0, 1) := by decide +kernel
theorem d_MD_init_67 : decode b_MD_init 67 = .ok (.iconst 2, 1) := by decide +kernel
theorem d_MD_init_68 : decode b_MD_init 68 = .ok (.newarray .int, 2) := by decide +kernel
theorem d_MD_init_70 : decode b_MD_init 70 = .ok (.putfield 34, 3) := by decide +kernel
theorem d_MD_init_73 : decode b_MD_init 73 = .ok (.aload_n 0, 1) := by decide +kernel
theorem d_MD_init_74 : decode b_MD_init 74 = .ok (.iconst 2, 1) := by decide +kernel
theorem d_MD_init_75 : decode b_MD_init 75 = .ok (.newarray .int, 2) := by decide +kernel
theorem d_MD_init_77 : decode b_MD_init 77 = .ok (.putfield 37, 3) := by decide +kernel
theorem d_MD_init_80 : decode b_MD_init 80 = .ok (.aload_n 0, 1) := by decide +kernel
theorem d_MD_init_81 : decode b_MD_init 81 = .ok (.bipush 32, 2) := by decide +kernel
theorem d_MD_init_83 : decode b_MD_init 83 = .ok (.newarray .int, 2) := by decide +kernel
theorem d_MD_init_85 : decode b_MD_init 85 = .ok (.putfield 40, 3) := by decide +kernel
theorem d_MD_init_88 : decode b_MD_init 88 = .ok (.aload_n 0, 1) := by decide +kernel
theorem d_MD_init_89 : decode b_MD_init 89 = .ok (.bipush 32, 2) := by decide +kernel
theorem d_MD_init_91 : decode b_MD_init 91 = .ok (.newarray .int, 2) := by decide +kernel
theorem d_MD_init_93 : decode b_MD_init 93 = .ok (.putfield 43, 3) := by decide +kernel
theorem d_MD_init_96 : decode b_MD_init 96 = .ok (.aload_n 0, 1) := by decide +kernel
theorem d_MD_init_97 : decode b_MD_init 97 = .ok (.bipush 32, 2) := by decide +kernel
theorem d_MD_init_99 : decode b_MD_init 99 = .ok (.newarray .int, 2) := by decide +kernel
theorem d_MD_init_101 : decode b_MD_init 101 = .ok (.putfield 46, 3) := by decide +kernel
theorem d_MD_init_104 : decode b_MD_init 104 = .ok (.aload_n 0, 1) := by decide +kernel
theorem d_MD_init_105 : decode b_MD_init 105 = .ok (.sipush 2048, 3) := by decide +kernel
theorem d_MD_init_108 : decode b_MD_init 108 = .ok (.newarray .int, 2) := by decide +kernel
theorem d_MD_init_110 : decode b_MD_init 110 = .ok (.putfield 49, 3) := by decide +kernel
theorem d_MD_init_113 : decode b_MD_init 113 = .ok (.aload_n 0, 1) := by decide +kernel
theorem d_MD_init_114 : decode b_MD_init 114 = .ok (.sipush 2048, 3) := by decide +kernel
theorem d_MD_init_117 : decode b_MD_init 117 = .ok (.newarray .int, 2) := by decide +kernel
theorem d_MD_init_119 : decode b_MD_init 119 = .ok (.putfield 52, 3) := by decide +kernel
theorem d_MD_init_122 : decode b_MD_init 122 = .ok (.aload_n 0, 1) := by decide +kernel
theorem d_MD_init_123 : decode b_MD_init 123 = .ok (.sipush 2048, 3) := by decide +kernel
theorem d_MD_init_126 : decode b_MD_init 126 = .ok (.newarray .int, 2) := by decide +kernel
theorem d_MD_init_128 : decode b_MD_init 128 = .ok (.putfield 55, 3) := by decide +kernel
theorem d_MD_init_131 : decode b_MD_init 131 = .ok (.aload_n 0, 1) := by decide +kernel
theorem d_MD_init_132 : decode b_MD_init 132 = .ok (.sipush 2048, 3) := by decide +kernel
theorem d_MD_init_135 : decode b_MD_init 135 = .ok (.newarray .int, 2) := by decide +kernel
theorem d_MD_init_137 : decode b_MD_init 137 = .ok (.putfield 58, 3) := by decide +kernel
theorem d_MD_init_140 : decode b_MD_init 140 = .ok (.aload_n 0, 1) := by decide +kernel
theorem d_MD_init_141 : decode b_MD_init 141 = .ok (.bipush 24, 2) := by decide +kernel
theorem d_MD_init_143 : decode b_MD_init 143 = .ok (.newarray .int, 2) := by decide +kernel
theorem d_MD_init_145 : decode b_MD_init 145 = .ok (.putfield 61, 3) := by decide +kernel
theorem d_MD_init_148 : decode b_MD_init 148 = .ok (.aload_n 0, 1) := by decide +kernel
theorem d_MD_init_149 : decode b_MD_init 149 = .ok (.bipush 6, 2) := by decide +kernel
theorem d_MD_init_151 : decode b_MD_init 151 = .ok (.newarray .int, 2) := by decide +kernel
theorem d_MD_init_153 : decode b_MD_init 153 = .ok (.putfield 64, 3) := by decide +kernel
theorem d_MD_init_156 : decode b_MD_init 156 = .ok (.aload_n 0, 1) := by decide +kernel
theorem d_MD_init_157 : decode b_MD_init 157 = .ok (.bipush 12, 2) := by decide +kernel
theorem d_MD_init_159 : decode b_MD_init 159 = .ok (.newarray .int, 2) := by decide +kernel
theorem d_MD_init_161 : decode b_MD_init 161 = .ok (.putfield 67, 3) := by decide +kernel
theorem d_MD_init_164 : decode b_MD_init 164 = .ok (.aload_n 0, 1) := by decide +kernel
theorem d_MD_init_165 : decode b_MD_init 165 = .ok (.sipush 130, 3) := by decide +kernel
theorem d_MD_init_168 : decode b_MD_init 168 = .ok (.newarray .int, 2) := by decide +kernel
theorem d_MD_init_170 : decode b_MD_init 170 = .ok (.putfield 70, 3) := by decide +kernel
theorem d_MD_init_173 : decode b_MD_init 173 = .ok (.aload_n 0, 1) := by decide +kernel
theorem d_MD_init_174 : decode b_MD_init 174 = .ok (.sipush 130, 3) := by decide +kernel
theorem d_MD_init_177 : decode b_MD_init 177 = .ok (.newarray .int, 2) := by decide +kernel
theorem d_MD_init_179 : decode b_MD_init 179 = .ok (.putfield 73, 3) := by decide +kernel
theorem d_MD_init_182 : decode b_MD_init 182 = .ok (.aload_n 0, 1) := by decide +kernel
theorem d_MD_init_183 : decode b_MD_init 183 = .ok (.sipush 130, 3) := by decide +kernel
theorem d_MD_init_186 : decode b_MD_init 186 = .ok (.newarray .boolean, 2) := by decide +kernel
theorem d_MD_init_188 : decode b_MD_init 188 = .ok (.putfield 76, 3) := by decide +kernel
theorem d_MD_init_191 : decode b_MD_init 191 = .ok (.aload_n 0, 1) := by decide +kernel
theorem d_MD_init_192 : decode b_MD_init 192 = .ok (.sipush 140, 3) := by decide +kernel
theorem d_MD_init_195 : decode b_MD_init 195 = .ok (.newarray .int, 2) := by decide +kernel
theorem d_MD_init_197 : decode b_MD_init 197 = .ok (.putfield 80, 3) := by decide +kernel
theorem d_MD_init_200 : decode b_MD_init 200 = .ok (.aload_n 0, 1) := by decide +kernel
theorem d_MD_init_201 : decode b_MD_init 201 = .ok (.sipush 1152, 3) := by decide +kernel
theorem d_MD_init_204 : decode b_MD_init 204 = .ok (.newarray .int, 2) := by decide +kernel
theorem d_MD_init_206 : decode b_MD_init 206 = .ok (.putfield 83, 3) := by decide +kernel
theorem d_MD_init_209 : decode b_MD_init 209 = .ok (.aload_n 0, 1) := by decide +kernel
theorem d_MD_init_210 : decode b_MD_init 210 = .ok (.bipush 24, 2) := by decide +kernel
theorem d_MD_init_212 : decode b_MD_init 212 = .ok (.newarray .long, 2) := by decide +kernel
theorem d_MD_init_214 : decode b_MD_init 214 = .ok (.putfield 86, 3) := by decide +kernel
theorem d_MD_init_217 : decode b_MD_init 217 = .ok (.return_, 1) := by decide +kernel
theorem d_GL_requireFont_0 : decode b_GL_requireFont 0 = .ok (.aload_n 0, 1) := by decide +kernel
theorem d_GL_requireFont_1 : decode b_GL_requireFont 1 = .ok (.getfield 27, 3) := by decide +kernel
theorem d_GL_requireFont_4 : decode b_GL_requireFont 4 = .ok (.ifCond .ne (13), 3) := by decide +kernel
theorem d_GL_requireFont_7 : decode b_GL_requireFont 7 = .ok (.new 157, 3) := by decide +kernel
theorem d_GL_requireFont_10 : decode b_GL_requireFont 10 = .ok (.dup, 1) := by decide +kernel
theorem d_GL_requireFont_11 : decode b_GL_requireFont 11 = .ok (.ldc 159, 2) := by decide +kernel
theorem d_GL_requireFont_13 : decode b_GL_requireFont 13 = .ok (.invokespecial 161, 3) := by decide +kernel
theorem d_GL_requireFont_16 : decode b_GL_requireFont 16 = .ok (.athrow, 1) := by decide +kernel
theorem d_GL_glyph_0 : decode b_GL_glyph 0 = .ok (.aload_n 0, 1) := by decide +kernel
theorem d_GL_glyph_1 : decode b_GL_glyph 1 = .ok (.invokevirtual 84, 3) := by decide +kernel
theorem d_GL_measure_0 : decode b_GL_measure 0 = .ok (.aload_n 0, 1) := by decide +kernel
theorem d_GL_measure_1 : decode b_GL_measure 1 = .ok (.invokevirtual 84, 3) := by decide +kernel
theorem d_GL_point_0 : decode b_GL_point 0 = .ok (.aload_n 0, 1) := by decide +kernel
theorem d_GL_point_1 : decode b_GL_point 1 = .ok (.invokevirtual 84, 3) := by decide +kernel
theorem d_GL_kerning_0 : decode b_GL_kerning 0 = .ok (.aload_n 0, 1) := by decide +kernel
theorem d_GL_kerning_1 : decode b_GL_kerning 1 = .ok (.invokevirtual 84, 3) := by decide +kernel
theorem d_GL_paint_0 : decode b_GL_paint 0 = .ok (.aload_n 0, 1) := by decide +kernel
theorem d_GL_paint_1 : decode b_GL_paint 1 = .ok (.invokevirtual 84, 3) := by decide +kernel
theorem d_GL_put_0 : decode b_GL_put 0 = .ok (.iload_n 1, 1) := by decide +kernel
theorem d_GL_put_1 : decode b_GL_put 1 = .ok (.ifCond .lt (11), 3) := by decide +kernel
theorem d_GL_put_12 : decode b_GL_put 12 = .ok (.new 60, 3) := by decide +kernel
theorem d_GL_put_15 : decode b_GL_put 15 = .ok (.dup, 1) := by decide +kernel
theorem d_GL_put_16 : decode b_GL_put 16 = .ok (.ldc 62, 2) := by decide +kernel
theorem d_GL_put_18 : decode b_GL_put 18 = .ok (.invokespecial 64, 3) := by decide +kernel
theorem d_GL_put_21 : decode b_GL_put 21 = .ok (.athrow, 1) := by decide +kernel
theorem d_GL_put_4 : decode b_GL_put 4 = .ok (.iload_n 1, 1) := by decide +kernel
theorem d_GL_put_5 : decode b_GL_put 5 = .ok (.aload_n 0, 1) := by decide +kernel
theorem d_GL_put_6 : decode b_GL_put 6 = .ok (.getfield 13, 3) := by decide +kernel
theorem d_GL_put_9 : decode b_GL_put 9 = .ok (.if_icmp .lt (13), 3) := by decide +kernel
theorem d_GL_cut_0 : decode b_GL_cut 0 = .ok (.iload_n 1, 1) := by decide +kernel
theorem d_GL_cut_1 : decode b_GL_cut 1 = .ok (.ifCond .ge (13), 3) := by decide +kernel
theorem d_GL_cut_4 : decode b_GL_cut 4 = .ok (.new 67, 3) := by decide +kernel
theorem d_GL_cut_7 : decode b_GL_cut 7 = .ok (.dup, 1) := by decide +kernel
theorem d_GL_cut_8 : decode b_GL_cut 8 = .ok (.ldc 72, 2) := by decide +kernel
theorem d_GL_cut_10 : decode b_GL_cut 10 = .ok (.invokespecial 71, 3) := by decide +kernel
theorem d_GL_cut_13 : decode b_GL_cut 13 = .ok (.athrow, 1) := by decide +kernel
theorem d_GL_row_0 : decode b_GL_row 0 = .ok (.iload_n 1, 1) := by decide +kernel
theorem d_GL_row_1 : decode b_GL_row 1 = .ok (.ifCond .lt (9), 3) := by decide +kernel
theorem d_GL_row_10 : decode b_GL_row 10 = .ok (.new 60, 3) := by decide +kernel
theorem d_GL_row_13 : decode b_GL_row 13 = .ok (.dup, 1) := by decide +kernel
theorem d_GL_row_14 : decode b_GL_row 14 = .ok (.ldc 151, 2) := by decide +kernel
theorem d_GL_row_16 : decode b_GL_row 16 = .ok (.invokespecial 64, 3) := by decide +kernel
theorem d_GL_row_19 : decode b_GL_row 19 = .ok (.athrow, 1) := by decide +kernel
theorem d_GL_row_4 : decode b_GL_row 4 = .ok (.iload_n 1, 1) := by decide +kernel
theorem d_GL_row_5 : decode b_GL_row 5 = .ok (.bipush 24, 2) := by decide +kernel
theorem d_GL_row_7 : decode b_GL_row 7 = .ok (.if_icmp .lt (13), 3) := by decide +kernel
theorem d_GL_feed_0 : decode b_GL_feed 0 = .ok (.aload_n 0, 1) := by decide +kernel
theorem d_GL_feed_1 : decode b_GL_feed 1 = .ok (.getfield 13, 3) := by decide +kernel
theorem d_GL_feed_4 : decode b_GL_feed 4 = .ok (.iconst 4, 1) := by decide +kernel
theorem d_GL_feed_5 : decode b_GL_feed 5 = .ok (.iadd, 1) := by decide +kernel
theorem d_GL_feed_6 : decode b_GL_feed 6 = .ok (.sipush 1200, 3) := by decide +kernel
theorem d_GL_feed_9 : decode b_GL_feed 9 = .ok (.if_icmp .le (5), 3) := by decide +kernel
theorem d_GL_feed_14 : decode b_GL_feed 14 = .ok (.bipush 24, 2) := by decide +kernel
theorem d_GL_feed_16 : decode b_GL_feed 16 = .ok (.istore_n 2, 1) := by decide +kernel
theorem d_GL_feed_17 : decode b_GL_feed 17 = .ok (.iload_n 2, 1) := by decide +kernel
theorem d_GL_feed_18 : decode b_GL_feed 18 = .ok (.ifCond .lt (35), 3) := by decide +kernel
theorem d_GL_feed_21 : decode b_GL_feed 21 = .ok (.aload_n 0, 1) := by decide +kernel
theorem d_GL_feed_22 : decode b_GL_feed 22 = .ok (.getfield 9, 3) := by decide +kernel
theorem d_GL_feed_25 : decode b_GL_feed 25 = .ok (.aload_n 0, 1) := by decide +kernel
theorem d_GL_feed_26 : decode b_GL_feed 26 = .ok (.getfield 13, 3) := by decide +kernel
theorem d_GL_feed_29 : decode b_GL_feed 29 = .ok (.iload_n 1, 1) := by decide +kernel
theorem d_GL_feed_30 : decode b_GL_feed 30 = .ok (.iload_n 2, 1) := by decide +kernel
theorem d_GL_feed_31 : decode b_GL_feed 31 = .ok (.ishr, 1) := by decide +kernel
theorem d_GL_feed_32 : decode b_GL_feed 32 = .ok (.sipush 255, 3) := by decide +kernel
theorem d_GL_feed_35 : decode b_GL_feed 35 = .ok (.iand, 1) := by decide +kernel
theorem d_GL_feed_36 : decode b_GL_feed 36 = .ok (.iastore, 1) := by decide +kernel
theorem d_GL_feed_37 : decode b_GL_feed 37 = .ok (.aload_n 0, 1) := by decide +kernel
theorem d_GL_feed_38 : decode b_GL_feed 38 = .ok (.dup, 1) := by decide +kernel
theorem d_GL_feed_39 : decode b_GL_feed 39 = .ok (.getfield 13, 3) := by decide +kernel
theorem d_GL_feed_42 : decode b_GL_feed 42 = .ok (.iconst 1, 1) := by decide +kernel
theorem d_GL_feed_43 : decode b_GL_feed 43 = .ok (.iadd, 1) := by decide +kernel
theorem d_GL_feed_44 : decode b_GL_feed 44 = .ok (.putfield 13, 3) := by decide +kernel
theorem d_GL_feed_47 : decode b_GL_feed 47 = .ok (.iinc 2 (-8), 3) := by decide +kernel
theorem d_GL_feed_50 : decode b_GL_feed 50 = .ok (.goto (-33), 3) := by decide +kernel
theorem d_GL_feed_53 : decode b_GL_feed 53 = .ok (.aload_n 0, 1) := by decide +kernel
theorem d_GL_feed_54 : decode b_GL_feed 54 = .ok (.getfield 13, 3) := by decide +kernel
theorem d_GL_feed_57 : decode b_GL_feed 57 = .ok (.ireturn, 1) := by decide +kernel
theorem d_GL_at_0 : decode b_GL_at 0 = .ok (.iload_n 1, 1) := by decide +kernel
theorem d_GL_at_1 : decode b_GL_at 1 = .ok (.ifCond .lt (20), 3) := by decide +kernel
theorem d_GL_at_21 : decode b_GL_at 21 = .ok (.iconst (-1), 1) := by decide +kernel
theorem d_GL_at_22 : decode b_GL_at 22 = .ok (.ireturn, 1) := by decide +kernel
theorem d_GL_at_4 : decode b_GL_at 4 = .ok (.iload_n 1, 1) := by decide +kernel
theorem d_GL_at_5 : decode b_GL_at 5 = .ok (.aload_n 0, 1) := by decide +kernel
theorem d_GL_at_6 : decode b_GL_at 6 = .ok (.getfield 13, 3) := by decide +kernel
theorem d_GL_at_9 : decode b_GL_at 9 = .ok (.if_icmp .ge (12), 3) := by decide +kernel
theorem d_GL_cut_14 : decode b_GL_cut 14 = .ok (.iload_n 1, 1) := by decide +kernel
theorem d_GL_cut_15 : decode b_GL_cut 15 = .ok (.aload_n 0, 1) := by decide +kernel
theorem d_GL_cut_16 : decode b_GL_cut 16 = .ok (.getfield 13, 3) := by decide +kernel
theorem d_GL_cut_19 : decode b_GL_cut 19 = .ok (.invokestatic 74, 3) := by decide +kernel
theorem d_GL_cut_22 : decode b_GL_cut 22 = .ok (.istore_n 2, 1) := by decide +kernel
theorem d_GL_cut_23 : decode b_GL_cut 23 = .ok (.aload_n 0, 1) := by decide +kernel
theorem d_GL_cut_24 : decode b_GL_cut 24 = .ok (.getfield 13, 3) := by decide +kernel
theorem d_GL_cut_27 : decode b_GL_cut 27 = .ok (.iload_n 2, 1) := by decide +kernel
theorem d_GL_cut_28 : decode b_GL_cut 28 = .ok (.isub, 1) := by decide +kernel
theorem d_GL_cut_29 : decode b_GL_cut 29 = .ok (.istore_n 3, 1) := by decide +kernel
theorem d_GL_cut_30 : decode b_GL_cut 30 = .ok (.aload_n 0, 1) := by decide +kernel
theorem d_GL_cut_31 : decode b_GL_cut 31 = .ok (.iload_n 2, 1) := by decide +kernel
theorem d_GL_cut_32 : decode b_GL_cut 32 = .ok (.putfield 13, 3) := by decide +kernel
theorem d_GL_cut_35 : decode b_GL_cut 35 = .ok (.iload_n 3, 1) := by decide +kernel
theorem d_GL_cut_36 : decode b_GL_cut 36 = .ok (.ireturn, 1) := by decide +kernel
theorem d_GL_wipe_0 : decode b_GL_wipe 0 = .ok (.aload_n 0, 1) := by decide +kernel
theorem d_GL_wipe_1 : decode b_GL_wipe 1 = .ok (.getfield 57, 3) := by decide +kernel
theorem d_GL_wipe_4 : decode b_GL_wipe 4 = .ok (.istore_n 1, 1) := by decide +kernel
theorem d_GL_wipe_5 : decode b_GL_wipe 5 = .ok (.aload_n 0, 1) := by decide +kernel
theorem d_GL_wipe_6 : decode b_GL_wipe 6 = .ok (.iconst 0, 1) := by decide +kernel
theorem d_GL_wipe_7 : decode b_GL_wipe 7 = .ok (.putfield 57, 3) := by decide +kernel
theorem d_GL_wipe_10 : decode b_GL_wipe 10 = .ok (.iload_n 1, 1) := by decide +kernel
theorem d_GL_wipe_11 : decode b_GL_wipe 11 = .ok (.ireturn, 1) := by decide +kernel
theorem d_GL_isCharacter_0 : decode b_GL_isCharacter 0 = .ok (.iload_n 0, 1) := by decide +kernel
theorem d_GL_isCharacter_1 : decode b_GL_isCharacter 1 = .ok (.ifCond .lt (13), 3) := by decide +kernel
theorem d_GL_isCharacter_14 : decode b_GL_isCharacter 14 = .ok (.iconst 0, 1) := by decide +kernel
theorem d_GL_isCharacter_15 : decode b_GL_isCharacter 15 = .ok (.ireturn, 1) := by decide +kernel
theorem d_GL_isCharacter_4 : decode b_GL_isCharacter 4 = .ok (.iload_n 0, 1) := by decide +kernel
theorem d_GL_isCharacter_5 : decode b_GL_isCharacter 5 = .ok (.ldc 167, 2) := by decide +kernel
theorem d_GL_isCharacter_7 : decode b_GL_isCharacter 7 = .ok (.if_icmp .gt (7), 3) := by decide +kernel
theorem d_GL_isCharacter_10 : decode b_GL_isCharacter 10 = .ok (.iconst 1, 1) := by decide +kernel
theorem d_GL_isCharacter_11 : decode b_GL_isCharacter 11 = .ok (.goto (4), 3) := by decide +kernel
theorem d_GL_type_0 : decode b_GL_type 0 = .ok (.iload_n 1, 1) := by decide +kernel
theorem d_GL_type_1 : decode b_GL_type 1 = .ok (.invokestatic 87, 3) := by decide +kernel
theorem d_GL_type_4 : decode b_GL_type 4 = .ok (.ifCond .eq (12), 3) := by decide +kernel
theorem d_GL_type_16 : decode b_GL_type 16 = .ok (.iconst 0, 1) := by decide +kernel
theorem d_GL_type_17 : decode b_GL_type 17 = .ok (.ireturn, 1) := by decide +kernel
theorem d_GL_type_7 : decode b_GL_type 7 = .ok (.aload_n 0, 1) := by decide +kernel
theorem d_GL_type_8 : decode b_GL_type 8 = .ok (.getfield 57, 3) := by decide +kernel
theorem d_GL_type_11 : decode b_GL_type 11 = .ok (.bipush 12, 2) := by decide +kernel
theorem d_GL_type_13 : decode b_GL_type 13 = .ok (.if_icmp .lt (5), 3) := by decide +kernel
theorem d_GL_type_18 : decode b_GL_type 18 = .ok (.aload_n 0, 1) := by decide +kernel
theorem d_GL_type_19 : decode b_GL_type 19 = .ok (.getfield 54, 3) := by decide +kernel
theorem d_GL_type_22 : decode b_GL_type 22 = .ok (.aload_n 0, 1) := by decide +kernel
theorem d_GL_type_23 : decode b_GL_type 23 = .ok (.getfield 57, 3) := by decide +kernel
theorem d_GL_type_26 : decode b_GL_type 26 = .ok (.iload_n 1, 1) := by decide +kernel
theorem d_GL_type_27 : decode b_GL_type 27 = .ok (.iastore, 1) := by decide +kernel
theorem d_GL_type_28 : decode b_GL_type 28 = .ok (.aload_n 0, 1) := by decide +kernel
theorem d_GL_type_29 : decode b_GL_type 29 = .ok (.dup, 1) := by decide +kernel
theorem d_GL_type_30 : decode b_GL_type 30 = .ok (.getfield 57, 3) := by decide +kernel
theorem d_GL_type_33 : decode b_GL_type 33 = .ok (.iconst 1, 1) := by decide +kernel
theorem d_GL_type_34 : decode b_GL_type 34 = .ok (.iadd, 1) := by decide +kernel
theorem d_GL_type_35 : decode b_GL_type 35 = .ok (.putfield 57, 3) := by decide +kernel
theorem d_GL_type_38 : decode b_GL_type 38 = .ok (.iconst 1, 1) := by decide +kernel
theorem d_GL_type_39 : decode b_GL_type 39 = .ok (.ireturn, 1) := by decide +kernel
theorem d_GL_row_20 : decode b_GL_row 20 = .ok (.aload_n 0, 1) := by decide +kernel
theorem d_GL_row_21 : decode b_GL_row 21 = .ok (.getfield 41, 3) := by decide +kernel
theorem d_GL_row_24 : decode b_GL_row 24 = .ok (.getfield 153, 3) := by decide +kernel
theorem d_GL_row_27 : decode b_GL_row 27 = .ok (.iload_n 1, 1) := by decide +kernel
theorem d_GL_row_28 : decode b_GL_row 28 = .ok (.laload, 1) := by decide +kernel
theorem d_GL_row_29 : decode b_GL_row 29 = .ok (.lreturn, 1) := by decide +kernel
theorem d_SP_lay_0 : decode b_SP_lay 0 = .ok (.aload_n 0, 1) := by decide +kernel
theorem d_SP_lay_1 : decode b_SP_lay 1 = .ok (.iconst 0, 1) := by decide +kernel
theorem d_SP_lay_2 : decode b_SP_lay 2 = .ok (.iload_n 1, 1) := by decide +kernel
theorem d_SP_lay_3 : decode b_SP_lay 3 = .ok (.aload_n 0, 1) := by decide +kernel
theorem d_SP_lay_4 : decode b_SP_lay 4 = .ok (.getfield 20, 3) := by decide +kernel
theorem d_SP_lay_7 : decode b_SP_lay 7 = .ok (.arraylength, 1) := by decide +kernel
theorem d_SP_lay_8 : decode b_SP_lay 8 = .ok (.invokestatic 24, 3) := by decide +kernel
theorem d_SP_lay_11 : decode b_SP_lay 11 = .ok (.invokestatic 30, 3) := by decide +kernel
theorem d_SP_lay_14 : decode b_SP_lay 14 = .ok (.putfield 7, 3) := by decide +kernel
theorem d_SP_lay_17 : decode b_SP_lay 17 = .ok (.aload_n 0, 1) := by decide +kernel
theorem d_SP_lay_18 : decode b_SP_lay 18 = .ok (.iconst 0, 1) := by decide +kernel
theorem d_SP_lay_19 : decode b_SP_lay 19 = .ok (.iload_n 2, 1) := by decide +kernel
theorem d_SP_lay_20 : decode b_SP_lay 20 = .ok (.aload_n 0, 1) := by decide +kernel
theorem d_SP_lay_21 : decode b_SP_lay 21 = .ok (.getfield 20, 3) := by decide +kernel
theorem d_SP_lay_24 : decode b_SP_lay 24 = .ok (.arraylength, 1) := by decide +kernel
theorem d_SP_lay_25 : decode b_SP_lay 25 = .ok (.aload_n 0, 1) := by decide +kernel
theorem d_SP_lay_26 : decode b_SP_lay 26 = .ok (.getfield 7, 3) := by decide +kernel
theorem d_SP_lay_29 : decode b_SP_lay 29 = .ok (.isub, 1) := by decide +kernel
theorem d_SP_lay_30 : decode b_SP_lay 30 = .ok (.invokestatic 24, 3) := by decide +kernel
theorem d_SP_lay_33 : decode b_SP_lay 33 = .ok (.invokestatic 30, 3) := by decide +kernel
theorem d_SP_lay_36 : decode b_SP_lay 36 = .ok (.putfield 13, 3) := by decide +kernel
theorem d_SP_lay_39 : decode b_SP_lay 39 = .ok (.aload_n 0, 1) := by decide +kernel
theorem d_SP_lay_40 : decode b_SP_lay 40 = .ok (.iconst 0, 1) := by decide +kernel
theorem d_SP_lay_41 : decode b_SP_lay 41 = .ok (.putfield 16, 3) := by decide +kernel
theorem d_SP_lay_44 : decode b_SP_lay 44 = .ok (.return_, 1) := by decide +kernel
theorem d_SP_u16_0 : decode b_SP_u16 0 = .ok (.iload_n 1, 1) := by decide +kernel
theorem d_SP_u16_1 : decode b_SP_u16 1 = .ok (.ifCond .lt (13), 3) := by decide +kernel
theorem d_SP_u16_4 : decode b_SP_u16 4 = .ok (.iload_n 1, 1) := by decide +kernel
theorem d_SP_u16_5 : decode b_SP_u16 5 = .ok (.aload_n 0, 1) := by decide +kernel
theorem d_SP_u16_6 : decode b_SP_u16 6 = .ok (.getfield 13, 3) := by decide +kernel
theorem d_SP_u16_9 : decode b_SP_u16 9 = .ok (.iconst 1, 1) := by decide +kernel
theorem d_SP_u16_10 : decode b_SP_u16 10 = .ok (.isub, 1) := by decide +kernel
theorem d_SP_u16_11 : decode b_SP_u16 11 = .ok (.if_icmp .lt (10), 3) := by decide +kernel
theorem d_SP_u16_14 : decode b_SP_u16 14 = .ok (.aload_n 0, 1) := by decide +kernel
theorem d_SP_u16_15 : decode b_SP_u16 15 = .ok (.iconst 1, 1) := by decide +kernel
theorem d_SP_u16_16 : decode b_SP_u16 16 = .ok (.putfield 16, 3) := by decide +kernel
theorem d_SP_u16_19 : decode b_SP_u16 19 = .ok (.iconst 0, 1) := by decide +kernel
theorem d_SP_u16_20 : decode b_SP_u16 20 = .ok (.ireturn, 1) := by decide +kernel
theorem d_SP_u32_0 : decode b_SP_u32 0 = .ok (.lconst 0, 1) := by decide +kernel
theorem d_SP_u32_1 : decode b_SP_u32 1 = .ok (.lstore_n 2, 1) := by decide +kernel
theorem d_SP_u32_2 : decode b_SP_u32 2 = .ok (.iload_n 1, 1) := by decide +kernel
theorem d_SP_u32_3 : decode b_SP_u32 3 = .ok (.istore 4, 2) := by decide +kernel
theorem d_SP_u32_5 : decode b_SP_u32 5 = .ok (.iload 4, 2) := by decide +kernel
theorem d_SP_u32_7 : decode b_SP_u32 7 = .ok (.iload_n 1, 1) := by decide +kernel
theorem d_SP_u32_8 : decode b_SP_u32 8 = .ok (.iconst 4, 1) := by decide +kernel
theorem d_SP_u32_9 : decode b_SP_u32 9 = .ok (.iadd, 1) := by decide +kernel
theorem d_SP_u32_10 : decode b_SP_u32 10 = .ok (.if_icmp .ge (77), 3) := by decide +kernel
theorem d_SP_u32_13 : decode b_SP_u32 13 = .ok (.iload 4, 2) := by decide +kernel
theorem d_SP_u32_15 : decode b_SP_u32 15 = .ok (.ifCond .lt (16), 3) := by decide +kernel
theorem d_SP_u32_18 : decode b_SP_u32 18 = .ok (.iload 4, 2) := by decide +kernel
theorem d_SP_u32_20 : decode b_SP_u32 20 = .ok (.aload_n 0, 1) := by decide +kernel
theorem d_SP_u32_21 : decode b_SP_u32 21 = .ok (.getfield 13, 3) := by decide +kernel
theorem d_SP_u32_24 : decode b_SP_u32 24 = .ok (.if_icmp .ge (7), 3) := by decide +kernel
theorem d_SP_u32_31 : decode b_SP_u32 31 = .ok (.iconst 0, 1) := by decide +kernel
theorem d_SP_u32_32 : decode b_SP_u32 32 = .ok (.istore 5, 2) := by decide +kernel
theorem d_SP_u32_34 : decode b_SP_u32 34 = .ok (.aload_n 0, 1) := by decide +kernel
theorem d_SP_u32_35 : decode b_SP_u32 35 = .ok (.dup, 1) := by decide +kernel
theorem d_SP_u32_36 : decode b_SP_u32 36 = .ok (.getfield 16, 3) := by decide +kernel
theorem d_SP_u32_39 : decode b_SP_u32 39 = .ok (.iload 5, 2) := by decide +kernel
theorem d_SP_u32_41 : decode b_SP_u32 41 = .ok (.ifCond .ne (7), 3) := by decide +kernel
theorem d_SP_u32_44 : decode b_SP_u32 44 = .ok (.iconst 1, 1) := by decide +kernel
theorem d_SP_u32_45 : decode b_SP_u32 45 = .ok (.goto (4), 3) := by decide +kernel
theorem d_SP_u32_49 : decode b_SP_u32 49 = .ok (.ior, 1) := by decide +kernel
theorem d_SP_u32_50 : decode b_SP_u32 50 = .ok (.putfield 16, 3) := by decide +kernel
theorem d_SP_u32_53 : decode b_SP_u32 53 = .ok (.lload_n 2, 1) := by decide +kernel
theorem d_SP_u32_54 : decode b_SP_u32 54 = .ok (.bipush 8, 2) := by decide +kernel
theorem d_SP_u32_56 : decode b_SP_u32 56 = .ok (.lshl, 1) := by decide +kernel
theorem d_SP_u32_57 : decode b_SP_u32 57 = .ok (.iload 5, 2) := by decide +kernel
theorem d_SP_u32_59 : decode b_SP_u32 59 = .ok (.ifCond .eq (18), 3) := by decide +kernel
theorem d_SP_u32_77 : decode b_SP_u32 77 = .ok (.iconst 0, 1) := by decide +kernel
theorem d_SP_u32_78 : decode b_SP_u32 78 = .ok (.i2l, 1) := by decide +kernel
theorem d_SP_u32_79 : decode b_SP_u32 79 = .ok (.lor, 1) := by decide +kernel
theorem d_SP_u32_80 : decode b_SP_u32 80 = .ok (.lstore_n 2, 1) := by decide +kernel
theorem d_SP_u32_81 : decode b_SP_u32 81 = .ok (.iinc 4 (1), 3) := by decide +kernel
theorem d_SP_u32_84 : decode b_SP_u32 84 = .ok (.goto (-79), 3) := by decide +kernel
theorem d_SP_u32_87 : decode b_SP_u32 87 = .ok (.lload_n 2, 1) := by decide +kernel
theorem d_SP_u32_88 : decode b_SP_u32 88 = .ok (.lreturn, 1) := by decide +kernel
theorem d_DI_isRight_0 : decode b_DI_isRight 0 = .ok (.aload_n 0, 1) := by decide +kernel
theorem d_DI_isRight_1 : decode b_DI_isRight 1 = .ok (.getfield 18, 3) := by decide +kernel
theorem d_DI_isRight_4 : decode b_DI_isRight 4 = .ok (.iconst 0, 1) := by decide +kernel
theorem d_DI_isRight_5 : decode b_DI_isRight 5 = .ok (.iload_n 1, 1) := by decide +kernel
theorem d_DI_isRight_6 : decode b_DI_isRight 6 = .ok (.invokevirtual 25, 3) := by decide +kernel
theorem d_DI_isRight_9 : decode b_DI_isRight 9 = .ok (.aload_n 0, 1) := by decide +kernel
theorem d_DI_isRight_10 : decode b_DI_isRight 10 = .ok (.aload_n 0, 1) := by decide +kernel
theorem d_DI_isRight_11 : decode b_DI_isRight 11 = .ok (.getfield 18, 3) := by decide +kernel
theorem d_DI_isRight_14 : decode b_DI_isRight 14 = .ok (.iconst 4, 1) := by decide +kernel
theorem d_DI_isRight_15 : decode b_DI_isRight 15 = .ok (.invokevirtual 29, 3) := by decide +kernel
theorem d_DI_isRight_18 : decode b_DI_isRight 18 = .ok (.putfield 7, 3) := by decide +kernel
theorem d_DI_isRight_21 : decode b_DI_isRight 21 = .ok (.aload_n 0, 1) := by decide +kernel
theorem d_DI_isRight_22 : decode b_DI_isRight 22 = .ok (.getfield 18, 3) := by decide +kernel
theorem d_DI_isRight_25 : decode b_DI_isRight 25 = .ok (.iconst 0, 1) := by decide +kernel
theorem d_DI_isRight_26 : decode b_DI_isRight 26 = .ok (.invokevirtual 33, 3) := by decide +kernel
theorem d_DI_isRight_29 : decode b_DI_isRight 29 = .ok (.ldc2_w 37, 3) := by decide +kernel
theorem d_DI_isRight_32 : decode b_DI_isRight 32 = .ok (.lcmp, 1) := by decide +kernel
theorem d_DI_isRight_33 : decode b_DI_isRight 33 = .ok (.ifCond .ne (42), 3) := by decide +kernel
theorem d_DI_isRight_75 : decode b_DI_isRight 75 = .ok (.iconst 0, 1) := by decide +kernel
theorem d_DI_isRight_76 : decode b_DI_isRight 76 = .ok (.ireturn, 1) := by decide +kernel
theorem d_FO_loadFrom_0 : decode b_FO_loadFrom 0 = .ok (.aload_n 1, 1) := by decide +kernel
theorem d_FO_loadFrom_1 : decode b_FO_loadFrom 1 = .ok (.iconst 0, 1) := by decide +kernel
theorem d_FO_loadFrom_2 : decode b_FO_loadFrom 2 = .ok (.aload_n 0, 1) := by decide +kernel
theorem d_FO_loadFrom_3 : decode b_FO_loadFrom 3 = .ok (.getfield 9, 3) := by decide +kernel
theorem d_FO_loadFrom_6 : decode b_FO_loadFrom 6 = .ok (.iconst 0, 1) := by decide +kernel
theorem d_FO_loadFrom_7 : decode b_FO_loadFrom 7 = .ok (.aload_n 1, 1) := by decide +kernel
theorem d_FO_loadFrom_8 : decode b_FO_loadFrom 8 = .ok (.arraylength, 1) := by decide +kernel
theorem d_FO_loadFrom_9 : decode b_FO_loadFrom 9 = .ok (.aload_n 0, 1) := by decide +kernel
theorem d_FO_loadFrom_10 : decode b_FO_loadFrom 10 = .ok (.getfield 9, 3) := by decide +kernel
theorem d_FO_loadFrom_13 : decode b_FO_loadFrom 13 = .ok (.arraylength, 1) := by decide +kernel
theorem d_FO_loadFrom_14 : decode b_FO_loadFrom 14 = .ok (.invokestatic 78, 3) := by decide +kernel
theorem d_FO_loadFrom_17 : decode b_FO_loadFrom 17 = .ok (.invokestatic 84, 3) := by decide +kernel
theorem d_FO_loadFrom_20 : decode b_FO_loadFrom 20 = .ok (.aload_n 0, 1) := by decide +kernel
theorem d_FO_loadFrom_21 : decode b_FO_loadFrom 21 = .ok (.getfield 20, 3) := by decide +kernel
theorem d_FO_loadFrom_24 : decode b_FO_loadFrom 24 = .ok (.iload_n 2, 1) := by decide +kernel
theorem d_FO_loadFrom_25 : decode b_FO_loadFrom 25 = .ok (.invokevirtual 90, 3) := by decide +kernel
theorem d_FO_loadFrom_28 : decode b_FO_loadFrom 28 = .ok (.ifCond .ne (5), 3) := by decide +kernel
theorem d_FO_loadFrom_31 : decode b_FO_loadFrom 31 = .ok (.iconst (-1), 1) := by decide +kernel
theorem d_FO_loadFrom_32 : decode b_FO_loadFrom 32 = .ok (.ireturn, 1) := by decide +kernel
theorem d_GL_load_0 : decode b_GL_load 0 = .ok (.aload_n 0, 1) := by decide +kernel
theorem d_GL_load_1 : decode b_GL_load 1 = .ok (.getfield 24, 3) := by decide +kernel
theorem d_GL_load_4 : decode b_GL_load 4 = .ok (.aload_n 0, 1) := by decide +kernel
theorem d_GL_load_5 : decode b_GL_load 5 = .ok (.getfield 9, 3) := by decide +kernel
theorem d_GL_load_8 : decode b_GL_load 8 = .ok (.aload_n 0, 1) := by decide +kernel
theorem d_GL_load_9 : decode b_GL_load 9 = .ok (.getfield 13, 3) := by decide +kernel
theorem d_GL_load_12 : decode b_GL_load 12 = .ok (.iload_n 1, 1) := by decide +kernel
theorem d_GL_load_13 : decode b_GL_load 13 = .ok (.aload_n 0, 1) := by decide +kernel
theorem d_GL_load_14 : decode b_GL_load 14 = .ok (.getfield 34, 3) := by decide +kernel
theorem d_GL_load_17 : decode b_GL_load 17 = .ok (.invokevirtual 80, 3) := by decide +kernel
theorem d_GL_load_20 : decode b_GL_load 20 = .ok (.istore_n 2, 1) := by decide +kernel
theorem d_GL_load_21 : decode b_GL_load 21 = .ok (.iload_n 2, 1) := by decide +kernel
theorem d_GL_load_22 : decode b_GL_load 22 = .ok (.ifCond .le (26), 3) := by decide +kernel
theorem d_GL_load_48 : decode b_GL_load 48 = .ok (.iload_n 2, 1) := by decide +kernel
theorem d_GL_load_49 : decode b_GL_load 49 = .ok (.ireturn, 1) := by decide +kernel
section SM
variable {p : Program} {l : Launch} {e : Env} {R : Room} {s : State} {m : MethodId} {args : Array Value} {below : List Frame} {meth : Method} {c : Code} {H : Heap} {locs : List Loc} {cells slots : Nat} {Q : State → Prop} {pc : Nat} {ls : Array Slot} {rest : List Value}
theorem lv_ci {x y : Int32} (h : x = y) (k : W p l e R s m args below meth c H locs cells slots Q (F0 m pc ls (.int y :: rest))) : W p l e R s m args below meth c H locs cells slots Q (F0 m pc ls (.int x :: rest)) := by subst h; exact k
theorem lv_cl {x y : Int64} (h : x = y) (k : W p l e R s m args below meth c H locs cells slots Q (F0 m pc ls (.long y :: rest))) : W p l e R s m args below meth c H locs cells slots Q (F0 m pc ls (.long x :: rest)) := by subst h; exact k
end SM
theorem tw_inS {c1 c2 : Cond} {own : String} {i : Nat} {y : MethodName} (h1 : Cond.methodLink own i y ∈ tw_T) (h2 : Cond.static y ∈ tw_T) (h4 : Cond.initialized own ∈ tw_T) (h : c2 ∈ tw_T) : GoodIn (c1 :: tw_T) (wsS own i y (c2 :: tw_T)) := fun w hw => by
  have h9 : w ∈ tw_T := by
    simp only [wsS, List.cons_append, List.nil_append, List.mem_cons] at hw
    rcases hw with rfl | rfl | rfl | rfl | h5 <;> assumption
  exact ⟨List.mem_cons_of_mem _ h9, good_of_word (tw_good h9)⟩
