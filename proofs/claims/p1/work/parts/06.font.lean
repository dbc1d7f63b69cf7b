abbrev b_FO_init : ByteArray := prog_5_method_1_code
def y_FO_init : MethodName := ⟨R_FO, "<init>", "()V"⟩
def s_FO_init : List Cond := .code y_FO_init b_FO_init 1 none :: tw_T
abbrev b_MO_init : ByteArray := prog_6_method_1_code
def y_MO_init : MethodName := ⟨R_MO, "<init>", "()V"⟩
def s_MO_init : List Cond := .code y_MO_init b_MO_init 1 none :: tw_T
abbrev b_OU_init : ByteArray := prog_7_method_1_code
def y_OU_init : MethodName := ⟨R_OU, "<init>", "()V"⟩
def s_OU_init : List Cond := .code y_OU_init b_OU_init 1 none :: tw_T
abbrev b_PI_init : ByteArray := prog_9_method_1_code
def y_PI_init : MethodName := ⟨R_PI, "<init>", "()V"⟩
def s_PI_init : List Cond := .code y_PI_init b_PI_init 1 none :: tw_T
abbrev b_BR_init : ByteArray := prog_2_method_1_code
def y_BR_init : MethodName := ⟨R_BR, "<init>", "(LGlyphLines$Picture;LGlyphLines$Outline;)V"⟩
def s_BR_init : List Cond := .code y_BR_init b_BR_init 3 none :: tw_T
theorem w_3 : (Jvm.Cond.initialized "GlyphLines$Directory") ∈ tw_T := tw_of 3 (by decide +kernel) (by decide +kernel)
theorem w_5 : (Jvm.Cond.initialized "GlyphLines$CharacterMap") ∈ tw_T := tw_of 5 (by decide +kernel) (by decide +kernel)
theorem w_6 : (Jvm.Cond.initialized "GlyphLines$Pairs") ∈ tw_T := tw_of 6 (by decide +kernel) (by decide +kernel)
theorem w_8 : (Jvm.Cond.initialized "GlyphLines$Move") ∈ tw_T := tw_of 8 (by decide +kernel) (by decide +kernel)
theorem w_35 : (Jvm.Cond.methodLink "GlyphLines$Font" (3 : Nat) ({ cls := "java/lang/Object", name := "<init>", desc := "()V" } : Jvm.MethodName)) ∈ tw_T := tw_of 35 (by decide +kernel) (by decide +kernel)
theorem w_36 : (Jvm.Cond.classLink "GlyphLines$Font" (15 : Nat) "GlyphLines$Directory") ∈ tw_T := tw_of 36 (by decide +kernel) (by decide +kernel)
theorem w_37 : (Jvm.Cond.instantiable "GlyphLines$Directory" (3 : Nat)) ∈ tw_T := tw_of 37 (by decide +kernel) (by decide +kernel)
theorem w_38 : (Jvm.Cond.methodLink "GlyphLines$Font" (17 : Nat) ({ cls := "GlyphLines$Directory", name := "<init>", desc := "([I)V" } : Jvm.MethodName)) ∈ tw_T := tw_of 38 (by decide +kernel) (by decide +kernel)
theorem w_39 : (Jvm.Cond.instanceMethod ({ cls := "GlyphLines$Directory", name := "<init>", desc := "([I)V" } : Jvm.MethodName)) ∈ tw_T := tw_of 39 (by decide +kernel) (by decide +kernel)
theorem w_40 : (Jvm.Cond.code ({ cls := "GlyphLines$Directory", name := "<init>", desc := "([I)V" } : Jvm.MethodName) prog_4_method_1_code (2 : Nat) (Option.none : Option Jvm.ClassFile.FieldType)) ∈ tw_T := tw_of 40 (by decide +kernel) (by decide +kernel)
theorem w_68 : (Jvm.Cond.arrayClass Jvm.ClassFile.FieldType.int) ∈ tw_T := tw_of 68 (by decide +kernel) (by decide +kernel)
theorem w_79 : (Jvm.Cond.classLink "GlyphLines$Font" (24 : Nat) "GlyphLines$Span") ∈ tw_T := tw_of 79 (by decide +kernel) (by decide +kernel)
theorem w_80 : (Jvm.Cond.methodLink "GlyphLines$Font" (26 : Nat) ({ cls := "GlyphLines$Span", name := "<init>", desc := "([I)V" } : Jvm.MethodName)) ∈ tw_T := tw_of 80 (by decide +kernel) (by decide +kernel)
theorem w_81 : (Jvm.Cond.classLink "GlyphLines$Font" (46 : Nat) "GlyphLines$CharacterMap") ∈ tw_T := tw_of 81 (by decide +kernel) (by decide +kernel)
theorem w_82 : (Jvm.Cond.instantiable "GlyphLines$CharacterMap" (3 : Nat)) ∈ tw_T := tw_of 82 (by decide +kernel) (by decide +kernel)
theorem w_83 : (Jvm.Cond.methodLink "GlyphLines$Font" (48 : Nat) ({ cls := "GlyphLines$CharacterMap", name := "<init>", desc := "([I)V" } : Jvm.MethodName)) ∈ tw_T := tw_of 83 (by decide +kernel) (by decide +kernel)
theorem w_84 : (Jvm.Cond.instanceMethod ({ cls := "GlyphLines$CharacterMap", name := "<init>", desc := "([I)V" } : Jvm.MethodName)) ∈ tw_T := tw_of 84 (by decide +kernel) (by decide +kernel)
theorem w_85 : (Jvm.Cond.code ({ cls := "GlyphLines$CharacterMap", name := "<init>", desc := "([I)V" } : Jvm.MethodName) prog_3_method_1_code (2 : Nat) (Option.none : Option Jvm.ClassFile.FieldType)) ∈ tw_T := tw_of 85 (by decide +kernel) (by decide +kernel)
theorem w_100 : (Jvm.Cond.classLink "GlyphLines$Font" (53 : Nat) "GlyphLines$Pairs") ∈ tw_T := tw_of 100 (by decide +kernel) (by decide +kernel)
theorem w_101 : (Jvm.Cond.instantiable "GlyphLines$Pairs" (2 : Nat)) ∈ tw_T := tw_of 101 (by decide +kernel) (by decide +kernel)
theorem w_102 : (Jvm.Cond.methodLink "GlyphLines$Font" (55 : Nat) ({ cls := "GlyphLines$Pairs", name := "<init>", desc := "([I)V" } : Jvm.MethodName)) ∈ tw_T := tw_of 102 (by decide +kernel) (by decide +kernel)
theorem w_103 : (Jvm.Cond.instanceMethod ({ cls := "GlyphLines$Pairs", name := "<init>", desc := "([I)V" } : Jvm.MethodName)) ∈ tw_T := tw_of 103 (by decide +kernel) (by decide +kernel)
theorem w_104 : (Jvm.Cond.code ({ cls := "GlyphLines$Pairs", name := "<init>", desc := "([I)V" } : Jvm.MethodName) prog_8_method_1_code (2 : Nat) (Option.none : Option Jvm.ClassFile.FieldType)) ∈ tw_T := tw_of 104 (by decide +kernel) (by decide +kernel)
theorem w_117 : (Jvm.Cond.fieldLink "GlyphLines$Font" (9 : Nat) "GlyphLines$Font" "cells" "[I") ∈ tw_T := tw_of 117 (by decide +kernel) (by decide +kernel)
theorem w_118 : (Jvm.Cond.fieldLink "GlyphLines$Font" (20 : Nat) "GlyphLines$Font" "directory" "LGlyphLines$Directory;") ∈ tw_T := tw_of 118 (by decide +kernel) (by decide +kernel)
theorem w_119 : (Jvm.Cond.fieldLink "GlyphLines$Font" (27 : Nat) "GlyphLines$Font" "head" "LGlyphLines$Span;") ∈ tw_T := tw_of 119 (by decide +kernel) (by decide +kernel)
theorem w_120 : (Jvm.Cond.fieldLink "GlyphLines$Font" (31 : Nat) "GlyphLines$Font" "maxp" "LGlyphLines$Span;") ∈ tw_T := tw_of 120 (by decide +kernel) (by decide +kernel)
theorem w_121 : (Jvm.Cond.fieldLink "GlyphLines$Font" (34 : Nat) "GlyphLines$Font" "hhea" "LGlyphLines$Span;") ∈ tw_T := tw_of 121 (by decide +kernel) (by decide +kernel)
theorem w_122 : (Jvm.Cond.fieldLink "GlyphLines$Font" (37 : Nat) "GlyphLines$Font" "hmtx" "LGlyphLines$Span;") ∈ tw_T := tw_of 122 (by decide +kernel) (by decide +kernel)
theorem w_123 : (Jvm.Cond.fieldLink "GlyphLines$Font" (40 : Nat) "GlyphLines$Font" "loca" "LGlyphLines$Span;") ∈ tw_T := tw_of 123 (by decide +kernel) (by decide +kernel)
theorem w_124 : (Jvm.Cond.fieldLink "GlyphLines$Font" (43 : Nat) "GlyphLines$Font" "glyf" "LGlyphLines$Span;") ∈ tw_T := tw_of 124 (by decide +kernel) (by decide +kernel)
theorem w_125 : (Jvm.Cond.fieldLink "GlyphLines$Font" (49 : Nat) "GlyphLines$Font" "map" "LGlyphLines$CharacterMap;") ∈ tw_T := tw_of 125 (by decide +kernel) (by decide +kernel)
theorem w_126 : (Jvm.Cond.fieldLink "GlyphLines$Font" (56 : Nat) "GlyphLines$Font" "pairs" "LGlyphLines$Pairs;") ∈ tw_T := tw_of 126 (by decide +kernel) (by decide +kernel)
theorem w_127 : (Jvm.Cond.fieldLink "GlyphLines$Font" (60 : Nat) "GlyphLines$Font" "data" "[LGlyphLines$Span;") ∈ tw_T := tw_of 127 (by decide +kernel) (by decide +kernel)
theorem w_128 : (Jvm.Cond.fieldLink "GlyphLines$Font" (64 : Nat) "GlyphLines$Font" "em" "I") ∈ tw_T := tw_of 128 (by decide +kernel) (by decide +kernel)
theorem w_130 : (Jvm.Cond.fieldLink "GlyphLines$Font" (68 : Nat) "GlyphLines$Font" "glyphs" "I") ∈ tw_T := tw_of 130 (by decide +kernel) (by decide +kernel)
theorem w_133 : (Jvm.Cond.fieldLink "GlyphLines$Font" (71 : Nat) "GlyphLines$Font" "widths" "I") ∈ tw_T := tw_of 133 (by decide +kernel) (by decide +kernel)
theorem w_134 : (Jvm.Cond.fieldLink "GlyphLines$Font" (74 : Nat) "GlyphLines$Font" "isLong" "Z") ∈ tw_T := tw_of 134 (by decide +kernel) (by decide +kernel)
theorem w_171 : (Jvm.Cond.methodLink "GlyphLines$Outline" (1 : Nat) ({ cls := "java/lang/Object", name := "<init>", desc := "()V" } : Jvm.MethodName)) ∈ tw_T := tw_of 171 (by decide +kernel) (by decide +kernel)
theorem w_172 : (Jvm.Cond.classLink "GlyphLines$Outline" (26 : Nat) "GlyphLines$Move") ∈ tw_T := tw_of 172 (by decide +kernel) (by decide +kernel)
theorem w_173 : (Jvm.Cond.instantiable "GlyphLines$Move" (6 : Nat)) ∈ tw_T := tw_of 173 (by decide +kernel) (by decide +kernel)
theorem w_174 : (Jvm.Cond.methodLink "GlyphLines$Outline" (28 : Nat) ({ cls := "GlyphLines$Move", name := "<init>", desc := "()V" } : Jvm.MethodName)) ∈ tw_T := tw_of 174 (by decide +kernel) (by decide +kernel)
theorem w_175 : (Jvm.Cond.instanceMethod ({ cls := "GlyphLines$Move", name := "<init>", desc := "()V" } : Jvm.MethodName)) ∈ tw_T := tw_of 175 (by decide +kernel) (by decide +kernel)
theorem w_176 : (Jvm.Cond.code ({ cls := "GlyphLines$Move", name := "<init>", desc := "()V" } : Jvm.MethodName) prog_6_method_1_code (1 : Nat) (Option.none : Option Jvm.ClassFile.FieldType)) ∈ tw_T := tw_of 176 (by decide +kernel) (by decide +kernel)
theorem w_177 : (Jvm.Cond.methodLink "GlyphLines$Move" (1 : Nat) ({ cls := "java/lang/Object", name := "<init>", desc := "()V" } : Jvm.MethodName)) ∈ tw_T := tw_of 177 (by decide +kernel) (by decide +kernel)
theorem w_178 : (Jvm.Cond.fieldLink "GlyphLines$Move" (7 : Nat) "GlyphLines$Move" "a" "I") ∈ tw_T := tw_of 178 (by decide +kernel) (by decide +kernel)
theorem w_179 : (Jvm.Cond.fieldLink "GlyphLines$Move" (13 : Nat) "GlyphLines$Move" "b" "I") ∈ tw_T := tw_of 179 (by decide +kernel) (by decide +kernel)
theorem w_180 : (Jvm.Cond.fieldLink "GlyphLines$Move" (16 : Nat) "GlyphLines$Move" "c" "I") ∈ tw_T := tw_of 180 (by decide +kernel) (by decide +kernel)
theorem w_181 : (Jvm.Cond.fieldLink "GlyphLines$Move" (19 : Nat) "GlyphLines$Move" "d" "I") ∈ tw_T := tw_of 181 (by decide +kernel) (by decide +kernel)
theorem w_182 : (Jvm.Cond.fieldLink "GlyphLines$Move" (22 : Nat) "GlyphLines$Move" "dx" "I") ∈ tw_T := tw_of 182 (by decide +kernel) (by decide +kernel)
theorem w_183 : (Jvm.Cond.fieldLink "GlyphLines$Move" (25 : Nat) "GlyphLines$Move" "dy" "I") ∈ tw_T := tw_of 183 (by decide +kernel) (by decide +kernel)
theorem w_197 : (Jvm.Cond.arrayClass Jvm.ClassFile.FieldType.boolean) ∈ tw_T := tw_of 197 (by decide +kernel) (by decide +kernel)
theorem w_198 : (Jvm.Cond.fieldLink "GlyphLines$Outline" (9 : Nat) "GlyphLines$Outline" "xs" "[I") ∈ tw_T := tw_of 198 (by decide +kernel) (by decide +kernel)
theorem w_201 : (Jvm.Cond.fieldLink "GlyphLines$Outline" (13 : Nat) "GlyphLines$Outline" "ys" "[I") ∈ tw_T := tw_of 201 (by decide +kernel) (by decide +kernel)
theorem w_204 : (Jvm.Cond.fieldLink "GlyphLines$Outline" (16 : Nat) "GlyphLines$Outline" "isOn" "[Z") ∈ tw_T := tw_of 204 (by decide +kernel) (by decide +kernel)
theorem w_207 : (Jvm.Cond.fieldLink "GlyphLines$Outline" (20 : Nat) "GlyphLines$Outline" "contourOf" "[I") ∈ tw_T := tw_of 207 (by decide +kernel) (by decide +kernel)
theorem w_210 : (Jvm.Cond.fieldLink "GlyphLines$Outline" (23 : Nat) "GlyphLines$Outline" "flags" "[I") ∈ tw_T := tw_of 210 (by decide +kernel) (by decide +kernel)
theorem w_211 : (Jvm.Cond.fieldLink "GlyphLines$Outline" (29 : Nat) "GlyphLines$Outline" "move" "LGlyphLines$Move;") ∈ tw_T := tw_of 211 (by decide +kernel) (by decide +kernel)
theorem w_212 : (Jvm.Cond.fieldLink "GlyphLines$Outline" (33 : Nat) "GlyphLines$Outline" "points" "I") ∈ tw_T := tw_of 212 (by decide +kernel) (by decide +kernel)
theorem w_215 : (Jvm.Cond.fieldLink "GlyphLines$Outline" (37 : Nat) "GlyphLines$Outline" "contours" "I") ∈ tw_T := tw_of 215 (by decide +kernel) (by decide +kernel)
theorem w_239 : (Jvm.Cond.methodLink "GlyphLines$Picture" (1 : Nat) ({ cls := "java/lang/Object", name := "<init>", desc := "()V" } : Jvm.MethodName)) ∈ tw_T := tw_of 239 (by decide +kernel) (by decide +kernel)
theorem w_240 : (Jvm.Cond.fieldLink "GlyphLines$Picture" (9 : Nat) "GlyphLines$Picture" "rows" "[J") ∈ tw_T := tw_of 240 (by decide +kernel) (by decide +kernel)
theorem w_242 : (Jvm.Cond.fieldLink "GlyphLines$Picture" (13 : Nat) "GlyphLines$Picture" "steps" "[I") ∈ tw_T := tw_of 242 (by decide +kernel) (by decide +kernel)
theorem w_248 : (Jvm.Cond.arrayClass Jvm.ClassFile.FieldType.long) ∈ tw_T := tw_of 248 (by decide +kernel) (by decide +kernel)
theorem w_254 : (Jvm.Cond.methodLink "GlyphLines$Brush" (3 : Nat) ({ cls := "java/lang/Object", name := "<init>", desc := "()V" } : Jvm.MethodName)) ∈ tw_T := tw_of 254 (by decide +kernel) (by decide +kernel)
theorem w_255 : (Jvm.Cond.fieldLink "GlyphLines$Brush" (40 : Nat) "GlyphLines$Brush" "picture" "LGlyphLines$Picture;") ∈ tw_T := tw_of 255 (by decide +kernel) (by decide +kernel)
theorem w_256 : (Jvm.Cond.fieldLink "GlyphLines$Brush" (44 : Nat) "GlyphLines$Brush" "outline" "LGlyphLines$Outline;") ∈ tw_T := tw_of 256 (by decide +kernel) (by decide +kernel)
theorem w_257 : (Jvm.Cond.fieldLink "GlyphLines$Brush" (11 : Nat) "GlyphLines$Brush" "ringX" "[I") ∈ tw_T := tw_of 257 (by decide +kernel) (by decide +kernel)
theorem w_258 : (Jvm.Cond.fieldLink "GlyphLines$Brush" (17 : Nat) "GlyphLines$Brush" "ringY" "[I") ∈ tw_T := tw_of 258 (by decide +kernel) (by decide +kernel)
theorem w_259 : (Jvm.Cond.fieldLink "GlyphLines$Brush" (20 : Nat) "GlyphLines$Brush" "ringOn" "[Z") ∈ tw_T := tw_of 259 (by decide +kernel) (by decide +kernel)
theorem w_260 : (Jvm.Cond.fieldLink "GlyphLines$Brush" (24 : Nat) "GlyphLines$Brush" "ringSize" "I") ∈ tw_T := tw_of 260 (by decide +kernel) (by decide +kernel)
theorem w_261 : (Jvm.Cond.fieldLink "GlyphLines$Brush" (28 : Nat) "GlyphLines$Brush" "em" "I") ∈ tw_T := tw_of 261 (by decide +kernel) (by decide +kernel)
theorem w_262 : (Jvm.Cond.fieldLink "GlyphLines$Brush" (31 : Nat) "GlyphLines$Brush" "ppem" "I") ∈ tw_T := tw_of 262 (by decide +kernel) (by decide +kernel)
theorem w_263 : (Jvm.Cond.fieldLink "GlyphLines$Brush" (34 : Nat) "GlyphLines$Brush" "pen" "I") ∈ tw_T := tw_of 263 (by decide +kernel) (by decide +kernel)
theorem w_265 : (Jvm.Cond.fieldLink "GlyphLines$Brush" (37 : Nat) "GlyphLines$Brush" "glyphBefore" "I") ∈ tw_T := tw_of 265 (by decide +kernel) (by decide +kernel)
theorem d_BR_init_0 : decode b_BR_init 0 = .ok (.aload_n 0, 1) := by decide +kernel
theorem d_BR_init_1 : decode b_BR_init 1 = .ok (.invokespecial 3, 3) := by decide +kernel
theorem d_BR_init_12 : decode b_BR_init 12 = .ok (.aload_n 0, 1) := by decide +kernel
theorem d_BR_init_13 : decode b_BR_init 13 = .ok (.bipush 48, 2) := by decide +kernel
theorem d_BR_init_15 : decode b_BR_init 15 = .ok (.newarray .int, 2) := by decide +kernel
theorem d_BR_init_17 : decode b_BR_init 17 = .ok (.putfield 17, 3) := by decide +kernel
theorem d_BR_init_20 : decode b_BR_init 20 = .ok (.aload_n 0, 1) := by decide +kernel
theorem d_BR_init_21 : decode b_BR_init 21 = .ok (.bipush 48, 2) := by decide +kernel
theorem d_BR_init_23 : decode b_BR_init 23 = .ok (.newarray .boolean, 2) := by decide +kernel
theorem d_BR_init_25 : decode b_BR_init 25 = .ok (.putfield 20, 3) := by decide +kernel
theorem d_BR_init_28 : decode b_BR_init 28 = .ok (.aload_n 0, 1) := by decide +kernel
theorem d_BR_init_29 : decode b_BR_init 29 = .ok (.iconst 0, 1) := by decide +kernel
theorem d_BR_init_30 : decode b_BR_init 30 = .ok (.putfield 24, 3) := by decide +kernel
theorem d_BR_init_33 : decode b_BR_init 33 = .ok (.aload_n 0, 1) := by decide +kernel
theorem d_BR_init_34 : decode b_BR_init 34 = .ok (.iconst 1, 1) := by decide +kernel
theorem d_BR_init_35 : decode b_BR_init 35 = .ok (.putfield 28, 3) := by decide +kernel
theorem d_BR_init_38 : decode b_BR_init 38 = .ok (.aload_n 0, 1) := by decide +kernel
theorem d_BR_init_39 : decode b_BR_init 39 = .ok (.iconst 0, 1) := by decide +kernel
theorem d_BR_init_4 : decode b_BR_init 4 = .ok (.aload_n 0, 1) := by decide +kernel
theorem d_BR_init_40 : decode b_BR_init 40 = .ok (.putfield 31, 3) := by decide +kernel
theorem d_BR_init_43 : decode b_BR_init 43 = .ok (.aload_n 0, 1) := by decide +kernel
theorem d_BR_init_44 : decode b_BR_init 44 = .ok (.iconst 0, 1) := by decide +kernel
theorem d_BR_init_45 : decode b_BR_init 45 = .ok (.putfield 34, 3) := by decide +kernel
theorem d_BR_init_48 : decode b_BR_init 48 = .ok (.aload_n 0, 1) := by decide +kernel
theorem d_BR_init_49 : decode b_BR_init 49 = .ok (.iconst (-1), 1) := by decide +kernel
theorem d_BR_init_5 : decode b_BR_init 5 = .ok (.bipush 48, 2) := by decide +kernel
theorem d_BR_init_50 : decode b_BR_init 50 = .ok (.putfield 37, 3) := by decide +kernel
theorem d_BR_init_53 : decode b_BR_init 53 = .ok (.aload_n 0, 1) := by decide +kernel
theorem d_BR_init_54 : decode b_BR_init 54 = .ok (.aload_n 1, 1) := by decide +kernel
theorem d_BR_init_55 : decode b_BR_init 55 = .ok (.putfield 40, 3) := by decide +kernel
theorem d_BR_init_58 : decode b_BR_init 58 = .ok (.aload_n 0, 1) := by decide +kernel
theorem d_BR_init_59 : decode b_BR_init 59 = .ok (.aload_n 2, 1) := by decide +kernel
theorem d_BR_init_60 : decode b_BR_init 60 = .ok (.putfield 44, 3) := by decide +kernel
theorem d_BR_init_63 : decode b_BR_init 63 = .ok (.return_, 1) := by decide +kernel
theorem d_BR_init_7 : decode b_BR_init 7 = .ok (.newarray .int, 2) := by decide +kernel
theorem d_BR_init_9 : decode b_BR_init 9 = .ok (.putfield 11, 3) := by decide +kernel
theorem d_FO_init_0 : decode b_FO_init 0 = .ok (.aload_n 0, 1) := by decide +kernel
theorem d_FO_init_1 : decode b_FO_init 1 = .ok (.invokespecial 3, 3) := by decide +kernel
theorem d_FO_init_10 : decode b_FO_init 10 = .ok (.putfield 9, 3) := by decide +kernel
theorem d_FO_init_100 : decode b_FO_init 100 = .ok (.putfield 40, 3) := by decide +kernel
theorem d_FO_init_103 : decode b_FO_init 103 = .ok (.aload_n 0, 1) := by decide +kernel
theorem d_FO_init_104 : decode b_FO_init 104 = .ok (.new 24, 3) := by decide +kernel
theorem d_FO_init_107 : decode b_FO_init 107 = .ok (.dup, 1) := by decide +kernel
theorem d_FO_init_108 : decode b_FO_init 108 = .ok (.aload_n 0, 1) := by decide +kernel
theorem d_FO_init_109 : decode b_FO_init 109 = .ok (.getfield 9, 3) := by decide +kernel
theorem d_FO_init_112 : decode b_FO_init 112 = .ok (.invokespecial 26, 3) := by decide +kernel
theorem d_FO_init_115 : decode b_FO_init 115 = .ok (.putfield 43, 3) := by decide +kernel
theorem d_FO_init_118 : decode b_FO_init 118 = .ok (.aload_n 0, 1) := by decide +kernel
theorem d_FO_init_119 : decode b_FO_init 119 = .ok (.new 46, 3) := by decide +kernel
theorem d_FO_init_122 : decode b_FO_init 122 = .ok (.dup, 1) := by decide +kernel
theorem d_FO_init_123 : decode b_FO_init 123 = .ok (.aload_n 0, 1) := by decide +kernel
theorem d_FO_init_124 : decode b_FO_init 124 = .ok (.getfield 9, 3) := by decide +kernel
theorem d_FO_init_127 : decode b_FO_init 127 = .ok (.invokespecial 48, 3) := by decide +kernel
theorem d_FO_init_13 : decode b_FO_init 13 = .ok (.aload_n 0, 1) := by decide +kernel
theorem d_FO_init_130 : decode b_FO_init 130 = .ok (.putfield 49, 3) := by decide +kernel
theorem d_FO_init_133 : decode b_FO_init 133 = .ok (.aload_n 0, 1) := by decide +kernel
theorem d_FO_init_134 : decode b_FO_init 134 = .ok (.new 53, 3) := by decide +kernel
theorem d_FO_init_137 : decode b_FO_init 137 = .ok (.dup, 1) := by decide +kernel
theorem d_FO_init_138 : decode b_FO_init 138 = .ok (.aload_n 0, 1) := by decide +kernel
theorem d_FO_init_139 : decode b_FO_init 139 = .ok (.getfield 9, 3) := by decide +kernel
theorem d_FO_init_14 : decode b_FO_init 14 = .ok (.new 15, 3) := by decide +kernel
theorem d_FO_init_142 : decode b_FO_init 142 = .ok (.invokespecial 55, 3) := by decide +kernel
theorem d_FO_init_145 : decode b_FO_init 145 = .ok (.putfield 56, 3) := by decide +kernel
theorem d_FO_init_148 : decode b_FO_init 148 = .ok (.aload_n 0, 1) := by decide +kernel
theorem d_FO_init_149 : decode b_FO_init 149 = .ok (.iconst 3, 1) := by decide +kernel
theorem d_FO_init_150 : decode b_FO_init 150 = .ok (.anewarray 24, 3) := by decide +kernel
theorem d_FO_init_153 : decode b_FO_init 153 = .ok (.dup, 1) := by decide +kernel
theorem d_FO_init_154 : decode b_FO_init 154 = .ok (.iconst 0, 1) := by decide +kernel
theorem d_FO_init_155 : decode b_FO_init 155 = .ok (.new 24, 3) := by decide +kernel
theorem d_FO_init_158 : decode b_FO_init 158 = .ok (.dup, 1) := by decide +kernel
theorem d_FO_init_159 : decode b_FO_init 159 = .ok (.aload_n 0, 1) := by decide +kernel
theorem d_FO_init_160 : decode b_FO_init 160 = .ok (.getfield 9, 3) := by decide +kernel
theorem d_FO_init_163 : decode b_FO_init 163 = .ok (.invokespecial 26, 3) := by decide +kernel
theorem d_FO_init_166 : decode b_FO_init 166 = .ok (.aastore, 1) := by decide +kernel
theorem d_FO_init_167 : decode b_FO_init 167 = .ok (.dup, 1) := by decide +kernel
theorem d_FO_init_168 : decode b_FO_init 168 = .ok (.iconst 1, 1) := by decide +kernel
theorem d_FO_init_169 : decode b_FO_init 169 = .ok (.new 24, 3) := by decide +kernel
theorem d_FO_init_17 : decode b_FO_init 17 = .ok (.dup, 1) := by decide +kernel
theorem d_FO_init_172 : decode b_FO_init 172 = .ok (.dup, 1) := by decide +kernel
theorem d_FO_init_173 : decode b_FO_init 173 = .ok (.aload_n 0, 1) := by decide +kernel
theorem d_FO_init_174 : decode b_FO_init 174 = .ok (.getfield 9, 3) := by decide +kernel
theorem d_FO_init_177 : decode b_FO_init 177 = .ok (.invokespecial 26, 3) := by decide +kernel
theorem d_FO_init_18 : decode b_FO_init 18 = .ok (.aload_n 0, 1) := by decide +kernel
theorem d_FO_init_180 : decode b_FO_init 180 = .ok (.aastore, 1) := by decide +kernel
theorem d_FO_init_181 : decode b_FO_init 181 = .ok (.dup, 1) := by decide +kernel
theorem d_FO_init_182 : decode b_FO_init 182 = .ok (.iconst 2, 1) := by decide +kernel
theorem d_FO_init_183 : decode b_FO_init 183 = .ok (.new 24, 3) := by decide +kernel
theorem d_FO_init_186 : decode b_FO_init 186 = .ok (.dup, 1) := by decide +kernel
theorem d_FO_init_187 : decode b_FO_init 187 = .ok (.aload_n 0, 1) := by decide +kernel
theorem d_FO_init_188 : decode b_FO_init 188 = .ok (.getfield 9, 3) := by decide +kernel
theorem d_FO_init_19 : decode b_FO_init 19 = .ok (.getfield 9, 3) := by decide +kernel
theorem d_FO_init_191 : decode b_FO_init 191 = .ok (.invokespecial 26, 3) := by decide +kernel
theorem d_FO_init_194 : decode b_FO_init 194 = .ok (.aastore, 1) := by decide +kernel
theorem d_FO_init_195 : decode b_FO_init 195 = .ok (.putfield 60, 3) := by decide +kernel
theorem d_FO_init_198 : decode b_FO_init 198 = .ok (.aload_n 0, 1) := by decide +kernel
theorem d_FO_init_199 : decode b_FO_init 199 = .ok (.bipush 64, 2) := by decide +kernel
theorem d_FO_init_201 : decode b_FO_init 201 = .ok (.putfield 64, 3) := by decide +kernel
theorem d_FO_init_204 : decode b_FO_init 204 = .ok (.aload_n 0, 1) := by decide +kernel
theorem d_FO_init_205 : decode b_FO_init 205 = .ok (.iconst 0, 1) := by decide +kernel
theorem d_FO_init_206 : decode b_FO_init 206 = .ok (.putfield 68, 3) := by decide +kernel
theorem d_FO_init_209 : decode b_FO_init 209 = .ok (.aload_n 0, 1) := by decide +kernel
theorem d_FO_init_210 : decode b_FO_init 210 = .ok (.iconst 0, 1) := by decide +kernel
theorem d_FO_init_211 : decode b_FO_init 211 = .ok (.putfield 71, 3) := by decide +kernel
theorem d_FO_init_214 : decode b_FO_init 214 = .ok (.aload_n 0, 1) := by decide +kernel
theorem d_FO_init_215 : decode b_FO_init 215 = .ok (.iconst 0, 1) := by decide +kernel
theorem d_FO_init_216 : decode b_FO_init 216 = .ok (.putfield 74, 3) := by decide +kernel
theorem d_FO_init_219 : decode b_FO_init 219 = .ok (.return_, 1) := by decide +kernel
theorem d_FO_init_22 : decode b_FO_init 22 = .ok (.invokespecial 17, 3) := by decide +kernel
theorem d_FO_init_25 : decode b_FO_init 25 = .ok (.putfield 20, 3) := by decide +kernel
theorem d_FO_init_28 : decode b_FO_init 28 = .ok (.aload_n 0, 1) := by decide +kernel
theorem d_FO_init_29 : decode b_FO_init 29 = .ok (.new 24, 3) := by decide +kernel
theorem d_FO_init_32 : decode b_FO_init 32 = .ok (.dup, 1) := by decide +kernel
theorem d_FO_init_33 : decode b_FO_init 33 = .ok (.aload_n 0, 1) := by decide +kernel
theorem d_FO_init_34 : decode b_FO_init 34 = .ok (.getfield 9, 3) := by decide +kernel
theorem d_FO_init_37 : decode b_FO_init 37 = .ok (.invokespecial 26, 3) := by decide +kernel
theorem d_FO_init_4 : decode b_FO_init 4 = .ok (.aload_n 0, 1) := by decide +kernel
theorem d_FO_init_40 : decode b_FO_init 40 = .ok (.putfield 27, 3) := by decide +kernel
theorem d_FO_init_43 : decode b_FO_init 43 = .ok (.aload_n 0, 1) := by decide +kernel
theorem d_FO_init_44 : decode b_FO_init 44 = .ok (.new 24, 3) := by decide +kernel
theorem d_FO_init_47 : decode b_FO_init 47 = .ok (.dup, 1) := by decide +kernel
theorem d_FO_init_48 : decode b_FO_init 48 = .ok (.aload_n 0, 1) := by decide +kernel
theorem d_FO_init_49 : decode b_FO_init 49 = .ok (.getfield 9, 3) := by decide +kernel
theorem d_FO_init_5 : decode b_FO_init 5 = .ok (.sipush 1200, 3) := by decide +kernel
theorem d_FO_init_52 : decode b_FO_init 52 = .ok (.invokespecial 26, 3) := by decide +kernel
theorem d_FO_init_55 : decode b_FO_init 55 = .ok (.putfield 31, 3) := by decide +kernel
theorem d_FO_init_58 : decode b_FO_init 58 = .ok (.aload_n 0, 1) := by decide +kernel
theorem d_FO_init_59 : decode b_FO_init 59 = .ok (.new 24, 3) := by decide +kernel
theorem d_FO_init_62 : decode b_FO_init 62 = .ok (.dup, 1) := by decide +kernel
theorem d_FO_init_63 : decode b_FO_init 63 = .ok (.aload_n 0, 1) := by decide +kernel
theorem d_FO_init_64 : decode b_FO_init 64 = .ok (.getfield 9, 3) := by decide +kernel
theorem d_FO_init_67 : decode b_FO_init 67 = .ok (.invokespecial 26, 3) := by decide +kernel
theorem d_FO_init_70 : decode b_FO_init 70 = .ok (.putfield 34, 3) := by decide +kernel
theorem d_FO_init_73 : decode b_FO_init 73 = .ok (.aload_n 0, 1) := by decide +kernel
theorem d_FO_init_74 : decode b_FO_init 74 = .ok (.new 24, 3) := by decide +kernel
theorem d_FO_init_77 : decode b_FO_init 77 = .ok (.dup, 1) := by decide +kernel
theorem d_FO_init_78 : decode b_FO_init 78 = .ok (.aload_n 0, 1) := by decide +kernel
theorem d_FO_init_79 : decode b_FO_init 79 = .ok (.getfield 9, 3) := by decide +kernel
theorem d_FO_init_8 : decode b_FO_init 8 = .ok (.newarray .int, 2) := by decide +kernel
theorem d_FO_init_82 : decode b_FO_init 82 = .ok (.invokespecial 26, 3) := by decide +kernel
theorem d_FO_init_85 : decode b_FO_init 85 = .ok (.putfield 37, 3) := by decide +kernel
theorem d_FO_init_88 : decode b_FO_init 88 = .ok (.aload_n 0, 1) := by decide +kernel
theorem d_FO_init_89 : decode b_FO_init 89 = .ok (.new 24, 3) := by decide +kernel
theorem d_FO_init_92 : decode b_FO_init 92 = .ok (.dup, 1) := by decide +kernel
theorem d_FO_init_93 : decode b_FO_init 93 = .ok (.aload_n 0, 1) := by decide +kernel
theorem d_FO_init_94 : decode b_FO_init 94 = .ok (.getfield 9, 3) := by decide +kernel
theorem d_FO_init_97 : decode b_FO_init 97 = .ok (.invokespecial 26, 3) := by decide +kernel
theorem d_MO_init_0 : decode b_MO_init 0 = .ok (.aload_n 0, 1) := by decide +kernel
theorem d_MO_init_1 : decode b_MO_init 1 = .ok (.invokespecial 1, 3) := by decide +kernel
theorem d_MO_init_10 : decode b_MO_init 10 = .ok (.iconst 0, 1) := by decide +kernel
theorem d_MO_init_11 : decode b_MO_init 11 = .ok (.putfield 13, 3) := by decide +kernel
theorem d_MO_init_14 : decode b_MO_init 14 = .ok (.aload_n 0, 1) := by decide +kernel
theorem d_MO_init_15 : decode b_MO_init 15 = .ok (.iconst 0, 1) := by decide +kernel
theorem d_MO_init_16 : decode b_MO_init 16 = .ok (.putfield 16, 3) := by decide +kernel
theorem d_MO_init_19 : decode b_MO_init 19 = .ok (.aload_n 0, 1) := by decide +kernel
theorem d_MO_init_20 : decode b_MO_init 20 = .ok (.iconst 0, 1) := by decide +kernel
theorem d_MO_init_21 : decode b_MO_init 21 = .ok (.putfield 19, 3) := by decide +kernel
theorem d_MO_init_24 : decode b_MO_init 24 = .ok (.aload_n 0, 1) := by decide +kernel
theorem d_MO_init_25 : decode b_MO_init 25 = .ok (.iconst 0, 1) := by decide +kernel
theorem d_MO_init_26 : decode b_MO_init 26 = .ok (.putfield 22, 3) := by decide +kernel
theorem d_MO_init_29 : decode b_MO_init 29 = .ok (.aload_n 0, 1) := by decide +kernel
theorem d_MO_init_30 : decode b_MO_init 30 = .ok (.iconst 0, 1) := by decide +kernel
theorem d_MO_init_31 : decode b_MO_init 31 = .ok (.putfield 25, 3) := by decide +kernel
theorem d_MO_init_34 : decode b_MO_init 34 = .ok (.return_, 1) := by decide +kernel
theorem d_MO_init_4 : decode b_MO_init 4 = .ok (.aload_n 0, 1) := by decide +kernel
theorem d_MO_init_5 : decode b_MO_init 5 = .ok (.iconst 0, 1) := by decide +kernel
theorem d_MO_init_6 : decode b_MO_init 6 = .ok (.putfield 7, 3) := by decide +kernel
theorem d_MO_init_9 : decode b_MO_init 9 = .ok (.aload_n 0, 1) := by decide +kernel
theorem d_OU_init_0 : decode b_OU_init 0 = .ok (.aload_n 0, 1) := by decide +kernel
theorem d_OU_init_1 : decode b_OU_init 1 = .ok (.invokespecial 1, 3) := by decide +kernel
theorem d_OU_init_12 : decode b_OU_init 12 = .ok (.aload_n 0, 1) := by decide +kernel
theorem d_OU_init_13 : decode b_OU_init 13 = .ok (.bipush 64, 2) := by decide +kernel
theorem d_OU_init_15 : decode b_OU_init 15 = .ok (.newarray .int, 2) := by decide +kernel
theorem d_OU_init_17 : decode b_OU_init 17 = .ok (.putfield 13, 3) := by decide +kernel
theorem d_OU_init_20 : decode b_OU_init 20 = .ok (.aload_n 0, 1) := by decide +kernel
theorem d_OU_init_21 : decode b_OU_init 21 = .ok (.bipush 64, 2) := by decide +kernel
theorem d_OU_init_23 : decode b_OU_init 23 = .ok (.newarray .boolean, 2) := by decide +kernel
theorem d_OU_init_25 : decode b_OU_init 25 = .ok (.putfield 16, 3) := by decide +kernel
theorem d_OU_init_28 : decode b_OU_init 28 = .ok (.aload_n 0, 1) := by decide +kernel
theorem d_OU_init_29 : decode b_OU_init 29 = .ok (.bipush 64, 2) := by decide +kernel
theorem d_OU_init_31 : decode b_OU_init 31 = .ok (.newarray .int, 2) := by decide +kernel
theorem d_OU_init_33 : decode b_OU_init 33 = .ok (.putfield 20, 3) := by decide +kernel
theorem d_OU_init_36 : decode b_OU_init 36 = .ok (.aload_n 0, 1) := by decide +kernel
theorem d_OU_init_37 : decode b_OU_init 37 = .ok (.bipush 24, 2) := by decide +kernel
theorem d_OU_init_39 : decode b_OU_init 39 = .ok (.newarray .int, 2) := by decide +kernel
theorem d_OU_init_4 : decode b_OU_init 4 = .ok (.aload_n 0, 1) := by decide +kernel
theorem d_OU_init_41 : decode b_OU_init 41 = .ok (.putfield 23, 3) := by decide +kernel
theorem d_OU_init_44 : decode b_OU_init 44 = .ok (.aload_n 0, 1) := by decide +kernel
theorem d_OU_init_45 : decode b_OU_init 45 = .ok (.new 26, 3) := by decide +kernel
theorem d_OU_init_48 : decode b_OU_init 48 = .ok (.dup, 1) := by decide +kernel
theorem d_OU_init_49 : decode b_OU_init 49 = .ok (.invokespecial 28, 3) := by decide +kernel
theorem d_OU_init_5 : decode b_OU_init 5 = .ok (.bipush 64, 2) := by decide +kernel
theorem d_OU_init_52 : decode b_OU_init 52 = .ok (.putfield 29, 3) := by decide +kernel
theorem d_OU_init_55 : decode b_OU_init 55 = .ok (.aload_n 0, 1) := by decide +kernel
theorem d_OU_init_56 : decode b_OU_init 56 = .ok (.iconst 0, 1) := by decide +kernel
theorem d_OU_init_57 : decode b_OU_init 57 = .ok (.putfield 33, 3) := by decide +kernel
theorem d_OU_init_60 : decode b_OU_init 60 = .ok (.aload_n 0, 1) := by decide +kernel
theorem d_OU_init_61 : decode b_OU_init 61 = .ok (.iconst 0, 1) := by decide +kernel
theorem d_OU_init_62 : decode b_OU_init 62 = .ok (.putfield 37, 3) := by decide +kernel
theorem d_OU_init_65 : decode b_OU_init 65 = .ok (.return_, 1) := by decide +kernel
theorem d_OU_init_7 : decode b_OU_init 7 = .ok (.newarray .int, 2) := by decide +kernel
theorem d_OU_init_9 : decode b_OU_init 9 = .ok (.putfield 9, 3) := by decide +kernel
theorem d_PI_init_0 : decode b_PI_init 0 = .ok (.aload_n 0, 1) := by decide +kernel
theorem d_PI_init_1 : decode b_PI_init 1 = .ok (.invokespecial 1, 3) := by decide +kernel
theorem d_PI_init_12 : decode b_PI_init 12 = .ok (.aload_n 0, 1) := by decide +kernel
theorem d_PI_init_13 : decode b_PI_init 13 = .ok (.sipush 1152, 3) := by decide +kernel
theorem d_PI_init_16 : decode b_PI_init 16 = .ok (.newarray .int, 2) := by decide +kernel
theorem d_PI_init_18 : decode b_PI_init 18 = .ok (.putfield 13, 3) := by decide +kernel
theorem d_PI_init_21 : decode b_PI_init 21 = .ok (.return_, 1) := by decide +kernel
theorem d_PI_init_4 : decode b_PI_init 4 = .ok (.aload_n 0, 1) := by decide +kernel
theorem d_PI_init_5 : decode b_PI_init 5 = .ok (.bipush 24, 2) := by decide +kernel
theorem d_PI_init_7 : decode b_PI_init 7 = .ok (.newarray .long, 2) := by decide +kernel
theorem d_PI_init_9 : decode b_PI_init 9 = .ok (.putfield 9, 3) := by decide +kernel
set_option maxHeartbeats 4000000 in
set_option maxRecDepth 100000 in
/-- GlyphLines$Font.<init> -/
theorem c_FO_init (l : Launch) (dC : Nat → ClassId) (dI : Nat → Nat → Nat) (h0 : Nat) (sz : Nat) : Met l y_FO_init s_FO_init ({ frames := 12, cells := 18, slots := 1263, locals := 400 }) (va_Pc [.ref h0] (fun U => U.heap.size = sz ∧ va_P (dC, dI) cls_ [(h0, .inr (4, [.null, .null, .null, .null, .null, .null, .null, .null, .null, .null, .null, .int 0, .int 0, .int 0, .int 0]))] U.heap ∧ va_K (dC, dI) cls_ [] U ∧ va_D (fun _ => True) [(h0, .inr (4, [.null, .null, .null, .null, .null, .null, .null, .null, .null, .null, .null, .int 0, .int 0, .int 0, .int 0]))] ∧ va_AO "GlyphLines$Span" U)) (va_Qv (fun _ : Unit => True) (fun (_ : Unit) (t : State) => ∃ f0 f1 f2 f3 f4 f5 f6 f7 f8 f9 f10 qw qt cA, va_P (dC, dI) cls_ [(h0, .inr (4, [.ref f0, .ref f1, .ref f2, .ref f3, .ref f4, .ref f5, .ref f6, .ref f7, .ref f8, .ref f9, .ref f10, .int 64, .int 0, .int 0, .int 0])), (f0, .inl (cA, 1200, .inl (fun _ => 0))), (f1, .inr (2, [.ref qw, .ref qt, .int 0])), (qw, .inr (0, [.ref f0, .int 0, .int 0, .int 0]))] t.heap ∧ va_K (dC, dI) cls_ [(cA, .int)] t ∧ va_D (va_A [(h0, .inr (4, [.null, .null, .null, .null, .null, .null, .null, .null, .null, .null, .null, .int 0, .int 0, .int 0, .int 0]))] sz) [(h0, .inr (4, [.ref f0, .ref f1, .ref f2, .ref f3, .ref f4, .ref f5, .ref f6, .ref f7, .ref f8, .ref f9, .ref f10, .int 64, .int 0, .int 0, .int 0])), (f0, .inl (cA, 1200, .inl (fun _ => 0))), (f1, .inr (2, [.ref qw, .ref qt, .int 0])), (qw, .inr (0, [.ref f0, .int 0, .int 0, .int 0]))]) (va_A [(h0, .inr (4, [.null, .null, .null, .null, .null, .null, .null, .null, .null, .null, .null, .int 0, .int 0, .int 0, .int 0]))] sz)) 18 1263 (va_A [(h0, .inr (4, [.null, .null, .null, .null, .null, .null, .null, .null, .null, .null, .null, .int 0, .int 0, .int 0, .int 0]))] sz) := by
  refine Met.ofW (cc := b_FO_init) (maxL := 1) (ret := none) (by decide) rfl ?_
  intro p e s m args below meth c s₁ B hml hv
  obtain ⟨rfl, hsz, hP, hK, hD0, hO⟩ := hv
  have hx := B.exec
  have hb := B.bytes
  have hr := B.returns
  have hts := atoms_spec (ws := s_FO_init) B.pre
  have hown : s.vm.findClass R_FO = some m.cls := findClass_of_methodNamed B.named
  have hlocks := B.notSynchronized
  have hin : meth.name = "<init>" := (name_of_methodNamed B.named B.method).1
  subst hsz
  have hD := hD0.self (sz := s.heap.size)
  generalize hAe : va_A [(h0, .inr (4, [.null, .null, .null, .null, .null, .null, .null, .null, .null, .null, .null, .int 0, .int 0, .int 0, .int 0]))] s.heap.size = A at hD ⊢
  have hA : ∀ q : Nat, s.heap.size ≤ q → A q := fun q h => by rw [← hAe]; exact Or.inr h
  have hS : va_S A s.heap s.heap [] := va_S.rf
  have hP : va_P (dC, dI) cls_ [(h0, .inr (4, [.null, .null, .null, .null, .null, .null, .null, .null, .null, .null, .null, .int 0, .int 0, .int 0, .int 0]))] s.heap := hP
  have hl := lv_entry ([.ref h0]) (n := 1) (Nat.le_of_ble_eq_true rfl)
  rw [lg_entry_eq]
  generalize (lg_sl ([.ref h0]) ++ List.replicate (1 - (lg_sl ([.ref h0])).length) Slot.unset).toArray = ls at hl ⊢
  have hl : lv_has ls 1 [(0, .ref h0)] := hl
  refine lv_aload_n hx hb d_FO_init_0 rfl (lv_at hl 0 rfl) ?_
  refine W.objInit hx hb hown (hts _ (List.mem_cons_of_mem _ w_35)) (hts _ (List.mem_cons_of_mem _ w_28)) (hts _ (List.mem_cons_of_mem _ w_29)) rfl (by rw [hml]; exact hl.1) rfl d_FO_init_1 (Nat.le_of_ble_eq_true rfl) (Nat.le_of_ble_eq_true rfl) ?_
  refine W.eq (g2 := F0 m 4 ls []) rfl ?_
  refine lv_aload_n hx hb d_FO_init_4 rfl (lv_at hl 0 rfl) ?_
  refine lv_sipush (v := 1200) hx hb d_FO_init_5 (by decide) ?_
  refine va_newa (atype := .int) (a0 := (1200, .inl (fun _ => 0))) (ty := .int) (N' := 1200) hx hb (hts _ (List.mem_cons_of_mem _ w_68)) rfl hK hP hD hS hA (fun _ => rfl) (by decide +kernel) (by decide +kernel) (by decide +kernel) (Nat.le_of_ble_eq_true rfl) (Nat.le_of_ble_eq_true rfl) d_FO_init_8 (fun q5 cA6 H hK hP hD hS => ?_)
  have hP : va_P (dC, dI) cls_ [(h0, .inr (4, [.null, .null, .null, .null, .null, .null, .null, .null, .null, .null, .null, .int 0, .int 0, .int 0, .int 0])), (q5, .inl (cA6, 1200, .inl (fun _ => 0)))] H := hP
  have hD : va_D A [(h0, .inr (4, [.null, .null, .null, .null, .null, .null, .null, .null, .null, .null, .null, .int 0, .int 0, .int 0, .int 0])), (q5, .inl (cA6, 1200, .inl (fun _ => 0)))] := hD
  have hK : va_K (dC, dI) cls_ [(cA6, .int)] s := hK
  refine va_putF (D := (dC, dI)) (ci := 4) (v := .ref q5) (ty := .array .int) (C := R_FO) (T := F_FO) (N := 15) hx hb hts in_FO t_FO t_FO_ok n_FO hown hK hP hD hS 0 rfl rfl 0 (by decide) (hts _ (List.mem_cons_of_mem _ w_117)) (fun _ h9 => h9) rfl hin rfl (by decide +kernel) rfl rfl (Nat.le_of_ble_eq_true rfl) d_FO_init_10 (fun H locs hP hD hS => ?_)
  have hP : va_P (dC, dI) cls_ [(h0, .inr (4, [.ref q5, .null, .null, .null, .null, .null, .null, .null, .null, .null, .null, .int 0, .int 0, .int 0, .int 0])), (q5, .inl (cA6, 1200, .inl (fun _ => 0)))] H := hP
  have hD : va_D A [(h0, .inr (4, [.ref q5, .null, .null, .null, .null, .null, .null, .null, .null, .null, .null, .int 0, .int 0, .int 0, .int 0])), (q5, .inl (cA6, 1200, .inl (fun _ => 0)))] := hD
  refine lv_aload_n hx hb d_FO_init_13 rfl (lv_at hl 0 rfl) ?_
  refine va_new (ci := 2) (fs := [.null, .null, .int 0]) (C := R_DI) (T := F_DI) (N := 3) hx hb hts in_DI t_DI t_DI_ok hown (hts _ (List.mem_cons_of_mem _ w_36)) (hts _ (List.mem_cons_of_mem _ w_37)) (hts _ (List.mem_cons_of_mem _ w_3)) hK hP hD hS hA rfl (fun j hj => by rcases (show j = 0 ∨ j = 1 ∨ j = 2 by omega) with rfl | rfl | rfl <;> rfl) (Nat.le_of_ble_eq_true rfl) (Nat.le_of_ble_eq_true rfl) d_FO_init_14 (fun q7 H hP hD hS => ?_)
  have hP : va_P (dC, dI) cls_ [(h0, .inr (4, [.ref q5, .null, .null, .null, .null, .null, .null, .null, .null, .null, .null, .int 0, .int 0, .int 0, .int 0])), (q5, .inl (cA6, 1200, .inl (fun _ => 0))), (q7, .inr (2, [.null, .null, .int 0]))] H := hP
  have hD : va_D A [(h0, .inr (4, [.ref q5, .null, .null, .null, .null, .null, .null, .null, .null, .null, .null, .int 0, .int 0, .int 0, .int 0])), (q5, .inl (cA6, 1200, .inl (fun _ => 0))), (q7, .inr (2, [.null, .null, .int 0]))] := hD
  refine lv_dup hx hb d_FO_init_17 rfl ?_
  refine lv_aload_n hx hb d_FO_init_18 rfl (lv_at hl 0 rfl) ?_
  refine va_get (D := (dC, dI)) (ci := 4) (v := .ref q5) (C := R_FO) (T := F_FO) (N := 15) hx hb hts in_FO hown hK hP 0 rfl rfl 0 (by decide) (hts _ (List.mem_cons_of_mem _ w_117)) (fun _ h9 => h9) rfl d_FO_init_19 ?_
  have hPc := hP.sub (ws' := [(q7, .inr (2, [.null, .null, .int 0]))]) [2] rfl
  have hDc := hD.sub (ws' := [(q7, .inr (2, [.null, .null, .int 0]))]) [2] (by decide) rfl
  have hKc := hK.sub (tys' := []) [] rfl
  have hFc := va_free (wc := [(q7, .inr (2, [.null, .null, .int 0]))]) hD hS hA [2] rfl
  refine va_callv (va_runI (As := [.ref q5]) (rest := [.ref q7, .ref h0]) ⟨hx, hb, hml, hown, hts⟩ (c_DI_init l dC dI q7 q5 H.size) (cwI 1 hts (tw_in w_40) rfl rfl rfl (hts _ (List.mem_cons_of_mem _ w_3)) (hts _ (List.mem_cons_of_mem _ w_38)) (hts _ (List.mem_cons_of_mem _ w_39)) rfl (by decide +kernel) ⟨Nat.le_of_ble_eq_true rfl, Nat.le_of_ble_eq_true rfl⟩) ⟨fun a U g mk q => by obtain ⟨q0, q1, qP, qK, qD⟩ := q; exact ⟨q0, q1, qP, va_K.moved (u := U) (U := U.calling g mk a) (Vm.Alike.refl U.vm) qK, qD⟩, fun U hU hW => ⟨rfl, by rw [hU], by rw [hU]; exact hPc, va_K.moved hW.alike hKc, hDc.weaken (fun _ _ _ _ => trivial)⟩⟩ rfl rfl hl.1 rfl (lv_room (Nat.le_of_ble_eq_true rfl)) d_FO_init_22 ⟨Nat.le_of_ble_eq_true rfl, Nat.le_of_ble_eq_true rfl⟩) hS (fun q _ h => hFc q h) hFc (fun u t H1 locs ht hvm hw hB hz1 hk1 hS => ?_)
  obtain ⟨q8, q9, hP1, hK1, hD1⟩ := hB
  rw [ht] at hP1
  have hK1 := va_K.moved hvm.symm hK1
  obtain ⟨hP, hD⟩ := va_join (wr := [(h0, .inr (4, [.ref q5, .null, .null, .null, .null, .null, .null, .null, .null, .null, .null, .int 0, .int 0, .int 0, .int 0])), (q5, .inl (cA6, 1200, .inl (fun _ => 0)))]) (w1 := [(q7, .inr (2, [.ref q8, .ref q9, .int 0])), (q8, .inr (0, [.ref q5, .int 0, .int 0, .int 0]))]) hP hD [2] [0, 1] rfl rfl (by decide) (by decide) hk1 hFc hP1 hD1
  have hK := (hK.sub (tys' := [(cA6, .int)]) [0] rfl).app hK1
  generalize H1 = H at hP hS ⊢
  have hP : va_P (dC, dI) cls_ [(h0, .inr (4, [.ref q5, .null, .null, .null, .null, .null, .null, .null, .null, .null, .null, .int 0, .int 0, .int 0, .int 0])), (q5, .inl (cA6, 1200, .inl (fun _ => 0))), (q7, .inr (2, [.ref q8, .ref q9, .int 0])), (q8, .inr (0, [.ref q5, .int 0, .int 0, .int 0]))] H := hP
  have hD : va_D A [(h0, .inr (4, [.ref q5, .null, .null, .null, .null, .null, .null, .null, .null, .null, .null, .int 0, .int 0, .int 0, .int 0])), (q5, .inl (cA6, 1200, .inl (fun _ => 0))), (q7, .inr (2, [.ref q8, .ref q9, .int 0])), (q8, .inr (0, [.ref q5, .int 0, .int 0, .int 0]))] := hD
  have hK : va_K (dC, dI) cls_ [(cA6, .int)] s := hK
  refine va_putF (D := (dC, dI)) (ci := 4) (v := .ref q7) (ty := .object "GlyphLines$Directory") (C := R_FO) (T := F_FO) (N := 15) hx hb hts in_FO t_FO t_FO_ok n_FO hown hK hP hD hS 0 rfl rfl 1 (by decide) (hts _ (List.mem_cons_of_mem _ w_118)) (fun _ h9 => h9) rfl hin rfl (by decide +kernel) rfl rfl (Nat.le_of_ble_eq_true rfl) d_FO_init_25 (fun H locs hP hD hS => ?_)
  have hP : va_P (dC, dI) cls_ [(h0, .inr (4, [.ref q5, .ref q7, .null, .null, .null, .null, .null, .null, .null, .null, .null, .int 0, .int 0, .int 0, .int 0])), (q5, .inl (cA6, 1200, .inl (fun _ => 0))), (q7, .inr (2, [.ref q8, .ref q9, .int 0])), (q8, .inr (0, [.ref q5, .int 0, .int 0, .int 0]))] H := hP
  have hD : va_D A [(h0, .inr (4, [.ref q5, .ref q7, .null, .null, .null, .null, .null, .null, .null, .null, .null, .int 0, .int 0, .int 0, .int 0])), (q5, .inl (cA6, 1200, .inl (fun _ => 0))), (q7, .inr (2, [.ref q8, .ref q9, .int 0])), (q8, .inr (0, [.ref q5, .int 0, .int 0, .int 0]))] := hD
  refine lv_aload_n hx hb d_FO_init_28 rfl (lv_at hl 0 rfl) ?_
  refine va_new (ci := 0) (fs := [.null, .int 0, .int 0, .int 0]) (C := R_SP) (T := F_SP) (N := 4) hx hb hts in_SP t_SP t_SP_ok hown (hts _ (List.mem_cons_of_mem _ w_79)) (hts _ (List.mem_cons_of_mem _ w_43)) (hts _ (List.mem_cons_of_mem _ w_4)) hK hP hD hS hA rfl (fun j hj => by rcases (show j = 0 ∨ j = 1 ∨ j = 2 ∨ j = 3 by omega) with rfl | rfl | rfl | rfl <;> rfl) (Nat.le_of_ble_eq_true rfl) (Nat.le_of_ble_eq_true rfl) d_FO_init_29 (fun q10 H hP hD hS => ?_)
  have hP : va_P (dC, dI) cls_ [(h0, .inr (4, [.ref q5, .ref q7, .null, .null, .null, .null, .null, .null, .null, .null, .null, .int 0, .int 0, .int 0, .int 0])), (q5, .inl (cA6, 1200, .inl (fun _ => 0))), (q7, .inr (2, [.ref q8, .ref q9, .int 0])), (q8, .inr (0, [.ref q5, .int 0, .int 0, .int 0])), (q10, .inr (0, [.null, .int 0, .int 0, .int 0]))] H := hP
  have hD : va_D A [(h0, .inr (4, [.ref q5, .ref q7, .null, .null, .null, .null, .null, .null, .null, .null, .null, .int 0, .int 0, .int 0, .int 0])), (q5, .inl (cA6, 1200, .inl (fun _ => 0))), (q7, .inr (2, [.ref q8, .ref q9, .int 0])), (q8, .inr (0, [.ref q5, .int 0, .int 0, .int 0])), (q10, .inr (0, [.null, .int 0, .int 0, .int 0]))] := hD
  refine lv_dup hx hb d_FO_init_32 rfl ?_
  refine lv_aload_n hx hb d_FO_init_33 rfl (lv_at hl 0 rfl) ?_
  refine va_get (D := (dC, dI)) (ci := 4) (v := .ref q5) (C := R_FO) (T := F_FO) (N := 15) hx hb hts in_FO hown hK hP 0 rfl rfl 0 (by decide) (hts _ (List.mem_cons_of_mem _ w_117)) (fun _ h9 => h9) rfl d_FO_init_34 ?_
  have hPc := hP.sub (ws' := [(q10, .inr (0, [.null, .int 0, .int 0, .int 0]))]) [4] rfl
  have hDc := hD.sub (ws' := [(q10, .inr (0, [.null, .int 0, .int 0, .int 0]))]) [4] (by decide) rfl
  have hKc := hK.sub (tys' := []) [] rfl
  have hFc := va_free (wc := [(q10, .inr (0, [.null, .int 0, .int 0, .int 0]))]) hD hS hA [4] rfl
  refine va_callv (va_runI (As := [.ref q5]) (rest := [.ref q10, .ref h0]) ⟨hx, hb, hml, hown, hts⟩ (c_SP_init l dC dI q10 q5 H.size) (cwI 1 hts (tw_in w_46) rfl rfl rfl (hts _ (List.mem_cons_of_mem _ w_4)) (hts _ (List.mem_cons_of_mem _ w_80)) (hts _ (List.mem_cons_of_mem _ w_45)) rfl (by decide +kernel) ⟨Nat.le_of_ble_eq_true rfl, Nat.le_of_ble_eq_true rfl⟩) ⟨fun a U g mk q => by obtain ⟨q0, q1, qP, qK, qD⟩ := q; exact ⟨q0, q1, qP, va_K.moved (u := U) (U := U.calling g mk a) (Vm.Alike.refl U.vm) qK, qD⟩, fun U hU hW => ⟨rfl, by rw [hU], by rw [hU]; exact hPc, va_K.moved hW.alike hKc, hDc.weaken (fun _ _ _ _ => trivial)⟩⟩ rfl rfl hl.1 rfl (lv_room (Nat.le_of_ble_eq_true rfl)) d_FO_init_37 ⟨Nat.le_of_ble_eq_true rfl, Nat.le_of_ble_eq_true rfl⟩) hS (fun q _ h => hFc q h) hFc (fun u t H1 locs ht hvm hw hB hz1 hk1 hS => ?_)
  obtain ⟨hP1, hK1, hD1⟩ := hB
  rw [ht] at hP1
  have hK1 := va_K.moved hvm.symm hK1
  obtain ⟨hP, hD⟩ := va_join (wr := [(h0, .inr (4, [.ref q5, .ref q7, .null, .null, .null, .null, .null, .null, .null, .null, .null, .int 0, .int 0, .int 0, .int 0])), (q5, .inl (cA6, 1200, .inl (fun _ => 0))), (q7, .inr (2, [.ref q8, .ref q9, .int 0])), (q8, .inr (0, [.ref q5, .int 0, .int 0, .int 0]))]) (w1 := [(q10, .inr (0, [.ref q5, .int 0, .int 0, .int 0]))]) hP hD [4] [0, 1, 2, 3] rfl rfl (by decide) (by decide) hk1 hFc hP1 hD1
  have hK := (hK.sub (tys' := [(cA6, .int)]) [0] rfl).app hK1
  generalize H1 = H at hP hS ⊢
  have hP : va_P (dC, dI) cls_ [(h0, .inr (4, [.ref q5, .ref q7, .null, .null, .null, .null, .null, .null, .null, .null, .null, .int 0, .int 0, .int 0, .int 0])), (q5, .inl (cA6, 1200, .inl (fun _ => 0))), (q7, .inr (2, [.ref q8, .ref q9, .int 0])), (q8, .inr (0, [.ref q5, .int 0, .int 0, .int 0])), (q10, .inr (0, [.ref q5, .int 0, .int 0, .int 0]))] H := hP
  have hD : va_D A [(h0, .inr (4, [.ref q5, .ref q7, .null, .null, .null, .null, .null, .null, .null, .null, .null, .int 0, .int 0, .int 0, .int 0])), (q5, .inl (cA6, 1200, .inl (fun _ => 0))), (q7, .inr (2, [.ref q8, .ref q9, .int 0])), (q8, .inr (0, [.ref q5, .int 0, .int 0, .int 0])), (q10, .inr (0, [.ref q5, .int 0, .int 0, .int 0]))] := hD
  have hK : va_K (dC, dI) cls_ [(cA6, .int)] s := hK
  refine va_putF (D := (dC, dI)) (ci := 4) (v := .ref q10) (ty := .object "GlyphLines$Span") (C := R_FO) (T := F_FO) (N := 15) hx hb hts in_FO t_FO t_FO_ok n_FO hown hK hP hD hS 0 rfl rfl 2 (by decide) (hts _ (List.mem_cons_of_mem _ w_119)) (fun _ h9 => h9) rfl hin rfl (by decide +kernel) rfl rfl (Nat.le_of_ble_eq_true rfl) d_FO_init_40 (fun H locs hP hD hS => ?_)
  have hP : va_P (dC, dI) cls_ [(h0, .inr (4, [.ref q5, .ref q7, .ref q10, .null, .null, .null, .null, .null, .null, .null, .null, .int 0, .int 0, .int 0, .int 0])), (q5, .inl (cA6, 1200, .inl (fun _ => 0))), (q7, .inr (2, [.ref q8, .ref q9, .int 0])), (q8, .inr (0, [.ref q5, .int 0, .int 0, .int 0])), (q10, .inr (0, [.ref q5, .int 0, .int 0, .int 0]))] H := hP
  have hD : va_D A [(h0, .inr (4, [.ref q5, .ref q7, .ref q10, .null, .null, .null, .null, .null, .null, .null, .null, .int 0, .int 0, .int 0, .int 0])), (q5, .inl (cA6, 1200, .inl (fun _ => 0))), (q7, .inr (2, [.ref q8, .ref q9, .int 0])), (q8, .inr (0, [.ref q5, .int 0, .int 0, .int 0])), (q10, .inr (0, [.ref q5, .int 0, .int 0, .int 0]))] := hD
  refine lv_aload_n hx hb d_FO_init_43 rfl (lv_at hl 0 rfl) ?_
  refine va_new (ci := 0) (fs := [.null, .int 0, .int 0, .int 0]) (C := R_SP) (T := F_SP) (N := 4) hx hb hts in_SP t_SP t_SP_ok hown (hts _ (List.mem_cons_of_mem _ w_79)) (hts _ (List.mem_cons_of_mem _ w_43)) (hts _ (List.mem_cons_of_mem _ w_4)) hK hP hD hS hA rfl (fun j hj => by rcases (show j = 0 ∨ j = 1 ∨ j = 2 ∨ j = 3 by omega) with rfl | rfl | rfl | rfl <;> rfl) (Nat.le_of_ble_eq_true rfl) (Nat.le_of_ble_eq_true rfl) d_FO_init_44 (fun q11 H hP hD hS => ?_)
  have hP : va_P (dC, dI) cls_ [(h0, .inr (4, [.ref q5, .ref q7, .ref q10, .null, .null, .null, .null, .null, .null, .null, .null, .int 0, .int 0, .int 0, .int 0])), (q5, .inl (cA6, 1200, .inl (fun _ => 0))), (q7, .inr (2, [.ref q8, .ref q9, .int 0])), (q8, .inr (0, [.ref q5, .int 0, .int 0, .int 0])), (q10, .inr (0, [.ref q5, .int 0, .int 0, .int 0])), (q11, .inr (0, [.null, .int 0, .int 0, .int 0]))] H := hP
  have hD : va_D A [(h0, .inr (4, [.ref q5, .ref q7, .ref q10, .null, .null, .null, .null, .null, .null, .null, .null, .int 0, .int 0, .int 0, .int 0])), (q5, .inl (cA6, 1200, .inl (fun _ => 0))), (q7, .inr (2, [.ref q8, .ref q9, .int 0])), (q8, .inr (0, [.ref q5, .int 0, .int 0, .int 0])), (q10, .inr (0, [.ref q5, .int 0, .int 0, .int 0])), (q11, .inr (0, [.null, .int 0, .int 0, .int 0]))] := hD
  refine lv_dup hx hb d_FO_init_47 rfl ?_
  refine lv_aload_n hx hb d_FO_init_48 rfl (lv_at hl 0 rfl) ?_
  refine va_get (D := (dC, dI)) (ci := 4) (v := .ref q5) (C := R_FO) (T := F_FO) (N := 15) hx hb hts in_FO hown hK hP 0 rfl rfl 0 (by decide) (hts _ (List.mem_cons_of_mem _ w_117)) (fun _ h9 => h9) rfl d_FO_init_49 ?_
  have hPc := hP.sub (ws' := [(q11, .inr (0, [.null, .int 0, .int 0, .int 0]))]) [5] rfl
  have hDc := hD.sub (ws' := [(q11, .inr (0, [.null, .int 0, .int 0, .int 0]))]) [5] (by decide) rfl
  have hKc := hK.sub (tys' := []) [] rfl
  have hFc := va_free (wc := [(q11, .inr (0, [.null, .int 0, .int 0, .int 0]))]) hD hS hA [5] rfl
  refine va_callv (va_runI (As := [.ref q5]) (rest := [.ref q11, .ref h0]) ⟨hx, hb, hml, hown, hts⟩ (c_SP_init l dC dI q11 q5 H.size) (cwI 1 hts (tw_in w_46) rfl rfl rfl (hts _ (List.mem_cons_of_mem _ w_4)) (hts _ (List.mem_cons_of_mem _ w_80)) (hts _ (List.mem_cons_of_mem _ w_45)) rfl (by decide +kernel) ⟨Nat.le_of_ble_eq_true rfl, Nat.le_of_ble_eq_true rfl⟩) ⟨fun a U g mk q => by obtain ⟨q0, q1, qP, qK, qD⟩ := q; exact ⟨q0, q1, qP, va_K.moved (u := U) (U := U.calling g mk a) (Vm.Alike.refl U.vm) qK, qD⟩, fun U hU hW => ⟨rfl, by rw [hU], by rw [hU]; exact hPc, va_K.moved hW.alike hKc, hDc.weaken (fun _ _ _ _ => trivial)⟩⟩ rfl rfl hl.1 rfl (lv_room (Nat.le_of_ble_eq_true rfl)) d_FO_init_52 ⟨Nat.le_of_ble_eq_true rfl, Nat.le_of_ble_eq_true rfl⟩) hS (fun q _ h => hFc q h) hFc (fun u t H1 locs ht hvm hw hB hz1 hk1 hS => ?_)
  obtain ⟨hP1, hK1, hD1⟩ := hB
  rw [ht] at hP1
  have hK1 := va_K.moved hvm.symm hK1
  obtain ⟨hP, hD⟩ := va_join (wr := [(h0, .inr (4, [.ref q5, .ref q7, .ref q10, .null, .null, .null, .null, .null, .null, .null, .null, .int 0, .int 0, .int 0, .int 0])), (q5, .inl (cA6, 1200, .inl (fun _ => 0))), (q7, .inr (2, [.ref q8, .ref q9, .int 0])), (q8, .inr (0, [.ref q5, .int 0, .int 0, .int 0])), (q10, .inr (0, [.ref q5, .int 0, .int 0, .int 0]))]) (w1 := [(q11, .inr (0, [.ref q5, .int 0, .int 0, .int 0]))]) hP hD [5] [0, 1, 2, 3, 4] rfl rfl (by decide) (by decide) hk1 hFc hP1 hD1
  have hK := (hK.sub (tys' := [(cA6, .int)]) [0] rfl).app hK1
  generalize H1 = H at hP hS ⊢
  have hP : va_P (dC, dI) cls_ [(h0, .inr (4, [.ref q5, .ref q7, .ref q10, .null, .null, .null, .null, .null, .null, .null, .null, .int 0, .int 0, .int 0, .int 0])), (q5, .inl (cA6, 1200, .inl (fun _ => 0))), (q7, .inr (2, [.ref q8, .ref q9, .int 0])), (q8, .inr (0, [.ref q5, .int 0, .int 0, .int 0])), (q10, .inr (0, [.ref q5, .int 0, .int 0, .int 0])), (q11, .inr (0, [.ref q5, .int 0, .int 0, .int 0]))] H := hP
  have hD : va_D A [(h0, .inr (4, [.ref q5, .ref q7, .ref q10, .null, .null, .null, .null, .null, .null, .null, .null, .int 0, .int 0, .int 0, .int 0])), (q5, .inl (cA6, 1200, .inl (fun _ => 0))), (q7, .inr (2, [.ref q8, .ref q9, .int 0])), (q8, .inr (0, [.ref q5, .int 0, .int 0, .int 0])), (q10, .inr (0, [.ref q5, .int 0, .int 0, .int 0])), (q11, .inr (0, [.ref q5, .int 0, .int 0, .int 0]))] := hD
  have hK : va_K (dC, dI) cls_ [(cA6, .int)] s := hK
  refine va_putF (D := (dC, dI)) (ci := 4) (v := .ref q11) (ty := .object "GlyphLines$Span") (C := R_FO) (T := F_FO) (N := 15) hx hb hts in_FO t_FO t_FO_ok n_FO hown hK hP hD hS 0 rfl rfl 3 (by decide) (hts _ (List.mem_cons_of_mem _ w_120)) (fun _ h9 => h9) rfl hin rfl (by decide +kernel) rfl rfl (Nat.le_of_ble_eq_true rfl) d_FO_init_55 (fun H locs hP hD hS => ?_)
  have hP : va_P (dC, dI) cls_ [(h0, .inr (4, [.ref q5, .ref q7, .ref q10, .ref q11, .null, .null, .null, .null, .null, .null, .null, .int 0, .int 0, .int 0, .int 0])), (q5, .inl (cA6, 1200, .inl (fun _ => 0))), (q7, .inr (2, [.ref q8, .ref q9, .int 0])), (q8, .inr (0, [.ref q5, .int 0, .int 0, .int 0])), (q10, .inr (0, [.ref q5, .int 0, .int 0, .int 0])), (q11, .inr (0, [.ref q5, .int 0, .int 0, .int 0]))] H := hP
  have hD : va_D A [(h0, .inr (4, [.ref q5, .ref q7, .ref q10, .ref q11, .null, .null, .null, .null, .null, .null, .null, .int 0, .int 0, .int 0, .int 0])), (q5, .inl (cA6, 1200, .inl (fun _ => 0))), (q7, .inr (2, [.ref q8, .ref q9, .int 0])), (q8, .inr (0, [.ref q5, .int 0, .int 0, .int 0])), (q10, .inr (0, [.ref q5, .int 0, .int 0, .int 0])), (q11, .inr (0, [.ref q5, .int 0, .int 0, .int 0]))] := hD
  refine lv_aload_n hx hb d_FO_init_58 rfl (lv_at hl 0 rfl) ?_
  refine va_new (ci := 0) (fs := [.null, .int 0, .int 0, .int 0]) (C := R_SP) (T := F_SP) (N := 4) hx hb hts in_SP t_SP t_SP_ok hown (hts _ (List.mem_cons_of_mem _ w_79)) (hts _ (List.mem_cons_of_mem _ w_43)) (hts _ (List.mem_cons_of_mem _ w_4)) hK hP hD hS hA rfl (fun j hj => by rcases (show j = 0 ∨ j = 1 ∨ j = 2 ∨ j = 3 by omega) with rfl | rfl | rfl | rfl <;> rfl) (Nat.le_of_ble_eq_true rfl) (Nat.le_of_ble_eq_true rfl) d_FO_init_59 (fun q12 H hP hD hS => ?_)
  have hP : va_P (dC, dI) cls_ [(h0, .inr (4, [.ref q5, .ref q7, .ref q10, .ref q11, .null, .null, .null, .null, .null, .null, .null, .int 0, .int 0, .int 0, .int 0])), (q5, .inl (cA6, 1200, .inl (fun _ => 0))), (q7, .inr (2, [.ref q8, .ref q9, .int 0])), (q8, .inr (0, [.ref q5, .int 0, .int 0, .int 0])), (q10, .inr (0, [.ref q5, .int 0, .int 0, .int 0])), (q11, .inr (0, [.ref q5, .int 0, .int 0, .int 0])), (q12, .inr (0, [.null, .int 0, .int 0, .int 0]))] H := hP
  have hD : va_D A [(h0, .inr (4, [.ref q5, .ref q7, .ref q10, .ref q11, .null, .null, .null, .null, .null, .null, .null, .int 0, .int 0, .int 0, .int 0])), (q5, .inl (cA6, 1200, .inl (fun _ => 0))), (q7, .inr (2, [.ref q8, .ref q9, .int 0])), (q8, .inr (0, [.ref q5, .int 0, .int 0, .int 0])), (q10, .inr (0, [.ref q5, .int 0, .int 0, .int 0])), (q11, .inr (0, [.ref q5, .int 0, .int 0, .int 0])), (q12, .inr (0, [.null, .int 0, .int 0, .int 0]))] := hD
  refine lv_dup hx hb d_FO_init_62 rfl ?_
  refine lv_aload_n hx hb d_FO_init_63 rfl (lv_at hl 0 rfl) ?_
  refine va_get (D := (dC, dI)) (ci := 4) (v := .ref q5) (C := R_FO) (T := F_FO) (N := 15) hx hb hts in_FO hown hK hP 0 rfl rfl 0 (by decide) (hts _ (List.mem_cons_of_mem _ w_117)) (fun _ h9 => h9) rfl d_FO_init_64 ?_
  have hPc := hP.sub (ws' := [(q12, .inr (0, [.null, .int 0, .int 0, .int 0]))]) [6] rfl
  have hDc := hD.sub (ws' := [(q12, .inr (0, [.null, .int 0, .int 0, .int 0]))]) [6] (by decide) rfl
  have hKc := hK.sub (tys' := []) [] rfl
  have hFc := va_free (wc := [(q12, .inr (0, [.null, .int 0, .int 0, .int 0]))]) hD hS hA [6] rfl
  refine va_callv (va_runI (As := [.ref q5]) (rest := [.ref q12, .ref h0]) ⟨hx, hb, hml, hown, hts⟩ (c_SP_init l dC dI q12 q5 H.size) (cwI 1 hts (tw_in w_46) rfl rfl rfl (hts _ (List.mem_cons_of_mem _ w_4)) (hts _ (List.mem_cons_of_mem _ w_80)) (hts _ (List.mem_cons_of_mem _ w_45)) rfl (by decide +kernel) ⟨Nat.le_of_ble_eq_true rfl, Nat.le_of_ble_eq_true rfl⟩) ⟨fun a U g mk q => by obtain ⟨q0, q1, qP, qK, qD⟩ := q; exact ⟨q0, q1, qP, va_K.moved (u := U) (U := U.calling g mk a) (Vm.Alike.refl U.vm) qK, qD⟩, fun U hU hW => ⟨rfl, by rw [hU], by rw [hU]; exact hPc, va_K.moved hW.alike hKc, hDc.weaken (fun _ _ _ _ => trivial)⟩⟩ rfl rfl hl.1 rfl (lv_room (Nat.le_of_ble_eq_true rfl)) d_FO_init_67 ⟨Nat.le_of_ble_eq_true rfl, Nat.le_of_ble_eq_true rfl⟩) hS (fun q _ h => hFc q h) hFc (fun u t H1 locs ht hvm hw hB hz1 hk1 hS => ?_)
  obtain ⟨hP1, hK1, hD1⟩ := hB
  rw [ht] at hP1
  have hK1 := va_K.moved hvm.symm hK1
  obtain ⟨hP, hD⟩ := va_join (wr := [(h0, .inr (4, [.ref q5, .ref q7, .ref q10, .ref q11, .null, .null, .null, .null, .null, .null, .null, .int 0, .int 0, .int 0, .int 0])), (q5, .inl (cA6, 1200, .inl (fun _ => 0))), (q7, .inr (2, [.ref q8, .ref q9, .int 0])), (q8, .inr (0, [.ref q5, .int 0, .int 0, .int 0])), (q10, .inr (0, [.ref q5, .int 0, .int 0, .int 0])), (q11, .inr (0, [.ref q5, .int 0, .int 0, .int 0]))]) (w1 := [(q12, .inr (0, [.ref q5, .int 0, .int 0, .int 0]))]) hP hD [6] [0, 1, 2, 3, 4, 5] rfl rfl (by decide) (by decide) hk1 hFc hP1 hD1
  have hK := (hK.sub (tys' := [(cA6, .int)]) [0] rfl).app hK1
  generalize H1 = H at hP hS ⊢
  have hP : va_P (dC, dI) cls_ [(h0, .inr (4, [.ref q5, .ref q7, .ref q10, .ref q11, .null, .null, .null, .null, .null, .null, .null, .int 0, .int 0, .int 0, .int 0])), (q5, .inl (cA6, 1200, .inl (fun _ => 0))), (q7, .inr (2, [.ref q8, .ref q9, .int 0])), (q8, .inr (0, [.ref q5, .int 0, .int 0, .int 0])), (q10, .inr (0, [.ref q5, .int 0, .int 0, .int 0])), (q11, .inr (0, [.ref q5, .int 0, .int 0, .int 0])), (q12, .inr (0, [.ref q5, .int 0, .int 0, .int 0]))] H := hP
  have hD : va_D A [(h0, .inr (4, [.ref q5, .ref q7, .ref q10, .ref q11, .null, .null, .null, .null, .null, .null, .null, .int 0, .int 0, .int 0, .int 0])), (q5, .inl (cA6, 1200, .inl (fun _ => 0))), (q7, .inr (2, [.ref q8, .ref q9, .int 0])), (q8, .inr (0, [.ref q5, .int 0, .int 0, .int 0])), (q10, .inr (0, [.ref q5, .int 0, .int 0, .int 0])), (q11, .inr (0, [.ref q5, .int 0, .int 0, .int 0])), (q12, .inr (0, [.ref q5, .int 0, .int 0, .int 0]))] := hD
  have hK : va_K (dC, dI) cls_ [(cA6, .int)] s := hK
  refine va_putF (D := (dC, dI)) (ci := 4) (v := .ref q12) (ty := .object "GlyphLines$Span") (C := R_FO) (T := F_FO) (N := 15) hx hb hts in_FO t_FO t_FO_ok n_FO hown hK hP hD hS 0 rfl rfl 4 (by decide) (hts _ (List.mem_cons_of_mem _ w_121)) (fun _ h9 => h9) rfl hin rfl (by decide +kernel) rfl rfl (Nat.le_of_ble_eq_true rfl) d_FO_init_70 (fun H locs hP hD hS => ?_)
  have hP : va_P (dC, dI) cls_ [(h0, .inr (4, [.ref q5, .ref q7, .ref q10, .ref q11, .ref q12, .null, .null, .null, .null, .null, .null, .int 0, .int 0, .int 0, .int 0])), (q5, .inl (cA6, 1200, .inl (fun _ => 0))), (q7, .inr (2, [.ref q8, .ref q9, .int 0])), (q8, .inr (0, [.ref q5, .int 0, .int 0, .int 0])), (q10, .inr (0, [.ref q5, .int 0, .int 0, .int 0])), (q11, .inr (0, [.ref q5, .int 0, .int 0, .int 0])), (q12, .inr (0, [.ref q5, .int 0, .int 0, .int 0]))] H := hP
  have hD : va_D A [(h0, .inr (4, [.ref q5, .ref q7, .ref q10, .ref q11, .ref q12, .null, .null, .null, .null, .null, .null, .int 0, .int 0, .int 0, .int 0])), (q5, .inl (cA6, 1200, .inl (fun _ => 0))), (q7, .inr (2, [.ref q8, .ref q9, .int 0])), (q8, .inr (0, [.ref q5, .int 0, .int 0, .int 0])), (q10, .inr (0, [.ref q5, .int 0, .int 0, .int 0])), (q11, .inr (0, [.ref q5, .int 0, .int 0, .int 0])), (q12, .inr (0, [.ref q5, .int 0, .int 0, .int 0]))] := hD
  refine lv_aload_n hx hb d_FO_init_73 rfl (lv_at hl 0 rfl) ?_
  refine va_new (ci := 0) (fs := [.null, .int 0, .int 0, .int 0]) (C := R_SP) (T := F_SP) (N := 4) hx hb hts in_SP t_SP t_SP_ok hown (hts _ (List.mem_cons_of_mem _ w_79)) (hts _ (List.mem_cons_of_mem _ w_43)) (hts _ (List.mem_cons_of_mem _ w_4)) hK hP hD hS hA rfl (fun j hj => by rcases (show j = 0 ∨ j = 1 ∨ j = 2 ∨ j = 3 by omega) with rfl | rfl | rfl | rfl <;> rfl) (Nat.le_of_ble_eq_true rfl) (Nat.le_of_ble_eq_true rfl) d_FO_init_74 (fun q13 H hP hD hS => ?_)
  have hP : va_P (dC, dI) cls_ [(h0, .inr (4, [.ref q5, .ref q7, .ref q10, .ref q11, .ref q12, .null, .null, .null, .null, .null, .null, .int 0, .int 0, .int 0, .int 0])), (q5, .inl (cA6, 1200, .inl (fun _ => 0))), (q7, .inr (2, [.ref q8, .ref q9, .int 0])), (q8, .inr (0, [.ref q5, .int 0, .int 0, .int 0])), (q10, .inr (0, [.ref q5, .int 0, .int 0, .int 0])), (q11, .inr (0, [.ref q5, .int 0, .int 0, .int 0])), (q12, .inr (0, [.ref q5, .int 0, .int 0, .int 0])), (q13, .inr (0, [.null, .int 0, .int 0, .int 0]))] H := hP
  have hD : va_D A [(h0, .inr (4, [.ref q5, .ref q7, .ref q10, .ref q11, .ref q12, .null, .null, .null, .null, .null, .null, .int 0, .int 0, .int 0, .int 0])), (q5, .inl (cA6, 1200, .inl (fun _ => 0))), (q7, .inr (2, [.ref q8, .ref q9, .int 0])), (q8, .inr (0, [.ref q5, .int 0, .int 0, .int 0])), (q10, .inr (0, [.ref q5, .int 0, .int 0, .int 0])), (q11, .inr (0, [.ref q5, .int 0, .int 0, .int 0])), (q12, .inr (0, [.ref q5, .int 0, .int 0, .int 0])), (q13, .inr (0, [.null, .int 0, .int 0, .int 0]))] := hD
  refine lv_dup hx hb d_FO_init_77 rfl ?_
  refine lv_aload_n hx hb d_FO_init_78 rfl (lv_at hl 0 rfl) ?_
  refine va_get (D := (dC, dI)) (ci := 4) (v := .ref q5) (C := R_FO) (T := F_FO) (N := 15) hx hb hts in_FO hown hK hP 0 rfl rfl 0 (by decide) (hts _ (List.mem_cons_of_mem _ w_117)) (fun _ h9 => h9) rfl d_FO_init_79 ?_
  have hPc := hP.sub (ws' := [(q13, .inr (0, [.null, .int 0, .int 0, .int 0]))]) [7] rfl
  have hDc := hD.sub (ws' := [(q13, .inr (0, [.null, .int 0, .int 0, .int 0]))]) [7] (by decide) rfl
  have hKc := hK.sub (tys' := []) [] rfl
  have hFc := va_free (wc := [(q13, .inr (0, [.null, .int 0, .int 0, .int 0]))]) hD hS hA [7] rfl
  refine va_callv (va_runI (As := [.ref q5]) (rest := [.ref q13, .ref h0]) ⟨hx, hb, hml, hown, hts⟩ (c_SP_init l dC dI q13 q5 H.size) (cwI 1 hts (tw_in w_46) rfl rfl rfl (hts _ (List.mem_cons_of_mem _ w_4)) (hts _ (List.mem_cons_of_mem _ w_80)) (hts _ (List.mem_cons_of_mem _ w_45)) rfl (by decide +kernel) ⟨Nat.le_of_ble_eq_true rfl, Nat.le_of_ble_eq_true rfl⟩) ⟨fun a U g mk q => by obtain ⟨q0, q1, qP, qK, qD⟩ := q; exact ⟨q0, q1, qP, va_K.moved (u := U) (U := U.calling g mk a) (Vm.Alike.refl U.vm) qK, qD⟩, fun U hU hW => ⟨rfl, by rw [hU], by rw [hU]; exact hPc, va_K.moved hW.alike hKc, hDc.weaken (fun _ _ _ _ => trivial)⟩⟩ rfl rfl hl.1 rfl (lv_room (Nat.le_of_ble_eq_true rfl)) d_FO_init_82 ⟨Nat.le_of_ble_eq_true rfl, Nat.le_of_ble_eq_true rfl⟩) hS (fun q _ h => hFc q h) hFc (fun u t H1 locs ht hvm hw hB hz1 hk1 hS => ?_)
  obtain ⟨hP1, hK1, hD1⟩ := hB
  rw [ht] at hP1
  have hK1 := va_K.moved hvm.symm hK1
  obtain ⟨hP, hD⟩ := va_join (wr := [(h0, .inr (4, [.ref q5, .ref q7, .ref q10, .ref q11, .ref q12, .null, .null, .null, .null, .null, .null, .int 0, .int 0, .int 0, .int 0])), (q5, .inl (cA6, 1200, .inl (fun _ => 0))), (q7, .inr (2, [.ref q8, .ref q9, .int 0])), (q8, .inr (0, [.ref q5, .int 0, .int 0, .int 0])), (q10, .inr (0, [.ref q5, .int 0, .int 0, .int 0])), (q11, .inr (0, [.ref q5, .int 0, .int 0, .int 0])), (q12, .inr (0, [.ref q5, .int 0, .int 0, .int 0]))]) (w1 := [(q13, .inr (0, [.ref q5, .int 0, .int 0, .int 0]))]) hP hD [7] [0, 1, 2, 3, 4, 5, 6] rfl rfl (by decide) (by decide) hk1 hFc hP1 hD1
  have hK := (hK.sub (tys' := [(cA6, .int)]) [0] rfl).app hK1
  generalize H1 = H at hP hS ⊢
  have hP : va_P (dC, dI) cls_ [(h0, .inr (4, [.ref q5, .ref q7, .ref q10, .ref q11, .ref q12, .null, .null, .null, .null, .null, .null, .int 0, .int 0, .int 0, .int 0])), (q5, .inl (cA6, 1200, .inl (fun _ => 0))), (q7, .inr (2, [.ref q8, .ref q9, .int 0])), (q8, .inr (0, [.ref q5, .int 0, .int 0, .int 0])), (q10, .inr (0, [.ref q5, .int 0, .int 0, .int 0])), (q11, .inr (0, [.ref q5, .int 0, .int 0, .int 0])), (q12, .inr (0, [.ref q5, .int 0, .int 0, .int 0])), (q13, .inr (0, [.ref q5, .int 0, .int 0, .int 0]))] H := hP
  have hD : va_D A [(h0, .inr (4, [.ref q5, .ref q7, .ref q10, .ref q11, .ref q12, .null, .null, .null, .null, .null, .null, .int 0, .int 0, .int 0, .int 0])), (q5, .inl (cA6, 1200, .inl (fun _ => 0))), (q7, .inr (2, [.ref q8, .ref q9, .int 0])), (q8, .inr (0, [.ref q5, .int 0, .int 0, .int 0])), (q10, .inr (0, [.ref q5, .int 0, .int 0, .int 0])), (q11, .inr (0, [.ref q5, .int 0, .int 0, .int 0])), (q12, .inr (0, [.ref q5, .int 0, .int 0, .int 0])), (q13, .inr (0, [.ref q5, .int 0, .int 0, .int 0]))] := hD
  have hK : va_K (dC, dI) cls_ [(cA6, .int)] s := hK
  refine va_putF (D := (dC, dI)) (ci := 4) (v := .ref q13) (ty := .object "GlyphLines$Span") (C := R_FO) (T := F_FO) (N := 15) hx hb hts in_FO t_FO t_FO_ok n_FO hown hK hP hD hS 0 rfl rfl 5 (by decide) (hts _ (List.mem_cons_of_mem _ w_122)) (fun _ h9 => h9) rfl hin rfl (by decide +kernel) rfl rfl (Nat.le_of_ble_eq_true rfl) d_FO_init_85 (fun H locs hP hD hS => ?_)
  have hP : va_P (dC, dI) cls_ [(h0, .inr (4, [.ref q5, .ref q7, .ref q10, .ref q11, .ref q12, .ref q13, .null, .null, .null, .null, .null, .int 0, .int 0, .int 0, .int 0])), (q5, .inl (cA6, 1200, .inl (fun _ => 0))), (q7, .inr (2, [.ref q8, .ref q9, .int 0])), (q8, .inr (0, [.ref q5, .int 0, .int 0, .int 0])), (q10, .inr (0, [.ref q5, .int 0, .int 0, .int 0])), (q11, .inr (0, [.ref q5, .int 0, .int 0, .int 0])), (q12, .inr (0, [.ref q5, .int 0, .int 0, .int 0])), (q13, .inr (0, [.ref q5, .int 0, .int 0, .int 0]))] H := hP
  have hD : va_D A [(h0, .inr (4, [.ref q5, .ref q7, .ref q10, .ref q11, .ref q12, .ref q13, .null, .null, .null, .null, .null, .int 0, .int 0, .int 0, .int 0])), (q5, .inl (cA6, 1200, .inl (fun _ => 0))), (q7, .inr (2, [.ref q8, .ref q9, .int 0])), (q8, .inr (0, [.ref q5, .int 0, .int 0, .int 0])), (q10, .inr (0, [.ref q5, .int 0, .int 0, .int 0])), (q11, .inr (0, [.ref q5, .int 0, .int 0, .int 0])), (q12, .inr (0, [.ref q5, .int 0, .int 0, .int 0])), (q13, .inr (0, [.ref q5, .int 0, .int 0, .int 0]))] := hD
  refine lv_aload_n hx hb d_FO_init_88 rfl (lv_at hl 0 rfl) ?_
  refine va_new (ci := 0) (fs := [.null, .int 0, .int 0, .int 0]) (C := R_SP) (T := F_SP) (N := 4) hx hb hts in_SP t_SP t_SP_ok hown (hts _ (List.mem_cons_of_mem _ w_79)) (hts _ (List.mem_cons_of_mem _ w_43)) (hts _ (List.mem_cons_of_mem _ w_4)) hK hP hD hS hA rfl (fun j hj => by rcases (show j = 0 ∨ j = 1 ∨ j = 2 ∨ j = 3 by omega) with rfl | rfl | rfl | rfl <;> rfl) (Nat.le_of_ble_eq_true rfl) (Nat.le_of_ble_eq_true rfl) d_FO_init_89 (fun q14 H hP hD hS => ?_)
  have hP : va_P (dC, dI) cls_ [(h0, .inr (4, [.ref q5, .ref q7, .ref q10, .ref q11, .ref q12, .ref q13, .null, .null, .null, .null, .null, .int 0, .int 0, .int 0, .int 0])), (q5, .inl (cA6, 1200, .inl (fun _ => 0))), (q7, .inr (2, [.ref q8, .ref q9, .int 0])), (q8, .inr (0, [.ref q5, .int 0, .int 0, .int 0])), (q10, .inr (0, [.ref q5, .int 0, .int 0, .int 0])), (q11, .inr (0, [.ref q5, .int 0, .int 0, .int 0])), (q12, .inr (0, [.ref q5, .int 0, .int 0, .int 0])), (q13, .inr (0, [.ref q5, .int 0, .int 0, .int 0])), (q14, .inr (0, [.null, .int 0, .int 0, .int 0]))] H := hP
  have hD : va_D A [(h0, .inr (4, [.ref q5, .ref q7, .ref q10, .ref q11, .ref q12, .ref q13, .null, .null, .null, .null, .null, .int 0, .int 0, .int 0, .int 0])), (q5, .inl (cA6, 1200, .inl (fun _ => 0))), (q7, .inr (2, [.ref q8, .ref q9, .int 0])), (q8, .inr (0, [.ref q5, .int 0, .int 0, .int 0])), (q10, .inr (0, [.ref q5, .int 0, .int 0, .int 0])), (q11, .inr (0, [.ref q5, .int 0, .int 0, .int 0])), (q12, .inr (0, [.ref q5, .int 0, .int 0, .int 0])), (q13, .inr (0, [.ref q5, .int 0, .int 0, .int 0])), (q14, .inr (0, [.null, .int 0, .int 0, .int 0]))] := hD
  refine lv_dup hx hb d_FO_init_92 rfl ?_
  refine lv_aload_n hx hb d_FO_init_93 rfl (lv_at hl 0 rfl) ?_
  refine va_get (D := (dC, dI)) (ci := 4) (v := .ref q5) (C := R_FO) (T := F_FO) (N := 15) hx hb hts in_FO hown hK hP 0 rfl rfl 0 (by decide) (hts _ (List.mem_cons_of_mem _ w_117)) (fun _ h9 => h9) rfl d_FO_init_94 ?_
  have hPc := hP.sub (ws' := [(q14, .inr (0, [.null, .int 0, .int 0, .int 0]))]) [8] rfl
  have hDc := hD.sub (ws' := [(q14, .inr (0, [.null, .int 0, .int 0, .int 0]))]) [8] (by decide) rfl
  have hKc := hK.sub (tys' := []) [] rfl
  have hFc := va_free (wc := [(q14, .inr (0, [.null, .int 0, .int 0, .int 0]))]) hD hS hA [8] rfl
  refine va_callv (va_runI (As := [.ref q5]) (rest := [.ref q14, .ref h0]) ⟨hx, hb, hml, hown, hts⟩ (c_SP_init l dC dI q14 q5 H.size) (cwI 1 hts (tw_in w_46) rfl rfl rfl (hts _ (List.mem_cons_of_mem _ w_4)) (hts _ (List.mem_cons_of_mem _ w_80)) (hts _ (List.mem_cons_of_mem _ w_45)) rfl (by decide +kernel) ⟨Nat.le_of_ble_eq_true rfl, Nat.le_of_ble_eq_true rfl⟩) ⟨fun a U g mk q => by obtain ⟨q0, q1, qP, qK, qD⟩ := q; exact ⟨q0, q1, qP, va_K.moved (u := U) (U := U.calling g mk a) (Vm.Alike.refl U.vm) qK, qD⟩, fun U hU hW => ⟨rfl, by rw [hU], by rw [hU]; exact hPc, va_K.moved hW.alike hKc, hDc.weaken (fun _ _ _ _ => trivial)⟩⟩ rfl rfl hl.1 rfl (lv_room (Nat.le_of_ble_eq_true rfl)) d_FO_init_97 ⟨Nat.le_of_ble_eq_true rfl, Nat.le_of_ble_eq_true rfl⟩) hS (fun q _ h => hFc q h) hFc (fun u t H1 locs ht hvm hw hB hz1 hk1 hS => ?_)
  obtain ⟨hP1, hK1, hD1⟩ := hB
  rw [ht] at hP1
  have hK1 := va_K.moved hvm.symm hK1
  obtain ⟨hP, hD⟩ := va_join (wr := [(h0, .inr (4, [.ref q5, .ref q7, .ref q10, .ref q11, .ref q12, .ref q13, .null, .null, .null, .null, .null, .int 0, .int 0, .int 0, .int 0])), (q5, .inl (cA6, 1200, .inl (fun _ => 0))), (q7, .inr (2, [.ref q8, .ref q9, .int 0])), (q8, .inr (0, [.ref q5, .int 0, .int 0, .int 0])), (q10, .inr (0, [.ref q5, .int 0, .int 0, .int 0])), (q11, .inr (0, [.ref q5, .int 0, .int 0, .int 0])), (q12, .inr (0, [.ref q5, .int 0, .int 0, .int 0])), (q13, .inr (0, [.ref q5, .int 0, .int 0, .int 0]))]) (w1 := [(q14, .inr (0, [.ref q5, .int 0, .int 0, .int 0]))]) hP hD [8] [0, 1, 2, 3, 4, 5, 6, 7] rfl rfl (by decide) (by decide) hk1 hFc hP1 hD1
  have hK := (hK.sub (tys' := [(cA6, .int)]) [0] rfl).app hK1
  generalize H1 = H at hP hS ⊢
  have hP : va_P (dC, dI) cls_ [(h0, .inr (4, [.ref q5, .ref q7, .ref q10, .ref q11, .ref q12, .ref q13, .null, .null, .null, .null, .null, .int 0, .int 0, .int 0, .int 0])), (q5, .inl (cA6, 1200, .inl (fun _ => 0))), (q7, .inr (2, [.ref q8, .ref q9, .int 0])), (q8, .inr (0, [.ref q5, .int 0, .int 0, .int 0])), (q10, .inr (0, [.ref q5, .int 0, .int 0, .int 0])), (q11, .inr (0, [.ref q5, .int 0, .int 0, .int 0])), (q12, .inr (0, [.ref q5, .int 0, .int 0, .int 0])), (q13, .inr (0, [.ref q5, .int 0, .int 0, .int 0])), (q14, .inr (0, [.ref q5, .int 0, .int 0, .int 0]))] H := hP
  have hD : va_D A [(h0, .inr (4, [.ref q5, .ref q7, .ref q10, .ref q11, .ref q12, .ref q13, .null, .null, .null, .null, .null, .int 0, .int 0, .int 0, .int 0])), (q5, .inl (cA6, 1200, .inl (fun _ => 0))), (q7, .inr (2, [.ref q8, .ref q9, .int 0])), (q8, .inr (0, [.ref q5, .int 0, .int 0, .int 0])), (q10, .inr (0, [.ref q5, .int 0, .int 0, .int 0])), (q11, .inr (0, [.ref q5, .int 0, .int 0, .int 0])), (q12, .inr (0, [.ref q5, .int 0, .int 0, .int 0])), (q13, .inr (0, [.ref q5, .int 0, .int 0, .int 0])), (q14, .inr (0, [.ref q5, .int 0, .int 0, .int 0]))] := hD
  have hK : va_K (dC, dI) cls_ [(cA6, .int)] s := hK
  refine va_putF (D := (dC, dI)) (ci := 4) (v := .ref q14) (ty := .object "GlyphLines$Span") (C := R_FO) (T := F_FO) (N := 15) hx hb hts in_FO t_FO t_FO_ok n_FO hown hK hP hD hS 0 rfl rfl 6 (by decide) (hts _ (List.mem_cons_of_mem _ w_123)) (fun _ h9 => h9) rfl hin rfl (by decide +kernel) rfl rfl (Nat.le_of_ble_eq_true rfl) d_FO_init_100 (fun H locs hP hD hS => ?_)
  have hP : va_P (dC, dI) cls_ [(h0, .inr (4, [.ref q5, .ref q7, .ref q10, .ref q11, .ref q12, .ref q13, .ref q14, .null, .null, .null, .null, .int 0, .int 0, .int 0, .int 0])), (q5, .inl (cA6, 1200, .inl (fun _ => 0))), (q7, .inr (2, [.ref q8, .ref q9, .int 0])), (q8, .inr (0, [.ref q5, .int 0, .int 0, .int 0])), (q10, .inr (0, [.ref q5, .int 0, .int 0, .int 0])), (q11, .inr (0, [.ref q5, .int 0, .int 0, .int 0])), (q12, .inr (0, [.ref q5, .int 0, .int 0, .int 0])), (q13, .inr (0, [.ref q5, .int 0, .int 0, .int 0])), (q14, .inr (0, [.ref q5, .int 0, .int 0, .int 0]))] H := hP
  have hD : va_D A [(h0, .inr (4, [.ref q5, .ref q7, .ref q10, .ref q11, .ref q12, .ref q13, .ref q14, .null, .null, .null, .null, .int 0, .int 0, .int 0, .int 0])), (q5, .inl (cA6, 1200, .inl (fun _ => 0))), (q7, .inr (2, [.ref q8, .ref q9, .int 0])), (q8, .inr (0, [.ref q5, .int 0, .int 0, .int 0])), (q10, .inr (0, [.ref q5, .int 0, .int 0, .int 0])), (q11, .inr (0, [.ref q5, .int 0, .int 0, .int 0])), (q12, .inr (0, [.ref q5, .int 0, .int 0, .int 0])), (q13, .inr (0, [.ref q5, .int 0, .int 0, .int 0])), (q14, .inr (0, [.ref q5, .int 0, .int 0, .int 0]))] := hD
  refine lv_aload_n hx hb d_FO_init_103 rfl (lv_at hl 0 rfl) ?_
  refine va_new (ci := 0) (fs := [.null, .int 0, .int 0, .int 0]) (C := R_SP) (T := F_SP) (N := 4) hx hb hts in_SP t_SP t_SP_ok hown (hts _ (List.mem_cons_of_mem _ w_79)) (hts _ (List.mem_cons_of_mem _ w_43)) (hts _ (List.mem_cons_of_mem _ w_4)) hK hP hD hS hA rfl (fun j hj => by rcases (show j = 0 ∨ j = 1 ∨ j = 2 ∨ j = 3 by omega) with rfl | rfl | rfl | rfl <;> rfl) (Nat.le_of_ble_eq_true rfl) (Nat.le_of_ble_eq_true rfl) d_FO_init_104 (fun q15 H hP hD hS => ?_)
  have hP : va_P (dC, dI) cls_ [(h0, .inr (4, [.ref q5, .ref q7, .ref q10, .ref q11, .ref q12, .ref q13, .ref q14, .null, .null, .null, .null, .int 0, .int 0, .int 0, .int 0])), (q5, .inl (cA6, 1200, .inl (fun _ => 0))), (q7, .inr (2, [.ref q8, .ref q9, .int 0])), (q8, .inr (0, [.ref q5, .int 0, .int 0, .int 0])), (q10, .inr (0, [.ref q5, .int 0, .int 0, .int 0])), (q11, .inr (0, [.ref q5, .int 0, .int 0, .int 0])), (q12, .inr (0, [.ref q5, .int 0, .int 0, .int 0])), (q13, .inr (0, [.ref q5, .int 0, .int 0, .int 0])), (q14, .inr (0, [.ref q5, .int 0, .int 0, .int 0])), (q15, .inr (0, [.null, .int 0, .int 0, .int 0]))] H := hP
  have hD : va_D A [(h0, .inr (4, [.ref q5, .ref q7, .ref q10, .ref q11, .ref q12, .ref q13, .ref q14, .null, .null, .null, .null, .int 0, .int 0, .int 0, .int 0])), (q5, .inl (cA6, 1200, .inl (fun _ => 0))), (q7, .inr (2, [.ref q8, .ref q9, .int 0])), (q8, .inr (0, [.ref q5, .int 0, .int 0, .int 0])), (q10, .inr (0, [.ref q5, .int 0, .int 0, .int 0])), (q11, .inr (0, [.ref q5, .int 0, .int 0, .int 0])), (q12, .inr (0, [.ref q5, .int 0, .int 0, .int 0])), (q13, .inr (0, [.ref q5, .int 0, .int 0, .int 0])), (q14, .inr (0, [.ref q5, .int 0, .int 0, .int 0])), (q15, .inr (0, [.null, .int 0, .int 0, .int 0]))] := hD
  refine lv_dup hx hb d_FO_init_107 rfl ?_
  refine lv_aload_n hx hb d_FO_init_108 rfl (lv_at hl 0 rfl) ?_
  refine va_get (D := (dC, dI)) (ci := 4) (v := .ref q5) (C := R_FO) (T := F_FO) (N := 15) hx hb hts in_FO hown hK hP 0 rfl rfl 0 (by decide) (hts _ (List.mem_cons_of_mem _ w_117)) (fun _ h9 => h9) rfl d_FO_init_109 ?_
  have hPc := hP.sub (ws' := [(q15, .inr (0, [.null, .int 0, .int 0, .int 0]))]) [9] rfl
  have hDc := hD.sub (ws' := [(q15, .inr (0, [.null, .int 0, .int 0, .int 0]))]) [9] (by decide) rfl
  have hKc := hK.sub (tys' := []) [] rfl
  have hFc := va_free (wc := [(q15, .inr (0, [.null, .int 0, .int 0, .int 0]))]) hD hS hA [9] rfl
  refine va_callv (va_runI (As := [.ref q5]) (rest := [.ref q15, .ref h0]) ⟨hx, hb, hml, hown, hts⟩ (c_SP_init l dC dI q15 q5 H.size) (cwI 1 hts (tw_in w_46) rfl rfl rfl (hts _ (List.mem_cons_of_mem _ w_4)) (hts _ (List.mem_cons_of_mem _ w_80)) (hts _ (List.mem_cons_of_mem _ w_45)) rfl (by decide +kernel) ⟨Nat.le_of_ble_eq_true rfl, Nat.le_of_ble_eq_true rfl⟩) ⟨fun a U g mk q => by obtain ⟨q0, q1, qP, qK, qD⟩ := q; exact ⟨q0, q1, qP, va_K.moved (u := U) (U := U.calling g mk a) (Vm.Alike.refl U.vm) qK, qD⟩, fun U hU hW => ⟨rfl, by rw [hU], by rw [hU]; exact hPc, va_K.moved hW.alike hKc, hDc.weaken (fun _ _ _ _ => trivial)⟩⟩ rfl rfl hl.1 rfl (lv_room (Nat.le_of_ble_eq_true rfl)) d_FO_init_112 ⟨Nat.le_of_ble_eq_true rfl, Nat.le_of_ble_eq_true rfl⟩) hS (fun q _ h => hFc q h) hFc (fun u t H1 locs ht hvm hw hB hz1 hk1 hS => ?_)
  obtain ⟨hP1, hK1, hD1⟩ := hB
  rw [ht] at hP1
  have hK1 := va_K.moved hvm.symm hK1
  obtain ⟨hP, hD⟩ := va_join (wr := [(h0, .inr (4, [.ref q5, .ref q7, .ref q10, .ref q11, .ref q12, .ref q13, .ref q14, .null, .null, .null, .null, .int 0, .int 0, .int 0, .int 0])), (q5, .inl (cA6, 1200, .inl (fun _ => 0))), (q7, .inr (2, [.ref q8, .ref q9, .int 0])), (q8, .inr (0, [.ref q5, .int 0, .int 0, .int 0])), (q10, .inr (0, [.ref q5, .int 0, .int 0, .int 0])), (q11, .inr (0, [.ref q5, .int 0, .int 0, .int 0])), (q12, .inr (0, [.ref q5, .int 0, .int 0, .int 0])), (q13, .inr (0, [.ref q5, .int 0, .int 0, .int 0])), (q14, .inr (0, [.ref q5, .int 0, .int 0, .int 0]))]) (w1 := [(q15, .inr (0, [.ref q5, .int 0, .int 0, .int 0]))]) hP hD [9] [0, 1, 2, 3, 4, 5, 6, 7, 8] rfl rfl (by decide) (by decide) hk1 hFc hP1 hD1
  have hK := (hK.sub (tys' := [(cA6, .int)]) [0] rfl).app hK1
  generalize H1 = H at hP hS ⊢
  have hP : va_P (dC, dI) cls_ [(h0, .inr (4, [.ref q5, .ref q7, .ref q10, .ref q11, .ref q12, .ref q13, .ref q14, .null, .null, .null, .null, .int 0, .int 0, .int 0, .int 0])), (q5, .inl (cA6, 1200, .inl (fun _ => 0))), (q7, .inr (2, [.ref q8, .ref q9, .int 0])), (q8, .inr (0, [.ref q5, .int 0, .int 0, .int 0])), (q10, .inr (0, [.ref q5, .int 0, .int 0, .int 0])), (q11, .inr (0, [.ref q5, .int 0, .int 0, .int 0])), (q12, .inr (0, [.ref q5, .int 0, .int 0, .int 0])), (q13, .inr (0, [.ref q5, .int 0, .int 0, .int 0])), (q14, .inr (0, [.ref q5, .int 0, .int 0, .int 0])), (q15, .inr (0, [.ref q5, .int 0, .int 0, .int 0]))] H := hP
  have hD : va_D A [(h0, .inr (4, [.ref q5, .ref q7, .ref q10, .ref q11, .ref q12, .ref q13, .ref q14, .null, .null, .null, .null, .int 0, .int 0, .int 0, .int 0])), (q5, .inl (cA6, 1200, .inl (fun _ => 0))), (q7, .inr (2, [.ref q8, .ref q9, .int 0])), (q8, .inr (0, [.ref q5, .int 0, .int 0, .int 0])), (q10, .inr (0, [.ref q5, .int 0, .int 0, .int 0])), (q11, .inr (0, [.ref q5, .int 0, .int 0, .int 0])), (q12, .inr (0, [.ref q5, .int 0, .int 0, .int 0])), (q13, .inr (0, [.ref q5, .int 0, .int 0, .int 0])), (q14, .inr (0, [.ref q5, .int 0, .int 0, .int 0])), (q15, .inr (0, [.ref q5, .int 0, .int 0, .int 0]))] := hD
  have hK : va_K (dC, dI) cls_ [(cA6, .int)] s := hK
  refine va_putF (D := (dC, dI)) (ci := 4) (v := .ref q15) (ty := .object "GlyphLines$Span") (C := R_FO) (T := F_FO) (N := 15) hx hb hts in_FO t_FO t_FO_ok n_FO hown hK hP hD hS 0 rfl rfl 7 (by decide) (hts _ (List.mem_cons_of_mem _ w_124)) (fun _ h9 => h9) rfl hin rfl (by decide +kernel) rfl rfl (Nat.le_of_ble_eq_true rfl) d_FO_init_115 (fun H locs hP hD hS => ?_)
  have hP : va_P (dC, dI) cls_ [(h0, .inr (4, [.ref q5, .ref q7, .ref q10, .ref q11, .ref q12, .ref q13, .ref q14, .ref q15, .null, .null, .null, .int 0, .int 0, .int 0, .int 0])), (q5, .inl (cA6, 1200, .inl (fun _ => 0))), (q7, .inr (2, [.ref q8, .ref q9, .int 0])), (q8, .inr (0, [.ref q5, .int 0, .int 0, .int 0])), (q10, .inr (0, [.ref q5, .int 0, .int 0, .int 0])), (q11, .inr (0, [.ref q5, .int 0, .int 0, .int 0])), (q12, .inr (0, [.ref q5, .int 0, .int 0, .int 0])), (q13, .inr (0, [.ref q5, .int 0, .int 0, .int 0])), (q14, .inr (0, [.ref q5, .int 0, .int 0, .int 0])), (q15, .inr (0, [.ref q5, .int 0, .int 0, .int 0]))] H := hP
  have hD : va_D A [(h0, .inr (4, [.ref q5, .ref q7, .ref q10, .ref q11, .ref q12, .ref q13, .ref q14, .ref q15, .null, .null, .null, .int 0, .int 0, .int 0, .int 0])), (q5, .inl (cA6, 1200, .inl (fun _ => 0))), (q7, .inr (2, [.ref q8, .ref q9, .int 0])), (q8, .inr (0, [.ref q5, .int 0, .int 0, .int 0])), (q10, .inr (0, [.ref q5, .int 0, .int 0, .int 0])), (q11, .inr (0, [.ref q5, .int 0, .int 0, .int 0])), (q12, .inr (0, [.ref q5, .int 0, .int 0, .int 0])), (q13, .inr (0, [.ref q5, .int 0, .int 0, .int 0])), (q14, .inr (0, [.ref q5, .int 0, .int 0, .int 0])), (q15, .inr (0, [.ref q5, .int 0, .int 0, .int 0]))] := hD
  refine lv_aload_n hx hb d_FO_init_118 rfl (lv_at hl 0 rfl) ?_
  refine va_new (ci := 1) (fs := [.null, .int 0, .int 0]) (C := R_CM) (T := F_CM) (N := 3) hx hb hts in_CM t_CM t_CM_ok hown (hts _ (List.mem_cons_of_mem _ w_81)) (hts _ (List.mem_cons_of_mem _ w_82)) (hts _ (List.mem_cons_of_mem _ w_5)) hK hP hD hS hA rfl (fun j hj => by rcases (show j = 0 ∨ j = 1 ∨ j = 2 by omega) with rfl | rfl | rfl <;> rfl) (Nat.le_of_ble_eq_true rfl) (Nat.le_of_ble_eq_true rfl) d_FO_init_119 (fun q16 H hP hD hS => ?_)
  have hP : va_P (dC, dI) cls_ [(h0, .inr (4, [.ref q5, .ref q7, .ref q10, .ref q11, .ref q12, .ref q13, .ref q14, .ref q15, .null, .null, .null, .int 0, .int 0, .int 0, .int 0])), (q5, .inl (cA6, 1200, .inl (fun _ => 0))), (q7, .inr (2, [.ref q8, .ref q9, .int 0])), (q8, .inr (0, [.ref q5, .int 0, .int 0, .int 0])), (q10, .inr (0, [.ref q5, .int 0, .int 0, .int 0])), (q11, .inr (0, [.ref q5, .int 0, .int 0, .int 0])), (q12, .inr (0, [.ref q5, .int 0, .int 0, .int 0])), (q13, .inr (0, [.ref q5, .int 0, .int 0, .int 0])), (q14, .inr (0, [.ref q5, .int 0, .int 0, .int 0])), (q15, .inr (0, [.ref q5, .int 0, .int 0, .int 0])), (q16, .inr (1, [.null, .int 0, .int 0]))] H := hP
  have hD : va_D A [(h0, .inr (4, [.ref q5, .ref q7, .ref q10, .ref q11, .ref q12, .ref q13, .ref q14, .ref q15, .null, .null, .null, .int 0, .int 0, .int 0, .int 0])), (q5, .inl (cA6, 1200, .inl (fun _ => 0))), (q7, .inr (2, [.ref q8, .ref q9, .int 0])), (q8, .inr (0, [.ref q5, .int 0, .int 0, .int 0])), (q10, .inr (0, [.ref q5, .int 0, .int 0, .int 0])), (q11, .inr (0, [.ref q5, .int 0, .int 0, .int 0])), (q12, .inr (0, [.ref q5, .int 0, .int 0, .int 0])), (q13, .inr (0, [.ref q5, .int 0, .int 0, .int 0])), (q14, .inr (0, [.ref q5, .int 0, .int 0, .int 0])), (q15, .inr (0, [.ref q5, .int 0, .int 0, .int 0])), (q16, .inr (1, [.null, .int 0, .int 0]))] := hD
  refine lv_dup hx hb d_FO_init_122 rfl ?_
  refine lv_aload_n hx hb d_FO_init_123 rfl (lv_at hl 0 rfl) ?_
  refine va_get (D := (dC, dI)) (ci := 4) (v := .ref q5) (C := R_FO) (T := F_FO) (N := 15) hx hb hts in_FO hown hK hP 0 rfl rfl 0 (by decide) (hts _ (List.mem_cons_of_mem _ w_117)) (fun _ h9 => h9) rfl d_FO_init_124 ?_
  have hPc := hP.sub (ws' := [(q16, .inr (1, [.null, .int 0, .int 0]))]) [10] rfl
  have hDc := hD.sub (ws' := [(q16, .inr (1, [.null, .int 0, .int 0]))]) [10] (by decide) rfl
  have hKc := hK.sub (tys' := []) [] rfl
  have hFc := va_free (wc := [(q16, .inr (1, [.null, .int 0, .int 0]))]) hD hS hA [10] rfl
  refine va_callv (va_runI (As := [.ref q5]) (rest := [.ref q16, .ref h0]) ⟨hx, hb, hml, hown, hts⟩ (c_CM_init l dC dI q16 q5 H.size) (cwI 1 hts (tw_in w_85) rfl rfl rfl (hts _ (List.mem_cons_of_mem _ w_5)) (hts _ (List.mem_cons_of_mem _ w_83)) (hts _ (List.mem_cons_of_mem _ w_84)) rfl (by decide +kernel) ⟨Nat.le_of_ble_eq_true rfl, Nat.le_of_ble_eq_true rfl⟩) ⟨fun a U g mk q => by obtain ⟨q0, q1, qP, qK, qD⟩ := q; exact ⟨q0, q1, qP, va_K.moved (u := U) (U := U.calling g mk a) (Vm.Alike.refl U.vm) qK, qD⟩, fun U hU hW => ⟨rfl, by rw [hU], by rw [hU]; exact hPc, va_K.moved hW.alike hKc, hDc.weaken (fun _ _ _ _ => trivial)⟩⟩ rfl rfl hl.1 rfl (lv_room (Nat.le_of_ble_eq_true rfl)) d_FO_init_127 ⟨Nat.le_of_ble_eq_true rfl, Nat.le_of_ble_eq_true rfl⟩) hS (fun q _ h => hFc q h) hFc (fun u t H1 locs ht hvm hw hB hz1 hk1 hS => ?_)
  have hP1 : va_P (dC, dI) cls_ [] H1 := fun k q h => by simp at h
  have hD1 : va_D (va_A [(q16, .inr (1, [.null, .int 0, .int 0]))] H.size) [] := ⟨fun i j p q h => by simp at h, fun k q h => by simp at h⟩
  obtain ⟨hP, hD⟩ := va_join (wr := [(h0, .inr (4, [.ref q5, .ref q7, .ref q10, .ref q11, .ref q12, .ref q13, .ref q14, .ref q15, .null, .null, .null, .int 0, .int 0, .int 0, .int 0])), (q5, .inl (cA6, 1200, .inl (fun _ => 0))), (q7, .inr (2, [.ref q8, .ref q9, .int 0])), (q8, .inr (0, [.ref q5, .int 0, .int 0, .int 0])), (q10, .inr (0, [.ref q5, .int 0, .int 0, .int 0])), (q11, .inr (0, [.ref q5, .int 0, .int 0, .int 0])), (q12, .inr (0, [.ref q5, .int 0, .int 0, .int 0])), (q13, .inr (0, [.ref q5, .int 0, .int 0, .int 0])), (q14, .inr (0, [.ref q5, .int 0, .int 0, .int 0])), (q15, .inr (0, [.ref q5, .int 0, .int 0, .int 0]))]) (w1 := []) hP hD [10] [0, 1, 2, 3, 4, 5, 6, 7, 8, 9] rfl rfl (by decide) (by decide) hk1 hFc hP1 hD1
  generalize H1 = H at hP hS ⊢
  have hP : va_P (dC, dI) cls_ [(h0, .inr (4, [.ref q5, .ref q7, .ref q10, .ref q11, .ref q12, .ref q13, .ref q14, .ref q15, .null, .null, .null, .int 0, .int 0, .int 0, .int 0])), (q5, .inl (cA6, 1200, .inl (fun _ => 0))), (q7, .inr (2, [.ref q8, .ref q9, .int 0])), (q8, .inr (0, [.ref q5, .int 0, .int 0, .int 0])), (q10, .inr (0, [.ref q5, .int 0, .int 0, .int 0])), (q11, .inr (0, [.ref q5, .int 0, .int 0, .int 0])), (q12, .inr (0, [.ref q5, .int 0, .int 0, .int 0])), (q13, .inr (0, [.ref q5, .int 0, .int 0, .int 0])), (q14, .inr (0, [.ref q5, .int 0, .int 0, .int 0])), (q15, .inr (0, [.ref q5, .int 0, .int 0, .int 0]))] H := hP
  have hD : va_D A [(h0, .inr (4, [.ref q5, .ref q7, .ref q10, .ref q11, .ref q12, .ref q13, .ref q14, .ref q15, .null, .null, .null, .int 0, .int 0, .int 0, .int 0])), (q5, .inl (cA6, 1200, .inl (fun _ => 0))), (q7, .inr (2, [.ref q8, .ref q9, .int 0])), (q8, .inr (0, [.ref q5, .int 0, .int 0, .int 0])), (q10, .inr (0, [.ref q5, .int 0, .int 0, .int 0])), (q11, .inr (0, [.ref q5, .int 0, .int 0, .int 0])), (q12, .inr (0, [.ref q5, .int 0, .int 0, .int 0])), (q13, .inr (0, [.ref q5, .int 0, .int 0, .int 0])), (q14, .inr (0, [.ref q5, .int 0, .int 0, .int 0])), (q15, .inr (0, [.ref q5, .int 0, .int 0, .int 0]))] := hD
  refine va_putF (D := (dC, dI)) (ci := 4) (v := .ref q16) (ty := .object "GlyphLines$CharacterMap") (C := R_FO) (T := F_FO) (N := 15) hx hb hts in_FO t_FO t_FO_ok n_FO hown hK hP hD hS 0 rfl rfl 8 (by decide) (hts _ (List.mem_cons_of_mem _ w_125)) (fun _ h9 => h9) rfl hin rfl (by decide +kernel) rfl rfl (Nat.le_of_ble_eq_true rfl) d_FO_init_130 (fun H locs hP hD hS => ?_)
  have hP : va_P (dC, dI) cls_ [(h0, .inr (4, [.ref q5, .ref q7, .ref q10, .ref q11, .ref q12, .ref q13, .ref q14, .ref q15, .ref q16, .null, .null, .int 0, .int 0, .int 0, .int 0])), (q5, .inl (cA6, 1200, .inl (fun _ => 0))), (q7, .inr (2, [.ref q8, .ref q9, .int 0])), (q8, .inr (0, [.ref q5, .int 0, .int 0, .int 0])), (q10, .inr (0, [.ref q5, .int 0, .int 0, .int 0])), (q11, .inr (0, [.ref q5, .int 0, .int 0, .int 0])), (q12, .inr (0, [.ref q5, .int 0, .int 0, .int 0])), (q13, .inr (0, [.ref q5, .int 0, .int 0, .int 0])), (q14, .inr (0, [.ref q5, .int 0, .int 0, .int 0])), (q15, .inr (0, [.ref q5, .int 0, .int 0, .int 0]))] H := hP
  have hD : va_D A [(h0, .inr (4, [.ref q5, .ref q7, .ref q10, .ref q11, .ref q12, .ref q13, .ref q14, .ref q15, .ref q16, .null, .null, .int 0, .int 0, .int 0, .int 0])), (q5, .inl (cA6, 1200, .inl (fun _ => 0))), (q7, .inr (2, [.ref q8, .ref q9, .int 0])), (q8, .inr (0, [.ref q5, .int 0, .int 0, .int 0])), (q10, .inr (0, [.ref q5, .int 0, .int 0, .int 0])), (q11, .inr (0, [.ref q5, .int 0, .int 0, .int 0])), (q12, .inr (0, [.ref q5, .int 0, .int 0, .int 0])), (q13, .inr (0, [.ref q5, .int 0, .int 0, .int 0])), (q14, .inr (0, [.ref q5, .int 0, .int 0, .int 0])), (q15, .inr (0, [.ref q5, .int 0, .int 0, .int 0]))] := hD
  refine lv_aload_n hx hb d_FO_init_133 rfl (lv_at hl 0 rfl) ?_
  refine va_new (ci := 3) (fs := [.null, .int 0]) (C := R_PA) (T := F_PA) (N := 2) hx hb hts in_PA t_PA t_PA_ok hown (hts _ (List.mem_cons_of_mem _ w_100)) (hts _ (List.mem_cons_of_mem _ w_101)) (hts _ (List.mem_cons_of_mem _ w_6)) hK hP hD hS hA rfl (fun j hj => by rcases (show j = 0 ∨ j = 1 by omega) with rfl | rfl <;> rfl) (Nat.le_of_ble_eq_true rfl) (Nat.le_of_ble_eq_true rfl) d_FO_init_134 (fun q17 H hP hD hS => ?_)
  have hP : va_P (dC, dI) cls_ [(h0, .inr (4, [.ref q5, .ref q7, .ref q10, .ref q11, .ref q12, .ref q13, .ref q14, .ref q15, .ref q16, .null, .null, .int 0, .int 0, .int 0, .int 0])), (q5, .inl (cA6, 1200, .inl (fun _ => 0))), (q7, .inr (2, [.ref q8, .ref q9, .int 0])), (q8, .inr (0, [.ref q5, .int 0, .int 0, .int 0])), (q10, .inr (0, [.ref q5, .int 0, .int 0, .int 0])), (q11, .inr (0, [.ref q5, .int 0, .int 0, .int 0])), (q12, .inr (0, [.ref q5, .int 0, .int 0, .int 0])), (q13, .inr (0, [.ref q5, .int 0, .int 0, .int 0])), (q14, .inr (0, [.ref q5, .int 0, .int 0, .int 0])), (q15, .inr (0, [.ref q5, .int 0, .int 0, .int 0])), (q17, .inr (3, [.null, .int 0]))] H := hP
  have hD : va_D A [(h0, .inr (4, [.ref q5, .ref q7, .ref q10, .ref q11, .ref q12, .ref q13, .ref q14, .ref q15, .ref q16, .null, .null, .int 0, .int 0, .int 0, .int 0])), (q5, .inl (cA6, 1200, .inl (fun _ => 0))), (q7, .inr (2, [.ref q8, .ref q9, .int 0])), (q8, .inr (0, [.ref q5, .int 0, .int 0, .int 0])), (q10, .inr (0, [.ref q5, .int 0, .int 0, .int 0])), (q11, .inr (0, [.ref q5, .int 0, .int 0, .int 0])), (q12, .inr (0, [.ref q5, .int 0, .int 0, .int 0])), (q13, .inr (0, [.ref q5, .int 0, .int 0, .int 0])), (q14, .inr (0, [.ref q5, .int 0, .int 0, .int 0])), (q15, .inr (0, [.ref q5, .int 0, .int 0, .int 0])), (q17, .inr (3, [.null, .int 0]))] := hD
  refine lv_dup hx hb d_FO_init_137 rfl ?_
  refine lv_aload_n hx hb d_FO_init_138 rfl (lv_at hl 0 rfl) ?_
  refine va_get (D := (dC, dI)) (ci := 4) (v := .ref q5) (C := R_FO) (T := F_FO) (N := 15) hx hb hts in_FO hown hK hP 0 rfl rfl 0 (by decide) (hts _ (List.mem_cons_of_mem _ w_117)) (fun _ h9 => h9) rfl d_FO_init_139 ?_
  have hPc := hP.sub (ws' := [(q17, .inr (3, [.null, .int 0]))]) [10] rfl
  have hDc := hD.sub (ws' := [(q17, .inr (3, [.null, .int 0]))]) [10] (by decide) rfl
  have hKc := hK.sub (tys' := []) [] rfl
  have hFc := va_free (wc := [(q17, .inr (3, [.null, .int 0]))]) hD hS hA [10] rfl
  refine va_callv (va_runI (As := [.ref q5]) (rest := [.ref q17, .ref h0]) ⟨hx, hb, hml, hown, hts⟩ (c_PA_init l dC dI q17 q5 H.size) (cwI 1 hts (tw_in w_104) rfl rfl rfl (hts _ (List.mem_cons_of_mem _ w_6)) (hts _ (List.mem_cons_of_mem _ w_102)) (hts _ (List.mem_cons_of_mem _ w_103)) rfl (by decide +kernel) ⟨Nat.le_of_ble_eq_true rfl, Nat.le_of_ble_eq_true rfl⟩) ⟨fun a U g mk q => by obtain ⟨q0, q1, qP, qK, qD⟩ := q; exact ⟨q0, q1, qP, va_K.moved (u := U) (U := U.calling g mk a) (Vm.Alike.refl U.vm) qK, qD⟩, fun U hU hW => ⟨rfl, by rw [hU], by rw [hU]; exact hPc, va_K.moved hW.alike hKc, hDc.weaken (fun _ _ _ _ => trivial)⟩⟩ rfl rfl hl.1 rfl (lv_room (Nat.le_of_ble_eq_true rfl)) d_FO_init_142 ⟨Nat.le_of_ble_eq_true rfl, Nat.le_of_ble_eq_true rfl⟩) hS (fun q _ h => hFc q h) hFc (fun u t H1 locs ht hvm hw hB hz1 hk1 hS => ?_)
  have hP1 : va_P (dC, dI) cls_ [] H1 := fun k q h => by simp at h
  have hD1 : va_D (va_A [(q17, .inr (3, [.null, .int 0]))] H.size) [] := ⟨fun i j p q h => by simp at h, fun k q h => by simp at h⟩
  obtain ⟨hP, hD⟩ := va_join (wr := [(h0, .inr (4, [.ref q5, .ref q7, .ref q10, .ref q11, .ref q12, .ref q13, .ref q14, .ref q15, .ref q16, .null, .null, .int 0, .int 0, .int 0, .int 0])), (q5, .inl (cA6, 1200, .inl (fun _ => 0))), (q7, .inr (2, [.ref q8, .ref q9, .int 0])), (q8, .inr (0, [.ref q5, .int 0, .int 0, .int 0])), (q10, .inr (0, [.ref q5, .int 0, .int 0, .int 0])), (q11, .inr (0, [.ref q5, .int 0, .int 0, .int 0])), (q12, .inr (0, [.ref q5, .int 0, .int 0, .int 0])), (q13, .inr (0, [.ref q5, .int 0, .int 0, .int 0])), (q14, .inr (0, [.ref q5, .int 0, .int 0, .int 0])), (q15, .inr (0, [.ref q5, .int 0, .int 0, .int 0]))]) (w1 := []) hP hD [10] [0, 1, 2, 3, 4, 5, 6, 7, 8, 9] rfl rfl (by decide) (by decide) hk1 hFc hP1 hD1
  generalize H1 = H at hP hS ⊢
  have hP : va_P (dC, dI) cls_ [(h0, .inr (4, [.ref q5, .ref q7, .ref q10, .ref q11, .ref q12, .ref q13, .ref q14, .ref q15, .ref q16, .null, .null, .int 0, .int 0, .int 0, .int 0])), (q5, .inl (cA6, 1200, .inl (fun _ => 0))), (q7, .inr (2, [.ref q8, .ref q9, .int 0])), (q8, .inr (0, [.ref q5, .int 0, .int 0, .int 0])), (q10, .inr (0, [.ref q5, .int 0, .int 0, .int 0])), (q11, .inr (0, [.ref q5, .int 0, .int 0, .int 0])), (q12, .inr (0, [.ref q5, .int 0, .int 0, .int 0])), (q13, .inr (0, [.ref q5, .int 0, .int 0, .int 0])), (q14, .inr (0, [.ref q5, .int 0, .int 0, .int 0])), (q15, .inr (0, [.ref q5, .int 0, .int 0, .int 0]))] H := hP
  have hD : va_D A [(h0, .inr (4, [.ref q5, .ref q7, .ref q10, .ref q11, .ref q12, .ref q13, .ref q14, .ref q15, .ref q16, .null, .null, .int 0, .int 0, .int 0, .int 0])), (q5, .inl (cA6, 1200, .inl (fun _ => 0))), (q7, .inr (2, [.ref q8, .ref q9, .int 0])), (q8, .inr (0, [.ref q5, .int 0, .int 0, .int 0])), (q10, .inr (0, [.ref q5, .int 0, .int 0, .int 0])), (q11, .inr (0, [.ref q5, .int 0, .int 0, .int 0])), (q12, .inr (0, [.ref q5, .int 0, .int 0, .int 0])), (q13, .inr (0, [.ref q5, .int 0, .int 0, .int 0])), (q14, .inr (0, [.ref q5, .int 0, .int 0, .int 0])), (q15, .inr (0, [.ref q5, .int 0, .int 0, .int 0]))] := hD
  refine va_putF (D := (dC, dI)) (ci := 4) (v := .ref q17) (ty := .object "GlyphLines$Pairs") (C := R_FO) (T := F_FO) (N := 15) hx hb hts in_FO t_FO t_FO_ok n_FO hown hK hP hD hS 0 rfl rfl 9 (by decide) (hts _ (List.mem_cons_of_mem _ w_126)) (fun _ h9 => h9) rfl hin rfl (by decide +kernel) rfl rfl (Nat.le_of_ble_eq_true rfl) d_FO_init_145 (fun H locs hP hD hS => ?_)
  have hP : va_P (dC, dI) cls_ [(h0, .inr (4, [.ref q5, .ref q7, .ref q10, .ref q11, .ref q12, .ref q13, .ref q14, .ref q15, .ref q16, .ref q17, .null, .int 0, .int 0, .int 0, .int 0])), (q5, .inl (cA6, 1200, .inl (fun _ => 0))), (q7, .inr (2, [.ref q8, .ref q9, .int 0])), (q8, .inr (0, [.ref q5, .int 0, .int 0, .int 0])), (q10, .inr (0, [.ref q5, .int 0, .int 0, .int 0])), (q11, .inr (0, [.ref q5, .int 0, .int 0, .int 0])), (q12, .inr (0, [.ref q5, .int 0, .int 0, .int 0])), (q13, .inr (0, [.ref q5, .int 0, .int 0, .int 0])), (q14, .inr (0, [.ref q5, .int 0, .int 0, .int 0])), (q15, .inr (0, [.ref q5, .int 0, .int 0, .int 0]))] H := hP
  have hD : va_D A [(h0, .inr (4, [.ref q5, .ref q7, .ref q10, .ref q11, .ref q12, .ref q13, .ref q14, .ref q15, .ref q16, .ref q17, .null, .int 0, .int 0, .int 0, .int 0])), (q5, .inl (cA6, 1200, .inl (fun _ => 0))), (q7, .inr (2, [.ref q8, .ref q9, .int 0])), (q8, .inr (0, [.ref q5, .int 0, .int 0, .int 0])), (q10, .inr (0, [.ref q5, .int 0, .int 0, .int 0])), (q11, .inr (0, [.ref q5, .int 0, .int 0, .int 0])), (q12, .inr (0, [.ref q5, .int 0, .int 0, .int 0])), (q13, .inr (0, [.ref q5, .int 0, .int 0, .int 0])), (q14, .inr (0, [.ref q5, .int 0, .int 0, .int 0])), (q15, .inr (0, [.ref q5, .int 0, .int 0, .int 0]))] := hD
  refine lv_aload_n hx hb d_FO_init_148 rfl (lv_at hl 0 rfl) ?_
  refine lv_iconst (v := 3) hx hb d_FO_init_149 (by decide) ?_
  refine va_newq (N' := 3) (C := "GlyphLines$Span") hx hb hown (hts _ (List.mem_cons_of_mem _ w_79)) hO hK hP hD hS hA (by decide +kernel) (by decide +kernel) (by decide +kernel) (Nat.le_of_ble_eq_true rfl) (Nat.le_of_ble_eq_true rfl) d_FO_init_150 (fun q18 cA19 H hK hP hD hS => ?_)
  have hP : va_P (dC, dI) cls_ [(h0, .inr (4, [.ref q5, .ref q7, .ref q10, .ref q11, .ref q12, .ref q13, .ref q14, .ref q15, .ref q16, .ref q17, .null, .int 0, .int 0, .int 0, .int 0])), (q5, .inl (cA6, 1200, .inl (fun _ => 0))), (q7, .inr (2, [.ref q8, .ref q9, .int 0])), (q8, .inr (0, [.ref q5, .int 0, .int 0, .int 0])), (q10, .inr (0, [.ref q5, .int 0, .int 0, .int 0])), (q11, .inr (0, [.ref q5, .int 0, .int 0, .int 0])), (q12, .inr (0, [.ref q5, .int 0, .int 0, .int 0])), (q13, .inr (0, [.ref q5, .int 0, .int 0, .int 0])), (q14, .inr (0, [.ref q5, .int 0, .int 0, .int 0])), (q15, .inr (0, [.ref q5, .int 0, .int 0, .int 0])), (q18, .inl (cA19, 3, .inr (.inr (.inr (.inr (fun _ => none))))))] H := hP
  have hD : va_D A [(h0, .inr (4, [.ref q5, .ref q7, .ref q10, .ref q11, .ref q12, .ref q13, .ref q14, .ref q15, .ref q16, .ref q17, .null, .int 0, .int 0, .int 0, .int 0])), (q5, .inl (cA6, 1200, .inl (fun _ => 0))), (q7, .inr (2, [.ref q8, .ref q9, .int 0])), (q8, .inr (0, [.ref q5, .int 0, .int 0, .int 0])), (q10, .inr (0, [.ref q5, .int 0, .int 0, .int 0])), (q11, .inr (0, [.ref q5, .int 0, .int 0, .int 0])), (q12, .inr (0, [.ref q5, .int 0, .int 0, .int 0])), (q13, .inr (0, [.ref q5, .int 0, .int 0, .int 0])), (q14, .inr (0, [.ref q5, .int 0, .int 0, .int 0])), (q15, .inr (0, [.ref q5, .int 0, .int 0, .int 0])), (q18, .inl (cA19, 3, .inr (.inr (.inr (.inr (fun _ => none))))))] := hD
  have hK : va_K (dC, dI) cls_ [(cA6, .int), (cA19, .object "GlyphLines$Span")] s := hK
  refine lv_dup hx hb d_FO_init_153 rfl ?_
  refine lv_iconst (v := 0) hx hb d_FO_init_154 (by decide) ?_
  refine va_new (ci := 0) (fs := [.null, .int 0, .int 0, .int 0]) (C := R_SP) (T := F_SP) (N := 4) hx hb hts in_SP t_SP t_SP_ok hown (hts _ (List.mem_cons_of_mem _ w_79)) (hts _ (List.mem_cons_of_mem _ w_43)) (hts _ (List.mem_cons_of_mem _ w_4)) hK hP hD hS hA rfl (fun j hj => by rcases (show j = 0 ∨ j = 1 ∨ j = 2 ∨ j = 3 by omega) with rfl | rfl | rfl | rfl <;> rfl) (Nat.le_of_ble_eq_true rfl) (Nat.le_of_ble_eq_true rfl) d_FO_init_155 (fun q20 H hP hD hS => ?_)
  have hP : va_P (dC, dI) cls_ [(h0, .inr (4, [.ref q5, .ref q7, .ref q10, .ref q11, .ref q12, .ref q13, .ref q14, .ref q15, .ref q16, .ref q17, .null, .int 0, .int 0, .int 0, .int 0])), (q5, .inl (cA6, 1200, .inl (fun _ => 0))), (q7, .inr (2, [.ref q8, .ref q9, .int 0])), (q8, .inr (0, [.ref q5, .int 0, .int 0, .int 0])), (q10, .inr (0, [.ref q5, .int 0, .int 0, .int 0])), (q11, .inr (0, [.ref q5, .int 0, .int 0, .int 0])), (q12, .inr (0, [.ref q5, .int 0, .int 0, .int 0])), (q13, .inr (0, [.ref q5, .int 0, .int 0, .int 0])), (q14, .inr (0, [.ref q5, .int 0, .int 0, .int 0])), (q15, .inr (0, [.ref q5, .int 0, .int 0, .int 0])), (q18, .inl (cA19, 3, .inr (.inr (.inr (.inr (fun _ => none)))))), (q20, .inr (0, [.null, .int 0, .int 0, .int 0]))] H := hP
  have hD : va_D A [(h0, .inr (4, [.ref q5, .ref q7, .ref q10, .ref q11, .ref q12, .ref q13, .ref q14, .ref q15, .ref q16, .ref q17, .null, .int 0, .int 0, .int 0, .int 0])), (q5, .inl (cA6, 1200, .inl (fun _ => 0))), (q7, .inr (2, [.ref q8, .ref q9, .int 0])), (q8, .inr (0, [.ref q5, .int 0, .int 0, .int 0])), (q10, .inr (0, [.ref q5, .int 0, .int 0, .int 0])), (q11, .inr (0, [.ref q5, .int 0, .int 0, .int 0])), (q12, .inr (0, [.ref q5, .int 0, .int 0, .int 0])), (q13, .inr (0, [.ref q5, .int 0, .int 0, .int 0])), (q14, .inr (0, [.ref q5, .int 0, .int 0, .int 0])), (q15, .inr (0, [.ref q5, .int 0, .int 0, .int 0])), (q18, .inl (cA19, 3, .inr (.inr (.inr (.inr (fun _ => none)))))), (q20, .inr (0, [.null, .int 0, .int 0, .int 0]))] := hD
  refine lv_dup hx hb d_FO_init_158 rfl ?_
  refine lv_aload_n hx hb d_FO_init_159 rfl (lv_at hl 0 rfl) ?_
  refine va_get (D := (dC, dI)) (ci := 4) (v := .ref q5) (C := R_FO) (T := F_FO) (N := 15) hx hb hts in_FO hown hK hP 0 rfl rfl 0 (by decide) (hts _ (List.mem_cons_of_mem _ w_117)) (fun _ h9 => h9) rfl d_FO_init_160 ?_
  have hPc := hP.sub (ws' := [(q20, .inr (0, [.null, .int 0, .int 0, .int 0]))]) [11] rfl
  have hDc := hD.sub (ws' := [(q20, .inr (0, [.null, .int 0, .int 0, .int 0]))]) [11] (by decide) rfl
  have hKc := hK.sub (tys' := []) [] rfl
  have hFc := va_free (wc := [(q20, .inr (0, [.null, .int 0, .int 0, .int 0]))]) hD hS hA [11] rfl
  refine va_callv (va_runI (As := [.ref q5]) (rest := [.ref q20, .int 0, .ref q18, .ref q18, .ref h0]) ⟨hx, hb, hml, hown, hts⟩ (c_SP_init l dC dI q20 q5 H.size) (cwI 1 hts (tw_in w_46) rfl rfl rfl (hts _ (List.mem_cons_of_mem _ w_4)) (hts _ (List.mem_cons_of_mem _ w_80)) (hts _ (List.mem_cons_of_mem _ w_45)) rfl (by decide +kernel) ⟨Nat.le_of_ble_eq_true rfl, Nat.le_of_ble_eq_true rfl⟩) ⟨fun a U g mk q => by obtain ⟨q0, q1, qP, qK, qD⟩ := q; exact ⟨q0, q1, qP, va_K.moved (u := U) (U := U.calling g mk a) (Vm.Alike.refl U.vm) qK, qD⟩, fun U hU hW => ⟨rfl, by rw [hU], by rw [hU]; exact hPc, va_K.moved hW.alike hKc, hDc.weaken (fun _ _ _ _ => trivial)⟩⟩ rfl rfl hl.1 rfl (lv_room (Nat.le_of_ble_eq_true rfl)) d_FO_init_163 ⟨Nat.le_of_ble_eq_true rfl, Nat.le_of_ble_eq_true rfl⟩) hS (fun q _ h => hFc q h) hFc (fun u t H1 locs ht hvm hw hB hz1 hk1 hS => ?_)
  obtain ⟨hP1, hK1, hD1⟩ := hB
  rw [ht] at hP1
  have hK1 := va_K.moved hvm.symm hK1
  obtain ⟨hP, hD⟩ := va_join (wr := [(h0, .inr (4, [.ref q5, .ref q7, .ref q10, .ref q11, .ref q12, .ref q13, .ref q14, .ref q15, .ref q16, .ref q17, .null, .int 0, .int 0, .int 0, .int 0])), (q5, .inl (cA6, 1200, .inl (fun _ => 0))), (q7, .inr (2, [.ref q8, .ref q9, .int 0])), (q8, .inr (0, [.ref q5, .int 0, .int 0, .int 0])), (q10, .inr (0, [.ref q5, .int 0, .int 0, .int 0])), (q11, .inr (0, [.ref q5, .int 0, .int 0, .int 0])), (q12, .inr (0, [.ref q5, .int 0, .int 0, .int 0])), (q13, .inr (0, [.ref q5, .int 0, .int 0, .int 0])), (q14, .inr (0, [.ref q5, .int 0, .int 0, .int 0])), (q15, .inr (0, [.ref q5, .int 0, .int 0, .int 0])), (q18, .inl (cA19, 3, .inr (.inr (.inr (.inr (fun _ => none))))))]) (w1 := [(q20, .inr (0, [.ref q5, .int 0, .int 0, .int 0]))]) hP hD [11] [0, 1, 2, 3, 4, 5, 6, 7, 8, 9, 10] rfl rfl (by decide) (by decide) hk1 hFc hP1 hD1
  have hK := (hK.sub (tys' := [(cA6, .int), (cA19, .object "GlyphLines$Span")]) [0, 1] rfl).app hK1
  generalize H1 = H at hP hS ⊢
  have hP : va_P (dC, dI) cls_ [(h0, .inr (4, [.ref q5, .ref q7, .ref q10, .ref q11, .ref q12, .ref q13, .ref q14, .ref q15, .ref q16, .ref q17, .null, .int 0, .int 0, .int 0, .int 0])), (q5, .inl (cA6, 1200, .inl (fun _ => 0))), (q7, .inr (2, [.ref q8, .ref q9, .int 0])), (q8, .inr (0, [.ref q5, .int 0, .int 0, .int 0])), (q10, .inr (0, [.ref q5, .int 0, .int 0, .int 0])), (q11, .inr (0, [.ref q5, .int 0, .int 0, .int 0])), (q12, .inr (0, [.ref q5, .int 0, .int 0, .int 0])), (q13, .inr (0, [.ref q5, .int 0, .int 0, .int 0])), (q14, .inr (0, [.ref q5, .int 0, .int 0, .int 0])), (q15, .inr (0, [.ref q5, .int 0, .int 0, .int 0])), (q18, .inl (cA19, 3, .inr (.inr (.inr (.inr (fun _ => none)))))), (q20, .inr (0, [.ref q5, .int 0, .int 0, .int 0]))] H := hP
  have hD : va_D A [(h0, .inr (4, [.ref q5, .ref q7, .ref q10, .ref q11, .ref q12, .ref q13, .ref q14, .ref q15, .ref q16, .ref q17, .null, .int 0, .int 0, .int 0, .int 0])), (q5, .inl (cA6, 1200, .inl (fun _ => 0))), (q7, .inr (2, [.ref q8, .ref q9, .int 0])), (q8, .inr (0, [.ref q5, .int 0, .int 0, .int 0])), (q10, .inr (0, [.ref q5, .int 0, .int 0, .int 0])), (q11, .inr (0, [.ref q5, .int 0, .int 0, .int 0])), (q12, .inr (0, [.ref q5, .int 0, .int 0, .int 0])), (q13, .inr (0, [.ref q5, .int 0, .int 0, .int 0])), (q14, .inr (0, [.ref q5, .int 0, .int 0, .int 0])), (q15, .inr (0, [.ref q5, .int 0, .int 0, .int 0])), (q18, .inl (cA19, 3, .inr (.inr (.inr (.inr (fun _ => none)))))), (q20, .inr (0, [.ref q5, .int 0, .int 0, .int 0]))] := hD
  have hK : va_K (dC, dI) cls_ [(cA6, .int), (cA19, .object "GlyphLines$Span")] s := hK
  refine va_astq hx hb hK hP hD hS 10 1 11 0 rfl rfl rfl rfl (pk_in 0 3 (by decide) (by decide +kernel) (by decide)) d_FO_init_166 (fun H locs hP hD hS => ?_)
  have hP : va_P (dC, dI) cls_ [(h0, .inr (4, [.ref q5, .ref q7, .ref q10, .ref q11, .ref q12, .ref q13, .ref q14, .ref q15, .ref q16, .ref q17, .null, .int 0, .int 0, .int 0, .int 0])), (q5, .inl (cA6, 1200, .inl (fun _ => 0))), (q7, .inr (2, [.ref q8, .ref q9, .int 0])), (q8, .inr (0, [.ref q5, .int 0, .int 0, .int 0])), (q10, .inr (0, [.ref q5, .int 0, .int 0, .int 0])), (q11, .inr (0, [.ref q5, .int 0, .int 0, .int 0])), (q12, .inr (0, [.ref q5, .int 0, .int 0, .int 0])), (q13, .inr (0, [.ref q5, .int 0, .int 0, .int 0])), (q14, .inr (0, [.ref q5, .int 0, .int 0, .int 0])), (q15, .inr (0, [.ref q5, .int 0, .int 0, .int 0])), (q18, .inl (cA19, 3, .inr (.inr (.inr (.inr (va_up (fun _ => none) (Int32.toNatClampNeg 0) (some q20))))))), (q20, .inr (0, [.ref q5, .int 0, .int 0, .int 0]))] H := hP
  have hD : va_D A [(h0, .inr (4, [.ref q5, .ref q7, .ref q10, .ref q11, .ref q12, .ref q13, .ref q14, .ref q15, .ref q16, .ref q17, .null, .int 0, .int 0, .int 0, .int 0])), (q5, .inl (cA6, 1200, .inl (fun _ => 0))), (q7, .inr (2, [.ref q8, .ref q9, .int 0])), (q8, .inr (0, [.ref q5, .int 0, .int 0, .int 0])), (q10, .inr (0, [.ref q5, .int 0, .int 0, .int 0])), (q11, .inr (0, [.ref q5, .int 0, .int 0, .int 0])), (q12, .inr (0, [.ref q5, .int 0, .int 0, .int 0])), (q13, .inr (0, [.ref q5, .int 0, .int 0, .int 0])), (q14, .inr (0, [.ref q5, .int 0, .int 0, .int 0])), (q15, .inr (0, [.ref q5, .int 0, .int 0, .int 0])), (q18, .inl (cA19, 3, .inr (.inr (.inr (.inr (va_up (fun _ => none) (Int32.toNatClampNeg 0) (some q20))))))), (q20, .inr (0, [.ref q5, .int 0, .int 0, .int 0]))] := hD
  refine lv_dup hx hb d_FO_init_167 rfl ?_
  refine lv_iconst (v := 1) hx hb d_FO_init_168 (by decide) ?_
  refine va_new (ci := 0) (fs := [.null, .int 0, .int 0, .int 0]) (C := R_SP) (T := F_SP) (N := 4) hx hb hts in_SP t_SP t_SP_ok hown (hts _ (List.mem_cons_of_mem _ w_79)) (hts _ (List.mem_cons_of_mem _ w_43)) (hts _ (List.mem_cons_of_mem _ w_4)) hK hP hD hS hA rfl (fun j hj => by rcases (show j = 0 ∨ j = 1 ∨ j = 2 ∨ j = 3 by omega) with rfl | rfl | rfl | rfl <;> rfl) (Nat.le_of_ble_eq_true rfl) (Nat.le_of_ble_eq_true rfl) d_FO_init_169 (fun q21 H hP hD hS => ?_)
  have hP : va_P (dC, dI) cls_ [(h0, .inr (4, [.ref q5, .ref q7, .ref q10, .ref q11, .ref q12, .ref q13, .ref q14, .ref q15, .ref q16, .ref q17, .null, .int 0, .int 0, .int 0, .int 0])), (q5, .inl (cA6, 1200, .inl (fun _ => 0))), (q7, .inr (2, [.ref q8, .ref q9, .int 0])), (q8, .inr (0, [.ref q5, .int 0, .int 0, .int 0])), (q10, .inr (0, [.ref q5, .int 0, .int 0, .int 0])), (q11, .inr (0, [.ref q5, .int 0, .int 0, .int 0])), (q12, .inr (0, [.ref q5, .int 0, .int 0, .int 0])), (q13, .inr (0, [.ref q5, .int 0, .int 0, .int 0])), (q14, .inr (0, [.ref q5, .int 0, .int 0, .int 0])), (q15, .inr (0, [.ref q5, .int 0, .int 0, .int 0])), (q18, .inl (cA19, 3, .inr (.inr (.inr (.inr (va_up (fun _ => none) (Int32.toNatClampNeg 0) (some q20))))))), (q20, .inr (0, [.ref q5, .int 0, .int 0, .int 0])), (q21, .inr (0, [.null, .int 0, .int 0, .int 0]))] H := hP
  have hD : va_D A [(h0, .inr (4, [.ref q5, .ref q7, .ref q10, .ref q11, .ref q12, .ref q13, .ref q14, .ref q15, .ref q16, .ref q17, .null, .int 0, .int 0, .int 0, .int 0])), (q5, .inl (cA6, 1200, .inl (fun _ => 0))), (q7, .inr (2, [.ref q8, .ref q9, .int 0])), (q8, .inr (0, [.ref q5, .int 0, .int 0, .int 0])), (q10, .inr (0, [.ref q5, .int 0, .int 0, .int 0])), (q11, .inr (0, [.ref q5, .int 0, .int 0, .int 0])), (q12, .inr (0, [.ref q5, .int 0, .int 0, .int 0])), (q13, .inr (0, [.ref q5, .int 0, .int 0, .int 0])), (q14, .inr (0, [.ref q5, .int 0, .int 0, .int 0])), (q15, .inr (0, [.ref q5, .int 0, .int 0, .int 0])), (q18, .inl (cA19, 3, .inr (.inr (.inr (.inr (va_up (fun _ => none) (Int32.toNatClampNeg 0) (some q20))))))), (q20, .inr (0, [.ref q5, .int 0, .int 0, .int 0])), (q21, .inr (0, [.null, .int 0, .int 0, .int 0]))] := hD
  refine lv_dup hx hb d_FO_init_172 rfl ?_
  refine lv_aload_n hx hb d_FO_init_173 rfl (lv_at hl 0 rfl) ?_
  refine va_get (D := (dC, dI)) (ci := 4) (v := .ref q5) (C := R_FO) (T := F_FO) (N := 15) hx hb hts in_FO hown hK hP 0 rfl rfl 0 (by decide) (hts _ (List.mem_cons_of_mem _ w_117)) (fun _ h9 => h9) rfl d_FO_init_174 ?_
  have hPc := hP.sub (ws' := [(q21, .inr (0, [.null, .int 0, .int 0, .int 0]))]) [12] rfl
  have hDc := hD.sub (ws' := [(q21, .inr (0, [.null, .int 0, .int 0, .int 0]))]) [12] (by decide) rfl
  have hKc := hK.sub (tys' := []) [] rfl
  have hFc := va_free (wc := [(q21, .inr (0, [.null, .int 0, .int 0, .int 0]))]) hD hS hA [12] rfl
  refine va_callv (va_runI (As := [.ref q5]) (rest := [.ref q21, .int 1, .ref q18, .ref q18, .ref h0]) ⟨hx, hb, hml, hown, hts⟩ (c_SP_init l dC dI q21 q5 H.size) (cwI 1 hts (tw_in w_46) rfl rfl rfl (hts _ (List.mem_cons_of_mem _ w_4)) (hts _ (List.mem_cons_of_mem _ w_80)) (hts _ (List.mem_cons_of_mem _ w_45)) rfl (by decide +kernel) ⟨Nat.le_of_ble_eq_true rfl, Nat.le_of_ble_eq_true rfl⟩) ⟨fun a U g mk q => by obtain ⟨q0, q1, qP, qK, qD⟩ := q; exact ⟨q0, q1, qP, va_K.moved (u := U) (U := U.calling g mk a) (Vm.Alike.refl U.vm) qK, qD⟩, fun U hU hW => ⟨rfl, by rw [hU], by rw [hU]; exact hPc, va_K.moved hW.alike hKc, hDc.weaken (fun _ _ _ _ => trivial)⟩⟩ rfl rfl hl.1 rfl (lv_room (Nat.le_of_ble_eq_true rfl)) d_FO_init_177 ⟨Nat.le_of_ble_eq_true rfl, Nat.le_of_ble_eq_true rfl⟩) hS (fun q _ h => hFc q h) hFc (fun u t H1 locs ht hvm hw hB hz1 hk1 hS => ?_)
  obtain ⟨hP1, hK1, hD1⟩ := hB
  rw [ht] at hP1
  have hK1 := va_K.moved hvm.symm hK1
  obtain ⟨hP, hD⟩ := va_join (wr := [(h0, .inr (4, [.ref q5, .ref q7, .ref q10, .ref q11, .ref q12, .ref q13, .ref q14, .ref q15, .ref q16, .ref q17, .null, .int 0, .int 0, .int 0, .int 0])), (q5, .inl (cA6, 1200, .inl (fun _ => 0))), (q7, .inr (2, [.ref q8, .ref q9, .int 0])), (q8, .inr (0, [.ref q5, .int 0, .int 0, .int 0])), (q10, .inr (0, [.ref q5, .int 0, .int 0, .int 0])), (q11, .inr (0, [.ref q5, .int 0, .int 0, .int 0])), (q12, .inr (0, [.ref q5, .int 0, .int 0, .int 0])), (q13, .inr (0, [.ref q5, .int 0, .int 0, .int 0])), (q14, .inr (0, [.ref q5, .int 0, .int 0, .int 0])), (q15, .inr (0, [.ref q5, .int 0, .int 0, .int 0])), (q18, .inl (cA19, 3, .inr (.inr (.inr (.inr (va_up (fun _ => none) (Int32.toNatClampNeg 0) (some q20))))))), (q20, .inr (0, [.ref q5, .int 0, .int 0, .int 0]))]) (w1 := [(q21, .inr (0, [.ref q5, .int 0, .int 0, .int 0]))]) hP hD [12] [0, 1, 2, 3, 4, 5, 6, 7, 8, 9, 10, 11] rfl rfl (by decide) (by decide) hk1 hFc hP1 hD1
  have hK := (hK.sub (tys' := [(cA6, .int), (cA19, .object "GlyphLines$Span")]) [0, 1] rfl).app hK1
  generalize H1 = H at hP hS ⊢
  have hP : va_P (dC, dI) cls_ [(h0, .inr (4, [.ref q5, .ref q7, .ref q10, .ref q11, .ref q12, .ref q13, .ref q14, .ref q15, .ref q16, .ref q17, .null, .int 0, .int 0, .int 0, .int 0])), (q5, .inl (cA6, 1200, .inl (fun _ => 0))), (q7, .inr (2, [.ref q8, .ref q9, .int 0])), (q8, .inr (0, [.ref q5, .int 0, .int 0, .int 0])), (q10, .inr (0, [.ref q5, .int 0, .int 0, .int 0])), (q11, .inr (0, [.ref q5, .int 0, .int 0, .int 0])), (q12, .inr (0, [.ref q5, .int 0, .int 0, .int 0])), (q13, .inr (0, [.ref q5, .int 0, .int 0, .int 0])), (q14, .inr (0, [.ref q5, .int 0, .int 0, .int 0])), (q15, .inr (0, [.ref q5, .int 0, .int 0, .int 0])), (q18, .inl (cA19, 3, .inr (.inr (.inr (.inr (va_up (fun _ => none) (Int32.toNatClampNeg 0) (some q20))))))), (q20, .inr (0, [.ref q5, .int 0, .int 0, .int 0])), (q21, .inr (0, [.ref q5, .int 0, .int 0, .int 0]))] H := hP
  have hD : va_D A [(h0, .inr (4, [.ref q5, .ref q7, .ref q10, .ref q11, .ref q12, .ref q13, .ref q14, .ref q15, .ref q16, .ref q17, .null, .int 0, .int 0, .int 0, .int 0])), (q5, .inl (cA6, 1200, .inl (fun _ => 0))), (q7, .inr (2, [.ref q8, .ref q9, .int 0])), (q8, .inr (0, [.ref q5, .int 0, .int 0, .int 0])), (q10, .inr (0, [.ref q5, .int 0, .int 0, .int 0])), (q11, .inr (0, [.ref q5, .int 0, .int 0, .int 0])), (q12, .inr (0, [.ref q5, .int 0, .int 0, .int 0])), (q13, .inr (0, [.ref q5, .int 0, .int 0, .int 0])), (q14, .inr (0, [.ref q5, .int 0, .int 0, .int 0])), (q15, .inr (0, [.ref q5, .int 0, .int 0, .int 0])), (q18, .inl (cA19, 3, .inr (.inr (.inr (.inr (va_up (fun _ => none) (Int32.toNatClampNeg 0) (some q20))))))), (q20, .inr (0, [.ref q5, .int 0, .int 0, .int 0])), (q21, .inr (0, [.ref q5, .int 0, .int 0, .int 0]))] := hD
  have hK : va_K (dC, dI) cls_ [(cA6, .int), (cA19, .object "GlyphLines$Span")] s := hK
  refine va_astq hx hb hK hP hD hS 10 1 12 0 rfl rfl rfl rfl (pk_in 1 3 (by decide) (by decide +kernel) (by decide)) d_FO_init_180 (fun H locs hP hD hS => ?_)
  have hP : va_P (dC, dI) cls_ [(h0, .inr (4, [.ref q5, .ref q7, .ref q10, .ref q11, .ref q12, .ref q13, .ref q14, .ref q15, .ref q16, .ref q17, .null, .int 0, .int 0, .int 0, .int 0])), (q5, .inl (cA6, 1200, .inl (fun _ => 0))), (q7, .inr (2, [.ref q8, .ref q9, .int 0])), (q8, .inr (0, [.ref q5, .int 0, .int 0, .int 0])), (q10, .inr (0, [.ref q5, .int 0, .int 0, .int 0])), (q11, .inr (0, [.ref q5, .int 0, .int 0, .int 0])), (q12, .inr (0, [.ref q5, .int 0, .int 0, .int 0])), (q13, .inr (0, [.ref q5, .int 0, .int 0, .int 0])), (q14, .inr (0, [.ref q5, .int 0, .int 0, .int 0])), (q15, .inr (0, [.ref q5, .int 0, .int 0, .int 0])), (q18, .inl (cA19, 3, .inr (.inr (.inr (.inr (va_up (va_up (fun _ => none) (Int32.toNatClampNeg 0) (some q20)) (Int32.toNatClampNeg 1) (some q21))))))), (q20, .inr (0, [.ref q5, .int 0, .int 0, .int 0])), (q21, .inr (0, [.ref q5, .int 0, .int 0, .int 0]))] H := hP
  have hD : va_D A [(h0, .inr (4, [.ref q5, .ref q7, .ref q10, .ref q11, .ref q12, .ref q13, .ref q14, .ref q15, .ref q16, .ref q17, .null, .int 0, .int 0, .int 0, .int 0])), (q5, .inl (cA6, 1200, .inl (fun _ => 0))), (q7, .inr (2, [.ref q8, .ref q9, .int 0])), (q8, .inr (0, [.ref q5, .int 0, .int 0, .int 0])), (q10, .inr (0, [.ref q5, .int 0, .int 0, .int 0])), (q11, .inr (0, [.ref q5, .int 0, .int 0, .int 0])), (q12, .inr (0, [.ref q5, .int 0, .int 0, .int 0])), (q13, .inr (0, [.ref q5, .int 0, .int 0, .int 0])), (q14, .inr (0, [.ref q5, .int 0, .int 0, .int 0])), (q15, .inr (0, [.ref q5, .int 0, .int 0, .int 0])), (q18, .inl (cA19, 3, .inr (.inr (.inr (.inr (va_up (va_up (fun _ => none) (Int32.toNatClampNeg 0) (some q20)) (Int32.toNatClampNeg 1) (some q21))))))), (q20, .inr (0, [.ref q5, .int 0, .int 0, .int 0])), (q21, .inr (0, [.ref q5, .int 0, .int 0, .int 0]))] := hD
  refine lv_dup hx hb d_FO_init_181 rfl ?_
  refine lv_iconst (v := 2) hx hb d_FO_init_182 (by decide) ?_
  refine va_new (ci := 0) (fs := [.null, .int 0, .int 0, .int 0]) (C := R_SP) (T := F_SP) (N := 4) hx hb hts in_SP t_SP t_SP_ok hown (hts _ (List.mem_cons_of_mem _ w_79)) (hts _ (List.mem_cons_of_mem _ w_43)) (hts _ (List.mem_cons_of_mem _ w_4)) hK hP hD hS hA rfl (fun j hj => by rcases (show j = 0 ∨ j = 1 ∨ j = 2 ∨ j = 3 by omega) with rfl | rfl | rfl | rfl <;> rfl) (Nat.le_of_ble_eq_true rfl) (Nat.le_of_ble_eq_true rfl) d_FO_init_183 (fun q22 H hP hD hS => ?_)
  have hP : va_P (dC, dI) cls_ [(h0, .inr (4, [.ref q5, .ref q7, .ref q10, .ref q11, .ref q12, .ref q13, .ref q14, .ref q15, .ref q16, .ref q17, .null, .int 0, .int 0, .int 0, .int 0])), (q5, .inl (cA6, 1200, .inl (fun _ => 0))), (q7, .inr (2, [.ref q8, .ref q9, .int 0])), (q8, .inr (0, [.ref q5, .int 0, .int 0, .int 0])), (q10, .inr (0, [.ref q5, .int 0, .int 0, .int 0])), (q11, .inr (0, [.ref q5, .int 0, .int 0, .int 0])), (q12, .inr (0, [.ref q5, .int 0, .int 0, .int 0])), (q13, .inr (0, [.ref q5, .int 0, .int 0, .int 0])), (q14, .inr (0, [.ref q5, .int 0, .int 0, .int 0])), (q15, .inr (0, [.ref q5, .int 0, .int 0, .int 0])), (q18, .inl (cA19, 3, .inr (.inr (.inr (.inr (va_up (va_up (fun _ => none) (Int32.toNatClampNeg 0) (some q20)) (Int32.toNatClampNeg 1) (some q21))))))), (q20, .inr (0, [.ref q5, .int 0, .int 0, .int 0])), (q21, .inr (0, [.ref q5, .int 0, .int 0, .int 0])), (q22, .inr (0, [.null, .int 0, .int 0, .int 0]))] H := hP
  have hD : va_D A [(h0, .inr (4, [.ref q5, .ref q7, .ref q10, .ref q11, .ref q12, .ref q13, .ref q14, .ref q15, .ref q16, .ref q17, .null, .int 0, .int 0, .int 0, .int 0])), (q5, .inl (cA6, 1200, .inl (fun _ => 0))), (q7, .inr (2, [.ref q8, .ref q9, .int 0])), (q8, .inr (0, [.ref q5, .int 0, .int 0, .int 0])), (q10, .inr (0, [.ref q5, .int 0, .int 0, .int 0])), (q11, .inr (0, [.ref q5, .int 0, .int 0, .int 0])), (q12, .inr (0, [.ref q5, .int 0, .int 0, .int 0])), (q13, .inr (0, [.ref q5, .int 0, .int 0, .int 0])), (q14, .inr (0, [.ref q5, .int 0, .int 0, .int 0])), (q15, .inr (0, [.ref q5, .int 0, .int 0, .int 0])), (q18, .inl (cA19, 3, .inr (.inr (.inr (.inr (va_up (va_up (fun _ => none) (Int32.toNatClampNeg 0) (some q20)) (Int32.toNatClampNeg 1) (some q21))))))), (q20, .inr (0, [.ref q5, .int 0, .int 0, .int 0])), (q21, .inr (0, [.ref q5, .int 0, .int 0, .int 0])), (q22, .inr (0, [.null, .int 0, .int 0, .int 0]))] := hD
  refine lv_dup hx hb d_FO_init_186 rfl ?_
  refine lv_aload_n hx hb d_FO_init_187 rfl (lv_at hl 0 rfl) ?_
  refine va_get (D := (dC, dI)) (ci := 4) (v := .ref q5) (C := R_FO) (T := F_FO) (N := 15) hx hb hts in_FO hown hK hP 0 rfl rfl 0 (by decide) (hts _ (List.mem_cons_of_mem _ w_117)) (fun _ h9 => h9) rfl d_FO_init_188 ?_
  have hPc := hP.sub (ws' := [(q22, .inr (0, [.null, .int 0, .int 0, .int 0]))]) [13] rfl
  have hDc := hD.sub (ws' := [(q22, .inr (0, [.null, .int 0, .int 0, .int 0]))]) [13] (by decide) rfl
  have hKc := hK.sub (tys' := []) [] rfl
  have hFc := va_free (wc := [(q22, .inr (0, [.null, .int 0, .int 0, .int 0]))]) hD hS hA [13] rfl
  refine va_callv (va_runI (As := [.ref q5]) (rest := [.ref q22, .int 2, .ref q18, .ref q18, .ref h0]) ⟨hx, hb, hml, hown, hts⟩ (c_SP_init l dC dI q22 q5 H.size) (cwI 1 hts (tw_in w_46) rfl rfl rfl (hts _ (List.mem_cons_of_mem _ w_4)) (hts _ (List.mem_cons_of_mem _ w_80)) (hts _ (List.mem_cons_of_mem _ w_45)) rfl (by decide +kernel) ⟨Nat.le_of_ble_eq_true rfl, Nat.le_of_ble_eq_true rfl⟩) ⟨fun a U g mk q => by obtain ⟨q0, q1, qP, qK, qD⟩ := q; exact ⟨q0, q1, qP, va_K.moved (u := U) (U := U.calling g mk a) (Vm.Alike.refl U.vm) qK, qD⟩, fun U hU hW => ⟨rfl, by rw [hU], by rw [hU]; exact hPc, va_K.moved hW.alike hKc, hDc.weaken (fun _ _ _ _ => trivial)⟩⟩ rfl rfl hl.1 rfl (lv_room (Nat.le_of_ble_eq_true rfl)) d_FO_init_191 ⟨Nat.le_of_ble_eq_true rfl, Nat.le_of_ble_eq_true rfl⟩) hS (fun q _ h => hFc q h) hFc (fun u t H1 locs ht hvm hw hB hz1 hk1 hS => ?_)
  obtain ⟨hP1, hK1, hD1⟩ := hB
  rw [ht] at hP1
  have hK1 := va_K.moved hvm.symm hK1
  obtain ⟨hP, hD⟩ := va_join (wr := [(h0, .inr (4, [.ref q5, .ref q7, .ref q10, .ref q11, .ref q12, .ref q13, .ref q14, .ref q15, .ref q16, .ref q17, .null, .int 0, .int 0, .int 0, .int 0])), (q5, .inl (cA6, 1200, .inl (fun _ => 0))), (q7, .inr (2, [.ref q8, .ref q9, .int 0])), (q8, .inr (0, [.ref q5, .int 0, .int 0, .int 0])), (q10, .inr (0, [.ref q5, .int 0, .int 0, .int 0])), (q11, .inr (0, [.ref q5, .int 0, .int 0, .int 0])), (q12, .inr (0, [.ref q5, .int 0, .int 0, .int 0])), (q13, .inr (0, [.ref q5, .int 0, .int 0, .int 0])), (q14, .inr (0, [.ref q5, .int 0, .int 0, .int 0])), (q15, .inr (0, [.ref q5, .int 0, .int 0, .int 0])), (q18, .inl (cA19, 3, .inr (.inr (.inr (.inr (va_up (va_up (fun _ => none) (Int32.toNatClampNeg 0) (some q20)) (Int32.toNatClampNeg 1) (some q21))))))), (q20, .inr (0, [.ref q5, .int 0, .int 0, .int 0])), (q21, .inr (0, [.ref q5, .int 0, .int 0, .int 0]))]) (w1 := [(q22, .inr (0, [.ref q5, .int 0, .int 0, .int 0]))]) hP hD [13] [0, 1, 2, 3, 4, 5, 6, 7, 8, 9, 10, 11, 12] rfl rfl (by decide) (by decide) hk1 hFc hP1 hD1
  have hK := (hK.sub (tys' := [(cA6, .int), (cA19, .object "GlyphLines$Span")]) [0, 1] rfl).app hK1
  generalize H1 = H at hP hS ⊢
  have hP : va_P (dC, dI) cls_ [(h0, .inr (4, [.ref q5, .ref q7, .ref q10, .ref q11, .ref q12, .ref q13, .ref q14, .ref q15, .ref q16, .ref q17, .null, .int 0, .int 0, .int 0, .int 0])), (q5, .inl (cA6, 1200, .inl (fun _ => 0))), (q7, .inr (2, [.ref q8, .ref q9, .int 0])), (q8, .inr (0, [.ref q5, .int 0, .int 0, .int 0])), (q10, .inr (0, [.ref q5, .int 0, .int 0, .int 0])), (q11, .inr (0, [.ref q5, .int 0, .int 0, .int 0])), (q12, .inr (0, [.ref q5, .int 0, .int 0, .int 0])), (q13, .inr (0, [.ref q5, .int 0, .int 0, .int 0])), (q14, .inr (0, [.ref q5, .int 0, .int 0, .int 0])), (q15, .inr (0, [.ref q5, .int 0, .int 0, .int 0])), (q18, .inl (cA19, 3, .inr (.inr (.inr (.inr (va_up (va_up (fun _ => none) (Int32.toNatClampNeg 0) (some q20)) (Int32.toNatClampNeg 1) (some q21))))))), (q20, .inr (0, [.ref q5, .int 0, .int 0, .int 0])), (q21, .inr (0, [.ref q5, .int 0, .int 0, .int 0])), (q22, .inr (0, [.ref q5, .int 0, .int 0, .int 0]))] H := hP
  have hD : va_D A [(h0, .inr (4, [.ref q5, .ref q7, .ref q10, .ref q11, .ref q12, .ref q13, .ref q14, .ref q15, .ref q16, .ref q17, .null, .int 0, .int 0, .int 0, .int 0])), (q5, .inl (cA6, 1200, .inl (fun _ => 0))), (q7, .inr (2, [.ref q8, .ref q9, .int 0])), (q8, .inr (0, [.ref q5, .int 0, .int 0, .int 0])), (q10, .inr (0, [.ref q5, .int 0, .int 0, .int 0])), (q11, .inr (0, [.ref q5, .int 0, .int 0, .int 0])), (q12, .inr (0, [.ref q5, .int 0, .int 0, .int 0])), (q13, .inr (0, [.ref q5, .int 0, .int 0, .int 0])), (q14, .inr (0, [.ref q5, .int 0, .int 0, .int 0])), (q15, .inr (0, [.ref q5, .int 0, .int 0, .int 0])), (q18, .inl (cA19, 3, .inr (.inr (.inr (.inr (va_up (va_up (fun _ => none) (Int32.toNatClampNeg 0) (some q20)) (Int32.toNatClampNeg 1) (some q21))))))), (q20, .inr (0, [.ref q5, .int 0, .int 0, .int 0])), (q21, .inr (0, [.ref q5, .int 0, .int 0, .int 0])), (q22, .inr (0, [.ref q5, .int 0, .int 0, .int 0]))] := hD
  have hK : va_K (dC, dI) cls_ [(cA6, .int), (cA19, .object "GlyphLines$Span")] s := hK
  refine va_astq hx hb hK hP hD hS 10 1 13 0 rfl rfl rfl rfl (pk_in 2 3 (by decide) (by decide +kernel) (by decide)) d_FO_init_194 (fun H locs hP hD hS => ?_)
  have hP : va_P (dC, dI) cls_ [(h0, .inr (4, [.ref q5, .ref q7, .ref q10, .ref q11, .ref q12, .ref q13, .ref q14, .ref q15, .ref q16, .ref q17, .null, .int 0, .int 0, .int 0, .int 0])), (q5, .inl (cA6, 1200, .inl (fun _ => 0))), (q7, .inr (2, [.ref q8, .ref q9, .int 0])), (q8, .inr (0, [.ref q5, .int 0, .int 0, .int 0])), (q10, .inr (0, [.ref q5, .int 0, .int 0, .int 0])), (q11, .inr (0, [.ref q5, .int 0, .int 0, .int 0])), (q12, .inr (0, [.ref q5, .int 0, .int 0, .int 0])), (q13, .inr (0, [.ref q5, .int 0, .int 0, .int 0])), (q14, .inr (0, [.ref q5, .int 0, .int 0, .int 0])), (q15, .inr (0, [.ref q5, .int 0, .int 0, .int 0])), (q18, .inl (cA19, 3, .inr (.inr (.inr (.inr (va_up (va_up (va_up (fun _ => none) (Int32.toNatClampNeg 0) (some q20)) (Int32.toNatClampNeg 1) (some q21)) (Int32.toNatClampNeg 2) (some q22))))))), (q20, .inr (0, [.ref q5, .int 0, .int 0, .int 0])), (q21, .inr (0, [.ref q5, .int 0, .int 0, .int 0])), (q22, .inr (0, [.ref q5, .int 0, .int 0, .int 0]))] H := hP
  have hD : va_D A [(h0, .inr (4, [.ref q5, .ref q7, .ref q10, .ref q11, .ref q12, .ref q13, .ref q14, .ref q15, .ref q16, .ref q17, .null, .int 0, .int 0, .int 0, .int 0])), (q5, .inl (cA6, 1200, .inl (fun _ => 0))), (q7, .inr (2, [.ref q8, .ref q9, .int 0])), (q8, .inr (0, [.ref q5, .int 0, .int 0, .int 0])), (q10, .inr (0, [.ref q5, .int 0, .int 0, .int 0])), (q11, .inr (0, [.ref q5, .int 0, .int 0, .int 0])), (q12, .inr (0, [.ref q5, .int 0, .int 0, .int 0])), (q13, .inr (0, [.ref q5, .int 0, .int 0, .int 0])), (q14, .inr (0, [.ref q5, .int 0, .int 0, .int 0])), (q15, .inr (0, [.ref q5, .int 0, .int 0, .int 0])), (q18, .inl (cA19, 3, .inr (.inr (.inr (.inr (va_up (va_up (va_up (fun _ => none) (Int32.toNatClampNeg 0) (some q20)) (Int32.toNatClampNeg 1) (some q21)) (Int32.toNatClampNeg 2) (some q22))))))), (q20, .inr (0, [.ref q5, .int 0, .int 0, .int 0])), (q21, .inr (0, [.ref q5, .int 0, .int 0, .int 0])), (q22, .inr (0, [.ref q5, .int 0, .int 0, .int 0]))] := hD
  refine va_putF (D := (dC, dI)) (ci := 4) (v := .ref q18) (ty := .array (.object "GlyphLines$Span")) (C := R_FO) (T := F_FO) (N := 15) hx hb hts in_FO t_FO t_FO_ok n_FO hown hK hP hD hS 0 rfl rfl 10 (by decide) (hts _ (List.mem_cons_of_mem _ w_127)) (fun _ h9 => h9) rfl hin rfl (by decide +kernel) rfl rfl (Nat.le_of_ble_eq_true rfl) d_FO_init_195 (fun H locs hP hD hS => ?_)
  have hP : va_P (dC, dI) cls_ [(h0, .inr (4, [.ref q5, .ref q7, .ref q10, .ref q11, .ref q12, .ref q13, .ref q14, .ref q15, .ref q16, .ref q17, .ref q18, .int 0, .int 0, .int 0, .int 0])), (q5, .inl (cA6, 1200, .inl (fun _ => 0))), (q7, .inr (2, [.ref q8, .ref q9, .int 0])), (q8, .inr (0, [.ref q5, .int 0, .int 0, .int 0])), (q10, .inr (0, [.ref q5, .int 0, .int 0, .int 0])), (q11, .inr (0, [.ref q5, .int 0, .int 0, .int 0])), (q12, .inr (0, [.ref q5, .int 0, .int 0, .int 0])), (q13, .inr (0, [.ref q5, .int 0, .int 0, .int 0])), (q14, .inr (0, [.ref q5, .int 0, .int 0, .int 0])), (q15, .inr (0, [.ref q5, .int 0, .int 0, .int 0])), (q18, .inl (cA19, 3, .inr (.inr (.inr (.inr (va_up (va_up (va_up (fun _ => none) (Int32.toNatClampNeg 0) (some q20)) (Int32.toNatClampNeg 1) (some q21)) (Int32.toNatClampNeg 2) (some q22))))))), (q20, .inr (0, [.ref q5, .int 0, .int 0, .int 0])), (q21, .inr (0, [.ref q5, .int 0, .int 0, .int 0])), (q22, .inr (0, [.ref q5, .int 0, .int 0, .int 0]))] H := hP
  have hD : va_D A [(h0, .inr (4, [.ref q5, .ref q7, .ref q10, .ref q11, .ref q12, .ref q13, .ref q14, .ref q15, .ref q16, .ref q17, .ref q18, .int 0, .int 0, .int 0, .int 0])), (q5, .inl (cA6, 1200, .inl (fun _ => 0))), (q7, .inr (2, [.ref q8, .ref q9, .int 0])), (q8, .inr (0, [.ref q5, .int 0, .int 0, .int 0])), (q10, .inr (0, [.ref q5, .int 0, .int 0, .int 0])), (q11, .inr (0, [.ref q5, .int 0, .int 0, .int 0])), (q12, .inr (0, [.ref q5, .int 0, .int 0, .int 0])), (q13, .inr (0, [.ref q5, .int 0, .int 0, .int 0])), (q14, .inr (0, [.ref q5, .int 0, .int 0, .int 0])), (q15, .inr (0, [.ref q5, .int 0, .int 0, .int 0])), (q18, .inl (cA19, 3, .inr (.inr (.inr (.inr (va_up (va_up (va_up (fun _ => none) (Int32.toNatClampNeg 0) (some q20)) (Int32.toNatClampNeg 1) (some q21)) (Int32.toNatClampNeg 2) (some q22))))))), (q20, .inr (0, [.ref q5, .int 0, .int 0, .int 0])), (q21, .inr (0, [.ref q5, .int 0, .int 0, .int 0])), (q22, .inr (0, [.ref q5, .int 0, .int 0, .int 0]))] := hD
  refine lv_aload_n hx hb d_FO_init_198 rfl (lv_at hl 0 rfl) ?_
  refine lv_bipush (v := 64) hx hb d_FO_init_199 (by decide) ?_
  refine va_put (D := (dC, dI)) (ci := 4) (v := .int 64) (ty := .int) (C := R_FO) (T := F_FO) (N := 15) hx hb hts in_FO t_FO t_FO_ok n_FO hown hK hP hD hS 0 rfl rfl 11 (by decide) (hts _ (List.mem_cons_of_mem _ w_128)) (fun _ h9 => h9) rfl  (by decide +kernel) rfl rfl (Nat.le_of_ble_eq_true rfl) d_FO_init_201 (fun H locs hP hD hS => ?_)
  have hP : va_P (dC, dI) cls_ [(h0, .inr (4, [.ref q5, .ref q7, .ref q10, .ref q11, .ref q12, .ref q13, .ref q14, .ref q15, .ref q16, .ref q17, .ref q18, .int 64, .int 0, .int 0, .int 0])), (q5, .inl (cA6, 1200, .inl (fun _ => 0))), (q7, .inr (2, [.ref q8, .ref q9, .int 0])), (q8, .inr (0, [.ref q5, .int 0, .int 0, .int 0])), (q10, .inr (0, [.ref q5, .int 0, .int 0, .int 0])), (q11, .inr (0, [.ref q5, .int 0, .int 0, .int 0])), (q12, .inr (0, [.ref q5, .int 0, .int 0, .int 0])), (q13, .inr (0, [.ref q5, .int 0, .int 0, .int 0])), (q14, .inr (0, [.ref q5, .int 0, .int 0, .int 0])), (q15, .inr (0, [.ref q5, .int 0, .int 0, .int 0])), (q18, .inl (cA19, 3, .inr (.inr (.inr (.inr (va_up (va_up (va_up (fun _ => none) (Int32.toNatClampNeg 0) (some q20)) (Int32.toNatClampNeg 1) (some q21)) (Int32.toNatClampNeg 2) (some q22))))))), (q20, .inr (0, [.ref q5, .int 0, .int 0, .int 0])), (q21, .inr (0, [.ref q5, .int 0, .int 0, .int 0])), (q22, .inr (0, [.ref q5, .int 0, .int 0, .int 0]))] H := hP
  have hD : va_D A [(h0, .inr (4, [.ref q5, .ref q7, .ref q10, .ref q11, .ref q12, .ref q13, .ref q14, .ref q15, .ref q16, .ref q17, .ref q18, .int 64, .int 0, .int 0, .int 0])), (q5, .inl (cA6, 1200, .inl (fun _ => 0))), (q7, .inr (2, [.ref q8, .ref q9, .int 0])), (q8, .inr (0, [.ref q5, .int 0, .int 0, .int 0])), (q10, .inr (0, [.ref q5, .int 0, .int 0, .int 0])), (q11, .inr (0, [.ref q5, .int 0, .int 0, .int 0])), (q12, .inr (0, [.ref q5, .int 0, .int 0, .int 0])), (q13, .inr (0, [.ref q5, .int 0, .int 0, .int 0])), (q14, .inr (0, [.ref q5, .int 0, .int 0, .int 0])), (q15, .inr (0, [.ref q5, .int 0, .int 0, .int 0])), (q18, .inl (cA19, 3, .inr (.inr (.inr (.inr (va_up (va_up (va_up (fun _ => none) (Int32.toNatClampNeg 0) (some q20)) (Int32.toNatClampNeg 1) (some q21)) (Int32.toNatClampNeg 2) (some q22))))))), (q20, .inr (0, [.ref q5, .int 0, .int 0, .int 0])), (q21, .inr (0, [.ref q5, .int 0, .int 0, .int 0])), (q22, .inr (0, [.ref q5, .int 0, .int 0, .int 0]))] := hD
  refine lv_aload_n hx hb d_FO_init_204 rfl (lv_at hl 0 rfl) ?_
  refine lv_iconst (v := 0) hx hb d_FO_init_205 (by decide) ?_
  refine va_put (D := (dC, dI)) (ci := 4) (v := .int 0) (ty := .int) (C := R_FO) (T := F_FO) (N := 15) hx hb hts in_FO t_FO t_FO_ok n_FO hown hK hP hD hS 0 rfl rfl 12 (by decide) (hts _ (List.mem_cons_of_mem _ w_130)) (fun _ h9 => h9) rfl  (by decide +kernel) rfl rfl (Nat.le_of_ble_eq_true rfl) d_FO_init_206 (fun H locs hP hD hS => ?_)
  have hP : va_P (dC, dI) cls_ [(h0, .inr (4, [.ref q5, .ref q7, .ref q10, .ref q11, .ref q12, .ref q13, .ref q14, .ref q15, .ref q16, .ref q17, .ref q18, .int 64, .int 0, .int 0, .int 0])), (q5, .inl (cA6, 1200, .inl (fun _ => 0))), (q7, .inr (2, [.ref q8, .ref q9, .int 0])), (q8, .inr (0, [.ref q5, .int 0, .int 0, .int 0])), (q10, .inr (0, [.ref q5, .int 0, .int 0, .int 0])), (q11, .inr (0, [.ref q5, .int 0, .int 0, .int 0])), (q12, .inr (0, [.ref q5, .int 0, .int 0, .int 0])), (q13, .inr (0, [.ref q5, .int 0, .int 0, .int 0])), (q14, .inr (0, [.ref q5, .int 0, .int 0, .int 0])), (q15, .inr (0, [.ref q5, .int 0, .int 0, .int 0])), (q18, .inl (cA19, 3, .inr (.inr (.inr (.inr (va_up (va_up (va_up (fun _ => none) (Int32.toNatClampNeg 0) (some q20)) (Int32.toNatClampNeg 1) (some q21)) (Int32.toNatClampNeg 2) (some q22))))))), (q20, .inr (0, [.ref q5, .int 0, .int 0, .int 0])), (q21, .inr (0, [.ref q5, .int 0, .int 0, .int 0])), (q22, .inr (0, [.ref q5, .int 0, .int 0, .int 0]))] H := hP
  have hD : va_D A [(h0, .inr (4, [.ref q5, .ref q7, .ref q10, .ref q11, .ref q12, .ref q13, .ref q14, .ref q15, .ref q16, .ref q17, .ref q18, .int 64, .int 0, .int 0, .int 0])), (q5, .inl (cA6, 1200, .inl (fun _ => 0))), (q7, .inr (2, [.ref q8, .ref q9, .int 0])), (q8, .inr (0, [.ref q5, .int 0, .int 0, .int 0])), (q10, .inr (0, [.ref q5, .int 0, .int 0, .int 0])), (q11, .inr (0, [.ref q5, .int 0, .int 0, .int 0])), (q12, .inr (0, [.ref q5, .int 0, .int 0, .int 0])), (q13, .inr (0, [.ref q5, .int 0, .int 0, .int 0])), (q14, .inr (0, [.ref q5, .int 0, .int 0, .int 0])), (q15, .inr (0, [.ref q5, .int 0, .int 0, .int 0])), (q18, .inl (cA19, 3, .inr (.inr (.inr (.inr (va_up (va_up (va_up (fun _ => none) (Int32.toNatClampNeg 0) (some q20)) (Int32.toNatClampNeg 1) (some q21)) (Int32.toNatClampNeg 2) (some q22))))))), (q20, .inr (0, [.ref q5, .int 0, .int 0, .int 0])), (q21, .inr (0, [.ref q5, .int 0, .int 0, .int 0])), (q22, .inr (0, [.ref q5, .int 0, .int 0, .int 0]))] := hD
  refine lv_aload_n hx hb d_FO_init_209 rfl (lv_at hl 0 rfl) ?_
  refine lv_iconst (v := 0) hx hb d_FO_init_210 (by decide) ?_
  refine va_put (D := (dC, dI)) (ci := 4) (v := .int 0) (ty := .int) (C := R_FO) (T := F_FO) (N := 15) hx hb hts in_FO t_FO t_FO_ok n_FO hown hK hP hD hS 0 rfl rfl 13 (by decide) (hts _ (List.mem_cons_of_mem _ w_133)) (fun _ h9 => h9) rfl  (by decide +kernel) rfl rfl (Nat.le_of_ble_eq_true rfl) d_FO_init_211 (fun H locs hP hD hS => ?_)
  have hP : va_P (dC, dI) cls_ [(h0, .inr (4, [.ref q5, .ref q7, .ref q10, .ref q11, .ref q12, .ref q13, .ref q14, .ref q15, .ref q16, .ref q17, .ref q18, .int 64, .int 0, .int 0, .int 0])), (q5, .inl (cA6, 1200, .inl (fun _ => 0))), (q7, .inr (2, [.ref q8, .ref q9, .int 0])), (q8, .inr (0, [.ref q5, .int 0, .int 0, .int 0])), (q10, .inr (0, [.ref q5, .int 0, .int 0, .int 0])), (q11, .inr (0, [.ref q5, .int 0, .int 0, .int 0])), (q12, .inr (0, [.ref q5, .int 0, .int 0, .int 0])), (q13, .inr (0, [.ref q5, .int 0, .int 0, .int 0])), (q14, .inr (0, [.ref q5, .int 0, .int 0, .int 0])), (q15, .inr (0, [.ref q5, .int 0, .int 0, .int 0])), (q18, .inl (cA19, 3, .inr (.inr (.inr (.inr (va_up (va_up (va_up (fun _ => none) (Int32.toNatClampNeg 0) (some q20)) (Int32.toNatClampNeg 1) (some q21)) (Int32.toNatClampNeg 2) (some q22))))))), (q20, .inr (0, [.ref q5, .int 0, .int 0, .int 0])), (q21, .inr (0, [.ref q5, .int 0, .int 0, .int 0])), (q22, .inr (0, [.ref q5, .int 0, .int 0, .int 0]))] H := hP
  have hD : va_D A [(h0, .inr (4, [.ref q5, .ref q7, .ref q10, .ref q11, .ref q12, .ref q13, .ref q14, .ref q15, .ref q16, .ref q17, .ref q18, .int 64, .int 0, .int 0, .int 0])), (q5, .inl (cA6, 1200, .inl (fun _ => 0))), (q7, .inr (2, [.ref q8, .ref q9, .int 0])), (q8, .inr (0, [.ref q5, .int 0, .int 0, .int 0])), (q10, .inr (0, [.ref q5, .int 0, .int 0, .int 0])), (q11, .inr (0, [.ref q5, .int 0, .int 0, .int 0])), (q12, .inr (0, [.ref q5, .int 0, .int 0, .int 0])), (q13, .inr (0, [.ref q5, .int 0, .int 0, .int 0])), (q14, .inr (0, [.ref q5, .int 0, .int 0, .int 0])), (q15, .inr (0, [.ref q5, .int 0, .int 0, .int 0])), (q18, .inl (cA19, 3, .inr (.inr (.inr (.inr (va_up (va_up (va_up (fun _ => none) (Int32.toNatClampNeg 0) (some q20)) (Int32.toNatClampNeg 1) (some q21)) (Int32.toNatClampNeg 2) (some q22))))))), (q20, .inr (0, [.ref q5, .int 0, .int 0, .int 0])), (q21, .inr (0, [.ref q5, .int 0, .int 0, .int 0])), (q22, .inr (0, [.ref q5, .int 0, .int 0, .int 0]))] := hD
  refine lv_aload_n hx hb d_FO_init_214 rfl (lv_at hl 0 rfl) ?_
  refine lv_iconst (v := 0) hx hb d_FO_init_215 (by decide) ?_
  refine va_put (D := (dC, dI)) (ci := 4) (v := .int 0) (ty := .boolean) (C := R_FO) (T := F_FO) (N := 15) hx hb hts in_FO t_FO t_FO_ok n_FO hown hK hP hD hS 0 rfl rfl 14 (by decide) (hts _ (List.mem_cons_of_mem _ w_134)) (fun _ h9 => h9) rfl  (by decide +kernel) rfl rfl (Nat.le_of_ble_eq_true rfl) d_FO_init_216 (fun H locs hP hD hS => ?_)
  have hP : va_P (dC, dI) cls_ [(h0, .inr (4, [.ref q5, .ref q7, .ref q10, .ref q11, .ref q12, .ref q13, .ref q14, .ref q15, .ref q16, .ref q17, .ref q18, .int 64, .int 0, .int 0, .int 0])), (q5, .inl (cA6, 1200, .inl (fun _ => 0))), (q7, .inr (2, [.ref q8, .ref q9, .int 0])), (q8, .inr (0, [.ref q5, .int 0, .int 0, .int 0])), (q10, .inr (0, [.ref q5, .int 0, .int 0, .int 0])), (q11, .inr (0, [.ref q5, .int 0, .int 0, .int 0])), (q12, .inr (0, [.ref q5, .int 0, .int 0, .int 0])), (q13, .inr (0, [.ref q5, .int 0, .int 0, .int 0])), (q14, .inr (0, [.ref q5, .int 0, .int 0, .int 0])), (q15, .inr (0, [.ref q5, .int 0, .int 0, .int 0])), (q18, .inl (cA19, 3, .inr (.inr (.inr (.inr (va_up (va_up (va_up (fun _ => none) (Int32.toNatClampNeg 0) (some q20)) (Int32.toNatClampNeg 1) (some q21)) (Int32.toNatClampNeg 2) (some q22))))))), (q20, .inr (0, [.ref q5, .int 0, .int 0, .int 0])), (q21, .inr (0, [.ref q5, .int 0, .int 0, .int 0])), (q22, .inr (0, [.ref q5, .int 0, .int 0, .int 0]))] H := hP
  have hD : va_D A [(h0, .inr (4, [.ref q5, .ref q7, .ref q10, .ref q11, .ref q12, .ref q13, .ref q14, .ref q15, .ref q16, .ref q17, .ref q18, .int 64, .int 0, .int 0, .int 0])), (q5, .inl (cA6, 1200, .inl (fun _ => 0))), (q7, .inr (2, [.ref q8, .ref q9, .int 0])), (q8, .inr (0, [.ref q5, .int 0, .int 0, .int 0])), (q10, .inr (0, [.ref q5, .int 0, .int 0, .int 0])), (q11, .inr (0, [.ref q5, .int 0, .int 0, .int 0])), (q12, .inr (0, [.ref q5, .int 0, .int 0, .int 0])), (q13, .inr (0, [.ref q5, .int 0, .int 0, .int 0])), (q14, .inr (0, [.ref q5, .int 0, .int 0, .int 0])), (q15, .inr (0, [.ref q5, .int 0, .int 0, .int 0])), (q18, .inl (cA19, 3, .inr (.inr (.inr (.inr (va_up (va_up (va_up (fun _ => none) (Int32.toNatClampNeg 0) (some q20)) (Int32.toNatClampNeg 1) (some q21)) (Int32.toNatClampNeg 2) (some q22))))))), (q20, .inr (0, [.ref q5, .int 0, .int 0, .int 0])), (q21, .inr (0, [.ref q5, .int 0, .int 0, .int 0])), (q22, .inr (0, [.ref q5, .int 0, .int 0, .int 0]))] := hD
  refine W.widen (k := 18) (n := 1263) (Nat.le_of_ble_eq_true rfl) (Nat.le_of_ble_eq_true rfl) ?_
  have hP9 := hP.sub (ws' := [(h0, .inr (4, [.ref q5, .ref q7, .ref q10, .ref q11, .ref q12, .ref q13, .ref q14, .ref q15, .ref q16, .ref q17, .ref q18, .int 64, .int 0, .int 0, .int 0])), (q5, .inl (cA6, 1200, .inl (fun _ => 0))), (q7, .inr (2, [.ref q8, .ref q9, .int 0])), (q8, .inr (0, [.ref q5, .int 0, .int 0, .int 0]))]) [0, 1, 2, 3] rfl
  have hD9 := hD.sub (ws' := [(h0, .inr (4, [.ref q5, .ref q7, .ref q10, .ref q11, .ref q12, .ref q13, .ref q14, .ref q15, .ref q16, .ref q17, .ref q18, .int 64, .int 0, .int 0, .int 0])), (q5, .inl (cA6, 1200, .inl (fun _ => 0))), (q7, .inr (2, [.ref q8, .ref q9, .int 0])), (q8, .inr (0, [.ref q5, .int 0, .int 0, .int 0]))]) [0, 1, 2, 3] (by decide) rfl
  have hK9 := hK.sub (tys' := [(cA6, .int)]) [0] rfl
  exact W.vret hx hb hr (fun t ht hW => ⟨⟨(), rfl, trivial, q5, q7, q10, q11, q12, q13, q14, q15, q16, q17, q18, q8, q9, cA6, by rw [ht]; exact hP9, va_K.moved hW.alike hK9, hD9⟩, hS.F ht⟩) hS.2.2 d_FO_init_219
set_option maxHeartbeats 4000000 in
set_option maxRecDepth 100000 in
/-- GlyphLines$Move.<init> -/
theorem c_MO_init (l : Launch) (dC : Nat → ClassId) (dI : Nat → Nat → Nat) (h0 : Nat) (sz : Nat) : Met l y_MO_init s_MO_init ({ frames := 8, cells := 0, slots := 0, locals := 200 }) (va_Pc [.ref h0] (fun U => U.heap.size = sz ∧ va_P (dC, dI) cls_ [(h0, .inr (5, [.int 0, .int 0, .int 0, .int 0, .int 0, .int 0]))] U.heap ∧ va_K (dC, dI) cls_ [] U ∧ va_D (fun _ => True) [(h0, .inr (5, [.int 0, .int 0, .int 0, .int 0, .int 0, .int 0]))])) (va_Qv (fun _ : Unit => True) (fun (_ : Unit) (t : State) => True) (va_A [(h0, .inr (5, [.int 0, .int 0, .int 0, .int 0, .int 0, .int 0]))] sz)) 0 0 (va_A [(h0, .inr (5, [.int 0, .int 0, .int 0, .int 0, .int 0, .int 0]))] sz) := by
  refine Met.ofW (cc := b_MO_init) (maxL := 1) (ret := none) (by decide) rfl ?_
  intro p e s m args below meth c s₁ B hml hv
  obtain ⟨rfl, hsz, hP, hK, hD0⟩ := hv
  have hx := B.exec
  have hb := B.bytes
  have hr := B.returns
  have hts := atoms_spec (ws := s_MO_init) B.pre
  have hown : s.vm.findClass R_MO = some m.cls := findClass_of_methodNamed B.named
  have hlocks := B.notSynchronized
  have hin : meth.name = "<init>" := (name_of_methodNamed B.named B.method).1
  subst hsz
  have hD := hD0.self (sz := s.heap.size)
  generalize hAe : va_A [(h0, .inr (5, [.int 0, .int 0, .int 0, .int 0, .int 0, .int 0]))] s.heap.size = A at hD ⊢
  have hA : ∀ q : Nat, s.heap.size ≤ q → A q := fun q h => by rw [← hAe]; exact Or.inr h
  have hS : va_S A s.heap s.heap [] := va_S.rf
  have hP : va_P (dC, dI) cls_ [(h0, .inr (5, [.int 0, .int 0, .int 0, .int 0, .int 0, .int 0]))] s.heap := hP
  have hl := lv_entry ([.ref h0]) (n := 1) (Nat.le_of_ble_eq_true rfl)
  rw [lg_entry_eq]
  generalize (lg_sl ([.ref h0]) ++ List.replicate (1 - (lg_sl ([.ref h0])).length) Slot.unset).toArray = ls at hl ⊢
  have hl : lv_has ls 1 [(0, .ref h0)] := hl
  refine lv_aload_n hx hb d_MO_init_0 rfl (lv_at hl 0 rfl) ?_
  refine W.objInit hx hb hown (hts _ (List.mem_cons_of_mem _ w_177)) (hts _ (List.mem_cons_of_mem _ w_28)) (hts _ (List.mem_cons_of_mem _ w_29)) rfl (by rw [hml]; exact hl.1) rfl d_MO_init_1 (Nat.le_of_ble_eq_true rfl) (Nat.le_of_ble_eq_true rfl) ?_
  refine W.eq (g2 := F0 m 4 ls []) rfl ?_
  refine lv_aload_n hx hb d_MO_init_4 rfl (lv_at hl 0 rfl) ?_
  refine lv_iconst (v := 0) hx hb d_MO_init_5 (by decide) ?_
  refine va_put (D := (dC, dI)) (ci := 5) (v := .int 0) (ty := .int) (C := R_MO) (T := F_MO) (N := 6) hx hb hts in_MO t_MO t_MO_ok n_MO hown hK hP hD hS 0 rfl rfl 0 (by decide) (hts _ (List.mem_cons_of_mem _ w_178)) (fun _ h9 => h9) rfl  (by decide +kernel) rfl rfl (Nat.le_of_ble_eq_true rfl) d_MO_init_6 (fun H locs hP hD hS => ?_)
  have hP : va_P (dC, dI) cls_ [(h0, .inr (5, [.int 0, .int 0, .int 0, .int 0, .int 0, .int 0]))] H := hP
  have hD : va_D A [(h0, .inr (5, [.int 0, .int 0, .int 0, .int 0, .int 0, .int 0]))] := hD
  refine lv_aload_n hx hb d_MO_init_9 rfl (lv_at hl 0 rfl) ?_
  refine lv_iconst (v := 0) hx hb d_MO_init_10 (by decide) ?_
  refine va_put (D := (dC, dI)) (ci := 5) (v := .int 0) (ty := .int) (C := R_MO) (T := F_MO) (N := 6) hx hb hts in_MO t_MO t_MO_ok n_MO hown hK hP hD hS 0 rfl rfl 1 (by decide) (hts _ (List.mem_cons_of_mem _ w_179)) (fun _ h9 => h9) rfl  (by decide +kernel) rfl rfl (Nat.le_of_ble_eq_true rfl) d_MO_init_11 (fun H locs hP hD hS => ?_)
  have hP : va_P (dC, dI) cls_ [(h0, .inr (5, [.int 0, .int 0, .int 0, .int 0, .int 0, .int 0]))] H := hP
  have hD : va_D A [(h0, .inr (5, [.int 0, .int 0, .int 0, .int 0, .int 0, .int 0]))] := hD
  refine lv_aload_n hx hb d_MO_init_14 rfl (lv_at hl 0 rfl) ?_
  refine lv_iconst (v := 0) hx hb d_MO_init_15 (by decide) ?_
  refine va_put (D := (dC, dI)) (ci := 5) (v := .int 0) (ty := .int) (C := R_MO) (T := F_MO) (N := 6) hx hb hts in_MO t_MO t_MO_ok n_MO hown hK hP hD hS 0 rfl rfl 2 (by decide) (hts _ (List.mem_cons_of_mem _ w_180)) (fun _ h9 => h9) rfl  (by decide +kernel) rfl rfl (Nat.le_of_ble_eq_true rfl) d_MO_init_16 (fun H locs hP hD hS => ?_)
  have hP : va_P (dC, dI) cls_ [(h0, .inr (5, [.int 0, .int 0, .int 0, .int 0, .int 0, .int 0]))] H := hP
  have hD : va_D A [(h0, .inr (5, [.int 0, .int 0, .int 0, .int 0, .int 0, .int 0]))] := hD
  refine lv_aload_n hx hb d_MO_init_19 rfl (lv_at hl 0 rfl) ?_
  refine lv_iconst (v := 0) hx hb d_MO_init_20 (by decide) ?_
  refine va_put (D := (dC, dI)) (ci := 5) (v := .int 0) (ty := .int) (C := R_MO) (T := F_MO) (N := 6) hx hb hts in_MO t_MO t_MO_ok n_MO hown hK hP hD hS 0 rfl rfl 3 (by decide) (hts _ (List.mem_cons_of_mem _ w_181)) (fun _ h9 => h9) rfl  (by decide +kernel) rfl rfl (Nat.le_of_ble_eq_true rfl) d_MO_init_21 (fun H locs hP hD hS => ?_)
  have hP : va_P (dC, dI) cls_ [(h0, .inr (5, [.int 0, .int 0, .int 0, .int 0, .int 0, .int 0]))] H := hP
  have hD : va_D A [(h0, .inr (5, [.int 0, .int 0, .int 0, .int 0, .int 0, .int 0]))] := hD
  refine lv_aload_n hx hb d_MO_init_24 rfl (lv_at hl 0 rfl) ?_
  refine lv_iconst (v := 0) hx hb d_MO_init_25 (by decide) ?_
  refine va_put (D := (dC, dI)) (ci := 5) (v := .int 0) (ty := .int) (C := R_MO) (T := F_MO) (N := 6) hx hb hts in_MO t_MO t_MO_ok n_MO hown hK hP hD hS 0 rfl rfl 4 (by decide) (hts _ (List.mem_cons_of_mem _ w_182)) (fun _ h9 => h9) rfl  (by decide +kernel) rfl rfl (Nat.le_of_ble_eq_true rfl) d_MO_init_26 (fun H locs hP hD hS => ?_)
  have hP : va_P (dC, dI) cls_ [(h0, .inr (5, [.int 0, .int 0, .int 0, .int 0, .int 0, .int 0]))] H := hP
  have hD : va_D A [(h0, .inr (5, [.int 0, .int 0, .int 0, .int 0, .int 0, .int 0]))] := hD
  refine lv_aload_n hx hb d_MO_init_29 rfl (lv_at hl 0 rfl) ?_
  refine lv_iconst (v := 0) hx hb d_MO_init_30 (by decide) ?_
  refine va_put (D := (dC, dI)) (ci := 5) (v := .int 0) (ty := .int) (C := R_MO) (T := F_MO) (N := 6) hx hb hts in_MO t_MO t_MO_ok n_MO hown hK hP hD hS 0 rfl rfl 5 (by decide) (hts _ (List.mem_cons_of_mem _ w_183)) (fun _ h9 => h9) rfl  (by decide +kernel) rfl rfl (Nat.le_of_ble_eq_true rfl) d_MO_init_31 (fun H locs hP hD hS => ?_)
  have hP : va_P (dC, dI) cls_ [(h0, .inr (5, [.int 0, .int 0, .int 0, .int 0, .int 0, .int 0]))] H := hP
  have hD : va_D A [(h0, .inr (5, [.int 0, .int 0, .int 0, .int 0, .int 0, .int 0]))] := hD
  refine W.widen (k := 0) (n := 0) (Nat.le_of_ble_eq_true rfl) (Nat.le_of_ble_eq_true rfl) ?_
  exact W.vret hx hb hr (fun t ht hW => ⟨⟨(), rfl, trivial, trivial⟩, hS.F ht⟩) hS.2.2 d_MO_init_34
set_option maxHeartbeats 4000000 in
set_option maxRecDepth 100000 in
/-- GlyphLines$Outline.<init> -/
theorem c_OU_init (l : Launch) (dC : Nat → ClassId) (dI : Nat → Nat → Nat) (h0 : Nat) (sz : Nat) : Met l y_OU_init s_OU_init ({ frames := 10, cells := 6, slots := 286, locals := 300 }) (va_Pc [.ref h0] (fun U => U.heap.size = sz ∧ va_P (dC, dI) cls_ [(h0, .inr (6, [.null, .null, .null, .null, .null, .null, .int 0, .int 0]))] U.heap ∧ va_K (dC, dI) cls_ [] U ∧ va_D (fun _ => True) [(h0, .inr (6, [.null, .null, .null, .null, .null, .null, .int 0, .int 0]))])) (va_Qv (fun _ : Unit => True) (fun (_ : Unit) (t : State) => True) (va_A [(h0, .inr (6, [.null, .null, .null, .null, .null, .null, .int 0, .int 0]))] sz)) 6 286 (va_A [(h0, .inr (6, [.null, .null, .null, .null, .null, .null, .int 0, .int 0]))] sz) := by
  refine Met.ofW (cc := b_OU_init) (maxL := 1) (ret := none) (by decide) rfl ?_
  intro p e s m args below meth c s₁ B hml hv
  obtain ⟨rfl, hsz, hP, hK, hD0⟩ := hv
  have hx := B.exec
  have hb := B.bytes
  have hr := B.returns
  have hts := atoms_spec (ws := s_OU_init) B.pre
  have hown : s.vm.findClass R_OU = some m.cls := findClass_of_methodNamed B.named
  have hlocks := B.notSynchronized
  have hin : meth.name = "<init>" := (name_of_methodNamed B.named B.method).1
  subst hsz
  have hD := hD0.self (sz := s.heap.size)
  generalize hAe : va_A [(h0, .inr (6, [.null, .null, .null, .null, .null, .null, .int 0, .int 0]))] s.heap.size = A at hD ⊢
  have hA : ∀ q : Nat, s.heap.size ≤ q → A q := fun q h => by rw [← hAe]; exact Or.inr h
  have hS : va_S A s.heap s.heap [] := va_S.rf
  have hP : va_P (dC, dI) cls_ [(h0, .inr (6, [.null, .null, .null, .null, .null, .null, .int 0, .int 0]))] s.heap := hP
  have hl := lv_entry ([.ref h0]) (n := 1) (Nat.le_of_ble_eq_true rfl)
  rw [lg_entry_eq]
  generalize (lg_sl ([.ref h0]) ++ List.replicate (1 - (lg_sl ([.ref h0])).length) Slot.unset).toArray = ls at hl ⊢
  have hl : lv_has ls 1 [(0, .ref h0)] := hl
  refine lv_aload_n hx hb d_OU_init_0 rfl (lv_at hl 0 rfl) ?_
  refine W.objInit hx hb hown (hts _ (List.mem_cons_of_mem _ w_171)) (hts _ (List.mem_cons_of_mem _ w_28)) (hts _ (List.mem_cons_of_mem _ w_29)) rfl (by rw [hml]; exact hl.1) rfl d_OU_init_1 (Nat.le_of_ble_eq_true rfl) (Nat.le_of_ble_eq_true rfl) ?_
  refine W.eq (g2 := F0 m 4 ls []) rfl ?_
  refine lv_aload_n hx hb d_OU_init_4 rfl (lv_at hl 0 rfl) ?_
  refine lv_bipush (v := 64) hx hb d_OU_init_5 (by decide) ?_
  refine va_newa (atype := .int) (a0 := (64, .inl (fun _ => 0))) (ty := .int) (N' := 64) hx hb (hts _ (List.mem_cons_of_mem _ w_68)) rfl hK hP hD hS hA (fun _ => rfl) (by decide +kernel) (by decide +kernel) (by decide +kernel) (Nat.le_of_ble_eq_true rfl) (Nat.le_of_ble_eq_true rfl) d_OU_init_7 (fun q23 cA24 H hK hP hD hS => ?_)
  have hP : va_P (dC, dI) cls_ [(h0, .inr (6, [.null, .null, .null, .null, .null, .null, .int 0, .int 0])), (q23, .inl (cA24, 64, .inl (fun _ => 0)))] H := hP
  have hD : va_D A [(h0, .inr (6, [.null, .null, .null, .null, .null, .null, .int 0, .int 0])), (q23, .inl (cA24, 64, .inl (fun _ => 0)))] := hD
  have hK : va_K (dC, dI) cls_ [(cA24, .int)] s := hK
  refine va_putF (D := (dC, dI)) (ci := 6) (v := .ref q23) (ty := .array .int) (C := R_OU) (T := F_OU) (N := 8) hx hb hts in_OU t_OU t_OU_ok n_OU hown hK hP hD hS 0 rfl rfl 0 (by decide) (hts _ (List.mem_cons_of_mem _ w_198)) (fun _ h9 => h9) rfl hin rfl (by decide +kernel) rfl rfl (Nat.le_of_ble_eq_true rfl) d_OU_init_9 (fun H locs hP hD hS => ?_)
  have hP : va_P (dC, dI) cls_ [(h0, .inr (6, [.ref q23, .null, .null, .null, .null, .null, .int 0, .int 0])), (q23, .inl (cA24, 64, .inl (fun _ => 0)))] H := hP
  have hD : va_D A [(h0, .inr (6, [.ref q23, .null, .null, .null, .null, .null, .int 0, .int 0])), (q23, .inl (cA24, 64, .inl (fun _ => 0)))] := hD
  refine lv_aload_n hx hb d_OU_init_12 rfl (lv_at hl 0 rfl) ?_
  refine lv_bipush (v := 64) hx hb d_OU_init_13 (by decide) ?_
  refine va_newa (atype := .int) (a0 := (64, .inl (fun _ => 0))) (ty := .int) (N' := 64) hx hb (hts _ (List.mem_cons_of_mem _ w_68)) rfl hK hP hD hS hA (fun _ => rfl) (by decide +kernel) (by decide +kernel) (by decide +kernel) (Nat.le_of_ble_eq_true rfl) (Nat.le_of_ble_eq_true rfl) d_OU_init_15 (fun q25 cA26 H hK hP hD hS => ?_)
  have hP : va_P (dC, dI) cls_ [(h0, .inr (6, [.ref q23, .null, .null, .null, .null, .null, .int 0, .int 0])), (q23, .inl (cA24, 64, .inl (fun _ => 0))), (q25, .inl (cA26, 64, .inl (fun _ => 0)))] H := hP
  have hD : va_D A [(h0, .inr (6, [.ref q23, .null, .null, .null, .null, .null, .int 0, .int 0])), (q23, .inl (cA24, 64, .inl (fun _ => 0))), (q25, .inl (cA26, 64, .inl (fun _ => 0)))] := hD
  have hK : va_K (dC, dI) cls_ [(cA24, .int), (cA26, .int)] s := hK
  refine va_putF (D := (dC, dI)) (ci := 6) (v := .ref q25) (ty := .array .int) (C := R_OU) (T := F_OU) (N := 8) hx hb hts in_OU t_OU t_OU_ok n_OU hown hK hP hD hS 0 rfl rfl 1 (by decide) (hts _ (List.mem_cons_of_mem _ w_201)) (fun _ h9 => h9) rfl hin rfl (by decide +kernel) rfl rfl (Nat.le_of_ble_eq_true rfl) d_OU_init_17 (fun H locs hP hD hS => ?_)
  have hP : va_P (dC, dI) cls_ [(h0, .inr (6, [.ref q23, .ref q25, .null, .null, .null, .null, .int 0, .int 0])), (q23, .inl (cA24, 64, .inl (fun _ => 0))), (q25, .inl (cA26, 64, .inl (fun _ => 0)))] H := hP
  have hD : va_D A [(h0, .inr (6, [.ref q23, .ref q25, .null, .null, .null, .null, .int 0, .int 0])), (q23, .inl (cA24, 64, .inl (fun _ => 0))), (q25, .inl (cA26, 64, .inl (fun _ => 0)))] := hD
  refine lv_aload_n hx hb d_OU_init_20 rfl (lv_at hl 0 rfl) ?_
  refine lv_bipush (v := 64) hx hb d_OU_init_21 (by decide) ?_
  refine va_newa (atype := .boolean) (a0 := (64, .inl (fun _ => 0))) (ty := .boolean) (N' := 64) hx hb (hts _ (List.mem_cons_of_mem _ w_197)) rfl hK hP hD hS hA (fun _ => rfl) (by decide +kernel) (by decide +kernel) (by decide +kernel) (Nat.le_of_ble_eq_true rfl) (Nat.le_of_ble_eq_true rfl) d_OU_init_23 (fun q27 cA28 H hK hP hD hS => ?_)
  have hP : va_P (dC, dI) cls_ [(h0, .inr (6, [.ref q23, .ref q25, .null, .null, .null, .null, .int 0, .int 0])), (q23, .inl (cA24, 64, .inl (fun _ => 0))), (q25, .inl (cA26, 64, .inl (fun _ => 0))), (q27, .inl (cA28, 64, .inl (fun _ => 0)))] H := hP
  have hD : va_D A [(h0, .inr (6, [.ref q23, .ref q25, .null, .null, .null, .null, .int 0, .int 0])), (q23, .inl (cA24, 64, .inl (fun _ => 0))), (q25, .inl (cA26, 64, .inl (fun _ => 0))), (q27, .inl (cA28, 64, .inl (fun _ => 0)))] := hD
  have hK : va_K (dC, dI) cls_ [(cA24, .int), (cA26, .int), (cA28, .boolean)] s := hK
  refine va_putF (D := (dC, dI)) (ci := 6) (v := .ref q27) (ty := .array .boolean) (C := R_OU) (T := F_OU) (N := 8) hx hb hts in_OU t_OU t_OU_ok n_OU hown hK hP hD hS 0 rfl rfl 2 (by decide) (hts _ (List.mem_cons_of_mem _ w_204)) (fun _ h9 => h9) rfl hin rfl (by decide +kernel) rfl rfl (Nat.le_of_ble_eq_true rfl) d_OU_init_25 (fun H locs hP hD hS => ?_)
  have hP : va_P (dC, dI) cls_ [(h0, .inr (6, [.ref q23, .ref q25, .ref q27, .null, .null, .null, .int 0, .int 0])), (q23, .inl (cA24, 64, .inl (fun _ => 0))), (q25, .inl (cA26, 64, .inl (fun _ => 0))), (q27, .inl (cA28, 64, .inl (fun _ => 0)))] H := hP
  have hD : va_D A [(h0, .inr (6, [.ref q23, .ref q25, .ref q27, .null, .null, .null, .int 0, .int 0])), (q23, .inl (cA24, 64, .inl (fun _ => 0))), (q25, .inl (cA26, 64, .inl (fun _ => 0))), (q27, .inl (cA28, 64, .inl (fun _ => 0)))] := hD
  refine lv_aload_n hx hb d_OU_init_28 rfl (lv_at hl 0 rfl) ?_
  refine lv_bipush (v := 64) hx hb d_OU_init_29 (by decide) ?_
  refine va_newa (atype := .int) (a0 := (64, .inl (fun _ => 0))) (ty := .int) (N' := 64) hx hb (hts _ (List.mem_cons_of_mem _ w_68)) rfl hK hP hD hS hA (fun _ => rfl) (by decide +kernel) (by decide +kernel) (by decide +kernel) (Nat.le_of_ble_eq_true rfl) (Nat.le_of_ble_eq_true rfl) d_OU_init_31 (fun q29 cA30 H hK hP hD hS => ?_)
  have hP : va_P (dC, dI) cls_ [(h0, .inr (6, [.ref q23, .ref q25, .ref q27, .null, .null, .null, .int 0, .int 0])), (q23, .inl (cA24, 64, .inl (fun _ => 0))), (q25, .inl (cA26, 64, .inl (fun _ => 0))), (q27, .inl (cA28, 64, .inl (fun _ => 0))), (q29, .inl (cA30, 64, .inl (fun _ => 0)))] H := hP
  have hD : va_D A [(h0, .inr (6, [.ref q23, .ref q25, .ref q27, .null, .null, .null, .int 0, .int 0])), (q23, .inl (cA24, 64, .inl (fun _ => 0))), (q25, .inl (cA26, 64, .inl (fun _ => 0))), (q27, .inl (cA28, 64, .inl (fun _ => 0))), (q29, .inl (cA30, 64, .inl (fun _ => 0)))] := hD
  have hK : va_K (dC, dI) cls_ [(cA24, .int), (cA26, .int), (cA28, .boolean), (cA30, .int)] s := hK
  refine va_putF (D := (dC, dI)) (ci := 6) (v := .ref q29) (ty := .array .int) (C := R_OU) (T := F_OU) (N := 8) hx hb hts in_OU t_OU t_OU_ok n_OU hown hK hP hD hS 0 rfl rfl 3 (by decide) (hts _ (List.mem_cons_of_mem _ w_207)) (fun _ h9 => h9) rfl hin rfl (by decide +kernel) rfl rfl (Nat.le_of_ble_eq_true rfl) d_OU_init_33 (fun H locs hP hD hS => ?_)
  have hP : va_P (dC, dI) cls_ [(h0, .inr (6, [.ref q23, .ref q25, .ref q27, .ref q29, .null, .null, .int 0, .int 0])), (q23, .inl (cA24, 64, .inl (fun _ => 0))), (q25, .inl (cA26, 64, .inl (fun _ => 0))), (q27, .inl (cA28, 64, .inl (fun _ => 0))), (q29, .inl (cA30, 64, .inl (fun _ => 0)))] H := hP
  have hD : va_D A [(h0, .inr (6, [.ref q23, .ref q25, .ref q27, .ref q29, .null, .null, .int 0, .int 0])), (q23, .inl (cA24, 64, .inl (fun _ => 0))), (q25, .inl (cA26, 64, .inl (fun _ => 0))), (q27, .inl (cA28, 64, .inl (fun _ => 0))), (q29, .inl (cA30, 64, .inl (fun _ => 0)))] := hD
  refine lv_aload_n hx hb d_OU_init_36 rfl (lv_at hl 0 rfl) ?_
  refine lv_bipush (v := 24) hx hb d_OU_init_37 (by decide) ?_
  refine va_newa (atype := .int) (a0 := (24, .inl (fun _ => 0))) (ty := .int) (N' := 24) hx hb (hts _ (List.mem_cons_of_mem _ w_68)) rfl hK hP hD hS hA (fun _ => rfl) (by decide +kernel) (by decide +kernel) (by decide +kernel) (Nat.le_of_ble_eq_true rfl) (Nat.le_of_ble_eq_true rfl) d_OU_init_39 (fun q31 cA32 H hK hP hD hS => ?_)
  have hP : va_P (dC, dI) cls_ [(h0, .inr (6, [.ref q23, .ref q25, .ref q27, .ref q29, .null, .null, .int 0, .int 0])), (q23, .inl (cA24, 64, .inl (fun _ => 0))), (q25, .inl (cA26, 64, .inl (fun _ => 0))), (q27, .inl (cA28, 64, .inl (fun _ => 0))), (q29, .inl (cA30, 64, .inl (fun _ => 0))), (q31, .inl (cA32, 24, .inl (fun _ => 0)))] H := hP
  have hD : va_D A [(h0, .inr (6, [.ref q23, .ref q25, .ref q27, .ref q29, .null, .null, .int 0, .int 0])), (q23, .inl (cA24, 64, .inl (fun _ => 0))), (q25, .inl (cA26, 64, .inl (fun _ => 0))), (q27, .inl (cA28, 64, .inl (fun _ => 0))), (q29, .inl (cA30, 64, .inl (fun _ => 0))), (q31, .inl (cA32, 24, .inl (fun _ => 0)))] := hD
  have hK : va_K (dC, dI) cls_ [(cA24, .int), (cA26, .int), (cA28, .boolean), (cA30, .int), (cA32, .int)] s := hK
  refine va_putF (D := (dC, dI)) (ci := 6) (v := .ref q31) (ty := .array .int) (C := R_OU) (T := F_OU) (N := 8) hx hb hts in_OU t_OU t_OU_ok n_OU hown hK hP hD hS 0 rfl rfl 4 (by decide) (hts _ (List.mem_cons_of_mem _ w_210)) (fun _ h9 => h9) rfl hin rfl (by decide +kernel) rfl rfl (Nat.le_of_ble_eq_true rfl) d_OU_init_41 (fun H locs hP hD hS => ?_)
  have hP : va_P (dC, dI) cls_ [(h0, .inr (6, [.ref q23, .ref q25, .ref q27, .ref q29, .ref q31, .null, .int 0, .int 0])), (q23, .inl (cA24, 64, .inl (fun _ => 0))), (q25, .inl (cA26, 64, .inl (fun _ => 0))), (q27, .inl (cA28, 64, .inl (fun _ => 0))), (q29, .inl (cA30, 64, .inl (fun _ => 0))), (q31, .inl (cA32, 24, .inl (fun _ => 0)))] H := hP
  have hD : va_D A [(h0, .inr (6, [.ref q23, .ref q25, .ref q27, .ref q29, .ref q31, .null, .int 0, .int 0])), (q23, .inl (cA24, 64, .inl (fun _ => 0))), (q25, .inl (cA26, 64, .inl (fun _ => 0))), (q27, .inl (cA28, 64, .inl (fun _ => 0))), (q29, .inl (cA30, 64, .inl (fun _ => 0))), (q31, .inl (cA32, 24, .inl (fun _ => 0)))] := hD
  refine lv_aload_n hx hb d_OU_init_44 rfl (lv_at hl 0 rfl) ?_
  refine va_new (ci := 5) (fs := [.int 0, .int 0, .int 0, .int 0, .int 0, .int 0]) (C := R_MO) (T := F_MO) (N := 6) hx hb hts in_MO t_MO t_MO_ok hown (hts _ (List.mem_cons_of_mem _ w_172)) (hts _ (List.mem_cons_of_mem _ w_173)) (hts _ (List.mem_cons_of_mem _ w_8)) hK hP hD hS hA rfl (fun j hj => by rcases (show j = 0 ∨ j = 1 ∨ j = 2 ∨ j = 3 ∨ j = 4 ∨ j = 5 by omega) with rfl | rfl | rfl | rfl | rfl | rfl <;> rfl) (Nat.le_of_ble_eq_true rfl) (Nat.le_of_ble_eq_true rfl) d_OU_init_45 (fun q33 H hP hD hS => ?_)
  have hP : va_P (dC, dI) cls_ [(h0, .inr (6, [.ref q23, .ref q25, .ref q27, .ref q29, .ref q31, .null, .int 0, .int 0])), (q23, .inl (cA24, 64, .inl (fun _ => 0))), (q25, .inl (cA26, 64, .inl (fun _ => 0))), (q27, .inl (cA28, 64, .inl (fun _ => 0))), (q29, .inl (cA30, 64, .inl (fun _ => 0))), (q31, .inl (cA32, 24, .inl (fun _ => 0))), (q33, .inr (5, [.int 0, .int 0, .int 0, .int 0, .int 0, .int 0]))] H := hP
  have hD : va_D A [(h0, .inr (6, [.ref q23, .ref q25, .ref q27, .ref q29, .ref q31, .null, .int 0, .int 0])), (q23, .inl (cA24, 64, .inl (fun _ => 0))), (q25, .inl (cA26, 64, .inl (fun _ => 0))), (q27, .inl (cA28, 64, .inl (fun _ => 0))), (q29, .inl (cA30, 64, .inl (fun _ => 0))), (q31, .inl (cA32, 24, .inl (fun _ => 0))), (q33, .inr (5, [.int 0, .int 0, .int 0, .int 0, .int 0, .int 0]))] := hD
  refine lv_dup hx hb d_OU_init_48 rfl ?_
  have hPc := hP.sub (ws' := [(q33, .inr (5, [.int 0, .int 0, .int 0, .int 0, .int 0, .int 0]))]) [6] rfl
  have hDc := hD.sub (ws' := [(q33, .inr (5, [.int 0, .int 0, .int 0, .int 0, .int 0, .int 0]))]) [6] (by decide) rfl
  have hKc := hK.sub (tys' := []) [] rfl
  have hFc := va_free (wc := [(q33, .inr (5, [.int 0, .int 0, .int 0, .int 0, .int 0, .int 0]))]) hD hS hA [6] rfl
  refine va_callv (va_runI (As := []) (rest := [.ref q33, .ref h0]) ⟨hx, hb, hml, hown, hts⟩ (c_MO_init l dC dI q33 H.size) (cwI 0 hts (tw_in w_176) rfl rfl rfl (hts _ (List.mem_cons_of_mem _ w_8)) (hts _ (List.mem_cons_of_mem _ w_174)) (hts _ (List.mem_cons_of_mem _ w_175)) rfl (by decide +kernel) ⟨Nat.le_of_ble_eq_true rfl, Nat.le_of_ble_eq_true rfl⟩) ⟨fun a U g mk q => by obtain ⟨q0, q1, qP, qK, qD⟩ := q; exact ⟨q0, q1, qP, va_K.moved (u := U) (U := U.calling g mk a) (Vm.Alike.refl U.vm) qK, qD⟩, fun U hU hW => ⟨rfl, by rw [hU], by rw [hU]; exact hPc, va_K.moved hW.alike hKc, hDc.weaken (fun _ _ _ _ => trivial)⟩⟩ rfl rfl hl.1 rfl (lv_room (Nat.le_of_ble_eq_true rfl)) d_OU_init_49 ⟨Nat.le_of_ble_eq_true rfl, Nat.le_of_ble_eq_true rfl⟩) hS (fun q _ h => hFc q h) hFc (fun u t H1 locs ht hvm hw hB hz1 hk1 hS => ?_)
  have hP1 : va_P (dC, dI) cls_ [] H1 := fun k q h => by simp at h
  have hD1 : va_D (va_A [(q33, .inr (5, [.int 0, .int 0, .int 0, .int 0, .int 0, .int 0]))] H.size) [] := ⟨fun i j p q h => by simp at h, fun k q h => by simp at h⟩
  obtain ⟨hP, hD⟩ := va_join (wr := [(h0, .inr (6, [.ref q23, .ref q25, .ref q27, .ref q29, .ref q31, .null, .int 0, .int 0])), (q23, .inl (cA24, 64, .inl (fun _ => 0))), (q25, .inl (cA26, 64, .inl (fun _ => 0))), (q27, .inl (cA28, 64, .inl (fun _ => 0))), (q29, .inl (cA30, 64, .inl (fun _ => 0))), (q31, .inl (cA32, 24, .inl (fun _ => 0)))]) (w1 := []) hP hD [6] [0, 1, 2, 3, 4, 5] rfl rfl (by decide) (by decide) hk1 hFc hP1 hD1
  generalize H1 = H at hP hS ⊢
  have hP : va_P (dC, dI) cls_ [(h0, .inr (6, [.ref q23, .ref q25, .ref q27, .ref q29, .ref q31, .null, .int 0, .int 0])), (q23, .inl (cA24, 64, .inl (fun _ => 0))), (q25, .inl (cA26, 64, .inl (fun _ => 0))), (q27, .inl (cA28, 64, .inl (fun _ => 0))), (q29, .inl (cA30, 64, .inl (fun _ => 0))), (q31, .inl (cA32, 24, .inl (fun _ => 0)))] H := hP
  have hD : va_D A [(h0, .inr (6, [.ref q23, .ref q25, .ref q27, .ref q29, .ref q31, .null, .int 0, .int 0])), (q23, .inl (cA24, 64, .inl (fun _ => 0))), (q25, .inl (cA26, 64, .inl (fun _ => 0))), (q27, .inl (cA28, 64, .inl (fun _ => 0))), (q29, .inl (cA30, 64, .inl (fun _ => 0))), (q31, .inl (cA32, 24, .inl (fun _ => 0)))] := hD
  refine va_putF (D := (dC, dI)) (ci := 6) (v := .ref q33) (ty := .object "GlyphLines$Move") (C := R_OU) (T := F_OU) (N := 8) hx hb hts in_OU t_OU t_OU_ok n_OU hown hK hP hD hS 0 rfl rfl 5 (by decide) (hts _ (List.mem_cons_of_mem _ w_211)) (fun _ h9 => h9) rfl hin rfl (by decide +kernel) rfl rfl (Nat.le_of_ble_eq_true rfl) d_OU_init_52 (fun H locs hP hD hS => ?_)
  have hP : va_P (dC, dI) cls_ [(h0, .inr (6, [.ref q23, .ref q25, .ref q27, .ref q29, .ref q31, .ref q33, .int 0, .int 0])), (q23, .inl (cA24, 64, .inl (fun _ => 0))), (q25, .inl (cA26, 64, .inl (fun _ => 0))), (q27, .inl (cA28, 64, .inl (fun _ => 0))), (q29, .inl (cA30, 64, .inl (fun _ => 0))), (q31, .inl (cA32, 24, .inl (fun _ => 0)))] H := hP
  have hD : va_D A [(h0, .inr (6, [.ref q23, .ref q25, .ref q27, .ref q29, .ref q31, .ref q33, .int 0, .int 0])), (q23, .inl (cA24, 64, .inl (fun _ => 0))), (q25, .inl (cA26, 64, .inl (fun _ => 0))), (q27, .inl (cA28, 64, .inl (fun _ => 0))), (q29, .inl (cA30, 64, .inl (fun _ => 0))), (q31, .inl (cA32, 24, .inl (fun _ => 0)))] := hD
  refine lv_aload_n hx hb d_OU_init_55 rfl (lv_at hl 0 rfl) ?_
  refine lv_iconst (v := 0) hx hb d_OU_init_56 (by decide) ?_
  refine va_put (D := (dC, dI)) (ci := 6) (v := .int 0) (ty := .int) (C := R_OU) (T := F_OU) (N := 8) hx hb hts in_OU t_OU t_OU_ok n_OU hown hK hP hD hS 0 rfl rfl 6 (by decide) (hts _ (List.mem_cons_of_mem _ w_212)) (fun _ h9 => h9) rfl  (by decide +kernel) rfl rfl (Nat.le_of_ble_eq_true rfl) d_OU_init_57 (fun H locs hP hD hS => ?_)
  have hP : va_P (dC, dI) cls_ [(h0, .inr (6, [.ref q23, .ref q25, .ref q27, .ref q29, .ref q31, .ref q33, .int 0, .int 0])), (q23, .inl (cA24, 64, .inl (fun _ => 0))), (q25, .inl (cA26, 64, .inl (fun _ => 0))), (q27, .inl (cA28, 64, .inl (fun _ => 0))), (q29, .inl (cA30, 64, .inl (fun _ => 0))), (q31, .inl (cA32, 24, .inl (fun _ => 0)))] H := hP
  have hD : va_D A [(h0, .inr (6, [.ref q23, .ref q25, .ref q27, .ref q29, .ref q31, .ref q33, .int 0, .int 0])), (q23, .inl (cA24, 64, .inl (fun _ => 0))), (q25, .inl (cA26, 64, .inl (fun _ => 0))), (q27, .inl (cA28, 64, .inl (fun _ => 0))), (q29, .inl (cA30, 64, .inl (fun _ => 0))), (q31, .inl (cA32, 24, .inl (fun _ => 0)))] := hD
  refine lv_aload_n hx hb d_OU_init_60 rfl (lv_at hl 0 rfl) ?_
  refine lv_iconst (v := 0) hx hb d_OU_init_61 (by decide) ?_
  refine va_put (D := (dC, dI)) (ci := 6) (v := .int 0) (ty := .int) (C := R_OU) (T := F_OU) (N := 8) hx hb hts in_OU t_OU t_OU_ok n_OU hown hK hP hD hS 0 rfl rfl 7 (by decide) (hts _ (List.mem_cons_of_mem _ w_215)) (fun _ h9 => h9) rfl  (by decide +kernel) rfl rfl (Nat.le_of_ble_eq_true rfl) d_OU_init_62 (fun H locs hP hD hS => ?_)
  have hP : va_P (dC, dI) cls_ [(h0, .inr (6, [.ref q23, .ref q25, .ref q27, .ref q29, .ref q31, .ref q33, .int 0, .int 0])), (q23, .inl (cA24, 64, .inl (fun _ => 0))), (q25, .inl (cA26, 64, .inl (fun _ => 0))), (q27, .inl (cA28, 64, .inl (fun _ => 0))), (q29, .inl (cA30, 64, .inl (fun _ => 0))), (q31, .inl (cA32, 24, .inl (fun _ => 0)))] H := hP
  have hD : va_D A [(h0, .inr (6, [.ref q23, .ref q25, .ref q27, .ref q29, .ref q31, .ref q33, .int 0, .int 0])), (q23, .inl (cA24, 64, .inl (fun _ => 0))), (q25, .inl (cA26, 64, .inl (fun _ => 0))), (q27, .inl (cA28, 64, .inl (fun _ => 0))), (q29, .inl (cA30, 64, .inl (fun _ => 0))), (q31, .inl (cA32, 24, .inl (fun _ => 0)))] := hD
  refine W.widen (k := 6) (n := 286) (Nat.le_of_ble_eq_true rfl) (Nat.le_of_ble_eq_true rfl) ?_
  exact W.vret hx hb hr (fun t ht hW => ⟨⟨(), rfl, trivial, trivial⟩, hS.F ht⟩) hS.2.2 d_OU_init_65
set_option maxHeartbeats 4000000 in
set_option maxRecDepth 100000 in
/-- GlyphLines$Picture.<init> -/
theorem c_PI_init (l : Launch) (dC : Nat → ClassId) (dI : Nat → Nat → Nat) (h0 : Nat) (sz : Nat) : Met l y_PI_init s_PI_init ({ frames := 10, cells := 2, slots := 1176, locals := 300 }) (va_Pc [.ref h0] (fun U => U.heap.size = sz ∧ va_P (dC, dI) cls_ [(h0, .inr (7, [.null, .null]))] U.heap ∧ va_K (dC, dI) cls_ [] U ∧ va_D (fun _ => True) [(h0, .inr (7, [.null, .null]))])) (va_Qv (fun _ : Unit => True) (fun (_ : Unit) (t : State) => ∃ q1 q2 cA, va_P (dC, dI) cls_ [(h0, .inr (7, [.ref q1, .ref q2])), (q1, .inl (cA, 24, .inr (.inl (fun _ => 0))))] t.heap ∧ va_K (dC, dI) cls_ [(cA, .long)] t ∧ va_D (va_A [(h0, .inr (7, [.null, .null]))] sz) [(h0, .inr (7, [.ref q1, .ref q2])), (q1, .inl (cA, 24, .inr (.inl (fun _ => 0))))]) (va_A [(h0, .inr (7, [.null, .null]))] sz)) 2 1176 (va_A [(h0, .inr (7, [.null, .null]))] sz) := by
  refine Met.ofW (cc := b_PI_init) (maxL := 1) (ret := none) (by decide) rfl ?_
  intro p e s m args below meth c s₁ B hml hv
  obtain ⟨rfl, hsz, hP, hK, hD0⟩ := hv
  have hx := B.exec
  have hb := B.bytes
  have hr := B.returns
  have hts := atoms_spec (ws := s_PI_init) B.pre
  have hown : s.vm.findClass R_PI = some m.cls := findClass_of_methodNamed B.named
  have hlocks := B.notSynchronized
  have hin : meth.name = "<init>" := (name_of_methodNamed B.named B.method).1
  subst hsz
  have hD := hD0.self (sz := s.heap.size)
  generalize hAe : va_A [(h0, .inr (7, [.null, .null]))] s.heap.size = A at hD ⊢
  have hA : ∀ q : Nat, s.heap.size ≤ q → A q := fun q h => by rw [← hAe]; exact Or.inr h
  have hS : va_S A s.heap s.heap [] := va_S.rf
  have hP : va_P (dC, dI) cls_ [(h0, .inr (7, [.null, .null]))] s.heap := hP
  have hl := lv_entry ([.ref h0]) (n := 1) (Nat.le_of_ble_eq_true rfl)
  rw [lg_entry_eq]
  generalize (lg_sl ([.ref h0]) ++ List.replicate (1 - (lg_sl ([.ref h0])).length) Slot.unset).toArray = ls at hl ⊢
  have hl : lv_has ls 1 [(0, .ref h0)] := hl
  refine lv_aload_n hx hb d_PI_init_0 rfl (lv_at hl 0 rfl) ?_
  refine W.objInit hx hb hown (hts _ (List.mem_cons_of_mem _ w_239)) (hts _ (List.mem_cons_of_mem _ w_28)) (hts _ (List.mem_cons_of_mem _ w_29)) rfl (by rw [hml]; exact hl.1) rfl d_PI_init_1 (Nat.le_of_ble_eq_true rfl) (Nat.le_of_ble_eq_true rfl) ?_
  refine W.eq (g2 := F0 m 4 ls []) rfl ?_
  refine lv_aload_n hx hb d_PI_init_4 rfl (lv_at hl 0 rfl) ?_
  refine lv_bipush (v := 24) hx hb d_PI_init_5 (by decide) ?_
  refine va_newa (atype := .long) (a0 := (24, .inr (.inl (fun _ => 0)))) (ty := .long) (N' := 24) hx hb (hts _ (List.mem_cons_of_mem _ w_248)) rfl hK hP hD hS hA (fun _ => rfl) (by decide +kernel) (by decide +kernel) (by decide +kernel) (Nat.le_of_ble_eq_true rfl) (Nat.le_of_ble_eq_true rfl) d_PI_init_7 (fun q34 cA35 H hK hP hD hS => ?_)
  have hP : va_P (dC, dI) cls_ [(h0, .inr (7, [.null, .null])), (q34, .inl (cA35, 24, .inr (.inl (fun _ => 0))))] H := hP
  have hD : va_D A [(h0, .inr (7, [.null, .null])), (q34, .inl (cA35, 24, .inr (.inl (fun _ => 0))))] := hD
  have hK : va_K (dC, dI) cls_ [(cA35, .long)] s := hK
  refine va_putF (D := (dC, dI)) (ci := 7) (v := .ref q34) (ty := .array .long) (C := R_PI) (T := F_PI) (N := 2) hx hb hts in_PI t_PI t_PI_ok n_PI hown hK hP hD hS 0 rfl rfl 0 (by decide) (hts _ (List.mem_cons_of_mem _ w_240)) (fun _ h9 => h9) rfl hin rfl (by decide +kernel) rfl rfl (Nat.le_of_ble_eq_true rfl) d_PI_init_9 (fun H locs hP hD hS => ?_)
  have hP : va_P (dC, dI) cls_ [(h0, .inr (7, [.ref q34, .null])), (q34, .inl (cA35, 24, .inr (.inl (fun _ => 0))))] H := hP
  have hD : va_D A [(h0, .inr (7, [.ref q34, .null])), (q34, .inl (cA35, 24, .inr (.inl (fun _ => 0))))] := hD
  refine lv_aload_n hx hb d_PI_init_12 rfl (lv_at hl 0 rfl) ?_
  refine lv_sipush (v := 1152) hx hb d_PI_init_13 (by decide) ?_
  refine va_newa (atype := .int) (a0 := (1152, .inl (fun _ => 0))) (ty := .int) (N' := 1152) hx hb (hts _ (List.mem_cons_of_mem _ w_68)) rfl hK hP hD hS hA (fun _ => rfl) (by decide +kernel) (by decide +kernel) (by decide +kernel) (Nat.le_of_ble_eq_true rfl) (Nat.le_of_ble_eq_true rfl) d_PI_init_16 (fun q36 cA37 H hK hP hD hS => ?_)
  have hP : va_P (dC, dI) cls_ [(h0, .inr (7, [.ref q34, .null])), (q34, .inl (cA35, 24, .inr (.inl (fun _ => 0)))), (q36, .inl (cA37, 1152, .inl (fun _ => 0)))] H := hP
  have hD : va_D A [(h0, .inr (7, [.ref q34, .null])), (q34, .inl (cA35, 24, .inr (.inl (fun _ => 0)))), (q36, .inl (cA37, 1152, .inl (fun _ => 0)))] := hD
  have hK : va_K (dC, dI) cls_ [(cA35, .long), (cA37, .int)] s := hK
  refine va_putF (D := (dC, dI)) (ci := 7) (v := .ref q36) (ty := .array .int) (C := R_PI) (T := F_PI) (N := 2) hx hb hts in_PI t_PI t_PI_ok n_PI hown hK hP hD hS 0 rfl rfl 1 (by decide) (hts _ (List.mem_cons_of_mem _ w_242)) (fun _ h9 => h9) rfl hin rfl (by decide +kernel) rfl rfl (Nat.le_of_ble_eq_true rfl) d_PI_init_18 (fun H locs hP hD hS => ?_)
  have hP : va_P (dC, dI) cls_ [(h0, .inr (7, [.ref q34, .ref q36])), (q34, .inl (cA35, 24, .inr (.inl (fun _ => 0)))), (q36, .inl (cA37, 1152, .inl (fun _ => 0)))] H := hP
  have hD : va_D A [(h0, .inr (7, [.ref q34, .ref q36])), (q34, .inl (cA35, 24, .inr (.inl (fun _ => 0)))), (q36, .inl (cA37, 1152, .inl (fun _ => 0)))] := hD
  refine W.widen (k := 2) (n := 1176) (Nat.le_of_ble_eq_true rfl) (Nat.le_of_ble_eq_true rfl) ?_
  have hP9 := hP.sub (ws' := [(h0, .inr (7, [.ref q34, .ref q36])), (q34, .inl (cA35, 24, .inr (.inl (fun _ => 0))))]) [0, 1] rfl
  have hD9 := hD.sub (ws' := [(h0, .inr (7, [.ref q34, .ref q36])), (q34, .inl (cA35, 24, .inr (.inl (fun _ => 0))))]) [0, 1] (by decide) rfl
  have hK9 := hK.sub (tys' := [(cA35, .long)]) [0] rfl
  exact W.vret hx hb hr (fun t ht hW => ⟨⟨(), rfl, trivial, q34, q36, cA35, by rw [ht]; exact hP9, va_K.moved hW.alike hK9, hD9⟩, hS.F ht⟩) hS.2.2 d_PI_init_21
set_option maxHeartbeats 4000000 in
set_option maxRecDepth 100000 in
/-- GlyphLines$Brush.<init> -/
theorem c_BR_init (l : Launch) (dC : Nat → ClassId) (dI : Nat → Nat → Nat) (h0 qp qo : Nat) (sz : Nat) : Met l y_BR_init s_BR_init ({ frames := 10, cells := 3, slots := 144, locals := 300 }) (va_Pc [.ref h0, .ref qp, .ref qo] (fun U => U.heap.size = sz ∧ va_P (dC, dI) cls_ [(h0, .inr (8, [.null, .null, .null, .null, .null, .int 0, .int 0, .int 0, .int 0, .int 0]))] U.heap ∧ va_K (dC, dI) cls_ [] U ∧ va_D (fun _ => True) [(h0, .inr (8, [.null, .null, .null, .null, .null, .int 0, .int 0, .int 0, .int 0, .int 0]))])) (va_Qv (fun _ : Unit => True) (fun (_ : Unit) (t : State) => True) (va_A [(h0, .inr (8, [.null, .null, .null, .null, .null, .int 0, .int 0, .int 0, .int 0, .int 0]))] sz)) 3 144 (va_A [(h0, .inr (8, [.null, .null, .null, .null, .null, .int 0, .int 0, .int 0, .int 0, .int 0]))] sz) := by
  refine Met.ofW (cc := b_BR_init) (maxL := 3) (ret := none) (by decide) rfl ?_
  intro p e s m args below meth c s₁ B hml hv
  obtain ⟨rfl, hsz, hP, hK, hD0⟩ := hv
  have hx := B.exec
  have hb := B.bytes
  have hr := B.returns
  have hts := atoms_spec (ws := s_BR_init) B.pre
  have hown : s.vm.findClass R_BR = some m.cls := findClass_of_methodNamed B.named
  have hlocks := B.notSynchronized
  have hin : meth.name = "<init>" := (name_of_methodNamed B.named B.method).1
  subst hsz
  have hD := hD0.self (sz := s.heap.size)
  generalize hAe : va_A [(h0, .inr (8, [.null, .null, .null, .null, .null, .int 0, .int 0, .int 0, .int 0, .int 0]))] s.heap.size = A at hD ⊢
  have hA : ∀ q : Nat, s.heap.size ≤ q → A q := fun q h => by rw [← hAe]; exact Or.inr h
  have hS : va_S A s.heap s.heap [] := va_S.rf
  have hP : va_P (dC, dI) cls_ [(h0, .inr (8, [.null, .null, .null, .null, .null, .int 0, .int 0, .int 0, .int 0, .int 0]))] s.heap := hP
  have hl := lv_entry ([.ref h0, .ref qp, .ref qo]) (n := 3) (Nat.le_of_ble_eq_true rfl)
  rw [lg_entry_eq]
  generalize (lg_sl ([.ref h0, .ref qp, .ref qo]) ++ List.replicate (3 - (lg_sl ([.ref h0, .ref qp, .ref qo])).length) Slot.unset).toArray = ls at hl ⊢
  have hl : lv_has ls 3 [(0, .ref h0), (1, .ref qp), (2, .ref qo)] := hl
  refine lv_aload_n hx hb d_BR_init_0 rfl (lv_at hl 0 rfl) ?_
  refine W.objInit hx hb hown (hts _ (List.mem_cons_of_mem _ w_254)) (hts _ (List.mem_cons_of_mem _ w_28)) (hts _ (List.mem_cons_of_mem _ w_29)) rfl (by rw [hml]; exact hl.1) rfl d_BR_init_1 (Nat.le_of_ble_eq_true rfl) (Nat.le_of_ble_eq_true rfl) ?_
  refine W.eq (g2 := F0 m 4 ls []) rfl ?_
  refine lv_aload_n hx hb d_BR_init_4 rfl (lv_at hl 0 rfl) ?_
  refine lv_bipush (v := 48) hx hb d_BR_init_5 (by decide) ?_
  refine va_newa (atype := .int) (a0 := (48, .inl (fun _ => 0))) (ty := .int) (N' := 48) hx hb (hts _ (List.mem_cons_of_mem _ w_68)) rfl hK hP hD hS hA (fun _ => rfl) (by decide +kernel) (by decide +kernel) (by decide +kernel) (Nat.le_of_ble_eq_true rfl) (Nat.le_of_ble_eq_true rfl) d_BR_init_7 (fun q38 cA39 H hK hP hD hS => ?_)
  have hP : va_P (dC, dI) cls_ [(h0, .inr (8, [.null, .null, .null, .null, .null, .int 0, .int 0, .int 0, .int 0, .int 0])), (q38, .inl (cA39, 48, .inl (fun _ => 0)))] H := hP
  have hD : va_D A [(h0, .inr (8, [.null, .null, .null, .null, .null, .int 0, .int 0, .int 0, .int 0, .int 0])), (q38, .inl (cA39, 48, .inl (fun _ => 0)))] := hD
  have hK : va_K (dC, dI) cls_ [(cA39, .int)] s := hK
  refine va_putF (D := (dC, dI)) (ci := 8) (v := .ref q38) (ty := .array .int) (C := R_BR) (T := F_BR) (N := 10) hx hb hts in_BR t_BR t_BR_ok n_BR hown hK hP hD hS 0 rfl rfl 2 (by decide) (hts _ (List.mem_cons_of_mem _ w_257)) (fun _ h9 => h9) rfl hin rfl (by decide +kernel) rfl rfl (Nat.le_of_ble_eq_true rfl) d_BR_init_9 (fun H locs hP hD hS => ?_)
  have hP : va_P (dC, dI) cls_ [(h0, .inr (8, [.null, .null, .ref q38, .null, .null, .int 0, .int 0, .int 0, .int 0, .int 0])), (q38, .inl (cA39, 48, .inl (fun _ => 0)))] H := hP
  have hD : va_D A [(h0, .inr (8, [.null, .null, .ref q38, .null, .null, .int 0, .int 0, .int 0, .int 0, .int 0])), (q38, .inl (cA39, 48, .inl (fun _ => 0)))] := hD
  refine lv_aload_n hx hb d_BR_init_12 rfl (lv_at hl 0 rfl) ?_
  refine lv_bipush (v := 48) hx hb d_BR_init_13 (by decide) ?_
  refine va_newa (atype := .int) (a0 := (48, .inl (fun _ => 0))) (ty := .int) (N' := 48) hx hb (hts _ (List.mem_cons_of_mem _ w_68)) rfl hK hP hD hS hA (fun _ => rfl) (by decide +kernel) (by decide +kernel) (by decide +kernel) (Nat.le_of_ble_eq_true rfl) (Nat.le_of_ble_eq_true rfl) d_BR_init_15 (fun q40 cA41 H hK hP hD hS => ?_)
  have hP : va_P (dC, dI) cls_ [(h0, .inr (8, [.null, .null, .ref q38, .null, .null, .int 0, .int 0, .int 0, .int 0, .int 0])), (q38, .inl (cA39, 48, .inl (fun _ => 0))), (q40, .inl (cA41, 48, .inl (fun _ => 0)))] H := hP
  have hD : va_D A [(h0, .inr (8, [.null, .null, .ref q38, .null, .null, .int 0, .int 0, .int 0, .int 0, .int 0])), (q38, .inl (cA39, 48, .inl (fun _ => 0))), (q40, .inl (cA41, 48, .inl (fun _ => 0)))] := hD
  have hK : va_K (dC, dI) cls_ [(cA39, .int), (cA41, .int)] s := hK
  refine va_putF (D := (dC, dI)) (ci := 8) (v := .ref q40) (ty := .array .int) (C := R_BR) (T := F_BR) (N := 10) hx hb hts in_BR t_BR t_BR_ok n_BR hown hK hP hD hS 0 rfl rfl 3 (by decide) (hts _ (List.mem_cons_of_mem _ w_258)) (fun _ h9 => h9) rfl hin rfl (by decide +kernel) rfl rfl (Nat.le_of_ble_eq_true rfl) d_BR_init_17 (fun H locs hP hD hS => ?_)
  have hP : va_P (dC, dI) cls_ [(h0, .inr (8, [.null, .null, .ref q38, .ref q40, .null, .int 0, .int 0, .int 0, .int 0, .int 0])), (q38, .inl (cA39, 48, .inl (fun _ => 0))), (q40, .inl (cA41, 48, .inl (fun _ => 0)))] H := hP
  have hD : va_D A [(h0, .inr (8, [.null, .null, .ref q38, .ref q40, .null, .int 0, .int 0, .int 0, .int 0, .int 0])), (q38, .inl (cA39, 48, .inl (fun _ => 0))), (q40, .inl (cA41, 48, .inl (fun _ => 0)))] := hD
  refine lv_aload_n hx hb d_BR_init_20 rfl (lv_at hl 0 rfl) ?_
  refine lv_bipush (v := 48) hx hb d_BR_init_21 (by decide) ?_
  refine va_newa (atype := .boolean) (a0 := (48, .inl (fun _ => 0))) (ty := .boolean) (N' := 48) hx hb (hts _ (List.mem_cons_of_mem _ w_197)) rfl hK hP hD hS hA (fun _ => rfl) (by decide +kernel) (by decide +kernel) (by decide +kernel) (Nat.le_of_ble_eq_true rfl) (Nat.le_of_ble_eq_true rfl) d_BR_init_23 (fun q42 cA43 H hK hP hD hS => ?_)
  have hP : va_P (dC, dI) cls_ [(h0, .inr (8, [.null, .null, .ref q38, .ref q40, .null, .int 0, .int 0, .int 0, .int 0, .int 0])), (q38, .inl (cA39, 48, .inl (fun _ => 0))), (q40, .inl (cA41, 48, .inl (fun _ => 0))), (q42, .inl (cA43, 48, .inl (fun _ => 0)))] H := hP
  have hD : va_D A [(h0, .inr (8, [.null, .null, .ref q38, .ref q40, .null, .int 0, .int 0, .int 0, .int 0, .int 0])), (q38, .inl (cA39, 48, .inl (fun _ => 0))), (q40, .inl (cA41, 48, .inl (fun _ => 0))), (q42, .inl (cA43, 48, .inl (fun _ => 0)))] := hD
  have hK : va_K (dC, dI) cls_ [(cA39, .int), (cA41, .int), (cA43, .boolean)] s := hK
  refine va_putF (D := (dC, dI)) (ci := 8) (v := .ref q42) (ty := .array .boolean) (C := R_BR) (T := F_BR) (N := 10) hx hb hts in_BR t_BR t_BR_ok n_BR hown hK hP hD hS 0 rfl rfl 4 (by decide) (hts _ (List.mem_cons_of_mem _ w_259)) (fun _ h9 => h9) rfl hin rfl (by decide +kernel) rfl rfl (Nat.le_of_ble_eq_true rfl) d_BR_init_25 (fun H locs hP hD hS => ?_)
  have hP : va_P (dC, dI) cls_ [(h0, .inr (8, [.null, .null, .ref q38, .ref q40, .ref q42, .int 0, .int 0, .int 0, .int 0, .int 0])), (q38, .inl (cA39, 48, .inl (fun _ => 0))), (q40, .inl (cA41, 48, .inl (fun _ => 0))), (q42, .inl (cA43, 48, .inl (fun _ => 0)))] H := hP
  have hD : va_D A [(h0, .inr (8, [.null, .null, .ref q38, .ref q40, .ref q42, .int 0, .int 0, .int 0, .int 0, .int 0])), (q38, .inl (cA39, 48, .inl (fun _ => 0))), (q40, .inl (cA41, 48, .inl (fun _ => 0))), (q42, .inl (cA43, 48, .inl (fun _ => 0)))] := hD
  refine lv_aload_n hx hb d_BR_init_28 rfl (lv_at hl 0 rfl) ?_
  refine lv_iconst (v := 0) hx hb d_BR_init_29 (by decide) ?_
  refine va_put (D := (dC, dI)) (ci := 8) (v := .int 0) (ty := .int) (C := R_BR) (T := F_BR) (N := 10) hx hb hts in_BR t_BR t_BR_ok n_BR hown hK hP hD hS 0 rfl rfl 5 (by decide) (hts _ (List.mem_cons_of_mem _ w_260)) (fun _ h9 => h9) rfl  (by decide +kernel) rfl rfl (Nat.le_of_ble_eq_true rfl) d_BR_init_30 (fun H locs hP hD hS => ?_)
  have hP : va_P (dC, dI) cls_ [(h0, .inr (8, [.null, .null, .ref q38, .ref q40, .ref q42, .int 0, .int 0, .int 0, .int 0, .int 0])), (q38, .inl (cA39, 48, .inl (fun _ => 0))), (q40, .inl (cA41, 48, .inl (fun _ => 0))), (q42, .inl (cA43, 48, .inl (fun _ => 0)))] H := hP
  have hD : va_D A [(h0, .inr (8, [.null, .null, .ref q38, .ref q40, .ref q42, .int 0, .int 0, .int 0, .int 0, .int 0])), (q38, .inl (cA39, 48, .inl (fun _ => 0))), (q40, .inl (cA41, 48, .inl (fun _ => 0))), (q42, .inl (cA43, 48, .inl (fun _ => 0)))] := hD
  refine lv_aload_n hx hb d_BR_init_33 rfl (lv_at hl 0 rfl) ?_
  refine lv_iconst (v := 1) hx hb d_BR_init_34 (by decide) ?_
  refine va_put (D := (dC, dI)) (ci := 8) (v := .int 1) (ty := .int) (C := R_BR) (T := F_BR) (N := 10) hx hb hts in_BR t_BR t_BR_ok n_BR hown hK hP hD hS 0 rfl rfl 6 (by decide) (hts _ (List.mem_cons_of_mem _ w_261)) (fun _ h9 => h9) rfl  (by decide +kernel) rfl rfl (Nat.le_of_ble_eq_true rfl) d_BR_init_35 (fun H locs hP hD hS => ?_)
  have hP : va_P (dC, dI) cls_ [(h0, .inr (8, [.null, .null, .ref q38, .ref q40, .ref q42, .int 0, .int 1, .int 0, .int 0, .int 0])), (q38, .inl (cA39, 48, .inl (fun _ => 0))), (q40, .inl (cA41, 48, .inl (fun _ => 0))), (q42, .inl (cA43, 48, .inl (fun _ => 0)))] H := hP
  have hD : va_D A [(h0, .inr (8, [.null, .null, .ref q38, .ref q40, .ref q42, .int 0, .int 1, .int 0, .int 0, .int 0])), (q38, .inl (cA39, 48, .inl (fun _ => 0))), (q40, .inl (cA41, 48, .inl (fun _ => 0))), (q42, .inl (cA43, 48, .inl (fun _ => 0)))] := hD
  refine lv_aload_n hx hb d_BR_init_38 rfl (lv_at hl 0 rfl) ?_
  refine lv_iconst (v := 0) hx hb d_BR_init_39 (by decide) ?_
  refine va_put (D := (dC, dI)) (ci := 8) (v := .int 0) (ty := .int) (C := R_BR) (T := F_BR) (N := 10) hx hb hts in_BR t_BR t_BR_ok n_BR hown hK hP hD hS 0 rfl rfl 7 (by decide) (hts _ (List.mem_cons_of_mem _ w_262)) (fun _ h9 => h9) rfl  (by decide +kernel) rfl rfl (Nat.le_of_ble_eq_true rfl) d_BR_init_40 (fun H locs hP hD hS => ?_)
  have hP : va_P (dC, dI) cls_ [(h0, .inr (8, [.null, .null, .ref q38, .ref q40, .ref q42, .int 0, .int 1, .int 0, .int 0, .int 0])), (q38, .inl (cA39, 48, .inl (fun _ => 0))), (q40, .inl (cA41, 48, .inl (fun _ => 0))), (q42, .inl (cA43, 48, .inl (fun _ => 0)))] H := hP
  have hD : va_D A [(h0, .inr (8, [.null, .null, .ref q38, .ref q40, .ref q42, .int 0, .int 1, .int 0, .int 0, .int 0])), (q38, .inl (cA39, 48, .inl (fun _ => 0))), (q40, .inl (cA41, 48, .inl (fun _ => 0))), (q42, .inl (cA43, 48, .inl (fun _ => 0)))] := hD
  refine lv_aload_n hx hb d_BR_init_43 rfl (lv_at hl 0 rfl) ?_
  refine lv_iconst (v := 0) hx hb d_BR_init_44 (by decide) ?_
  refine va_put (D := (dC, dI)) (ci := 8) (v := .int 0) (ty := .int) (C := R_BR) (T := F_BR) (N := 10) hx hb hts in_BR t_BR t_BR_ok n_BR hown hK hP hD hS 0 rfl rfl 8 (by decide) (hts _ (List.mem_cons_of_mem _ w_263)) (fun _ h9 => h9) rfl  (by decide +kernel) rfl rfl (Nat.le_of_ble_eq_true rfl) d_BR_init_45 (fun H locs hP hD hS => ?_)
  have hP : va_P (dC, dI) cls_ [(h0, .inr (8, [.null, .null, .ref q38, .ref q40, .ref q42, .int 0, .int 1, .int 0, .int 0, .int 0])), (q38, .inl (cA39, 48, .inl (fun _ => 0))), (q40, .inl (cA41, 48, .inl (fun _ => 0))), (q42, .inl (cA43, 48, .inl (fun _ => 0)))] H := hP
  have hD : va_D A [(h0, .inr (8, [.null, .null, .ref q38, .ref q40, .ref q42, .int 0, .int 1, .int 0, .int 0, .int 0])), (q38, .inl (cA39, 48, .inl (fun _ => 0))), (q40, .inl (cA41, 48, .inl (fun _ => 0))), (q42, .inl (cA43, 48, .inl (fun _ => 0)))] := hD
  refine lv_aload_n hx hb d_BR_init_48 rfl (lv_at hl 0 rfl) ?_
  refine lv_iconst (v := (-1)) hx hb d_BR_init_49 (by decide) ?_
  refine va_put (D := (dC, dI)) (ci := 8) (v := .int ((-1))) (ty := .int) (C := R_BR) (T := F_BR) (N := 10) hx hb hts in_BR t_BR t_BR_ok n_BR hown hK hP hD hS 0 rfl rfl 9 (by decide) (hts _ (List.mem_cons_of_mem _ w_265)) (fun _ h9 => h9) rfl  (by decide +kernel) rfl rfl (Nat.le_of_ble_eq_true rfl) d_BR_init_50 (fun H locs hP hD hS => ?_)
  have hP : va_P (dC, dI) cls_ [(h0, .inr (8, [.null, .null, .ref q38, .ref q40, .ref q42, .int 0, .int 1, .int 0, .int 0, .int ((-1))])), (q38, .inl (cA39, 48, .inl (fun _ => 0))), (q40, .inl (cA41, 48, .inl (fun _ => 0))), (q42, .inl (cA43, 48, .inl (fun _ => 0)))] H := hP
  have hD : va_D A [(h0, .inr (8, [.null, .null, .ref q38, .ref q40, .ref q42, .int 0, .int 1, .int 0, .int 0, .int ((-1))])), (q38, .inl (cA39, 48, .inl (fun _ => 0))), (q40, .inl (cA41, 48, .inl (fun _ => 0))), (q42, .inl (cA43, 48, .inl (fun _ => 0)))] := hD
  refine lv_aload_n hx hb d_BR_init_53 rfl (lv_at hl 0 rfl) ?_
  refine lv_aload_n hx hb d_BR_init_54 rfl (lv_at hl 1 rfl) ?_
  refine va_putF (D := (dC, dI)) (ci := 8) (v := .ref qp) (ty := .object "GlyphLines$Picture") (C := R_BR) (T := F_BR) (N := 10) hx hb hts in_BR t_BR t_BR_ok n_BR hown hK hP hD hS 0 rfl rfl 0 (by decide) (hts _ (List.mem_cons_of_mem _ w_255)) (fun _ h9 => h9) rfl hin rfl (by decide +kernel) rfl rfl (Nat.le_of_ble_eq_true rfl) d_BR_init_55 (fun H locs hP hD hS => ?_)
  have hP : va_P (dC, dI) cls_ [(h0, .inr (8, [.ref qp, .null, .ref q38, .ref q40, .ref q42, .int 0, .int 1, .int 0, .int 0, .int ((-1))])), (q38, .inl (cA39, 48, .inl (fun _ => 0))), (q40, .inl (cA41, 48, .inl (fun _ => 0))), (q42, .inl (cA43, 48, .inl (fun _ => 0)))] H := hP
  have hD : va_D A [(h0, .inr (8, [.ref qp, .null, .ref q38, .ref q40, .ref q42, .int 0, .int 1, .int 0, .int 0, .int ((-1))])), (q38, .inl (cA39, 48, .inl (fun _ => 0))), (q40, .inl (cA41, 48, .inl (fun _ => 0))), (q42, .inl (cA43, 48, .inl (fun _ => 0)))] := hD
  refine lv_aload_n hx hb d_BR_init_58 rfl (lv_at hl 0 rfl) ?_
  refine lv_aload_n hx hb d_BR_init_59 rfl (lv_at hl 2 rfl) ?_
  refine va_putF (D := (dC, dI)) (ci := 8) (v := .ref qo) (ty := .object "GlyphLines$Outline") (C := R_BR) (T := F_BR) (N := 10) hx hb hts in_BR t_BR t_BR_ok n_BR hown hK hP hD hS 0 rfl rfl 1 (by decide) (hts _ (List.mem_cons_of_mem _ w_256)) (fun _ h9 => h9) rfl hin rfl (by decide +kernel) rfl rfl (Nat.le_of_ble_eq_true rfl) d_BR_init_60 (fun H locs hP hD hS => ?_)
  have hP : va_P (dC, dI) cls_ [(h0, .inr (8, [.ref qp, .ref qo, .ref q38, .ref q40, .ref q42, .int 0, .int 1, .int 0, .int 0, .int ((-1))])), (q38, .inl (cA39, 48, .inl (fun _ => 0))), (q40, .inl (cA41, 48, .inl (fun _ => 0))), (q42, .inl (cA43, 48, .inl (fun _ => 0)))] H := hP
  have hD : va_D A [(h0, .inr (8, [.ref qp, .ref qo, .ref q38, .ref q40, .ref q42, .int 0, .int 1, .int 0, .int 0, .int ((-1))])), (q38, .inl (cA39, 48, .inl (fun _ => 0))), (q40, .inl (cA41, 48, .inl (fun _ => 0))), (q42, .inl (cA43, 48, .inl (fun _ => 0)))] := hD
  refine W.widen (k := 3) (n := 144) (Nat.le_of_ble_eq_true rfl) (Nat.le_of_ble_eq_true rfl) ?_
  exact W.vret hx hb hr (fun t ht hW => ⟨⟨(), rfl, trivial, trivial⟩, hS.F ht⟩) hS.2.2 d_BR_init_63
