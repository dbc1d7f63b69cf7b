abbrev b_JM_floorDivII : ByteArray := prog_18_method_47_code
def y_JM_floorDivII : MethodName := ⟨R_JM, "floorDiv", "(II)I"⟩
def s_JM_floorDivII : List Cond := .code y_JM_floorDivII b_JM_floorDivII 3 (some .int) :: tw_T
abbrev b_JM_floorDivJJ : ByteArray := prog_18_method_49_code
def y_JM_floorDivJJ : MethodName := ⟨R_JM, "floorDiv", "(JJ)J"⟩
def s_JM_floorDivJJ : List Cond := .code y_JM_floorDivJJ b_JM_floorDivJJ 6 (some .long) :: tw_T
abbrev b_JM_absI : ByteArray := prog_18_method_59_code
def y_JM_absI : MethodName := ⟨R_JM, "abs", "(I)I"⟩
def s_JM_absI : List Cond := .code y_JM_absI b_JM_absI 1 (some .int) :: tw_T
abbrev b_JM_absJ : ByteArray := prog_18_method_61_code
def y_JM_absJ : MethodName := ⟨R_JM, "abs", "(J)J"⟩
def s_JM_absJ : List Cond := .code y_JM_absJ b_JM_absJ 2 (some .long) :: tw_T
abbrev b_JA_fillJ : ByteArray := prog_23_method_101_code
def y_JA_fillJ : MethodName := ⟨R_JA, "fill", "([JJ)V"⟩
def s_JA_fillJ : List Cond := .code y_JA_fillJ b_JA_fillJ 5 none :: tw_T
abbrev b_JA_fillI : ByteArray := prog_23_method_103_code
def y_JA_fillI : MethodName := ⟨R_JA, "fill", "([II)V"⟩
def s_JA_fillI : List Cond := .code y_JA_fillI b_JA_fillI 4 none :: tw_T
abbrev b_FO_placeOf : ByteArray := prog_5_method_9_code
def y_FO_placeOf : MethodName := ⟨R_FO, "placeOf", "(I)J"⟩
def s_FO_placeOf : List Cond := .code y_FO_placeOf b_FO_placeOf 2 (some .long) :: tw_T
abbrev b_FO_dataOf : ByteArray := prog_5_method_13_code
def y_FO_dataOf : MethodName := ⟨R_FO, "dataOf", "(II)LGlyphLines$Span;"⟩
def s_FO_dataOf : List Cond := .code y_FO_dataOf b_FO_dataOf 5 (some (.object "GlyphLines$Span")) :: tw_T
abbrev b_FO_headIsRight : ByteArray := prog_5_method_5_code
def y_FO_headIsRight : MethodName := ⟨R_FO, "headIsRight", "()Z"⟩
def s_FO_headIsRight : List Cond := .code y_FO_headIsRight b_FO_headIsRight 2 (some .boolean) :: tw_T
abbrev b_FO_countsAreRight : ByteArray := prog_5_method_6_code
def y_FO_countsAreRight : MethodName := ⟨R_FO, "countsAreRight", "()Z"⟩
def s_FO_countsAreRight : List Cond := .code y_FO_countsAreRight b_FO_countsAreRight 1 (some .boolean) :: tw_T
abbrev b_FO_placesAreRight : ByteArray := prog_5_method_7_code
def y_FO_placesAreRight : MethodName := ⟨R_FO, "placesAreRight", "()Z"⟩
def s_FO_placesAreRight : List Cond := .code y_FO_placesAreRight b_FO_placesAreRight 6 (some .boolean) :: tw_T
abbrev b_FO_findTables : ByteArray := prog_5_method_3_code
def y_FO_findTables : MethodName := ⟨R_FO, "findTables", "()Z"⟩
def s_FO_findTables : List Cond := .code y_FO_findTables b_FO_findTables 1 (some .boolean) :: tw_T
abbrev b_FO_kernIsRight : ByteArray := prog_5_method_8_code
def y_FO_kernIsRight : MethodName := ⟨R_FO, "kernIsRight", "()Z"⟩
def s_FO_kernIsRight : List Cond := .code y_FO_kernIsRight b_FO_kernIsRight 1 (some .boolean) :: tw_T
abbrev b_FO_formsAreRight : ByteArray := prog_5_method_4_code
def y_FO_formsAreRight : MethodName := ⟨R_FO, "formsAreRight", "()Z"⟩
def s_FO_formsAreRight : List Cond := .code y_FO_formsAreRight b_FO_formsAreRight 1 (some .boolean) :: tw_T
abbrev b_FO_glyphOf : ByteArray := prog_5_method_10_code
def y_FO_glyphOf : MethodName := ⟨R_FO, "glyphOf", "(I)I"⟩
def s_FO_glyphOf : List Cond := .code y_FO_glyphOf b_FO_glyphOf 3 (some .int) :: tw_T
abbrev b_FO_widthOf : ByteArray := prog_5_method_11_code
def y_FO_widthOf : MethodName := ⟨R_FO, "widthOf", "(I)I"⟩
def s_FO_widthOf : List Cond := .code y_FO_widthOf b_FO_widthOf 2 (some .int) :: tw_T
abbrev b_FO_kerningOf : ByteArray := prog_5_method_12_code
def y_FO_kerningOf : MethodName := ⟨R_FO, "kerningOf", "(II)I"⟩
def s_FO_kerningOf : List Cond := .code y_FO_kerningOf b_FO_kerningOf 3 (some .int) :: tw_T
theorem w_2 : (Jvm.Cond.initialized "GlyphLines$Font") ∈ tw_T := tw_of 2 (by decide +kernel) (by decide +kernel)
theorem w_6 : (Jvm.Cond.initialized "GlyphLines$Pairs") ∈ tw_T := tw_of 6 (by decide +kernel) (by decide +kernel)
theorem w_118 : (Jvm.Cond.fieldLink "GlyphLines$Font" (20 : Nat) "GlyphLines$Font" "directory" "LGlyphLines$Directory;") ∈ tw_T := tw_of 118 (by decide +kernel) (by decide +kernel)
theorem w_119 : (Jvm.Cond.fieldLink "GlyphLines$Font" (27 : Nat) "GlyphLines$Font" "head" "LGlyphLines$Span;") ∈ tw_T := tw_of 119 (by decide +kernel) (by decide +kernel)
theorem w_120 : (Jvm.Cond.fieldLink "GlyphLines$Font" (31 : Nat) "GlyphLines$Font" "maxp" "LGlyphLines$Span;") ∈ tw_T := tw_of 120 (by decide +kernel) (by decide +kernel)
theorem w_121 : (Jvm.Cond.fieldLink "GlyphLines$Font" (34 : Nat) "GlyphLines$Font" "hhea" "LGlyphLines$Span;") ∈ tw_T := tw_of 121 (by decide +kernel) (by decide +kernel)
theorem w_122 : (Jvm.Cond.fieldLink "GlyphLines$Font" (37 : Nat) "GlyphLines$Font" "hmtx" "LGlyphLines$Span;") ∈ tw_T := tw_of 122 (by decide +kernel) (by decide +kernel)
theorem w_123 : (Jvm.Cond.fieldLink "GlyphLines$Font" (40 : Nat) "GlyphLines$Font" "loca" "LGlyphLines$Span;") ∈ tw_T := tw_of 123 (by decide +kernel) (by decide +kernel)
theorem w_124 : (Jvm.Cond.fieldLink "GlyphLines$Font" (43 : Nat) "GlyphLines$Font" "glyf" "LGlyphLines$Span;") ∈ tw_T := tw_of 124 (by decide +kernel) (by decide +kernel)
theorem w_125 : (Jvm.Cond.fieldLink "GlyphLines$Font" (49 : Nat) "GlyphLines$Font" "map" "LGlyphLines$CharacterMap;") ∈ tw_T := tw_of 125 (by decide +kernel) (by decide +kernel)
theorem w_126 : (Jvm.Cond.fieldLink "GlyphLines$Font" (56 : Nat) "GlyphLines$Font" "pairs" "LGlyphLines$Pairs;") ∈ tw_T := tw_of 126 (by decide +kernel) (by decide +kernel)
theorem w_127 : (Jvm.Cond.fieldLink "GlyphLines$Font" (60 : Nat) "GlyphLines$Font" "data" "[LGlyphLines$Span;") ∈ tw_T := tw_of 127 (by decide +kernel) (by decide +kernel)
theorem w_128 : (Jvm.Cond.fieldLink "GlyphLines$Font" (64 : Nat) "GlyphLines$Font" "em" "I") ∈ tw_T := tw_of 128 (by decide +kernel) (by decide +kernel)
theorem w_130 : (Jvm.Cond.fieldLink "GlyphLines$Font" (68 : Nat) "GlyphLines$Font" "glyphs" "I") ∈ tw_T := tw_of 130 (by decide +kernel) (by decide +kernel)
theorem w_133 : (Jvm.Cond.fieldLink "GlyphLines$Font" (71 : Nat) "GlyphLines$Font" "widths" "I") ∈ tw_T := tw_of 133 (by decide +kernel) (by decide +kernel)
theorem w_134 : (Jvm.Cond.fieldLink "GlyphLines$Font" (74 : Nat) "GlyphLines$Font" "isLong" "Z") ∈ tw_T := tw_of 134 (by decide +kernel) (by decide +kernel)
theorem w_334 : (Jvm.Cond.methodLink "GlyphLines$Font" (78 : Nat) ({ cls := "java/lang/Math", name := "min", desc := "(II)I" } : Jvm.MethodName)) ∈ tw_T := tw_of 334 (by decide +kernel) (by decide +kernel)
theorem w_388 : (Jvm.Cond.constantLong "GlyphLines$Font" (110 : Nat) (1668112752 : Int64)) ∈ tw_T := tw_of 388 (by decide +kernel) (by decide +kernel)
theorem w_389 : (Jvm.Cond.methodLink "GlyphLines$Font" (115 : Nat) ({ cls := "GlyphLines$Directory", name := "find", desc := "(JLGlyphLines$Span;)Z" } : Jvm.MethodName)) ∈ tw_T := tw_of 389 (by decide +kernel) (by decide +kernel)
theorem w_390 : (Jvm.Cond.instanceMethod ({ cls := "GlyphLines$Directory", name := "find", desc := "(JLGlyphLines$Span;)Z" } : Jvm.MethodName)) ∈ tw_T := tw_of 390 (by decide +kernel) (by decide +kernel)
theorem w_391 : (Jvm.Cond.selects "GlyphLines$Directory" ({ cls := "GlyphLines$Directory", name := "find", desc := "(JLGlyphLines$Span;)Z" } : Jvm.MethodName) ({ cls := "GlyphLines$Directory", name := "find", desc := "(JLGlyphLines$Span;)Z" } : Jvm.MethodName)) ∈ tw_T := tw_of 391 (by decide +kernel) (by decide +kernel)
theorem w_392 : (Jvm.Cond.code ({ cls := "GlyphLines$Directory", name := "find", desc := "(JLGlyphLines$Span;)Z" } : Jvm.MethodName) prog_4_method_4_code (5 : Nat) (Option.some Jvm.ClassFile.FieldType.boolean)) ∈ tw_T := tw_of 392 (by decide +kernel) (by decide +kernel)
theorem w_393 : (Jvm.Cond.constantLong "GlyphLines$Font" (119 : Nat) (1735162214 : Int64)) ∈ tw_T := tw_of 393 (by decide +kernel) (by decide +kernel)
theorem w_394 : (Jvm.Cond.constantLong "GlyphLines$Font" (121 : Nat) (1751474532 : Int64)) ∈ tw_T := tw_of 394 (by decide +kernel) (by decide +kernel)
theorem w_395 : (Jvm.Cond.constantLong "GlyphLines$Font" (123 : Nat) (1751672161 : Int64)) ∈ tw_T := tw_of 395 (by decide +kernel) (by decide +kernel)
theorem w_396 : (Jvm.Cond.constantLong "GlyphLines$Font" (125 : Nat) (1752003704 : Int64)) ∈ tw_T := tw_of 396 (by decide +kernel) (by decide +kernel)
theorem w_397 : (Jvm.Cond.constantLong "GlyphLines$Font" (127 : Nat) (1819239265 : Int64)) ∈ tw_T := tw_of 397 (by decide +kernel) (by decide +kernel)
theorem w_398 : (Jvm.Cond.constantLong "GlyphLines$Font" (129 : Nat) (1835104368 : Int64)) ∈ tw_T := tw_of 398 (by decide +kernel) (by decide +kernel)
theorem w_403 : (Jvm.Cond.methodLink "GlyphLines$Font" (131 : Nat) ({ cls := "GlyphLines$Font", name := "headIsRight", desc := "()Z" } : Jvm.MethodName)) ∈ tw_T := tw_of 403 (by decide +kernel) (by decide +kernel)
theorem w_405 : (Jvm.Cond.instanceMethod ({ cls := "GlyphLines$Font", name := "headIsRight", desc := "()Z" } : Jvm.MethodName)) ∈ tw_T := tw_of 405 (by decide +kernel) (by decide +kernel)
theorem w_406 : (Jvm.Cond.code ({ cls := "GlyphLines$Font", name := "headIsRight", desc := "()Z" } : Jvm.MethodName) prog_5_method_5_code (2 : Nat) (Option.some Jvm.ClassFile.FieldType.boolean)) ∈ tw_T := tw_of 406 (by decide +kernel) (by decide +kernel)
theorem w_407 : (Jvm.Cond.methodLink "GlyphLines$Font" (145 : Nat) ({ cls := "GlyphLines$Span", name := "u16", desc := "(I)I" } : Jvm.MethodName)) ∈ tw_T := tw_of 407 (by decide +kernel) (by decide +kernel)
theorem w_408 : (Jvm.Cond.methodLink "GlyphLines$Font" (134 : Nat) ({ cls := "GlyphLines$Font", name := "countsAreRight", desc := "()Z" } : Jvm.MethodName)) ∈ tw_T := tw_of 408 (by decide +kernel) (by decide +kernel)
theorem w_410 : (Jvm.Cond.instanceMethod ({ cls := "GlyphLines$Font", name := "countsAreRight", desc := "()Z" } : Jvm.MethodName)) ∈ tw_T := tw_of 410 (by decide +kernel) (by decide +kernel)
theorem w_411 : (Jvm.Cond.code ({ cls := "GlyphLines$Font", name := "countsAreRight", desc := "()Z" } : Jvm.MethodName) prog_5_method_6_code (1 : Nat) (Option.some Jvm.ClassFile.FieldType.boolean)) ∈ tw_T := tw_of 411 (by decide +kernel) (by decide +kernel)
theorem w_412 : (Jvm.Cond.methodLink "GlyphLines$Font" (137 : Nat) ({ cls := "GlyphLines$Font", name := "placesAreRight", desc := "()Z" } : Jvm.MethodName)) ∈ tw_T := tw_of 412 (by decide +kernel) (by decide +kernel)
theorem w_414 : (Jvm.Cond.instanceMethod ({ cls := "GlyphLines$Font", name := "placesAreRight", desc := "()Z" } : Jvm.MethodName)) ∈ tw_T := tw_of 414 (by decide +kernel) (by decide +kernel)
theorem w_415 : (Jvm.Cond.code ({ cls := "GlyphLines$Font", name := "placesAreRight", desc := "()Z" } : Jvm.MethodName) prog_5_method_7_code (6 : Nat) (Option.some Jvm.ClassFile.FieldType.boolean)) ∈ tw_T := tw_of 415 (by decide +kernel) (by decide +kernel)
theorem w_416 : (Jvm.Cond.methodLink "GlyphLines$Font" (152 : Nat) ({ cls := "GlyphLines$Font", name := "placeOf", desc := "(I)J" } : Jvm.MethodName)) ∈ tw_T := tw_of 416 (by decide +kernel) (by decide +kernel)
theorem w_418 : (Jvm.Cond.instanceMethod ({ cls := "GlyphLines$Font", name := "placeOf", desc := "(I)J" } : Jvm.MethodName)) ∈ tw_T := tw_of 418 (by decide +kernel) (by decide +kernel)
theorem w_419 : (Jvm.Cond.code ({ cls := "GlyphLines$Font", name := "placeOf", desc := "(I)J" } : Jvm.MethodName) prog_5_method_9_code (2 : Nat) (Option.some Jvm.ClassFile.FieldType.long)) ∈ tw_T := tw_of 419 (by decide +kernel) (by decide +kernel)
theorem w_420 : (Jvm.Cond.methodLink "GlyphLines$Font" (168 : Nat) ({ cls := "GlyphLines$Span", name := "u32", desc := "(I)J" } : Jvm.MethodName)) ∈ tw_T := tw_of 420 (by decide +kernel) (by decide +kernel)
theorem w_421 : (Jvm.Cond.constantLong "GlyphLines$Font" (171 : Nat) (2 : Int64)) ∈ tw_T := tw_of 421 (by decide +kernel) (by decide +kernel)
theorem w_422 : (Jvm.Cond.methodLink "GlyphLines$Font" (140 : Nat) ({ cls := "GlyphLines$CharacterMap", name := "isRight", desc := "()Z" } : Jvm.MethodName)) ∈ tw_T := tw_of 422 (by decide +kernel) (by decide +kernel)
theorem w_423 : (Jvm.Cond.instanceMethod ({ cls := "GlyphLines$CharacterMap", name := "isRight", desc := "()Z" } : Jvm.MethodName)) ∈ tw_T := tw_of 423 (by decide +kernel) (by decide +kernel)
theorem w_424 : (Jvm.Cond.selects "GlyphLines$CharacterMap" ({ cls := "GlyphLines$CharacterMap", name := "isRight", desc := "()Z" } : Jvm.MethodName) ({ cls := "GlyphLines$CharacterMap", name := "isRight", desc := "()Z" } : Jvm.MethodName)) ∈ tw_T := tw_of 424 (by decide +kernel) (by decide +kernel)
theorem w_425 : (Jvm.Cond.code ({ cls := "GlyphLines$CharacterMap", name := "isRight", desc := "()Z" } : Jvm.MethodName) prog_3_method_2_code (4 : Nat) (Option.some Jvm.ClassFile.FieldType.boolean)) ∈ tw_T := tw_of 425 (by decide +kernel) (by decide +kernel)
theorem w_449 : (Jvm.Cond.methodLink "GlyphLines$Font" (142 : Nat) ({ cls := "GlyphLines$Font", name := "kernIsRight", desc := "()Z" } : Jvm.MethodName)) ∈ tw_T := tw_of 449 (by decide +kernel) (by decide +kernel)
theorem w_451 : (Jvm.Cond.instanceMethod ({ cls := "GlyphLines$Font", name := "kernIsRight", desc := "()Z" } : Jvm.MethodName)) ∈ tw_T := tw_of 451 (by decide +kernel) (by decide +kernel)
theorem w_452 : (Jvm.Cond.code ({ cls := "GlyphLines$Font", name := "kernIsRight", desc := "()Z" } : Jvm.MethodName) prog_5_method_8_code (1 : Nat) (Option.some Jvm.ClassFile.FieldType.boolean)) ∈ tw_T := tw_of 452 (by decide +kernel) (by decide +kernel)
theorem w_453 : (Jvm.Cond.constantLong "GlyphLines$Font" (159 : Nat) (1801810542 : Int64)) ∈ tw_T := tw_of 453 (by decide +kernel) (by decide +kernel)
theorem w_454 : (Jvm.Cond.methodLink "GlyphLines$Font" (164 : Nat) ({ cls := "GlyphLines$Pairs", name := "isRight", desc := "()Z" } : Jvm.MethodName)) ∈ tw_T := tw_of 454 (by decide +kernel) (by decide +kernel)
theorem w_455 : (Jvm.Cond.instanceMethod ({ cls := "GlyphLines$Pairs", name := "isRight", desc := "()Z" } : Jvm.MethodName)) ∈ tw_T := tw_of 455 (by decide +kernel) (by decide +kernel)
theorem w_456 : (Jvm.Cond.selects "GlyphLines$Pairs" ({ cls := "GlyphLines$Pairs", name := "isRight", desc := "()Z" } : Jvm.MethodName) ({ cls := "GlyphLines$Pairs", name := "isRight", desc := "()Z" } : Jvm.MethodName)) ∈ tw_T := tw_of 456 (by decide +kernel) (by decide +kernel)
theorem w_457 : (Jvm.Cond.code ({ cls := "GlyphLines$Pairs", name := "isRight", desc := "()Z" } : Jvm.MethodName) prog_8_method_3_code (1 : Nat) (Option.some Jvm.ClassFile.FieldType.boolean)) ∈ tw_T := tw_of 457 (by decide +kernel) (by decide +kernel)
theorem w_462 : (Jvm.Cond.methodLink "GlyphLines$Font" (165 : Nat) ({ cls := "GlyphLines$Pairs", name := "haveNone", desc := "()V" } : Jvm.MethodName)) ∈ tw_T := tw_of 462 (by decide +kernel) (by decide +kernel)
theorem w_463 : (Jvm.Cond.instanceMethod ({ cls := "GlyphLines$Pairs", name := "haveNone", desc := "()V" } : Jvm.MethodName)) ∈ tw_T := tw_of 463 (by decide +kernel) (by decide +kernel)
theorem w_464 : (Jvm.Cond.selects "GlyphLines$Pairs" ({ cls := "GlyphLines$Pairs", name := "haveNone", desc := "()V" } : Jvm.MethodName) ({ cls := "GlyphLines$Pairs", name := "haveNone", desc := "()V" } : Jvm.MethodName)) ∈ tw_T := tw_of 464 (by decide +kernel) (by decide +kernel)
theorem w_465 : (Jvm.Cond.code ({ cls := "GlyphLines$Pairs", name := "haveNone", desc := "()V" } : Jvm.MethodName) prog_8_method_2_code (1 : Nat) (Option.none : Option Jvm.ClassFile.FieldType)) ∈ tw_T := tw_of 465 (by decide +kernel) (by decide +kernel)
theorem w_478 : (Jvm.Cond.methodLink "GlyphLines$Font" (179 : Nat) ({ cls := "java/lang/Math", name := "max", desc := "(II)I" } : Jvm.MethodName)) ∈ tw_T := tw_of 478 (by decide +kernel) (by decide +kernel)
theorem w_479 : (Jvm.Cond.methodLink "GlyphLines$Font" (185 : Nat) ({ cls := "GlyphLines$Span", name := "lay", desc := "(II)V" } : Jvm.MethodName)) ∈ tw_T := tw_of 479 (by decide +kernel) (by decide +kernel)
theorem w_683 : (Jvm.Cond.methodLink "GlyphLines$Font" (173 : Nat) ({ cls := "GlyphLines$CharacterMap", name := "numberOf", desc := "(I)I" } : Jvm.MethodName)) ∈ tw_T := tw_of 683 (by decide +kernel) (by decide +kernel)
theorem w_684 : (Jvm.Cond.instanceMethod ({ cls := "GlyphLines$CharacterMap", name := "numberOf", desc := "(I)I" } : Jvm.MethodName)) ∈ tw_T := tw_of 684 (by decide +kernel) (by decide +kernel)
theorem w_685 : (Jvm.Cond.selects "GlyphLines$CharacterMap" ({ cls := "GlyphLines$CharacterMap", name := "numberOf", desc := "(I)I" } : Jvm.MethodName) ({ cls := "GlyphLines$CharacterMap", name := "numberOf", desc := "(I)I" } : Jvm.MethodName)) ∈ tw_T := tw_of 685 (by decide +kernel) (by decide +kernel)
theorem w_686 : (Jvm.Cond.code ({ cls := "GlyphLines$CharacterMap", name := "numberOf", desc := "(I)I" } : Jvm.MethodName) prog_3_method_5_code (3 : Nat) (Option.some Jvm.ClassFile.FieldType.int)) ∈ tw_T := tw_of 686 (by decide +kernel) (by decide +kernel)
theorem w_730 : (Jvm.Cond.methodLink "GlyphLines$Font" (176 : Nat) ({ cls := "GlyphLines$Pairs", name := "between", desc := "(II)I" } : Jvm.MethodName)) ∈ tw_T := tw_of 730 (by decide +kernel) (by decide +kernel)
theorem w_731 : (Jvm.Cond.instanceMethod ({ cls := "GlyphLines$Pairs", name := "between", desc := "(II)I" } : Jvm.MethodName)) ∈ tw_T := tw_of 731 (by decide +kernel) (by decide +kernel)
theorem w_732 : (Jvm.Cond.selects "GlyphLines$Pairs" ({ cls := "GlyphLines$Pairs", name := "between", desc := "(II)I" } : Jvm.MethodName) ({ cls := "GlyphLines$Pairs", name := "between", desc := "(II)I" } : Jvm.MethodName)) ∈ tw_T := tw_of 732 (by decide +kernel) (by decide +kernel)
theorem w_733 : (Jvm.Cond.code ({ cls := "GlyphLines$Pairs", name := "between", desc := "(II)I" } : Jvm.MethodName) prog_8_method_4_code (4 : Nat) (Option.some Jvm.ClassFile.FieldType.int)) ∈ tw_T := tw_of 733 (by decide +kernel) (by decide +kernel)
theorem wp_4 : Cond.selects "GlyphLines$Font" ({ cls := "GlyphLines$Font", name := "headIsRight", desc := "()Z" } : Jvm.MethodName) ({ cls := "GlyphLines$Font", name := "headIsRight", desc := "()Z" } : Jvm.MethodName) ∈ tw_T := tw_priv 4 (({ cls := "GlyphLines$Font", name := "headIsRight", desc := "()Z" } : Jvm.MethodName), 15) (by decide +kernel) (by decide +kernel)
theorem wp_5 : Cond.selects "GlyphLines$Font" ({ cls := "GlyphLines$Font", name := "countsAreRight", desc := "()Z" } : Jvm.MethodName) ({ cls := "GlyphLines$Font", name := "countsAreRight", desc := "()Z" } : Jvm.MethodName) ∈ tw_T := tw_priv 5 (({ cls := "GlyphLines$Font", name := "countsAreRight", desc := "()Z" } : Jvm.MethodName), 15) (by decide +kernel) (by decide +kernel)
theorem wp_6 : Cond.selects "GlyphLines$Font" ({ cls := "GlyphLines$Font", name := "placesAreRight", desc := "()Z" } : Jvm.MethodName) ({ cls := "GlyphLines$Font", name := "placesAreRight", desc := "()Z" } : Jvm.MethodName) ∈ tw_T := tw_priv 6 (({ cls := "GlyphLines$Font", name := "placesAreRight", desc := "()Z" } : Jvm.MethodName), 15) (by decide +kernel) (by decide +kernel)
theorem wp_7 : Cond.selects "GlyphLines$Font" ({ cls := "GlyphLines$Font", name := "placeOf", desc := "(I)J" } : Jvm.MethodName) ({ cls := "GlyphLines$Font", name := "placeOf", desc := "(I)J" } : Jvm.MethodName) ∈ tw_T := tw_priv 7 (({ cls := "GlyphLines$Font", name := "placeOf", desc := "(I)J" } : Jvm.MethodName), 15) (by decide +kernel) (by decide +kernel)
theorem wp_12 : Cond.selects "GlyphLines$Font" ({ cls := "GlyphLines$Font", name := "kernIsRight", desc := "()Z" } : Jvm.MethodName) ({ cls := "GlyphLines$Font", name := "kernIsRight", desc := "()Z" } : Jvm.MethodName) ∈ tw_T := tw_priv 12 (({ cls := "GlyphLines$Font", name := "kernIsRight", desc := "()Z" } : Jvm.MethodName), 15) (by decide +kernel) (by decide +kernel)
theorem d_FO_countsAreRight_0 : decode b_FO_countsAreRight 0 = .ok (.aload_n 0, 1) := by decide +kernel
theorem d_FO_countsAreRight_1 : decode b_FO_countsAreRight 1 = .ok (.aload_n 0, 1) := by decide +kernel
theorem d_FO_countsAreRight_101 : decode b_FO_countsAreRight 101 = .ok (.iconst 1, 1) := by decide +kernel
theorem d_FO_countsAreRight_102 : decode b_FO_countsAreRight 102 = .ok (.goto (4), 3) := by decide +kernel
theorem d_FO_countsAreRight_105 : decode b_FO_countsAreRight 105 = .ok (.iconst 0, 1) := by decide +kernel
theorem d_FO_countsAreRight_106 : decode b_FO_countsAreRight 106 = .ok (.ireturn, 1) := by decide +kernel
theorem d_FO_countsAreRight_12 : decode b_FO_countsAreRight 12 = .ok (.aload_n 0, 1) := by decide +kernel
theorem d_FO_countsAreRight_13 : decode b_FO_countsAreRight 13 = .ok (.aload_n 0, 1) := by decide +kernel
theorem d_FO_countsAreRight_14 : decode b_FO_countsAreRight 14 = .ok (.getfield 34, 3) := by decide +kernel
theorem d_FO_countsAreRight_17 : decode b_FO_countsAreRight 17 = .ok (.bipush 34, 2) := by decide +kernel
theorem d_FO_countsAreRight_19 : decode b_FO_countsAreRight 19 = .ok (.invokevirtual 145, 3) := by decide +kernel
theorem d_FO_countsAreRight_2 : decode b_FO_countsAreRight 2 = .ok (.getfield 31, 3) := by decide +kernel
theorem d_FO_countsAreRight_22 : decode b_FO_countsAreRight 22 = .ok (.putfield 71, 3) := by decide +kernel
theorem d_FO_countsAreRight_25 : decode b_FO_countsAreRight 25 = .ok (.aload_n 0, 1) := by decide +kernel
theorem d_FO_countsAreRight_26 : decode b_FO_countsAreRight 26 = .ok (.getfield 31, 3) := by decide +kernel
theorem d_FO_countsAreRight_29 : decode b_FO_countsAreRight 29 = .ok (.getfield 149, 3) := by decide +kernel
theorem d_FO_countsAreRight_32 : decode b_FO_countsAreRight 32 = .ok (.bipush 6, 2) := by decide +kernel
theorem d_FO_countsAreRight_34 : decode b_FO_countsAreRight 34 = .ok (.if_icmp .lt (71), 3) := by decide +kernel
theorem d_FO_countsAreRight_37 : decode b_FO_countsAreRight 37 = .ok (.aload_n 0, 1) := by decide +kernel
theorem d_FO_countsAreRight_38 : decode b_FO_countsAreRight 38 = .ok (.getfield 68, 3) := by decide +kernel
theorem d_FO_countsAreRight_41 : decode b_FO_countsAreRight 41 = .ok (.iconst 1, 1) := by decide +kernel
theorem d_FO_countsAreRight_42 : decode b_FO_countsAreRight 42 = .ok (.if_icmp .lt (63), 3) := by decide +kernel
theorem d_FO_countsAreRight_45 : decode b_FO_countsAreRight 45 = .ok (.aload_n 0, 1) := by decide +kernel
theorem d_FO_countsAreRight_46 : decode b_FO_countsAreRight 46 = .ok (.getfield 68, 3) := by decide +kernel
theorem d_FO_countsAreRight_49 : decode b_FO_countsAreRight 49 = .ok (.bipush 16, 2) := by decide +kernel
theorem d_FO_countsAreRight_5 : decode b_FO_countsAreRight 5 = .ok (.iconst 4, 1) := by decide +kernel
theorem d_FO_countsAreRight_51 : decode b_FO_countsAreRight 51 = .ok (.if_icmp .gt (54), 3) := by decide +kernel
theorem d_FO_countsAreRight_54 : decode b_FO_countsAreRight 54 = .ok (.aload_n 0, 1) := by decide +kernel
theorem d_FO_countsAreRight_55 : decode b_FO_countsAreRight 55 = .ok (.getfield 34, 3) := by decide +kernel
theorem d_FO_countsAreRight_58 : decode b_FO_countsAreRight 58 = .ok (.getfield 149, 3) := by decide +kernel
theorem d_FO_countsAreRight_6 : decode b_FO_countsAreRight 6 = .ok (.invokevirtual 145, 3) := by decide +kernel
theorem d_FO_countsAreRight_61 : decode b_FO_countsAreRight 61 = .ok (.bipush 36, 2) := by decide +kernel
theorem d_FO_countsAreRight_63 : decode b_FO_countsAreRight 63 = .ok (.if_icmp .lt (42), 3) := by decide +kernel
theorem d_FO_countsAreRight_66 : decode b_FO_countsAreRight 66 = .ok (.aload_n 0, 1) := by decide +kernel
theorem d_FO_countsAreRight_67 : decode b_FO_countsAreRight 67 = .ok (.getfield 71, 3) := by decide +kernel
theorem d_FO_countsAreRight_70 : decode b_FO_countsAreRight 70 = .ok (.iconst 1, 1) := by decide +kernel
theorem d_FO_countsAreRight_71 : decode b_FO_countsAreRight 71 = .ok (.if_icmp .lt (34), 3) := by decide +kernel
theorem d_FO_countsAreRight_74 : decode b_FO_countsAreRight 74 = .ok (.aload_n 0, 1) := by decide +kernel
theorem d_FO_countsAreRight_75 : decode b_FO_countsAreRight 75 = .ok (.getfield 71, 3) := by decide +kernel
theorem d_FO_countsAreRight_78 : decode b_FO_countsAreRight 78 = .ok (.aload_n 0, 1) := by decide +kernel
theorem d_FO_countsAreRight_79 : decode b_FO_countsAreRight 79 = .ok (.getfield 68, 3) := by decide +kernel
theorem d_FO_countsAreRight_82 : decode b_FO_countsAreRight 82 = .ok (.if_icmp .gt (23), 3) := by decide +kernel
theorem d_FO_countsAreRight_85 : decode b_FO_countsAreRight 85 = .ok (.aload_n 0, 1) := by decide +kernel
theorem d_FO_countsAreRight_86 : decode b_FO_countsAreRight 86 = .ok (.getfield 37, 3) := by decide +kernel
theorem d_FO_countsAreRight_89 : decode b_FO_countsAreRight 89 = .ok (.getfield 149, 3) := by decide +kernel
theorem d_FO_countsAreRight_9 : decode b_FO_countsAreRight 9 = .ok (.putfield 68, 3) := by decide +kernel
theorem d_FO_countsAreRight_92 : decode b_FO_countsAreRight 92 = .ok (.iconst 4, 1) := by decide +kernel
theorem d_FO_countsAreRight_93 : decode b_FO_countsAreRight 93 = .ok (.aload_n 0, 1) := by decide +kernel
theorem d_FO_countsAreRight_94 : decode b_FO_countsAreRight 94 = .ok (.getfield 71, 3) := by decide +kernel
theorem d_FO_countsAreRight_97 : decode b_FO_countsAreRight 97 = .ok (.imul, 1) := by decide +kernel
theorem d_FO_countsAreRight_98 : decode b_FO_countsAreRight 98 = .ok (.if_icmp .lt (7), 3) := by decide +kernel
theorem d_FO_dataOf_0 : decode b_FO_dataOf 0 = .ok (.aload_n 0, 1) := by decide +kernel
theorem d_FO_dataOf_1 : decode b_FO_dataOf 1 = .ok (.getfield 60, 3) := by decide +kernel
theorem d_FO_dataOf_10 : decode b_FO_dataOf 10 = .ok (.arraylength, 1) := by decide +kernel
theorem d_FO_dataOf_11 : decode b_FO_dataOf 11 = .ok (.invokestatic 78, 3) := by decide +kernel
theorem d_FO_dataOf_14 : decode b_FO_dataOf 14 = .ok (.iconst 1, 1) := by decide +kernel
theorem d_FO_dataOf_15 : decode b_FO_dataOf 15 = .ok (.isub, 1) := by decide +kernel
theorem d_FO_dataOf_16 : decode b_FO_dataOf 16 = .ok (.invokestatic 179, 3) := by decide +kernel
theorem d_FO_dataOf_19 : decode b_FO_dataOf 19 = .ok (.aaload, 1) := by decide +kernel
theorem d_FO_dataOf_20 : decode b_FO_dataOf 20 = .ok (.astore_n 3, 1) := by decide +kernel
theorem d_FO_dataOf_21 : decode b_FO_dataOf 21 = .ok (.aload_n 0, 1) := by decide +kernel
theorem d_FO_dataOf_22 : decode b_FO_dataOf 22 = .ok (.iload_n 1, 1) := by decide +kernel
theorem d_FO_dataOf_23 : decode b_FO_dataOf 23 = .ok (.invokevirtual 152, 3) := by decide +kernel
theorem d_FO_dataOf_26 : decode b_FO_dataOf 26 = .ok (.l2i, 1) := by decide +kernel
theorem d_FO_dataOf_27 : decode b_FO_dataOf 27 = .ok (.istore 4, 2) := by decide +kernel
theorem d_FO_dataOf_29 : decode b_FO_dataOf 29 = .ok (.aload_n 3, 1) := by decide +kernel
theorem d_FO_dataOf_30 : decode b_FO_dataOf 30 = .ok (.aload_n 0, 1) := by decide +kernel
theorem d_FO_dataOf_31 : decode b_FO_dataOf 31 = .ok (.getfield 43, 3) := by decide +kernel
theorem d_FO_dataOf_34 : decode b_FO_dataOf 34 = .ok (.getfield 182, 3) := by decide +kernel
theorem d_FO_dataOf_37 : decode b_FO_dataOf 37 = .ok (.iload 4, 2) := by decide +kernel
theorem d_FO_dataOf_39 : decode b_FO_dataOf 39 = .ok (.iadd, 1) := by decide +kernel
theorem d_FO_dataOf_4 : decode b_FO_dataOf 4 = .ok (.iconst 0, 1) := by decide +kernel
theorem d_FO_dataOf_40 : decode b_FO_dataOf 40 = .ok (.aload_n 0, 1) := by decide +kernel
theorem d_FO_dataOf_41 : decode b_FO_dataOf 41 = .ok (.iload_n 1, 1) := by decide +kernel
theorem d_FO_dataOf_42 : decode b_FO_dataOf 42 = .ok (.iconst 1, 1) := by decide +kernel
theorem d_FO_dataOf_43 : decode b_FO_dataOf 43 = .ok (.iadd, 1) := by decide +kernel
theorem d_FO_dataOf_44 : decode b_FO_dataOf 44 = .ok (.invokevirtual 152, 3) := by decide +kernel
theorem d_FO_dataOf_47 : decode b_FO_dataOf 47 = .ok (.l2i, 1) := by decide +kernel
theorem d_FO_dataOf_48 : decode b_FO_dataOf 48 = .ok (.iload 4, 2) := by decide +kernel
theorem d_FO_dataOf_5 : decode b_FO_dataOf 5 = .ok (.iload_n 2, 1) := by decide +kernel
theorem d_FO_dataOf_50 : decode b_FO_dataOf 50 = .ok (.isub, 1) := by decide +kernel
theorem d_FO_dataOf_51 : decode b_FO_dataOf 51 = .ok (.invokevirtual 185, 3) := by decide +kernel
theorem d_FO_dataOf_54 : decode b_FO_dataOf 54 = .ok (.aload_n 3, 1) := by decide +kernel
theorem d_FO_dataOf_55 : decode b_FO_dataOf 55 = .ok (.areturn, 1) := by decide +kernel
theorem d_FO_dataOf_6 : decode b_FO_dataOf 6 = .ok (.aload_n 0, 1) := by decide +kernel
theorem d_FO_dataOf_7 : decode b_FO_dataOf 7 = .ok (.getfield 60, 3) := by decide +kernel
theorem d_FO_findTables_0 : decode b_FO_findTables 0 = .ok (.aload_n 0, 1) := by decide +kernel
theorem d_FO_findTables_1 : decode b_FO_findTables 1 = .ok (.getfield 20, 3) := by decide +kernel
theorem d_FO_findTables_102 : decode b_FO_findTables 102 = .ok (.ifCond .eq (24), 3) := by decide +kernel
theorem d_FO_findTables_105 : decode b_FO_findTables 105 = .ok (.aload_n 0, 1) := by decide +kernel
theorem d_FO_findTables_106 : decode b_FO_findTables 106 = .ok (.getfield 20, 3) := by decide +kernel
theorem d_FO_findTables_109 : decode b_FO_findTables 109 = .ok (.ldc2_w 129, 3) := by decide +kernel
theorem d_FO_findTables_11 : decode b_FO_findTables 11 = .ok (.getfield 112, 3) := by decide +kernel
theorem d_FO_findTables_112 : decode b_FO_findTables 112 = .ok (.aload_n 0, 1) := by decide +kernel
theorem d_FO_findTables_113 : decode b_FO_findTables 113 = .ok (.getfield 31, 3) := by decide +kernel
theorem d_FO_findTables_116 : decode b_FO_findTables 116 = .ok (.invokevirtual 115, 3) := by decide +kernel
theorem d_FO_findTables_119 : decode b_FO_findTables 119 = .ok (.ifCond .eq (7), 3) := by decide +kernel
theorem d_FO_findTables_122 : decode b_FO_findTables 122 = .ok (.iconst 1, 1) := by decide +kernel
theorem d_FO_findTables_123 : decode b_FO_findTables 123 = .ok (.goto (4), 3) := by decide +kernel
theorem d_FO_findTables_126 : decode b_FO_findTables 126 = .ok (.iconst 0, 1) := by decide +kernel
theorem d_FO_findTables_127 : decode b_FO_findTables 127 = .ok (.ireturn, 1) := by decide +kernel
theorem d_FO_findTables_14 : decode b_FO_findTables 14 = .ok (.invokevirtual 115, 3) := by decide +kernel
theorem d_FO_findTables_17 : decode b_FO_findTables 17 = .ok (.ifCond .eq (109), 3) := by decide +kernel
theorem d_FO_findTables_20 : decode b_FO_findTables 20 = .ok (.aload_n 0, 1) := by decide +kernel
theorem d_FO_findTables_21 : decode b_FO_findTables 21 = .ok (.getfield 20, 3) := by decide +kernel
theorem d_FO_findTables_24 : decode b_FO_findTables 24 = .ok (.ldc2_w 119, 3) := by decide +kernel
theorem d_FO_findTables_27 : decode b_FO_findTables 27 = .ok (.aload_n 0, 1) := by decide +kernel
theorem d_FO_findTables_28 : decode b_FO_findTables 28 = .ok (.getfield 43, 3) := by decide +kernel
theorem d_FO_findTables_31 : decode b_FO_findTables 31 = .ok (.invokevirtual 115, 3) := by decide +kernel
theorem d_FO_findTables_34 : decode b_FO_findTables 34 = .ok (.ifCond .eq (92), 3) := by decide +kernel
theorem d_FO_findTables_37 : decode b_FO_findTables 37 = .ok (.aload_n 0, 1) := by decide +kernel
theorem d_FO_findTables_38 : decode b_FO_findTables 38 = .ok (.getfield 20, 3) := by decide +kernel
theorem d_FO_findTables_4 : decode b_FO_findTables 4 = .ok (.ldc2_w 110, 3) := by decide +kernel
theorem d_FO_findTables_41 : decode b_FO_findTables 41 = .ok (.ldc2_w 121, 3) := by decide +kernel
theorem d_FO_findTables_44 : decode b_FO_findTables 44 = .ok (.aload_n 0, 1) := by decide +kernel
theorem d_FO_findTables_45 : decode b_FO_findTables 45 = .ok (.getfield 27, 3) := by decide +kernel
theorem d_FO_findTables_48 : decode b_FO_findTables 48 = .ok (.invokevirtual 115, 3) := by decide +kernel
theorem d_FO_findTables_51 : decode b_FO_findTables 51 = .ok (.ifCond .eq (75), 3) := by decide +kernel
theorem d_FO_findTables_54 : decode b_FO_findTables 54 = .ok (.aload_n 0, 1) := by decide +kernel
theorem d_FO_findTables_55 : decode b_FO_findTables 55 = .ok (.getfield 20, 3) := by decide +kernel
theorem d_FO_findTables_58 : decode b_FO_findTables 58 = .ok (.ldc2_w 123, 3) := by decide +kernel
theorem d_FO_findTables_61 : decode b_FO_findTables 61 = .ok (.aload_n 0, 1) := by decide +kernel
theorem d_FO_findTables_62 : decode b_FO_findTables 62 = .ok (.getfield 34, 3) := by decide +kernel
theorem d_FO_findTables_65 : decode b_FO_findTables 65 = .ok (.invokevirtual 115, 3) := by decide +kernel
theorem d_FO_findTables_68 : decode b_FO_findTables 68 = .ok (.ifCond .eq (58), 3) := by decide +kernel
theorem d_FO_findTables_7 : decode b_FO_findTables 7 = .ok (.aload_n 0, 1) := by decide +kernel
theorem d_FO_findTables_71 : decode b_FO_findTables 71 = .ok (.aload_n 0, 1) := by decide +kernel
theorem d_FO_findTables_72 : decode b_FO_findTables 72 = .ok (.getfield 20, 3) := by decide +kernel
theorem d_FO_findTables_75 : decode b_FO_findTables 75 = .ok (.ldc2_w 125, 3) := by decide +kernel
theorem d_FO_findTables_78 : decode b_FO_findTables 78 = .ok (.aload_n 0, 1) := by decide +kernel
theorem d_FO_findTables_79 : decode b_FO_findTables 79 = .ok (.getfield 37, 3) := by decide +kernel
theorem d_FO_findTables_8 : decode b_FO_findTables 8 = .ok (.getfield 49, 3) := by decide +kernel
theorem d_FO_findTables_82 : decode b_FO_findTables 82 = .ok (.invokevirtual 115, 3) := by decide +kernel
theorem d_FO_findTables_85 : decode b_FO_findTables 85 = .ok (.ifCond .eq (41), 3) := by decide +kernel
theorem d_FO_findTables_88 : decode b_FO_findTables 88 = .ok (.aload_n 0, 1) := by decide +kernel
theorem d_FO_findTables_89 : decode b_FO_findTables 89 = .ok (.getfield 20, 3) := by decide +kernel
theorem d_FO_findTables_92 : decode b_FO_findTables 92 = .ok (.ldc2_w 127, 3) := by decide +kernel
theorem d_FO_findTables_95 : decode b_FO_findTables 95 = .ok (.aload_n 0, 1) := by decide +kernel
theorem d_FO_findTables_96 : decode b_FO_findTables 96 = .ok (.getfield 40, 3) := by decide +kernel
theorem d_FO_findTables_99 : decode b_FO_findTables 99 = .ok (.invokevirtual 115, 3) := by decide +kernel
theorem d_FO_formsAreRight_0 : decode b_FO_formsAreRight 0 = .ok (.aload_n 0, 1) := by decide +kernel
theorem d_FO_formsAreRight_1 : decode b_FO_formsAreRight 1 = .ok (.invokevirtual 131, 3) := by decide +kernel
theorem d_FO_formsAreRight_11 : decode b_FO_formsAreRight 11 = .ok (.ifCond .eq (31), 3) := by decide +kernel
theorem d_FO_formsAreRight_14 : decode b_FO_formsAreRight 14 = .ok (.aload_n 0, 1) := by decide +kernel
theorem d_FO_formsAreRight_15 : decode b_FO_formsAreRight 15 = .ok (.invokevirtual 137, 3) := by decide +kernel
theorem d_FO_formsAreRight_18 : decode b_FO_formsAreRight 18 = .ok (.ifCond .eq (24), 3) := by decide +kernel
theorem d_FO_formsAreRight_21 : decode b_FO_formsAreRight 21 = .ok (.aload_n 0, 1) := by decide +kernel
theorem d_FO_formsAreRight_22 : decode b_FO_formsAreRight 22 = .ok (.getfield 49, 3) := by decide +kernel
theorem d_FO_formsAreRight_25 : decode b_FO_formsAreRight 25 = .ok (.invokevirtual 140, 3) := by decide +kernel
theorem d_FO_formsAreRight_28 : decode b_FO_formsAreRight 28 = .ok (.ifCond .eq (14), 3) := by decide +kernel
theorem d_FO_formsAreRight_31 : decode b_FO_formsAreRight 31 = .ok (.aload_n 0, 1) := by decide +kernel
theorem d_FO_formsAreRight_32 : decode b_FO_formsAreRight 32 = .ok (.invokevirtual 142, 3) := by decide +kernel
theorem d_FO_formsAreRight_35 : decode b_FO_formsAreRight 35 = .ok (.ifCond .eq (7), 3) := by decide +kernel
theorem d_FO_formsAreRight_38 : decode b_FO_formsAreRight 38 = .ok (.iconst 1, 1) := by decide +kernel
theorem d_FO_formsAreRight_39 : decode b_FO_formsAreRight 39 = .ok (.goto (4), 3) := by decide +kernel
theorem d_FO_formsAreRight_4 : decode b_FO_formsAreRight 4 = .ok (.ifCond .eq (38), 3) := by decide +kernel
theorem d_FO_formsAreRight_42 : decode b_FO_formsAreRight 42 = .ok (.iconst 0, 1) := by decide +kernel
theorem d_FO_formsAreRight_43 : decode b_FO_formsAreRight 43 = .ok (.ireturn, 1) := by decide +kernel
theorem d_FO_formsAreRight_7 : decode b_FO_formsAreRight 7 = .ok (.aload_n 0, 1) := by decide +kernel
theorem d_FO_formsAreRight_8 : decode b_FO_formsAreRight 8 = .ok (.invokevirtual 134, 3) := by decide +kernel
theorem d_FO_glyphOf_0 : decode b_FO_glyphOf 0 = .ok (.aload_n 0, 1) := by decide +kernel
theorem d_FO_glyphOf_1 : decode b_FO_glyphOf 1 = .ok (.getfield 49, 3) := by decide +kernel
theorem d_FO_glyphOf_10 : decode b_FO_glyphOf 10 = .ok (.aload_n 0, 1) := by decide +kernel
theorem d_FO_glyphOf_11 : decode b_FO_glyphOf 11 = .ok (.getfield 68, 3) := by decide +kernel
theorem d_FO_glyphOf_14 : decode b_FO_glyphOf 14 = .ok (.if_icmp .ge (7), 3) := by decide +kernel
theorem d_FO_glyphOf_17 : decode b_FO_glyphOf 17 = .ok (.iload_n 2, 1) := by decide +kernel
theorem d_FO_glyphOf_18 : decode b_FO_glyphOf 18 = .ok (.goto (4), 3) := by decide +kernel
theorem d_FO_glyphOf_21 : decode b_FO_glyphOf 21 = .ok (.iconst 0, 1) := by decide +kernel
theorem d_FO_glyphOf_22 : decode b_FO_glyphOf 22 = .ok (.ireturn, 1) := by decide +kernel
theorem d_FO_glyphOf_4 : decode b_FO_glyphOf 4 = .ok (.iload_n 1, 1) := by decide +kernel
theorem d_FO_glyphOf_5 : decode b_FO_glyphOf 5 = .ok (.invokevirtual 173, 3) := by decide +kernel
theorem d_FO_glyphOf_8 : decode b_FO_glyphOf 8 = .ok (.istore_n 2, 1) := by decide +kernel
theorem d_FO_glyphOf_9 : decode b_FO_glyphOf 9 = .ok (.iload_n 2, 1) := by decide +kernel
theorem d_FO_headIsRight_0 : decode b_FO_headIsRight 0 = .ok (.aload_n 0, 1) := by decide +kernel
theorem d_FO_headIsRight_1 : decode b_FO_headIsRight 1 = .ok (.aload_n 0, 1) := by decide +kernel
theorem d_FO_headIsRight_10 : decode b_FO_headIsRight 10 = .ok (.putfield 64, 3) := by decide +kernel
theorem d_FO_headIsRight_13 : decode b_FO_headIsRight 13 = .ok (.aload_n 0, 1) := by decide +kernel
theorem d_FO_headIsRight_14 : decode b_FO_headIsRight 14 = .ok (.getfield 27, 3) := by decide +kernel
theorem d_FO_headIsRight_17 : decode b_FO_headIsRight 17 = .ok (.bipush 50, 2) := by decide +kernel
theorem d_FO_headIsRight_19 : decode b_FO_headIsRight 19 = .ok (.invokevirtual 145, 3) := by decide +kernel
theorem d_FO_headIsRight_2 : decode b_FO_headIsRight 2 = .ok (.getfield 27, 3) := by decide +kernel
theorem d_FO_headIsRight_22 : decode b_FO_headIsRight 22 = .ok (.istore_n 1, 1) := by decide +kernel
theorem d_FO_headIsRight_23 : decode b_FO_headIsRight 23 = .ok (.aload_n 0, 1) := by decide +kernel
theorem d_FO_headIsRight_24 : decode b_FO_headIsRight 24 = .ok (.iload_n 1, 1) := by decide +kernel
theorem d_FO_headIsRight_25 : decode b_FO_headIsRight 25 = .ok (.iconst 1, 1) := by decide +kernel
theorem d_FO_headIsRight_26 : decode b_FO_headIsRight 26 = .ok (.if_icmp .ne (7), 3) := by decide +kernel
theorem d_FO_headIsRight_29 : decode b_FO_headIsRight 29 = .ok (.iconst 1, 1) := by decide +kernel
theorem d_FO_headIsRight_30 : decode b_FO_headIsRight 30 = .ok (.goto (4), 3) := by decide +kernel
theorem d_FO_headIsRight_33 : decode b_FO_headIsRight 33 = .ok (.iconst 0, 1) := by decide +kernel
theorem d_FO_headIsRight_34 : decode b_FO_headIsRight 34 = .ok (.putfield 74, 3) := by decide +kernel
theorem d_FO_headIsRight_37 : decode b_FO_headIsRight 37 = .ok (.aload_n 0, 1) := by decide +kernel
theorem d_FO_headIsRight_38 : decode b_FO_headIsRight 38 = .ok (.getfield 27, 3) := by decide +kernel
theorem d_FO_headIsRight_41 : decode b_FO_headIsRight 41 = .ok (.getfield 149, 3) := by decide +kernel
theorem d_FO_headIsRight_44 : decode b_FO_headIsRight 44 = .ok (.bipush 54, 2) := by decide +kernel
theorem d_FO_headIsRight_46 : decode b_FO_headIsRight 46 = .ok (.if_icmp .lt (31), 3) := by decide +kernel
theorem d_FO_headIsRight_49 : decode b_FO_headIsRight 49 = .ok (.aload_n 0, 1) := by decide +kernel
theorem d_FO_headIsRight_5 : decode b_FO_headIsRight 5 = .ok (.bipush 18, 2) := by decide +kernel
theorem d_FO_headIsRight_50 : decode b_FO_headIsRight 50 = .ok (.getfield 64, 3) := by decide +kernel
theorem d_FO_headIsRight_53 : decode b_FO_headIsRight 53 = .ok (.bipush 64, 2) := by decide +kernel
theorem d_FO_headIsRight_55 : decode b_FO_headIsRight 55 = .ok (.if_icmp .lt (22), 3) := by decide +kernel
theorem d_FO_headIsRight_58 : decode b_FO_headIsRight 58 = .ok (.aload_n 0, 1) := by decide +kernel
theorem d_FO_headIsRight_59 : decode b_FO_headIsRight 59 = .ok (.getfield 64, 3) := by decide +kernel
theorem d_FO_headIsRight_62 : decode b_FO_headIsRight 62 = .ok (.sipush 2048, 3) := by decide +kernel
theorem d_FO_headIsRight_65 : decode b_FO_headIsRight 65 = .ok (.if_icmp .gt (12), 3) := by decide +kernel
theorem d_FO_headIsRight_68 : decode b_FO_headIsRight 68 = .ok (.iload_n 1, 1) := by decide +kernel
theorem d_FO_headIsRight_69 : decode b_FO_headIsRight 69 = .ok (.iconst 1, 1) := by decide +kernel
theorem d_FO_headIsRight_7 : decode b_FO_headIsRight 7 = .ok (.invokevirtual 145, 3) := by decide +kernel
theorem d_FO_headIsRight_70 : decode b_FO_headIsRight 70 = .ok (.if_icmp .gt (7), 3) := by decide +kernel
theorem d_FO_headIsRight_73 : decode b_FO_headIsRight 73 = .ok (.iconst 1, 1) := by decide +kernel
theorem d_FO_headIsRight_74 : decode b_FO_headIsRight 74 = .ok (.goto (4), 3) := by decide +kernel
theorem d_FO_headIsRight_77 : decode b_FO_headIsRight 77 = .ok (.iconst 0, 1) := by decide +kernel
theorem d_FO_headIsRight_78 : decode b_FO_headIsRight 78 = .ok (.ireturn, 1) := by decide +kernel
theorem d_FO_kernIsRight_0 : decode b_FO_kernIsRight 0 = .ok (.aload_n 0, 1) := by decide +kernel
theorem d_FO_kernIsRight_1 : decode b_FO_kernIsRight 1 = .ok (.getfield 20, 3) := by decide +kernel
theorem d_FO_kernIsRight_11 : decode b_FO_kernIsRight 11 = .ok (.getfield 161, 3) := by decide +kernel
theorem d_FO_kernIsRight_14 : decode b_FO_kernIsRight 14 = .ok (.invokevirtual 115, 3) := by decide +kernel
theorem d_FO_kernIsRight_17 : decode b_FO_kernIsRight 17 = .ok (.ifCond .eq (11), 3) := by decide +kernel
theorem d_FO_kernIsRight_20 : decode b_FO_kernIsRight 20 = .ok (.aload_n 0, 1) := by decide +kernel
theorem d_FO_kernIsRight_21 : decode b_FO_kernIsRight 21 = .ok (.getfield 56, 3) := by decide +kernel
theorem d_FO_kernIsRight_24 : decode b_FO_kernIsRight 24 = .ok (.invokevirtual 164, 3) := by decide +kernel
theorem d_FO_kernIsRight_27 : decode b_FO_kernIsRight 27 = .ok (.ireturn, 1) := by decide +kernel
theorem d_FO_kernIsRight_28 : decode b_FO_kernIsRight 28 = .ok (.aload_n 0, 1) := by decide +kernel
theorem d_FO_kernIsRight_29 : decode b_FO_kernIsRight 29 = .ok (.getfield 56, 3) := by decide +kernel
theorem d_FO_kernIsRight_32 : decode b_FO_kernIsRight 32 = .ok (.invokevirtual 165, 3) := by decide +kernel
theorem d_FO_kernIsRight_35 : decode b_FO_kernIsRight 35 = .ok (.iconst 1, 1) := by decide +kernel
theorem d_FO_kernIsRight_36 : decode b_FO_kernIsRight 36 = .ok (.ireturn, 1) := by decide +kernel
theorem d_FO_kernIsRight_4 : decode b_FO_kernIsRight 4 = .ok (.ldc2_w 159, 3) := by decide +kernel
theorem d_FO_kernIsRight_7 : decode b_FO_kernIsRight 7 = .ok (.aload_n 0, 1) := by decide +kernel
theorem d_FO_kernIsRight_8 : decode b_FO_kernIsRight 8 = .ok (.getfield 56, 3) := by decide +kernel
theorem d_FO_kerningOf_0 : decode b_FO_kerningOf 0 = .ok (.aload_n 0, 1) := by decide +kernel
theorem d_FO_kerningOf_1 : decode b_FO_kerningOf 1 = .ok (.getfield 56, 3) := by decide +kernel
theorem d_FO_kerningOf_4 : decode b_FO_kerningOf 4 = .ok (.iload_n 1, 1) := by decide +kernel
theorem d_FO_kerningOf_5 : decode b_FO_kerningOf 5 = .ok (.iload_n 2, 1) := by decide +kernel
theorem d_FO_kerningOf_6 : decode b_FO_kerningOf 6 = .ok (.invokevirtual 176, 3) := by decide +kernel
theorem d_FO_kerningOf_9 : decode b_FO_kerningOf 9 = .ok (.ireturn, 1) := by decide +kernel
theorem d_FO_placeOf_0 : decode b_FO_placeOf 0 = .ok (.aload_n 0, 1) := by decide +kernel
theorem d_FO_placeOf_1 : decode b_FO_placeOf 1 = .ok (.getfield 74, 3) := by decide +kernel
theorem d_FO_placeOf_11 : decode b_FO_placeOf 11 = .ok (.iconst 4, 1) := by decide +kernel
theorem d_FO_placeOf_12 : decode b_FO_placeOf 12 = .ok (.iload_n 1, 1) := by decide +kernel
theorem d_FO_placeOf_13 : decode b_FO_placeOf 13 = .ok (.imul, 1) := by decide +kernel
theorem d_FO_placeOf_14 : decode b_FO_placeOf 14 = .ok (.invokevirtual 168, 3) := by decide +kernel
theorem d_FO_placeOf_17 : decode b_FO_placeOf 17 = .ok (.goto (18), 3) := by decide +kernel
theorem d_FO_placeOf_20 : decode b_FO_placeOf 20 = .ok (.ldc2_w 171, 3) := by decide +kernel
theorem d_FO_placeOf_23 : decode b_FO_placeOf 23 = .ok (.aload_n 0, 1) := by decide +kernel
theorem d_FO_placeOf_24 : decode b_FO_placeOf 24 = .ok (.getfield 40, 3) := by decide +kernel
theorem d_FO_placeOf_27 : decode b_FO_placeOf 27 = .ok (.iconst 2, 1) := by decide +kernel
theorem d_FO_placeOf_28 : decode b_FO_placeOf 28 = .ok (.iload_n 1, 1) := by decide +kernel
theorem d_FO_placeOf_29 : decode b_FO_placeOf 29 = .ok (.imul, 1) := by decide +kernel
theorem d_FO_placeOf_30 : decode b_FO_placeOf 30 = .ok (.invokevirtual 145, 3) := by decide +kernel
theorem d_FO_placeOf_33 : decode b_FO_placeOf 33 = .ok (.i2l, 1) := by decide +kernel
theorem d_FO_placeOf_34 : decode b_FO_placeOf 34 = .ok (.lmul, 1) := by decide +kernel
theorem d_FO_placeOf_35 : decode b_FO_placeOf 35 = .ok (.lreturn, 1) := by decide +kernel
theorem d_FO_placeOf_4 : decode b_FO_placeOf 4 = .ok (.ifCond .eq (16), 3) := by decide +kernel
theorem d_FO_placeOf_7 : decode b_FO_placeOf 7 = .ok (.aload_n 0, 1) := by decide +kernel
theorem d_FO_placeOf_8 : decode b_FO_placeOf 8 = .ok (.getfield 40, 3) := by decide +kernel
theorem d_FO_placesAreRight_0 : decode b_FO_placesAreRight 0 = .ok (.lconst 0, 1) := by decide +kernel
theorem d_FO_placesAreRight_1 : decode b_FO_placesAreRight 1 = .ok (.lstore_n 1, 1) := by decide +kernel
theorem d_FO_placesAreRight_12 : decode b_FO_placesAreRight 12 = .ok (.aload_n 0, 1) := by decide +kernel
theorem d_FO_placesAreRight_13 : decode b_FO_placesAreRight 13 = .ok (.iload_n 3, 1) := by decide +kernel
theorem d_FO_placesAreRight_14 : decode b_FO_placesAreRight 14 = .ok (.invokevirtual 152, 3) := by decide +kernel
theorem d_FO_placesAreRight_17 : decode b_FO_placesAreRight 17 = .ok (.lstore 4, 2) := by decide +kernel
theorem d_FO_placesAreRight_19 : decode b_FO_placesAreRight 19 = .ok (.lload 4, 2) := by decide +kernel
theorem d_FO_placesAreRight_2 : decode b_FO_placesAreRight 2 = .ok (.iconst 0, 1) := by decide +kernel
theorem d_FO_placesAreRight_21 : decode b_FO_placesAreRight 21 = .ok (.lload_n 1, 1) := by decide +kernel
theorem d_FO_placesAreRight_22 : decode b_FO_placesAreRight 22 = .ok (.lcmp, 1) := by decide +kernel
theorem d_FO_placesAreRight_23 : decode b_FO_placesAreRight 23 = .ok (.ifCond .ge (5), 3) := by decide +kernel
theorem d_FO_placesAreRight_26 : decode b_FO_placesAreRight 26 = .ok (.iconst 0, 1) := by decide +kernel
theorem d_FO_placesAreRight_27 : decode b_FO_placesAreRight 27 = .ok (.ireturn, 1) := by decide +kernel
theorem d_FO_placesAreRight_28 : decode b_FO_placesAreRight 28 = .ok (.lload 4, 2) := by decide +kernel
theorem d_FO_placesAreRight_3 : decode b_FO_placesAreRight 3 = .ok (.istore_n 3, 1) := by decide +kernel
theorem d_FO_placesAreRight_30 : decode b_FO_placesAreRight 30 = .ok (.lstore_n 1, 1) := by decide +kernel
theorem d_FO_placesAreRight_31 : decode b_FO_placesAreRight 31 = .ok (.iinc 3 (1), 3) := by decide +kernel
theorem d_FO_placesAreRight_34 : decode b_FO_placesAreRight 34 = .ok (.goto (-30), 3) := by decide +kernel
theorem d_FO_placesAreRight_37 : decode b_FO_placesAreRight 37 = .ok (.aload_n 0, 1) := by decide +kernel
theorem d_FO_placesAreRight_38 : decode b_FO_placesAreRight 38 = .ok (.getfield 40, 3) := by decide +kernel
theorem d_FO_placesAreRight_4 : decode b_FO_placesAreRight 4 = .ok (.iload_n 3, 1) := by decide +kernel
theorem d_FO_placesAreRight_41 : decode b_FO_placesAreRight 41 = .ok (.getfield 156, 3) := by decide +kernel
theorem d_FO_placesAreRight_44 : decode b_FO_placesAreRight 44 = .ok (.ifCond .ne (20), 3) := by decide +kernel
theorem d_FO_placesAreRight_47 : decode b_FO_placesAreRight 47 = .ok (.lload_n 1, 1) := by decide +kernel
theorem d_FO_placesAreRight_48 : decode b_FO_placesAreRight 48 = .ok (.aload_n 0, 1) := by decide +kernel
theorem d_FO_placesAreRight_49 : decode b_FO_placesAreRight 49 = .ok (.getfield 43, 3) := by decide +kernel
theorem d_FO_placesAreRight_5 : decode b_FO_placesAreRight 5 = .ok (.aload_n 0, 1) := by decide +kernel
theorem d_FO_placesAreRight_52 : decode b_FO_placesAreRight 52 = .ok (.getfield 149, 3) := by decide +kernel
theorem d_FO_placesAreRight_55 : decode b_FO_placesAreRight 55 = .ok (.i2l, 1) := by decide +kernel
theorem d_FO_placesAreRight_56 : decode b_FO_placesAreRight 56 = .ok (.lcmp, 1) := by decide +kernel
theorem d_FO_placesAreRight_57 : decode b_FO_placesAreRight 57 = .ok (.ifCond .gt (7), 3) := by decide +kernel
theorem d_FO_placesAreRight_6 : decode b_FO_placesAreRight 6 = .ok (.getfield 68, 3) := by decide +kernel
theorem d_FO_placesAreRight_60 : decode b_FO_placesAreRight 60 = .ok (.iconst 1, 1) := by decide +kernel
theorem d_FO_placesAreRight_61 : decode b_FO_placesAreRight 61 = .ok (.goto (4), 3) := by decide +kernel
theorem d_FO_placesAreRight_64 : decode b_FO_placesAreRight 64 = .ok (.iconst 0, 1) := by decide +kernel
theorem d_FO_placesAreRight_65 : decode b_FO_placesAreRight 65 = .ok (.ireturn, 1) := by decide +kernel
theorem d_FO_placesAreRight_9 : decode b_FO_placesAreRight 9 = .ok (.if_icmp .gt (28), 3) := by decide +kernel
theorem d_FO_widthOf_0 : decode b_FO_widthOf 0 = .ok (.aload_n 0, 1) := by decide +kernel
theorem d_FO_widthOf_1 : decode b_FO_widthOf 1 = .ok (.getfield 37, 3) := by decide +kernel
theorem d_FO_widthOf_10 : decode b_FO_widthOf 10 = .ok (.iconst 1, 1) := by decide +kernel
theorem d_FO_widthOf_11 : decode b_FO_widthOf 11 = .ok (.isub, 1) := by decide +kernel
theorem d_FO_widthOf_12 : decode b_FO_widthOf 12 = .ok (.invokestatic 78, 3) := by decide +kernel
theorem d_FO_widthOf_15 : decode b_FO_widthOf 15 = .ok (.imul, 1) := by decide +kernel
theorem d_FO_widthOf_16 : decode b_FO_widthOf 16 = .ok (.invokevirtual 145, 3) := by decide +kernel
theorem d_FO_widthOf_19 : decode b_FO_widthOf 19 = .ok (.ireturn, 1) := by decide +kernel
theorem d_FO_widthOf_4 : decode b_FO_widthOf 4 = .ok (.iconst 4, 1) := by decide +kernel
theorem d_FO_widthOf_5 : decode b_FO_widthOf 5 = .ok (.iload_n 1, 1) := by decide +kernel
theorem d_FO_widthOf_6 : decode b_FO_widthOf 6 = .ok (.aload_n 0, 1) := by decide +kernel
theorem d_FO_widthOf_7 : decode b_FO_widthOf 7 = .ok (.getfield 71, 3) := by decide +kernel
theorem d_JA_fillI_0 : decode b_JA_fillI 0 = .ok (.iconst 0, 1) := by decide +kernel
theorem d_JA_fillI_1 : decode b_JA_fillI 1 = .ok (.istore_n 2, 1) := by decide +kernel
theorem d_JA_fillI_10 : decode b_JA_fillI 10 = .ok (.aload_n 0, 1) := by decide +kernel
theorem d_JA_fillI_11 : decode b_JA_fillI 11 = .ok (.iload_n 2, 1) := by decide +kernel
theorem d_JA_fillI_12 : decode b_JA_fillI 12 = .ok (.iload_n 1, 1) := by decide +kernel
theorem d_JA_fillI_13 : decode b_JA_fillI 13 = .ok (.iastore, 1) := by decide +kernel
theorem d_JA_fillI_14 : decode b_JA_fillI 14 = .ok (.iinc 2 (1), 3) := by decide +kernel
theorem d_JA_fillI_17 : decode b_JA_fillI 17 = .ok (.goto (-12), 3) := by decide +kernel
theorem d_JA_fillI_2 : decode b_JA_fillI 2 = .ok (.aload_n 0, 1) := by decide +kernel
theorem d_JA_fillI_20 : decode b_JA_fillI 20 = .ok (.return_, 1) := by decide +kernel
theorem d_JA_fillI_3 : decode b_JA_fillI 3 = .ok (.arraylength, 1) := by decide +kernel
theorem d_JA_fillI_4 : decode b_JA_fillI 4 = .ok (.istore_n 3, 1) := by decide +kernel
theorem d_JA_fillI_5 : decode b_JA_fillI 5 = .ok (.iload_n 2, 1) := by decide +kernel
theorem d_JA_fillI_6 : decode b_JA_fillI 6 = .ok (.iload_n 3, 1) := by decide +kernel
theorem d_JA_fillI_7 : decode b_JA_fillI 7 = .ok (.if_icmp .ge (13), 3) := by decide +kernel
theorem d_JA_fillJ_0 : decode b_JA_fillJ 0 = .ok (.iconst 0, 1) := by decide +kernel
theorem d_JA_fillJ_1 : decode b_JA_fillJ 1 = .ok (.istore_n 3, 1) := by decide +kernel
theorem d_JA_fillJ_12 : decode b_JA_fillJ 12 = .ok (.aload_n 0, 1) := by decide +kernel
theorem d_JA_fillJ_13 : decode b_JA_fillJ 13 = .ok (.iload_n 3, 1) := by decide +kernel
theorem d_JA_fillJ_14 : decode b_JA_fillJ 14 = .ok (.lload_n 1, 1) := by decide +kernel
theorem d_JA_fillJ_15 : decode b_JA_fillJ 15 = .ok (.lastore, 1) := by decide +kernel
theorem d_JA_fillJ_16 : decode b_JA_fillJ 16 = .ok (.iinc 3 (1), 3) := by decide +kernel
theorem d_JA_fillJ_19 : decode b_JA_fillJ 19 = .ok (.goto (-13), 3) := by decide +kernel
theorem d_JA_fillJ_2 : decode b_JA_fillJ 2 = .ok (.aload_n 0, 1) := by decide +kernel
theorem d_JA_fillJ_22 : decode b_JA_fillJ 22 = .ok (.return_, 1) := by decide +kernel
theorem d_JA_fillJ_3 : decode b_JA_fillJ 3 = .ok (.arraylength, 1) := by decide +kernel
theorem d_JA_fillJ_4 : decode b_JA_fillJ 4 = .ok (.istore 4, 2) := by decide +kernel
theorem d_JA_fillJ_6 : decode b_JA_fillJ 6 = .ok (.iload_n 3, 1) := by decide +kernel
theorem d_JA_fillJ_7 : decode b_JA_fillJ 7 = .ok (.iload 4, 2) := by decide +kernel
theorem d_JA_fillJ_9 : decode b_JA_fillJ 9 = .ok (.if_icmp .ge (13), 3) := by decide +kernel
theorem d_JM_absI_0 : decode b_JM_absI 0 = .ok (.iload_n 0, 1) := by decide +kernel
theorem d_JM_absI_1 : decode b_JM_absI 1 = .ok (.ifCond .ge (8), 3) := by decide +kernel
theorem d_JM_absI_10 : decode b_JM_absI 10 = .ok (.ireturn, 1) := by decide +kernel
theorem d_JM_absI_4 : decode b_JM_absI 4 = .ok (.iload_n 0, 1) := by decide +kernel
theorem d_JM_absI_5 : decode b_JM_absI 5 = .ok (.ineg, 1) := by decide +kernel
theorem d_JM_absI_6 : decode b_JM_absI 6 = .ok (.goto (4), 3) := by decide +kernel
theorem d_JM_absI_9 : decode b_JM_absI 9 = .ok (.iload_n 0, 1) := by decide +kernel
theorem d_JM_absJ_0 : decode b_JM_absJ 0 = .ok (.lload_n 0, 1) := by decide +kernel
theorem d_JM_absJ_1 : decode b_JM_absJ 1 = .ok (.lconst 0, 1) := by decide +kernel
theorem d_JM_absJ_11 : decode b_JM_absJ 11 = .ok (.lload_n 0, 1) := by decide +kernel
theorem d_JM_absJ_12 : decode b_JM_absJ 12 = .ok (.lreturn, 1) := by decide +kernel
theorem d_JM_absJ_2 : decode b_JM_absJ 2 = .ok (.lcmp, 1) := by decide +kernel
theorem d_JM_absJ_3 : decode b_JM_absJ 3 = .ok (.ifCond .ge (8), 3) := by decide +kernel
theorem d_JM_absJ_6 : decode b_JM_absJ 6 = .ok (.lload_n 0, 1) := by decide +kernel
theorem d_JM_absJ_7 : decode b_JM_absJ 7 = .ok (.lneg, 1) := by decide +kernel
theorem d_JM_absJ_8 : decode b_JM_absJ 8 = .ok (.goto (4), 3) := by decide +kernel
theorem d_JM_floorDivII_0 : decode b_JM_floorDivII 0 = .ok (.iload_n 0, 1) := by decide +kernel
theorem d_JM_floorDivII_1 : decode b_JM_floorDivII 1 = .ok (.iload_n 1, 1) := by decide +kernel
theorem d_JM_floorDivII_10 : decode b_JM_floorDivII 10 = .ok (.iload_n 2, 1) := by decide +kernel
theorem d_JM_floorDivII_11 : decode b_JM_floorDivII 11 = .ok (.iload_n 1, 1) := by decide +kernel
theorem d_JM_floorDivII_12 : decode b_JM_floorDivII 12 = .ok (.imul, 1) := by decide +kernel
theorem d_JM_floorDivII_13 : decode b_JM_floorDivII 13 = .ok (.iload_n 0, 1) := by decide +kernel
theorem d_JM_floorDivII_14 : decode b_JM_floorDivII 14 = .ok (.if_icmp .eq (7), 3) := by decide +kernel
theorem d_JM_floorDivII_17 : decode b_JM_floorDivII 17 = .ok (.iload_n 2, 1) := by decide +kernel
theorem d_JM_floorDivII_18 : decode b_JM_floorDivII 18 = .ok (.iconst 1, 1) := by decide +kernel
theorem d_JM_floorDivII_19 : decode b_JM_floorDivII 19 = .ok (.isub, 1) := by decide +kernel
theorem d_JM_floorDivII_2 : decode b_JM_floorDivII 2 = .ok (.idiv, 1) := by decide +kernel
theorem d_JM_floorDivII_20 : decode b_JM_floorDivII 20 = .ok (.ireturn, 1) := by decide +kernel
theorem d_JM_floorDivII_21 : decode b_JM_floorDivII 21 = .ok (.iload_n 2, 1) := by decide +kernel
theorem d_JM_floorDivII_22 : decode b_JM_floorDivII 22 = .ok (.ireturn, 1) := by decide +kernel
theorem d_JM_floorDivII_3 : decode b_JM_floorDivII 3 = .ok (.istore_n 2, 1) := by decide +kernel
theorem d_JM_floorDivII_4 : decode b_JM_floorDivII 4 = .ok (.iload_n 0, 1) := by decide +kernel
theorem d_JM_floorDivII_5 : decode b_JM_floorDivII 5 = .ok (.iload_n 1, 1) := by decide +kernel
theorem d_JM_floorDivII_6 : decode b_JM_floorDivII 6 = .ok (.ixor, 1) := by decide +kernel
theorem d_JM_floorDivII_7 : decode b_JM_floorDivII 7 = .ok (.ifCond .ge (14), 3) := by decide +kernel
theorem d_JM_floorDivJJ_0 : decode b_JM_floorDivJJ 0 = .ok (.lload_n 0, 1) := by decide +kernel
theorem d_JM_floorDivJJ_1 : decode b_JM_floorDivJJ 1 = .ok (.lload_n 2, 1) := by decide +kernel
theorem d_JM_floorDivJJ_10 : decode b_JM_floorDivJJ 10 = .ok (.ifCond .ge (17), 3) := by decide +kernel
theorem d_JM_floorDivJJ_13 : decode b_JM_floorDivJJ 13 = .ok (.lload 4, 2) := by decide +kernel
theorem d_JM_floorDivJJ_15 : decode b_JM_floorDivJJ 15 = .ok (.lload_n 2, 1) := by decide +kernel
theorem d_JM_floorDivJJ_16 : decode b_JM_floorDivJJ 16 = .ok (.lmul, 1) := by decide +kernel
theorem d_JM_floorDivJJ_17 : decode b_JM_floorDivJJ 17 = .ok (.lload_n 0, 1) := by decide +kernel
theorem d_JM_floorDivJJ_18 : decode b_JM_floorDivJJ 18 = .ok (.lcmp, 1) := by decide +kernel
theorem d_JM_floorDivJJ_19 : decode b_JM_floorDivJJ 19 = .ok (.ifCond .eq (8), 3) := by decide +kernel
theorem d_JM_floorDivJJ_2 : decode b_JM_floorDivJJ 2 = .ok (.ldiv, 1) := by decide +kernel
theorem d_JM_floorDivJJ_22 : decode b_JM_floorDivJJ 22 = .ok (.lload 4, 2) := by decide +kernel
theorem d_JM_floorDivJJ_24 : decode b_JM_floorDivJJ 24 = .ok (.lconst 1, 1) := by decide +kernel
theorem d_JM_floorDivJJ_25 : decode b_JM_floorDivJJ 25 = .ok (.lsub, 1) := by decide +kernel
theorem d_JM_floorDivJJ_26 : decode b_JM_floorDivJJ 26 = .ok (.lreturn, 1) := by decide +kernel
theorem d_JM_floorDivJJ_27 : decode b_JM_floorDivJJ 27 = .ok (.lload 4, 2) := by decide +kernel
theorem d_JM_floorDivJJ_29 : decode b_JM_floorDivJJ 29 = .ok (.lreturn, 1) := by decide +kernel
theorem d_JM_floorDivJJ_3 : decode b_JM_floorDivJJ 3 = .ok (.lstore 4, 2) := by decide +kernel
theorem d_JM_floorDivJJ_5 : decode b_JM_floorDivJJ 5 = .ok (.lload_n 0, 1) := by decide +kernel
theorem d_JM_floorDivJJ_6 : decode b_JM_floorDivJJ 6 = .ok (.lload_n 2, 1) := by decide +kernel
theorem d_JM_floorDivJJ_7 : decode b_JM_floorDivJJ 7 = .ok (.lxor, 1) := by decide +kernel
theorem d_JM_floorDivJJ_8 : decode b_JM_floorDivJJ 8 = .ok (.lconst 0, 1) := by decide +kernel
theorem d_JM_floorDivJJ_9 : decode b_JM_floorDivJJ 9 = .ok (.lcmp, 1) := by decide +kernel
def DT (a b c : Nat) : Nat → Option Nat := va_up (va_up (va_up (fun _ => none) (Int32.toNatClampNeg 0) (some a)) (Int32.toNatClampNeg 1) (some b)) (Int32.toNatClampNeg 2) (some c)
theorem DT_0 (a b c : Nat) : DT a b c (Int32.toNatClampNeg 0) = some a := rfl
theorem DT_1 (a b c : Nat) : DT a b c (Int32.toNatClampNeg 1) = some b := rfl
theorem DT_2 (a b c : Nat) : DT a b c (Int32.toNatClampNeg 2) = some c := rfl
theorem k4_of {x : Int32} (h1 : ¬ x < 0) (h2 : ¬ 4 < x) : ∃ j : Nat, j ≤ 4 ∧ x = nI j := nI_of2 (M := 4) (n := 4) (by decide +kernel) h1 (Int32.not_lt.mp h2)
theorem jm_ofW {l : Launch} {y : MethodName} {ws ws' : List Cond} {rm : Room} {Pc : Array Value → State → Prop} {Qc : Array Value → State → Outcome → State → Prop} {mc ms : Nat} {free : Addr → Prop} {cc : ByteArray} {maxL : Nat} {ret : Option FieldType}
    (hy : plainFor y = true) (hw : ws = Cond.code y cc maxL ret :: ws')
    (body : ∀ p e s m args below meth c s₁, BodyLoose p l y (headSpec ws rm) cc maxL ret e s m args below meth c s₁ → c.maxLocals = maxL → Pc args s →
      W p l e (headSpec ws rm).room s m args below meth c s.heap [] 0 0 (MQ below Qc args s mc ms free) (entryFrame m args maxL)) : Met l y ws rm Pc Qc mc ms free := by
  refine MetFree.of_bodySF (code := cc) (maxLocals := maxL) (ret := ret) hy ?_ ?_
  · intro args s m h hn
    obtain ⟨meth, c, h1, h2, h3, h4, h5, h6, -, -⟩ := Cond.code_spec hn (atoms_spec (ws := ws) h _ (by rw [hw]; exact List.mem_cons_self))
    exact ⟨meth, c, h1, h2, h3, h4, h5, h6⟩
  · intro p e s m args below meth c s₁ B hml hP _
    have hh0 : s₁.heap = s.heap := by rw [B.state]; rfl
    obtain ⟨t, a1, o, b1, b2, b3⟩ := body p e s m args below meth c s₁ B hml hP s₁ hh0 (Stand.of_body B)
    exact ⟨t, o, a1, b1, b2, ⟨b3.1, b3.2⟩⟩
set_option maxHeartbeats 4000000 in
set_option maxRecDepth 100000 in
/-- java/lang/Math.floorDiv~II -/
theorem g_JM_floorDivII (l : Launch) (dC : Nat → ClassId) (dI : Nat → Nat → Nat) (x : Int32) (y : Int32) (sz : Nat) (hq0 : ¬ y = 0) : Met l y_JM_floorDivII s_JM_floorDivII ({ frames := 8, cells := 0, slots := 0, locals := 200 }) (va_Pc [.int x, .int y] (fun U => U.heap.size = sz ∧ va_P (dC, dI) cls_ [] U.heap ∧ va_K (dC, dI) cls_ [] U ∧ va_D (fun _ => True) [])) (va_Qi (fun (r : Int32) (_ : Unit) => True) (fun (_ : Unit) (t : State) => True) (va_A [] sz)) 0 0 (va_A [] sz) := by
  refine jm_ofW (cc := b_JM_floorDivII) (maxL := 3) (ret := (some .int)) (by decide +kernel) rfl ?_
  intro p e s m args below meth c s₁ B hml hv
  obtain ⟨rfl, hsz, hP, hK, hD0⟩ := hv
  have hx := B.exec
  have hb := B.bytes
  have hr := B.returns
  have hts := atoms_spec (ws := s_JM_floorDivII) B.pre
  have hown : s.vm.findClass R_JM = some m.cls := findClass_of_methodNamed B.named
  have hlocks := B.notSynchronized
  subst hsz
  have hD := hD0.self (sz := s.heap.size)
  generalize hAe : va_A [] s.heap.size = A at hD ⊢
  have hA : ∀ q : Nat, s.heap.size ≤ q → A q := fun q h => by rw [← hAe]; exact Or.inr h
  have hS : va_S A s.heap s.heap [] := va_S.rf
  have hP : va_P (dC, dI) cls_ [] s.heap := hP
  have hl := lv_entry ([.int x, .int y]) (n := 3) (Nat.le_of_ble_eq_true rfl)
  rw [lg_entry_eq]
  generalize (lg_sl ([.int x, .int y]) ++ List.replicate (3 - (lg_sl ([.int x, .int y])).length) Slot.unset).toArray = ls at hl ⊢
  have hl : lv_has ls 3 [(0, .int x), (1, .int y)] := hl
  refine lv_iload_n hx hb d_JM_floorDivII_0 rfl (lv_at hl 0 rfl) ?_
  refine lv_iload_n hx hb d_JM_floorDivII_1 rfl (lv_at hl 1 rfl) ?_
  refine lv_idiv hx hb d_JM_floorDivII_2 (by assumption) ?_
  refine lv_topi (fun v1979 ev1979 => ?_)
  refine lv_istore_n (lv' := [(2, .int v1979), (0, .int x), (1, .int y)]) hx hb d_JM_floorDivII_3 rfl hl (by decide) rfl (fun ls hl => ?_)
  refine lv_iload_n hx hb d_JM_floorDivII_4 rfl (lv_at hl 1 rfl) ?_
  refine lv_iload_n hx hb d_JM_floorDivII_5 rfl (lv_at hl 2 rfl) ?_
  refine lv_ixor hx hb d_JM_floorDivII_6 ?_
  refine lv_topi (fun v1980 ev1980 => ?_)
  refine lv_if_ge (tgt := 21) hx hb d_JM_floorDivII_7 (by decide) (fun hc1981 => ?_) (fun hc1981 => ?_)
  · skip
    refine lv_iload_n hx hb d_JM_floorDivII_21 rfl (lv_at hl 0 rfl) ?_
    refine W.widen (k := 0) (n := 0) (Nat.le_of_ble_eq_true rfl) (Nat.le_of_ble_eq_true rfl) ?_
    exact W.iret (v := v1979) hx hb hr (fun t ht hW => ⟨⟨v1979, (), rfl, trivial, trivial⟩, hS.F ht⟩) hS.2.2 d_JM_floorDivII_22
  · skip
    refine lv_iload_n hx hb d_JM_floorDivII_10 rfl (lv_at hl 0 rfl) ?_
    refine lv_iload_n hx hb d_JM_floorDivII_11 rfl (lv_at hl 2 rfl) ?_
    refine lv_imul hx hb d_JM_floorDivII_12 ?_
    refine lv_topi (fun v1982 ev1982 => ?_)
    refine lv_iload_n hx hb d_JM_floorDivII_13 rfl (lv_at hl 1 rfl) ?_
    refine lv_icmp_eq (tgt := 21) hx hb d_JM_floorDivII_14 (by decide) (fun hc1983 => ?_) (fun hc1983 => ?_)
    · skip
      refine lv_iload_n hx hb d_JM_floorDivII_21 rfl (lv_at hl 0 rfl) ?_
      refine W.widen (k := 0) (n := 0) (Nat.le_of_ble_eq_true rfl) (Nat.le_of_ble_eq_true rfl) ?_
      exact W.iret (v := v1979) hx hb hr (fun t ht hW => ⟨⟨v1979, (), rfl, trivial, trivial⟩, hS.F ht⟩) hS.2.2 d_JM_floorDivII_22
    · skip
      refine lv_iload_n hx hb d_JM_floorDivII_17 rfl (lv_at hl 0 rfl) ?_
      refine lv_iconst (v := 1) hx hb d_JM_floorDivII_18 (by decide) ?_
      refine lv_isub hx hb d_JM_floorDivII_19 ?_
      refine lv_topi (fun v1984 ev1984 => ?_)
      refine W.widen (k := 0) (n := 0) (Nat.le_of_ble_eq_true rfl) (Nat.le_of_ble_eq_true rfl) ?_
      exact W.iret (v := v1984) hx hb hr (fun t ht hW => ⟨⟨v1984, (), rfl, trivial, trivial⟩, hS.F ht⟩) hS.2.2 d_JM_floorDivII_20
set_option maxHeartbeats 4000000 in
set_option maxRecDepth 100000 in
/-- java/lang/Math.floorDiv~JJ -/
theorem g_JM_floorDivJJ (l : Launch) (dC : Nat → ClassId) (dI : Nat → Nat → Nat) (x : Int64) (y : Int64) (sz : Nat) (hq0 : ¬ y = 0) : Met l y_JM_floorDivJJ s_JM_floorDivJJ ({ frames := 8, cells := 0, slots := 0, locals := 200 }) (va_Pc [.long x, .long y] (fun U => U.heap.size = sz ∧ va_P (dC, dI) cls_ [] U.heap ∧ va_K (dC, dI) cls_ [] U ∧ va_D (fun _ => True) [])) (va_Ql (fun (r : Int64) (_ : Unit) => True) (fun (_ : Unit) (t : State) => True) (va_A [] sz)) 0 0 (va_A [] sz) := by
  refine jm_ofW (cc := b_JM_floorDivJJ) (maxL := 6) (ret := (some .long)) (by decide +kernel) rfl ?_
  intro p e s m args below meth c s₁ B hml hv
  obtain ⟨rfl, hsz, hP, hK, hD0⟩ := hv
  have hx := B.exec
  have hb := B.bytes
  have hr := B.returns
  have hts := atoms_spec (ws := s_JM_floorDivJJ) B.pre
  have hown : s.vm.findClass R_JM = some m.cls := findClass_of_methodNamed B.named
  have hlocks := B.notSynchronized
  subst hsz
  have hD := hD0.self (sz := s.heap.size)
  generalize hAe : va_A [] s.heap.size = A at hD ⊢
  have hA : ∀ q : Nat, s.heap.size ≤ q → A q := fun q h => by rw [← hAe]; exact Or.inr h
  have hS : va_S A s.heap s.heap [] := va_S.rf
  have hP : va_P (dC, dI) cls_ [] s.heap := hP
  have hl := lv_entry ([.long x, .long y]) (n := 6) (Nat.le_of_ble_eq_true rfl)
  rw [lg_entry_eq]
  generalize (lg_sl ([.long x, .long y]) ++ List.replicate (6 - (lg_sl ([.long x, .long y])).length) Slot.unset).toArray = ls at hl ⊢
  have hl : lv_has ls 6 [(0, .long x), (2, .long y)] := hl
  refine lv_lload_n hx hb d_JM_floorDivJJ_0 rfl (lv_at hl 0 rfl) ?_
  refine lv_lload_n hx hb d_JM_floorDivJJ_1 rfl (lv_at hl 1 rfl) ?_
  refine lv_ldiv hx hb d_JM_floorDivJJ_2 (by assumption) ?_
  refine lv_topl (fun v1985 ev1985 => ?_)
  refine lv_lstore (lv' := [(4, .long v1985), (0, .long x), (2, .long y)]) hx hb d_JM_floorDivJJ_3 hl (by decide) rfl (fun ls hl => ?_)
  refine lv_lload_n hx hb d_JM_floorDivJJ_5 rfl (lv_at hl 1 rfl) ?_
  refine lv_lload_n hx hb d_JM_floorDivJJ_6 rfl (lv_at hl 2 rfl) ?_
  refine lv_lxor hx hb d_JM_floorDivJJ_7 ?_
  refine lv_topl (fun v1986 ev1986 => ?_)
  refine lv_lconst (v := 0) hx hb d_JM_floorDivJJ_8 (by decide) ?_
  refine W.lcmp hx hb d_JM_floorDivJJ_9 ?_
  refine lv_topi (fun v1987 ev1987 => ?_)
  refine lv_if_ge (tgt := 27) hx hb d_JM_floorDivJJ_10 (by decide) (fun hc1988 => ?_) (fun hc1988 => ?_)
  · skip
    refine lv_lload hx hb d_JM_floorDivJJ_27 (lv_at hl 0 rfl) ?_
    refine W.widen (k := 0) (n := 0) (Nat.le_of_ble_eq_true rfl) (Nat.le_of_ble_eq_true rfl) ?_
    exact W.lret (v := v1985) hx hb hr (fun t ht hW => ⟨⟨v1985, (), rfl, trivial, trivial⟩, hS.F ht⟩) hS.2.2 d_JM_floorDivJJ_29
  · skip
    refine lv_lload hx hb d_JM_floorDivJJ_13 (lv_at hl 0 rfl) ?_
    refine lv_lload_n hx hb d_JM_floorDivJJ_15 rfl (lv_at hl 2 rfl) ?_
    refine lv_lmul hx hb d_JM_floorDivJJ_16 ?_
    refine lv_topl (fun v1989 ev1989 => ?_)
    refine lv_lload_n hx hb d_JM_floorDivJJ_17 rfl (lv_at hl 1 rfl) ?_
    refine W.lcmp hx hb d_JM_floorDivJJ_18 ?_
    refine lv_topi (fun v1990 ev1990 => ?_)
    refine lv_if_eq (tgt := 27) hx hb d_JM_floorDivJJ_19 (by decide) (fun hc1991 => ?_) (fun hc1991 => ?_)
    · skip
      refine lv_lload hx hb d_JM_floorDivJJ_27 (lv_at hl 0 rfl) ?_
      refine W.widen (k := 0) (n := 0) (Nat.le_of_ble_eq_true rfl) (Nat.le_of_ble_eq_true rfl) ?_
      exact W.lret (v := v1985) hx hb hr (fun t ht hW => ⟨⟨v1985, (), rfl, trivial, trivial⟩, hS.F ht⟩) hS.2.2 d_JM_floorDivJJ_29
    · skip
      refine lv_lload hx hb d_JM_floorDivJJ_22 (lv_at hl 0 rfl) ?_
      refine lv_lconst (v := 1) hx hb d_JM_floorDivJJ_24 (by decide) ?_
      refine lv_lsub hx hb d_JM_floorDivJJ_25 ?_
      refine lv_topl (fun v1992 ev1992 => ?_)
      refine W.widen (k := 0) (n := 0) (Nat.le_of_ble_eq_true rfl) (Nat.le_of_ble_eq_true rfl) ?_
      exact W.lret (v := v1992) hx hb hr (fun t ht hW => ⟨⟨v1992, (), rfl, trivial, trivial⟩, hS.F ht⟩) hS.2.2 d_JM_floorDivJJ_26
set_option maxHeartbeats 4000000 in
set_option maxRecDepth 100000 in
/-- java/lang/Math.abs~(I) -/
theorem g_JM_absI (l : Launch) (dC : Nat → ClassId) (dI : Nat → Nat → Nat) (x : Int32) (sz : Nat) : Met l y_JM_absI s_JM_absI ({ frames := 8, cells := 0, slots := 0, locals := 200 }) (va_Pc [.int x] (fun U => U.heap.size = sz ∧ va_P (dC, dI) cls_ [] U.heap ∧ va_K (dC, dI) cls_ [] U ∧ va_D (fun _ => True) [])) (va_Qi (fun (r : Int32) (_ : Unit) => True) (fun (_ : Unit) (t : State) => True) (va_A [] sz)) 0 0 (va_A [] sz) := by
  refine jm_ofW (cc := b_JM_absI) (maxL := 1) (ret := (some .int)) (by decide +kernel) rfl ?_
  intro p e s m args below meth c s₁ B hml hv
  obtain ⟨rfl, hsz, hP, hK, hD0⟩ := hv
  have hx := B.exec
  have hb := B.bytes
  have hr := B.returns
  have hts := atoms_spec (ws := s_JM_absI) B.pre
  have hown : s.vm.findClass R_JM = some m.cls := findClass_of_methodNamed B.named
  have hlocks := B.notSynchronized
  subst hsz
  have hD := hD0.self (sz := s.heap.size)
  generalize hAe : va_A [] s.heap.size = A at hD ⊢
  have hA : ∀ q : Nat, s.heap.size ≤ q → A q := fun q h => by rw [← hAe]; exact Or.inr h
  have hS : va_S A s.heap s.heap [] := va_S.rf
  have hP : va_P (dC, dI) cls_ [] s.heap := hP
  have hl := lv_entry ([.int x]) (n := 1) (Nat.le_of_ble_eq_true rfl)
  rw [lg_entry_eq]
  generalize (lg_sl ([.int x]) ++ List.replicate (1 - (lg_sl ([.int x])).length) Slot.unset).toArray = ls at hl ⊢
  have hl : lv_has ls 1 [(0, .int x)] := hl
  refine lv_iload_n hx hb d_JM_absI_0 rfl (lv_at hl 0 rfl) ?_
  refine lv_if_ge (tgt := 9) hx hb d_JM_absI_1 (by decide) (fun hc1993 => ?_) (fun hc1993 => ?_)
  · skip
    refine lv_iload_n hx hb d_JM_absI_9 rfl (lv_at hl 0 rfl) ?_
    refine W.widen (k := 0) (n := 0) (Nat.le_of_ble_eq_true rfl) (Nat.le_of_ble_eq_true rfl) ?_
    exact W.iret (v := x) hx hb hr (fun t ht hW => ⟨⟨x, (), rfl, trivial, trivial⟩, hS.F ht⟩) hS.2.2 d_JM_absI_10
  · skip
    refine lv_iload_n hx hb d_JM_absI_4 rfl (lv_at hl 0 rfl) ?_
    refine lv_ineg hx hb d_JM_absI_5 ?_
    refine lv_topi (fun v1994 ev1994 => ?_)
    refine lv_goto (tgt := 10) hx hb d_JM_absI_6 (by decide) ?_
    refine W.widen (k := 0) (n := 0) (Nat.le_of_ble_eq_true rfl) (Nat.le_of_ble_eq_true rfl) ?_
    exact W.iret (v := v1994) hx hb hr (fun t ht hW => ⟨⟨v1994, (), rfl, trivial, trivial⟩, hS.F ht⟩) hS.2.2 d_JM_absI_10
set_option maxHeartbeats 4000000 in
set_option maxRecDepth 100000 in
/-- java/lang/Math.abs~(J) -/
theorem g_JM_absJ (l : Launch) (dC : Nat → ClassId) (dI : Nat → Nat → Nat) (x : Int64) (sz : Nat) : Met l y_JM_absJ s_JM_absJ ({ frames := 8, cells := 0, slots := 0, locals := 200 }) (va_Pc [.long x] (fun U => U.heap.size = sz ∧ va_P (dC, dI) cls_ [] U.heap ∧ va_K (dC, dI) cls_ [] U ∧ va_D (fun _ => True) [])) (va_Ql (fun (r : Int64) (_ : Unit) => True) (fun (_ : Unit) (t : State) => True) (va_A [] sz)) 0 0 (va_A [] sz) := by
  refine jm_ofW (cc := b_JM_absJ) (maxL := 2) (ret := (some .long)) (by decide +kernel) rfl ?_
  intro p e s m args below meth c s₁ B hml hv
  obtain ⟨rfl, hsz, hP, hK, hD0⟩ := hv
  have hx := B.exec
  have hb := B.bytes
  have hr := B.returns
  have hts := atoms_spec (ws := s_JM_absJ) B.pre
  have hown : s.vm.findClass R_JM = some m.cls := findClass_of_methodNamed B.named
  have hlocks := B.notSynchronized
  subst hsz
  have hD := hD0.self (sz := s.heap.size)
  generalize hAe : va_A [] s.heap.size = A at hD ⊢
  have hA : ∀ q : Nat, s.heap.size ≤ q → A q := fun q h => by rw [← hAe]; exact Or.inr h
  have hS : va_S A s.heap s.heap [] := va_S.rf
  have hP : va_P (dC, dI) cls_ [] s.heap := hP
  have hl := lv_entry ([.long x]) (n := 2) (Nat.le_of_ble_eq_true rfl)
  rw [lg_entry_eq]
  generalize (lg_sl ([.long x]) ++ List.replicate (2 - (lg_sl ([.long x])).length) Slot.unset).toArray = ls at hl ⊢
  have hl : lv_has ls 2 [(0, .long x)] := hl
  refine lv_lload_n hx hb d_JM_absJ_0 rfl (lv_at hl 0 rfl) ?_
  refine lv_lconst (v := 0) hx hb d_JM_absJ_1 (by decide) ?_
  refine W.lcmp hx hb d_JM_absJ_2 ?_
  refine lv_topi (fun v1995 ev1995 => ?_)
  refine lv_if_ge (tgt := 11) hx hb d_JM_absJ_3 (by decide) (fun hc1996 => ?_) (fun hc1996 => ?_)
  · skip
    refine lv_lload_n hx hb d_JM_absJ_11 rfl (lv_at hl 0 rfl) ?_
    refine W.widen (k := 0) (n := 0) (Nat.le_of_ble_eq_true rfl) (Nat.le_of_ble_eq_true rfl) ?_
    exact W.lret (v := x) hx hb hr (fun t ht hW => ⟨⟨x, (), rfl, trivial, trivial⟩, hS.F ht⟩) hS.2.2 d_JM_absJ_12
  · skip
    refine lv_lload_n hx hb d_JM_absJ_6 rfl (lv_at hl 0 rfl) ?_
    refine lv_lneg hx hb d_JM_absJ_7 ?_
    refine lv_topl (fun v1997 ev1997 => ?_)
    refine lv_goto (tgt := 12) hx hb d_JM_absJ_8 (by decide) ?_
    refine W.widen (k := 0) (n := 0) (Nat.le_of_ble_eq_true rfl) (Nat.le_of_ble_eq_true rfl) ?_
    exact W.lret (v := v1997) hx hb hr (fun t ht hW => ⟨⟨v1997, (), rfl, trivial, trivial⟩, hS.F ht⟩) hS.2.2 d_JM_absJ_12
set_option maxHeartbeats 4000000 in
set_option maxRecDepth 100000 in
/-- java/util/Arrays.fill~[J -/
theorem g_JA_fillJ (l : Launch) (dC : Nat → ClassId) (dI : Nat → Nat → Nat) (qv : Nat) (cV : ClassId) (fv : Nat → Int64) (y : Int64) (sz : Nat) : Met l y_JA_fillJ s_JA_fillJ ({ frames := 8, cells := 0, slots := 0, locals := 200 }) (va_Pc [.ref qv, .long y] (fun U => U.heap.size = sz ∧ va_P (dC, dI) cls_ [(qv, .inl (cV, 24, .inr (.inl (fv))))] U.heap ∧ va_K (dC, dI) cls_ [(cV, .long)] U ∧ va_D (fun _ => True) [(qv, .inl (cV, 24, .inr (.inl (fv))))])) (va_Qv (fun _ : Unit => True) (fun (_ : Unit) (t : State) => ∃ (gv : Nat → Int64), va_P (dC, dI) cls_ [(qv, .inl (cV, 24, .inr (.inl (gv))))] t.heap ∧ va_K (dC, dI) cls_ [(cV, .long)] t ∧ va_D (va_A [(qv, .inl (cV, 24, .inr (.inl (fv))))] sz) [(qv, .inl (cV, 24, .inr (.inl (gv))))]) (va_A [(qv, .inl (cV, 24, .inr (.inl (fv))))] sz)) 0 0 (va_A [(qv, .inl (cV, 24, .inr (.inl (fv))))] sz) := by
  refine Met.ofW (cc := b_JA_fillJ) (maxL := 5) (ret := none) (by decide) rfl ?_
  intro p e s m args below meth c s₁ B hml hv
  obtain ⟨rfl, hsz, hP, hK, hD0⟩ := hv
  have hx := B.exec
  have hb := B.bytes
  have hr := B.returns
  have hts := atoms_spec (ws := s_JA_fillJ) B.pre
  have hown : s.vm.findClass R_JA = some m.cls := findClass_of_methodNamed B.named
  have hlocks := B.notSynchronized
  subst hsz
  have hD := hD0.self (sz := s.heap.size)
  generalize hAe : va_A [(qv, .inl (cV, 24, .inr (.inl (fv))))] s.heap.size = A at hD ⊢
  have hA : ∀ q : Nat, s.heap.size ≤ q → A q := fun q h => by rw [← hAe]; exact Or.inr h
  have hS : va_S A s.heap s.heap [] := va_S.rf
  have hP : va_P (dC, dI) cls_ [(qv, .inl (cV, 24, .inr (.inl (fv))))] s.heap := hP
  have hl := lv_entry ([.ref qv, .long y]) (n := 5) (Nat.le_of_ble_eq_true rfl)
  rw [lg_entry_eq]
  generalize (lg_sl ([.ref qv, .long y]) ++ List.replicate (5 - (lg_sl ([.ref qv, .long y])).length) Slot.unset).toArray = ls at hl ⊢
  have hl : lv_has ls 5 [(0, .ref qv), (1, .long y)] := hl
  refine lv_iconst (v := 0) hx hb d_JA_fillJ_0 (by decide) ?_
  refine lv_istore_n (lv' := [(3, .int 0), (0, .ref qv), (1, .long y)]) hx hb d_JA_fillJ_1 rfl hl (by decide) rfl (fun ls hl => ?_)
  refine lv_aload_n hx hb d_JA_fillJ_2 rfl (lv_at hl 1 rfl) ?_
  refine va_alen (v := 24) hx hb hK hP 0 0 rfl rfl (by show Int32.ofNat 24 = 24; decide +kernel) d_JA_fillJ_3 ?_
  refine lv_istore (lv' := [(4, .int 24), (3, .int 0), (0, .ref qv), (1, .long y)]) hx hb d_JA_fillJ_4 hl (by decide) rfl (fun ls hl => ?_)
  have hP8 := hP.sub (ws' := [(qv, .inl (cV, 24, .inr (.inl (fv))))]) [0] rfl
  have hD8 := hD.sub (ws' := [(qv, .inl (cV, 24, .inr (.inl (fv))))]) [0] (by decide) rfl
  refine lv_loop (α := (Nat → Int64) × Nat) 6 (fun ⟨a_qv_2018, l3_2019⟩ H' locs' ls' => va_P (dC, dI) cls_ [(qv, .inl (cV, 24, .inr (.inl (a_qv_2018))))] H' ∧ va_D A [(qv, .inl (cV, 24, .inr (.inl (a_qv_2018))))] ∧ va_S A s.heap H' locs' ∧ lv_has ls' 5 [(4, .int 24), (3, .int (nI (l3_2019))), (0, .ref qv), (1, .long y)] ∧ (l3_2019 ≤ 24)) (fun ⟨a_qv_2018, l3_2019⟩ => []) (fun ⟨a_qv_2018, l3_2019⟩ => 24 - l3_2019) ?_ (fv, 0) s.heap _ ls ⟨hP8, hD8, hS, lv_sub hl [0, 1, 2, 3] rfl, by omega⟩
  intro ⟨a_qv_2018, l3_2019⟩ ih2020 H locs ls ⟨hP, hD, hS, hl, hf2021⟩
  show W p l e _ s m _ below meth c H locs _ _ _ (F0 m 6 ls [])
  have hP : va_P (dC, dI) cls_ [(qv, .inl (cV, 24, .inr (.inl (a_qv_2018))))] H := hP
  have hD : va_D A [(qv, .inl (cV, 24, .inr (.inl (a_qv_2018))))] := hD
  refine lv_iload_n hx hb d_JA_fillJ_6 rfl (lv_at hl 1 rfl) ?_
  refine lv_iload hx hb d_JA_fillJ_7 (lv_at hl 0 rfl) ?_
  refine lv_icmp_ge (tgt := 22) hx hb d_JA_fillJ_9 (by decide) (fun hc2022 => ?_) (fun hc2022 => ?_)
  · skip
    have hc2022n : 24 ≤ l3_2019 := (nI_leI (a := 24) (b := l3_2019) (by omega) (by omega)).mp hc2022
    refine W.widen (k := 0) (n := 0) (Nat.le_of_ble_eq_true rfl) (Nat.le_of_ble_eq_true rfl) ?_
    have hP9 := hP.sub (ws' := [(qv, .inl (cV, 24, .inr (.inl (a_qv_2018))))]) [0] rfl
    have hD9 := hD.sub (ws' := [(qv, .inl (cV, 24, .inr (.inl (a_qv_2018))))]) [0] (by decide) rfl
    have hK9 := hK.sub (tys' := [(cV, .long)]) [0] rfl
    exact W.vret hx hb hr (fun t ht hW => ⟨⟨(), rfl, trivial, a_qv_2018, by rw [ht]; exact hP9, va_K.moved hW.alike hK9, hD9⟩, hS.F ht⟩) hS.2.2 d_JA_fillJ_22
  · skip
    have hc2022n : ¬ (24 ≤ l3_2019) := fun z => hc2022 ((nI_leI (a := 24) (b := l3_2019) (by omega) (by omega)).mpr z)
    refine lv_aload_n hx hb d_JA_fillJ_12 rfl (lv_at hl 2 rfl) ?_
    refine lv_iload_n hx hb d_JA_fillJ_13 rfl (lv_at hl 1 rfl) ?_
    refine lv_lload_n hx hb d_JA_fillJ_14 rfl (lv_at hl 3 rfl) ?_
    refine va_last hx hb hK hP hD hS 0 0 rfl rfl (pk_in (l3_2019) 24 (by omega) rfl (by decide)) d_JA_fillJ_15 (fun H locs hP hD hS => ?_)
    have hP : va_P (dC, dI) cls_ [(qv, .inl (cV, 24, .inr (.inl (vp_updL (a_qv_2018) (Int32.toNatClampNeg (nI (l3_2019))) (y)))))] H := hP
    have hD : va_D A [(qv, .inl (cV, 24, .inr (.inl (vp_updL (a_qv_2018) (Int32.toNatClampNeg (nI (l3_2019))) (y)))))] := hD
    obtain ⟨g2023, eg2023⟩ : ∃ z : Nat → Int64, z = vp_updL (a_qv_2018) (Int32.toNatClampNeg (nI (l3_2019))) (y) := ⟨_, rfl⟩
    rw [← eg2023] at hP hD
    have hP : va_P (dC, dI) cls_ [(qv, .inl (cV, 24, .inr (.inl (g2023))))] H := hP
    have hD : va_D A [(qv, .inl (cV, 24, .inr (.inl (g2023))))] := hD
    refine lv_iinc (k := 1) (v := nI (l3_2019 + 1)) (lv' := [(3, .int (nI (l3_2019 + 1))), (4, .int 24), (0, .ref qv), (1, .long y)]) hx hb d_JA_fillJ_16 hl rfl (nI_add (l3_2019) 1) (by decide) rfl (fun ls hl => ?_)
    refine lv_goto (tgt := 6) hx hb d_JA_fillJ_19 (by decide) ?_
    have hP8 := hP.sub (ws' := [(qv, .inl (cV, 24, .inr (.inl (g2023))))]) [0] rfl
    have hD8 := hD.sub (ws' := [(qv, .inl (cV, 24, .inr (.inl (g2023))))]) [0] (by decide) rfl
    exact ih2020 (g2023, l3_2019 + 1) H locs ls (by show 24 - (l3_2019 + 1) < 24 - l3_2019; omega) ⟨hP8, hD8, hS, lv_sub hl [1, 0, 2, 3] rfl, by omega⟩
set_option maxHeartbeats 4000000 in
set_option maxRecDepth 100000 in
/-- java/util/Arrays.fill~[I -/
theorem g_JA_fillI (l : Launch) (dC : Nat → ClassId) (dI : Nat → Nat → Nat) (qv : Nat) (cV : ClassId) (fv : Nat → Int32) (y : Int32) (sz : Nat) : Met l y_JA_fillI s_JA_fillI ({ frames := 8, cells := 0, slots := 0, locals := 200 }) (va_Pc [.ref qv, .int y] (fun U => U.heap.size = sz ∧ va_P (dC, dI) cls_ [(qv, .inl (cV, 1152, .inl (fv)))] U.heap ∧ va_K (dC, dI) cls_ [(cV, .int)] U ∧ va_D (fun _ => True) [(qv, .inl (cV, 1152, .inl (fv)))])) (va_Qv (fun _ : Unit => True) (fun (_ : Unit) (t : State) => ∃ (gv : Nat → Int32), va_P (dC, dI) cls_ [(qv, .inl (cV, 1152, .inl (gv)))] t.heap ∧ va_K (dC, dI) cls_ [(cV, .int)] t ∧ va_D (va_A [(qv, .inl (cV, 1152, .inl (fv)))] sz) [(qv, .inl (cV, 1152, .inl (gv)))]) (va_A [(qv, .inl (cV, 1152, .inl (fv)))] sz)) 0 0 (va_A [(qv, .inl (cV, 1152, .inl (fv)))] sz) := by
  refine Met.ofW (cc := b_JA_fillI) (maxL := 4) (ret := none) (by decide) rfl ?_
  intro p e s m args below meth c s₁ B hml hv
  obtain ⟨rfl, hsz, hP, hK, hD0⟩ := hv
  have hx := B.exec
  have hb := B.bytes
  have hr := B.returns
  have hts := atoms_spec (ws := s_JA_fillI) B.pre
  have hown : s.vm.findClass R_JA = some m.cls := findClass_of_methodNamed B.named
  have hlocks := B.notSynchronized
  subst hsz
  have hD := hD0.self (sz := s.heap.size)
  generalize hAe : va_A [(qv, .inl (cV, 1152, .inl (fv)))] s.heap.size = A at hD ⊢
  have hA : ∀ q : Nat, s.heap.size ≤ q → A q := fun q h => by rw [← hAe]; exact Or.inr h
  have hS : va_S A s.heap s.heap [] := va_S.rf
  have hP : va_P (dC, dI) cls_ [(qv, .inl (cV, 1152, .inl (fv)))] s.heap := hP
  have hl := lv_entry ([.ref qv, .int y]) (n := 4) (Nat.le_of_ble_eq_true rfl)
  rw [lg_entry_eq]
  generalize (lg_sl ([.ref qv, .int y]) ++ List.replicate (4 - (lg_sl ([.ref qv, .int y])).length) Slot.unset).toArray = ls at hl ⊢
  have hl : lv_has ls 4 [(0, .ref qv), (1, .int y)] := hl
  refine lv_iconst (v := 0) hx hb d_JA_fillI_0 (by decide) ?_
  refine lv_istore_n (lv' := [(2, .int 0), (0, .ref qv), (1, .int y)]) hx hb d_JA_fillI_1 rfl hl (by decide) rfl (fun ls hl => ?_)
  refine lv_aload_n hx hb d_JA_fillI_2 rfl (lv_at hl 1 rfl) ?_
  refine va_alen (v := 1152) hx hb hK hP 0 0 rfl rfl (by show Int32.ofNat 1152 = 1152; decide +kernel) d_JA_fillI_3 ?_
  refine lv_istore_n (lv' := [(3, .int 1152), (2, .int 0), (0, .ref qv), (1, .int y)]) hx hb d_JA_fillI_4 rfl hl (by decide) rfl (fun ls hl => ?_)
  have hP8 := hP.sub (ws' := [(qv, .inl (cV, 1152, .inl (fv)))]) [0] rfl
  have hD8 := hD.sub (ws' := [(qv, .inl (cV, 1152, .inl (fv)))]) [0] (by decide) rfl
  refine lv_loop (α := (Nat → Int32) × Nat) 5 (fun ⟨a_qv_2044, l2_2045⟩ H' locs' ls' => va_P (dC, dI) cls_ [(qv, .inl (cV, 1152, .inl (a_qv_2044)))] H' ∧ va_D A [(qv, .inl (cV, 1152, .inl (a_qv_2044)))] ∧ va_S A s.heap H' locs' ∧ lv_has ls' 4 [(3, .int 1152), (2, .int (nI (l2_2045))), (0, .ref qv), (1, .int y)] ∧ (l2_2045 ≤ 1152)) (fun ⟨a_qv_2044, l2_2045⟩ => []) (fun ⟨a_qv_2044, l2_2045⟩ => 1152 - l2_2045) ?_ (fv, 0) s.heap _ ls ⟨hP8, hD8, hS, lv_sub hl [0, 1, 2, 3] rfl, by omega⟩
  intro ⟨a_qv_2044, l2_2045⟩ ih2046 H locs ls ⟨hP, hD, hS, hl, hf2047⟩
  show W p l e _ s m _ below meth c H locs _ _ _ (F0 m 5 ls [])
  have hP : va_P (dC, dI) cls_ [(qv, .inl (cV, 1152, .inl (a_qv_2044)))] H := hP
  have hD : va_D A [(qv, .inl (cV, 1152, .inl (a_qv_2044)))] := hD
  refine lv_iload_n hx hb d_JA_fillI_5 rfl (lv_at hl 1 rfl) ?_
  refine lv_iload_n hx hb d_JA_fillI_6 rfl (lv_at hl 0 rfl) ?_
  refine lv_icmp_ge (tgt := 20) hx hb d_JA_fillI_7 (by decide) (fun hc2048 => ?_) (fun hc2048 => ?_)
  · skip
    have hc2048n : 1152 ≤ l2_2045 := (nI_leI (a := 1152) (b := l2_2045) (by omega) (by omega)).mp hc2048
    refine W.widen (k := 0) (n := 0) (Nat.le_of_ble_eq_true rfl) (Nat.le_of_ble_eq_true rfl) ?_
    have hP9 := hP.sub (ws' := [(qv, .inl (cV, 1152, .inl (a_qv_2044)))]) [0] rfl
    have hD9 := hD.sub (ws' := [(qv, .inl (cV, 1152, .inl (a_qv_2044)))]) [0] (by decide) rfl
    have hK9 := hK.sub (tys' := [(cV, .int)]) [0] rfl
    exact W.vret hx hb hr (fun t ht hW => ⟨⟨(), rfl, trivial, a_qv_2044, by rw [ht]; exact hP9, va_K.moved hW.alike hK9, hD9⟩, hS.F ht⟩) hS.2.2 d_JA_fillI_20
  · skip
    have hc2048n : ¬ (1152 ≤ l2_2045) := fun z => hc2048 ((nI_leI (a := 1152) (b := l2_2045) (by omega) (by omega)).mpr z)
    refine lv_aload_n hx hb d_JA_fillI_10 rfl (lv_at hl 2 rfl) ?_
    refine lv_iload_n hx hb d_JA_fillI_11 rfl (lv_at hl 1 rfl) ?_
    refine lv_iload_n hx hb d_JA_fillI_12 rfl (lv_at hl 3 rfl) ?_
    refine va_iast hx hb hK hP hD hS 0 0 rfl rfl (pk_in (l2_2045) 1152 (by omega) rfl (by decide)) d_JA_fillI_13 (fun H locs hP hD hS => ?_)
    have hP : va_P (dC, dI) cls_ [(qv, .inl (cV, 1152, .inl (upd (a_qv_2044) (Int32.toNatClampNeg (nI (l2_2045))) (y))))] H := hP
    have hD : va_D A [(qv, .inl (cV, 1152, .inl (upd (a_qv_2044) (Int32.toNatClampNeg (nI (l2_2045))) (y))))] := hD
    obtain ⟨g2049, eg2049⟩ : ∃ z : Nat → Int32, z = upd (a_qv_2044) (Int32.toNatClampNeg (nI (l2_2045))) (y) := ⟨_, rfl⟩
    rw [← eg2049] at hP hD
    have hP : va_P (dC, dI) cls_ [(qv, .inl (cV, 1152, .inl (g2049)))] H := hP
    have hD : va_D A [(qv, .inl (cV, 1152, .inl (g2049)))] := hD
    refine lv_iinc (k := 1) (v := nI (l2_2045 + 1)) (lv' := [(2, .int (nI (l2_2045 + 1))), (3, .int 1152), (0, .ref qv), (1, .int y)]) hx hb d_JA_fillI_14 hl rfl (nI_add (l2_2045) 1) (by decide) rfl (fun ls hl => ?_)
    refine lv_goto (tgt := 5) hx hb d_JA_fillI_17 (by decide) ?_
    have hP8 := hP.sub (ws' := [(qv, .inl (cV, 1152, .inl (g2049)))]) [0] rfl
    have hD8 := hD.sub (ws' := [(qv, .inl (cV, 1152, .inl (g2049)))]) [0] (by decide) rfl
    exact ih2046 (g2049, l2_2045 + 1) H locs ls (by show 1152 - (l2_2045 + 1) < 1152 - l2_2045; omega) ⟨hP8, hD8, hS, lv_sub hl [1, 0, 2, 3] rfl, by omega⟩
set_option maxHeartbeats 4000000 in
set_option maxRecDepth 100000 in
/-- GlyphLines$Font.placeOf -/
theorem g_FO_placeOf (l : Launch) (dC : Nat → ClassId) (dI : Nat → Nat → Nat) (h0 : Nat) (qa : Nat) (kr : Nat) (k1 : Nat) (k2 : Nat) (k3 : Nat) (k4 : Nat) (k5 : Nat) (k6 : Nat) (km : Nat) (kp : Nat) (kD : Nat) (ee : Nat) (gl : Nat) (wd : Nat) (il : Bool) (x5 : Nat) (y5 : Nat) (z5 : Bool) (cA : ClassId) (f : Nat → Int32) (g : Int32) (sz : Nat) (hq0 : ee < 65536) (hq1 : gl < 65536) (hq2 : wd < 65536) (hq3 : x5 + y5 ≤ 1200) (hq4 : isB f) : Met l y_FO_placeOf s_FO_placeOf ({ frames := 10, cells := 0, slots := 0, locals := 300 }) (va_Pc [.ref h0, .int g] (fun U => U.heap.size = sz ∧ va_P (dC, dI) cls_ [(h0, .inr (4, [.ref qa, .ref kr, .ref k1, .ref k2, .ref k3, .ref k4, .ref k5, .ref k6, .ref km, .ref kp, .ref kD, .int (nI (ee)), .int (nI (gl)), .int (nI (wd)), .int (bI il)])), (k5, .inr (0, [.ref qa, .int (nI (x5)), .int (nI (y5)), .int (bI z5)])), (qa, .inl (cA, 1200, .inl (f)))] U.heap ∧ va_K (dC, dI) cls_ [(cA, .int)] U ∧ va_D (fun _ => True) [(h0, .inr (4, [.ref qa, .ref kr, .ref k1, .ref k2, .ref k3, .ref k4, .ref k5, .ref k6, .ref km, .ref kp, .ref kD, .int (nI (ee)), .int (nI (gl)), .int (nI (wd)), .int (bI il)])), (k5, .inr (0, [.ref qa, .int (nI (x5)), .int (nI (y5)), .int (bI z5)])), (qa, .inl (cA, 1200, .inl (f)))] ∧ nests U)) (va_Ql (fun (r : Int64) (_ : Unit) => True) (fun (_ : Unit) (t : State) => ∃ (z5_2 : Bool), va_P (dC, dI) cls_ [(h0, .inr (4, [.ref qa, .ref kr, .ref k1, .ref k2, .ref k3, .ref k4, .ref k5, .ref k6, .ref km, .ref kp, .ref kD, .int (nI (ee)), .int (nI (gl)), .int (nI (wd)), .int (bI il)])), (k5, .inr (0, [.ref qa, .int (nI (x5)), .int (nI (y5)), .int (bI z5_2)])), (qa, .inl (cA, 1200, .inl (f)))] t.heap ∧ va_K (dC, dI) cls_ [(cA, .int)] t ∧ va_D (va_A [(h0, .inr (4, [.ref qa, .ref kr, .ref k1, .ref k2, .ref k3, .ref k4, .ref k5, .ref k6, .ref km, .ref kp, .ref kD, .int (nI (ee)), .int (nI (gl)), .int (nI (wd)), .int (bI il)])), (k5, .inr (0, [.ref qa, .int (nI (x5)), .int (nI (y5)), .int (bI z5)])), (qa, .inl (cA, 1200, .inl (f)))] sz) [(h0, .inr (4, [.ref qa, .ref kr, .ref k1, .ref k2, .ref k3, .ref k4, .ref k5, .ref k6, .ref km, .ref kp, .ref kD, .int (nI (ee)), .int (nI (gl)), .int (nI (wd)), .int (bI il)])), (k5, .inr (0, [.ref qa, .int (nI (x5)), .int (nI (y5)), .int (bI z5_2)])), (qa, .inl (cA, 1200, .inl (f)))]) (va_A [(h0, .inr (4, [.ref qa, .ref kr, .ref k1, .ref k2, .ref k3, .ref k4, .ref k5, .ref k6, .ref km, .ref kp, .ref kD, .int (nI (ee)), .int (nI (gl)), .int (nI (wd)), .int (bI il)])), (k5, .inr (0, [.ref qa, .int (nI (x5)), .int (nI (y5)), .int (bI z5)])), (qa, .inl (cA, 1200, .inl (f)))] sz)) 0 0 (va_A [(h0, .inr (4, [.ref qa, .ref kr, .ref k1, .ref k2, .ref k3, .ref k4, .ref k5, .ref k6, .ref km, .ref kp, .ref kD, .int (nI (ee)), .int (nI (gl)), .int (nI (wd)), .int (bI il)])), (k5, .inr (0, [.ref qa, .int (nI (x5)), .int (nI (y5)), .int (bI z5)])), (qa, .inl (cA, 1200, .inl (f)))] sz) := by
  refine Met.ofW (cc := b_FO_placeOf) (maxL := 2) (ret := (some .long)) (by decide) rfl ?_
  intro p e s m args below meth c s₁ B hml hv
  obtain ⟨rfl, hsz, hP, hK, hD0, hNs⟩ := hv
  have hx := B.exec
  have hb := B.bytes
  have hr := B.returns
  have hts := atoms_spec (ws := s_FO_placeOf) B.pre
  have hown : s.vm.findClass R_FO = some m.cls := findClass_of_methodNamed B.named
  have hlocks := B.notSynchronized
  subst hsz
  have hD := hD0.self (sz := s.heap.size)
  generalize hAe : va_A [(h0, .inr (4, [.ref qa, .ref kr, .ref k1, .ref k2, .ref k3, .ref k4, .ref k5, .ref k6, .ref km, .ref kp, .ref kD, .int (nI (ee)), .int (nI (gl)), .int (nI (wd)), .int (bI il)])), (k5, .inr (0, [.ref qa, .int (nI (x5)), .int (nI (y5)), .int (bI z5)])), (qa, .inl (cA, 1200, .inl (f)))] s.heap.size = A at hD ⊢
  have hA : ∀ q : Nat, s.heap.size ≤ q → A q := fun q h => by rw [← hAe]; exact Or.inr h
  have hS : va_S A s.heap s.heap [] := va_S.rf
  have hP : va_P (dC, dI) cls_ [(h0, .inr (4, [.ref qa, .ref kr, .ref k1, .ref k2, .ref k3, .ref k4, .ref k5, .ref k6, .ref km, .ref kp, .ref kD, .int (nI (ee)), .int (nI (gl)), .int (nI (wd)), .int (bI il)])), (k5, .inr (0, [.ref qa, .int (nI (x5)), .int (nI (y5)), .int (bI z5)])), (qa, .inl (cA, 1200, .inl (f)))] s.heap := hP
  have hl := lv_entry ([.ref h0, .int g]) (n := 2) (Nat.le_of_ble_eq_true rfl)
  rw [lg_entry_eq]
  generalize (lg_sl ([.ref h0, .int g]) ++ List.replicate (2 - (lg_sl ([.ref h0, .int g])).length) Slot.unset).toArray = ls at hl ⊢
  have hl : lv_has ls 2 [(0, .ref h0), (1, .int g)] := hl
  refine lv_aload_n hx hb d_FO_placeOf_0 rfl (lv_at hl 0 rfl) ?_
  refine va_get (D := (dC, dI)) (ci := 4) (v := .int (bI il)) (C := R_FO) (T := F_FO) (N := 15) hx hb hts in_FO hown hK hP 0 rfl rfl 14 (by decide) (hts _ (List.mem_cons_of_mem _ w_134)) (fun _ h9 => h9) rfl d_FO_placeOf_1 ?_
  refine lv_if_eq (tgt := 20) hx hb d_FO_placeOf_4 (by decide) (fun hc2050 => ?_) (fun hc2050 => ?_)
  · skip
    have hc2050b : il = false := bI_0 hc2050
    refine lv_ldc2 (v := 2) hx hb hown (hts _ (List.mem_cons_of_mem _ w_421)) d_FO_placeOf_20 ?_
    refine lv_aload_n hx hb d_FO_placeOf_23 rfl (lv_at hl 0 rfl) ?_
    refine va_get (D := (dC, dI)) (ci := 4) (v := .ref k5) (C := R_FO) (T := F_FO) (N := 15) hx hb hts in_FO hown hK hP 0 rfl rfl 6 (by decide) (hts _ (List.mem_cons_of_mem _ w_123)) (fun _ h9 => h9) rfl d_FO_placeOf_24 ?_
    refine lv_iconst (v := 2) hx hb d_FO_placeOf_27 (by decide) ?_
    refine lv_iload_n hx hb d_FO_placeOf_28 rfl (lv_at hl 1 rfl) ?_
    refine lv_imul hx hb d_FO_placeOf_29 ?_
    refine lv_topi (fun v2051 ev2051 => ?_)
    have hPc := hP.sub (ws' := [(k5, .inr (0, [.ref qa, .int (nI (x5)), .int (nI (y5)), .int (bI z5)])), (qa, .inl (cA, 1200, .inl (f)))]) [1, 2] rfl
    have hDc := hD.sub (ws' := [(k5, .inr (0, [.ref qa, .int (nI (x5)), .int (nI (y5)), .int (bI z5)])), (qa, .inl (cA, 1200, .inl (f)))]) [1, 2] (by decide) rfl
    have hKc := hK.sub (tys' := [(cA, .int)]) [0] rfl
    have hFc := va_free (wc := [(k5, .inr (0, [.ref qa, .int (nI (x5)), .int (nI (y5)), .int (bI z5)])), (qa, .inl (cA, 1200, .inl (f)))]) hD hS hA [1, 2] rfl
    refine va_calli (va_runV (As := [.int v2051]) (rest := [.long 2]) ⟨hx, hb, hml, hown, hts⟩ (g_SP_u16 l dC dI k5 qa x5 y5 z5 cA f v2051 s.heap.size (by omega) (by assumption)) (cwV 1 hts (tw_inV w_407 w_353 w_354 w_4 w_355) rfl rfl rfl (by decide +kernel) ⟨Nat.le_of_ble_eq_true rfl, Nat.le_of_ble_eq_true rfl⟩) ⟨fun a U g mk q => by obtain ⟨q0, q1, qP, qK, qD⟩ := q; exact ⟨q0, q1, qP, va_K.moved (u := U) (U := U.calling g mk a) (Vm.Alike.refl U.vm) qK, qD⟩, va_recv (hK := hK) (hP := hP) (q0 := 1) (ci := 0) rfl rfl, fun U hU hW => ⟨rfl, by rw [hU], by rw [hU]; exact hPc, va_K.moved hW.alike hKc, hDc.weaken (fun _ _ _ _ => trivial)⟩⟩ rfl rfl hl.1 rfl (lv_room (Nat.le_of_ble_eq_true rfl)) d_FO_placeOf_30 ⟨Nat.le_of_ble_eq_true rfl, Nat.le_of_ble_eq_true rfl⟩) hS (fun q _ h => hFc q h) hFc (fun r2052 u t H1 locs ht hvm hw hB hz1 hk1 hS => ?_)
    obtain ⟨m_2053, hP1, hK1, hD1⟩ := hB
    rw [ht] at hP1
    have hK1 := va_K.moved hvm.symm hK1
    obtain ⟨hP, hD⟩ := va_join (wr := [(h0, .inr (4, [.ref qa, .ref kr, .ref k1, .ref k2, .ref k3, .ref k4, .ref k5, .ref k6, .ref km, .ref kp, .ref kD, .int (nI (ee)), .int (nI (gl)), .int (nI (wd)), .int (bI il)]))]) (w1 := [(k5, .inr (0, [.ref qa, .int (nI (x5)), .int (nI (y5)), .int (bI m_2053)])), (qa, .inl (cA, 1200, .inl (f)))]) hP hD [1, 2] [0] rfl rfl (by decide) (by decide) hk1 hFc hP1 hD1
    have hK := (hK.sub (tys' := []) [] rfl).app hK1
    generalize H1 = H at hP hS ⊢
    have hP : va_P (dC, dI) cls_ [(h0, .inr (4, [.ref qa, .ref kr, .ref k1, .ref k2, .ref k3, .ref k4, .ref k5, .ref k6, .ref km, .ref kp, .ref kD, .int (nI (ee)), .int (nI (gl)), .int (nI (wd)), .int (bI il)])), (k5, .inr (0, [.ref qa, .int (nI (x5)), .int (nI (y5)), .int (bI m_2053)])), (qa, .inl (cA, 1200, .inl (f)))] H := hP
    have hD : va_D A [(h0, .inr (4, [.ref qa, .ref kr, .ref k1, .ref k2, .ref k3, .ref k4, .ref k5, .ref k6, .ref km, .ref kp, .ref kD, .int (nI (ee)), .int (nI (gl)), .int (nI (wd)), .int (bI il)])), (k5, .inr (0, [.ref qa, .int (nI (x5)), .int (nI (y5)), .int (bI m_2053)])), (qa, .inl (cA, 1200, .inl (f)))] := hD
    have hK : va_K (dC, dI) cls_ [(cA, .int)] s := hK
    have hw_r2052 := hw
    obtain ⟨kn2054, hb_kn2054, rfl⟩ := hw_r2052
    refine lv_i2l (v := (nI (kn2054)).toInt64) hx hb d_FO_placeOf_33 (by first | rfl | decide +kernel) ?_
    refine lv_lmul hx hb d_FO_placeOf_34 ?_
    refine lv_topl (fun v2055 ev2055 => ?_)
    refine W.widen (k := 0) (n := 0) (Nat.le_of_ble_eq_true rfl) (Nat.le_of_ble_eq_true rfl) ?_
    have hP9 := hP.sub (ws' := [(h0, .inr (4, [.ref qa, .ref kr, .ref k1, .ref k2, .ref k3, .ref k4, .ref k5, .ref k6, .ref km, .ref kp, .ref kD, .int (nI (ee)), .int (nI (gl)), .int (nI (wd)), .int (bI il)])), (k5, .inr (0, [.ref qa, .int (nI (x5)), .int (nI (y5)), .int (bI m_2053)])), (qa, .inl (cA, 1200, .inl (f)))]) [0, 1, 2] rfl
    have hD9 := hD.sub (ws' := [(h0, .inr (4, [.ref qa, .ref kr, .ref k1, .ref k2, .ref k3, .ref k4, .ref k5, .ref k6, .ref km, .ref kp, .ref kD, .int (nI (ee)), .int (nI (gl)), .int (nI (wd)), .int (bI il)])), (k5, .inr (0, [.ref qa, .int (nI (x5)), .int (nI (y5)), .int (bI m_2053)])), (qa, .inl (cA, 1200, .inl (f)))]) [0, 1, 2] (by decide) rfl
    have hK9 := hK.sub (tys' := [(cA, .int)]) [0] rfl
    exact W.lret (v := v2055) hx hb hr (fun t ht hW => ⟨⟨v2055, (), rfl, trivial, m_2053, by rw [ht]; exact hP9, va_K.moved hW.alike hK9, hD9⟩, hS.F ht⟩) hS.2.2 d_FO_placeOf_35
  · skip
    have hc2050b : il = true := bI_1 hc2050
    refine lv_aload_n hx hb d_FO_placeOf_7 rfl (lv_at hl 0 rfl) ?_
    refine va_get (D := (dC, dI)) (ci := 4) (v := .ref k5) (C := R_FO) (T := F_FO) (N := 15) hx hb hts in_FO hown hK hP 0 rfl rfl 6 (by decide) (hts _ (List.mem_cons_of_mem _ w_123)) (fun _ h9 => h9) rfl d_FO_placeOf_8 ?_
    refine lv_iconst (v := 4) hx hb d_FO_placeOf_11 (by decide) ?_
    refine lv_iload_n hx hb d_FO_placeOf_12 rfl (lv_at hl 1 rfl) ?_
    refine lv_imul hx hb d_FO_placeOf_13 ?_
    refine lv_topi (fun v2056 ev2056 => ?_)
    have hPc := hP.sub (ws' := [(k5, .inr (0, [.ref qa, .int (nI (x5)), .int (nI (y5)), .int (bI z5)])), (qa, .inl (cA, 1200, .inl (f)))]) [1, 2] rfl
    have hDc := hD.sub (ws' := [(k5, .inr (0, [.ref qa, .int (nI (x5)), .int (nI (y5)), .int (bI z5)])), (qa, .inl (cA, 1200, .inl (f)))]) [1, 2] (by decide) rfl
    have hKc := hK.sub (tys' := [(cA, .int)]) [0] rfl
    have hFc := va_free (wc := [(k5, .inr (0, [.ref qa, .int (nI (x5)), .int (nI (y5)), .int (bI z5)])), (qa, .inl (cA, 1200, .inl (f)))]) hD hS hA [1, 2] rfl
    refine va_calll (va_runV (As := [.int v2056]) (rest := []) ⟨hx, hb, hml, hown, hts⟩ (g_SP_u32 l dC dI k5 qa x5 y5 z5 cA f v2056 s.heap.size (by omega) (by assumption)) (cwV 1 hts (tw_inV w_420 w_357 w_358 w_4 w_359) rfl rfl rfl (by decide +kernel) ⟨Nat.le_of_ble_eq_true rfl, Nat.le_of_ble_eq_true rfl⟩) ⟨fun a U g mk q => by obtain ⟨q0, q1, qP, qK, qD⟩ := q; exact ⟨q0, q1, qP, va_K.moved (u := U) (U := U.calling g mk a) (Vm.Alike.refl U.vm) qK, qD⟩, va_recv (hK := hK) (hP := hP) (q0 := 1) (ci := 0) rfl rfl, fun U hU hW => ⟨rfl, by rw [hU], by rw [hU]; exact hPc, va_K.moved hW.alike hKc, hDc.weaken (fun _ _ _ _ => trivial)⟩⟩ rfl rfl hl.1 rfl (lv_room (Nat.le_of_ble_eq_true rfl)) d_FO_placeOf_14 ⟨Nat.le_of_ble_eq_true rfl, Nat.le_of_ble_eq_true rfl⟩) hS (fun q _ h => hFc q h) hFc (fun r2057 u t H1 locs ht hvm hw hB hz1 hk1 hS => ?_)
    obtain ⟨m_2058, hP1, hK1, hD1⟩ := hB
    rw [ht] at hP1
    have hK1 := va_K.moved hvm.symm hK1
    obtain ⟨hP, hD⟩ := va_join (wr := [(h0, .inr (4, [.ref qa, .ref kr, .ref k1, .ref k2, .ref k3, .ref k4, .ref k5, .ref k6, .ref km, .ref kp, .ref kD, .int (nI (ee)), .int (nI (gl)), .int (nI (wd)), .int (bI il)]))]) (w1 := [(k5, .inr (0, [.ref qa, .int (nI (x5)), .int (nI (y5)), .int (bI m_2058)])), (qa, .inl (cA, 1200, .inl (f)))]) hP hD [1, 2] [0] rfl rfl (by decide) (by decide) hk1 hFc hP1 hD1
    have hK := (hK.sub (tys' := []) [] rfl).app hK1
    generalize H1 = H at hP hS ⊢
    have hP : va_P (dC, dI) cls_ [(h0, .inr (4, [.ref qa, .ref kr, .ref k1, .ref k2, .ref k3, .ref k4, .ref k5, .ref k6, .ref km, .ref kp, .ref kD, .int (nI (ee)), .int (nI (gl)), .int (nI (wd)), .int (bI il)])), (k5, .inr (0, [.ref qa, .int (nI (x5)), .int (nI (y5)), .int (bI m_2058)])), (qa, .inl (cA, 1200, .inl (f)))] H := hP
    have hD : va_D A [(h0, .inr (4, [.ref qa, .ref kr, .ref k1, .ref k2, .ref k3, .ref k4, .ref k5, .ref k6, .ref km, .ref kp, .ref kD, .int (nI (ee)), .int (nI (gl)), .int (nI (wd)), .int (bI il)])), (k5, .inr (0, [.ref qa, .int (nI (x5)), .int (nI (y5)), .int (bI m_2058)])), (qa, .inl (cA, 1200, .inl (f)))] := hD
    have hK : va_K (dC, dI) cls_ [(cA, .int)] s := hK
    have hw_r2057 := hw
    refine lv_goto (tgt := 35) hx hb d_FO_placeOf_17 (by decide) ?_
    refine W.widen (k := 0) (n := 0) (Nat.le_of_ble_eq_true rfl) (Nat.le_of_ble_eq_true rfl) ?_
    have hP9 := hP.sub (ws' := [(h0, .inr (4, [.ref qa, .ref kr, .ref k1, .ref k2, .ref k3, .ref k4, .ref k5, .ref k6, .ref km, .ref kp, .ref kD, .int (nI (ee)), .int (nI (gl)), .int (nI (wd)), .int (bI il)])), (k5, .inr (0, [.ref qa, .int (nI (x5)), .int (nI (y5)), .int (bI m_2058)])), (qa, .inl (cA, 1200, .inl (f)))]) [0, 1, 2] rfl
    have hD9 := hD.sub (ws' := [(h0, .inr (4, [.ref qa, .ref kr, .ref k1, .ref k2, .ref k3, .ref k4, .ref k5, .ref k6, .ref km, .ref kp, .ref kD, .int (nI (ee)), .int (nI (gl)), .int (nI (wd)), .int (bI il)])), (k5, .inr (0, [.ref qa, .int (nI (x5)), .int (nI (y5)), .int (bI m_2058)])), (qa, .inl (cA, 1200, .inl (f)))]) [0, 1, 2] (by decide) rfl
    have hK9 := hK.sub (tys' := [(cA, .int)]) [0] rfl
    exact W.lret (v := r2057) hx hb hr (fun t ht hW => ⟨⟨r2057, (), rfl, trivial, m_2058, by rw [ht]; exact hP9, va_K.moved hW.alike hK9, hD9⟩, hS.F ht⟩) hS.2.2 d_FO_placeOf_35
set_option maxHeartbeats 4000000 in
set_option maxRecDepth 100000 in
/-- GlyphLines$Font.dataOf -/
theorem g_FO_dataOf1 (l : Launch) (dC : Nat → ClassId) (dI : Nat → Nat → Nat) (h0 : Nat) (qa : Nat) (kr : Nat) (k1 : Nat) (k2 : Nat) (k3 : Nat) (k4 : Nat) (k5 : Nat) (k6 : Nat) (km : Nat) (kp : Nat) (kD : Nat) (ee : Nat) (gl : Nat) (wd : Nat) (il : Bool) (x5 : Nat) (y5 : Nat) (z5 : Bool) (x6 : Nat) (y6 : Nat) (z6 : Bool) (cD : ClassId) (kd0 : Nat) (kd1 : Nat) (kd2 : Nat) (xa : Nat) (ya : Nat) (za : Bool) (cA : ClassId) (f : Nat → Int32) (g : Int32) (sz : Nat) (hq0 : ee < 65536) (hq1 : gl < 65536) (hq2 : wd < 65536) (hq3 : x5 + y5 ≤ 1200) (hq4 : x6 + y6 ≤ 1200) (hq5 : xa + ya ≤ 1200) (hq6 : isB f) : Met l y_FO_dataOf s_FO_dataOf ({ frames := 12, cells := 0, slots := 0, locals := 400 }) (va_Pc [.ref h0, .int g, .int 1] (fun U => U.heap.size = sz ∧ va_P (dC, dI) cls_ [(h0, .inr (4, [.ref qa, .ref kr, .ref k1, .ref k2, .ref k3, .ref k4, .ref k5, .ref k6, .ref km, .ref kp, .ref kD, .int (nI (ee)), .int (nI (gl)), .int (nI (wd)), .int (bI il)])), (k5, .inr (0, [.ref qa, .int (nI (x5)), .int (nI (y5)), .int (bI z5)])), (k6, .inr (0, [.ref qa, .int (nI (x6)), .int (nI (y6)), .int (bI z6)])), (kD, .inl (cD, 3, .inr (.inr (.inr (.inr (DT kd0 kd1 kd2)))))), (kd0, .inr (0, [.ref qa, .int (nI (xa)), .int (nI (ya)), .int (bI za)])), (qa, .inl (cA, 1200, .inl (f)))] U.heap ∧ va_K (dC, dI) cls_ [(cD, .object "GlyphLines$Span"), (cA, .int)] U ∧ va_D (fun _ => True) [(h0, .inr (4, [.ref qa, .ref kr, .ref k1, .ref k2, .ref k3, .ref k4, .ref k5, .ref k6, .ref km, .ref kp, .ref kD, .int (nI (ee)), .int (nI (gl)), .int (nI (wd)), .int (bI il)])), (k5, .inr (0, [.ref qa, .int (nI (x5)), .int (nI (y5)), .int (bI z5)])), (k6, .inr (0, [.ref qa, .int (nI (x6)), .int (nI (y6)), .int (bI z6)])), (kD, .inl (cD, 3, .inr (.inr (.inr (.inr (DT kd0 kd1 kd2)))))), (kd0, .inr (0, [.ref qa, .int (nI (xa)), .int (nI (ya)), .int (bI za)])), (qa, .inl (cA, 1200, .inl (f)))] ∧ nests U)) (va_Qr (fun _ : Unit => True) (fun (_ : Unit) (ra : Nat) (t : State) => ra = kd0 ∧ ∃ (z5_2 : Bool) (xa_2 : Nat) (ya_2 : Nat) (za_2 : Bool), xa_2 + ya_2 ≤ 1200 ∧ va_P (dC, dI) cls_ [(h0, .inr (4, [.ref qa, .ref kr, .ref k1, .ref k2, .ref k3, .ref k4, .ref k5, .ref k6, .ref km, .ref kp, .ref kD, .int (nI (ee)), .int (nI (gl)), .int (nI (wd)), .int (bI il)])), (k5, .inr (0, [.ref qa, .int (nI (x5)), .int (nI (y5)), .int (bI z5_2)])), (k6, .inr (0, [.ref qa, .int (nI (x6)), .int (nI (y6)), .int (bI z6)])), (kD, .inl (cD, 3, .inr (.inr (.inr (.inr (DT kd0 kd1 kd2)))))), (kd0, .inr (0, [.ref qa, .int (nI (xa_2)), .int (nI (ya_2)), .int (bI za_2)])), (qa, .inl (cA, 1200, .inl (f)))] t.heap ∧ va_K (dC, dI) cls_ [(cD, .object "GlyphLines$Span"), (cA, .int)] t ∧ va_D (va_A [(h0, .inr (4, [.ref qa, .ref kr, .ref k1, .ref k2, .ref k3, .ref k4, .ref k5, .ref k6, .ref km, .ref kp, .ref kD, .int (nI (ee)), .int (nI (gl)), .int (nI (wd)), .int (bI il)])), (k5, .inr (0, [.ref qa, .int (nI (x5)), .int (nI (y5)), .int (bI z5)])), (k6, .inr (0, [.ref qa, .int (nI (x6)), .int (nI (y6)), .int (bI z6)])), (kD, .inl (cD, 3, .inr (.inr (.inr (.inr (DT kd0 kd1 kd2)))))), (kd0, .inr (0, [.ref qa, .int (nI (xa)), .int (nI (ya)), .int (bI za)])), (qa, .inl (cA, 1200, .inl (f)))] sz) [(h0, .inr (4, [.ref qa, .ref kr, .ref k1, .ref k2, .ref k3, .ref k4, .ref k5, .ref k6, .ref km, .ref kp, .ref kD, .int (nI (ee)), .int (nI (gl)), .int (nI (wd)), .int (bI il)])), (k5, .inr (0, [.ref qa, .int (nI (x5)), .int (nI (y5)), .int (bI z5_2)])), (k6, .inr (0, [.ref qa, .int (nI (x6)), .int (nI (y6)), .int (bI z6)])), (kD, .inl (cD, 3, .inr (.inr (.inr (.inr (DT kd0 kd1 kd2)))))), (kd0, .inr (0, [.ref qa, .int (nI (xa_2)), .int (nI (ya_2)), .int (bI za_2)])), (qa, .inl (cA, 1200, .inl (f)))]) (va_A [(h0, .inr (4, [.ref qa, .ref kr, .ref k1, .ref k2, .ref k3, .ref k4, .ref k5, .ref k6, .ref km, .ref kp, .ref kD, .int (nI (ee)), .int (nI (gl)), .int (nI (wd)), .int (bI il)])), (k5, .inr (0, [.ref qa, .int (nI (x5)), .int (nI (y5)), .int (bI z5)])), (k6, .inr (0, [.ref qa, .int (nI (x6)), .int (nI (y6)), .int (bI z6)])), (kD, .inl (cD, 3, .inr (.inr (.inr (.inr (DT kd0 kd1 kd2)))))), (kd0, .inr (0, [.ref qa, .int (nI (xa)), .int (nI (ya)), .int (bI za)])), (qa, .inl (cA, 1200, .inl (f)))] sz)) 0 0 (va_A [(h0, .inr (4, [.ref qa, .ref kr, .ref k1, .ref k2, .ref k3, .ref k4, .ref k5, .ref k6, .ref km, .ref kp, .ref kD, .int (nI (ee)), .int (nI (gl)), .int (nI (wd)), .int (bI il)])), (k5, .inr (0, [.ref qa, .int (nI (x5)), .int (nI (y5)), .int (bI z5)])), (k6, .inr (0, [.ref qa, .int (nI (x6)), .int (nI (y6)), .int (bI z6)])), (kD, .inl (cD, 3, .inr (.inr (.inr (.inr (DT kd0 kd1 kd2)))))), (kd0, .inr (0, [.ref qa, .int (nI (xa)), .int (nI (ya)), .int (bI za)])), (qa, .inl (cA, 1200, .inl (f)))] sz) := by
  refine Met.ofW (cc := b_FO_dataOf) (maxL := 5) (ret := (some (.object "GlyphLines$Span"))) (by decide) rfl ?_
  intro p e s m args below meth c s₁ B hml hv
  obtain ⟨rfl, hsz, hP, hK, hD0, hNs⟩ := hv
  have hx := B.exec
  have hb := B.bytes
  have hr := B.returns
  have hts := atoms_spec (ws := s_FO_dataOf) B.pre
  have hown : s.vm.findClass R_FO = some m.cls := findClass_of_methodNamed B.named
  have hlocks := B.notSynchronized
  subst hsz
  have hD := hD0.self (sz := s.heap.size)
  generalize hAe : va_A [(h0, .inr (4, [.ref qa, .ref kr, .ref k1, .ref k2, .ref k3, .ref k4, .ref k5, .ref k6, .ref km, .ref kp, .ref kD, .int (nI (ee)), .int (nI (gl)), .int (nI (wd)), .int (bI il)])), (k5, .inr (0, [.ref qa, .int (nI (x5)), .int (nI (y5)), .int (bI z5)])), (k6, .inr (0, [.ref qa, .int (nI (x6)), .int (nI (y6)), .int (bI z6)])), (kD, .inl (cD, 3, .inr (.inr (.inr (.inr (DT kd0 kd1 kd2)))))), (kd0, .inr (0, [.ref qa, .int (nI (xa)), .int (nI (ya)), .int (bI za)])), (qa, .inl (cA, 1200, .inl (f)))] s.heap.size = A at hD ⊢
  have hA : ∀ q : Nat, s.heap.size ≤ q → A q := fun q h => by rw [← hAe]; exact Or.inr h
  have hS : va_S A s.heap s.heap [] := va_S.rf
  have hP : va_P (dC, dI) cls_ [(h0, .inr (4, [.ref qa, .ref kr, .ref k1, .ref k2, .ref k3, .ref k4, .ref k5, .ref k6, .ref km, .ref kp, .ref kD, .int (nI (ee)), .int (nI (gl)), .int (nI (wd)), .int (bI il)])), (k5, .inr (0, [.ref qa, .int (nI (x5)), .int (nI (y5)), .int (bI z5)])), (k6, .inr (0, [.ref qa, .int (nI (x6)), .int (nI (y6)), .int (bI z6)])), (kD, .inl (cD, 3, .inr (.inr (.inr (.inr (DT kd0 kd1 kd2)))))), (kd0, .inr (0, [.ref qa, .int (nI (xa)), .int (nI (ya)), .int (bI za)])), (qa, .inl (cA, 1200, .inl (f)))] s.heap := hP
  have hl := lv_entry ([.ref h0, .int g, .int 1]) (n := 5) (Nat.le_of_ble_eq_true rfl)
  rw [lg_entry_eq]
  generalize (lg_sl ([.ref h0, .int g, .int 1]) ++ List.replicate (5 - (lg_sl ([.ref h0, .int g, .int 1])).length) Slot.unset).toArray = ls at hl ⊢
  have hl : lv_has ls 5 [(0, .ref h0), (1, .int g), (2, .int 1)] := hl
  refine lv_aload_n hx hb d_FO_dataOf_0 rfl (lv_at hl 0 rfl) ?_
  refine va_get (D := (dC, dI)) (ci := 4) (v := .ref kD) (C := R_FO) (T := F_FO) (N := 15) hx hb hts in_FO hown hK hP 0 rfl rfl 10 (by decide) (hts _ (List.mem_cons_of_mem _ w_127)) (fun _ h9 => h9) rfl d_FO_dataOf_1 ?_
  refine lv_iconst (v := 0) hx hb d_FO_dataOf_4 (by decide) ?_
  refine lv_iload_n hx hb d_FO_dataOf_5 rfl (lv_at hl 2 rfl) ?_
  refine lv_aload_n hx hb d_FO_dataOf_6 rfl (lv_at hl 0 rfl) ?_
  refine va_get (D := (dC, dI)) (ci := 4) (v := .ref kD) (C := R_FO) (T := F_FO) (N := 15) hx hb hts in_FO hown hK hP 0 rfl rfl 10 (by decide) (hts _ (List.mem_cons_of_mem _ w_127)) (fun _ h9 => h9) rfl d_FO_dataOf_7 ?_
  refine va_alen (v := 3) hx hb hK hP 3 0 rfl rfl (by show Int32.ofNat 3 = 3; decide +kernel) d_FO_dataOf_10 ?_
  refine va_mmin hx hb (by rw [hml]; exact hl.1.symm) hown (hts _ (List.mem_cons_of_mem _ w_334)) (hts _ (List.mem_cons_of_mem _ w_335)) (hts _ (List.mem_cons_of_mem _ w_17)) (hts _ (List.mem_cons_of_mem _ w_336)) (Nat.le_of_ble_eq_true rfl) (Nat.le_of_ble_eq_true rfl) (Nat.le_of_ble_eq_true rfl) (Nat.le_of_ble_eq_true rfl) d_FO_dataOf_11 ?_
  refine lv_ci (y := 1) (by decide +kernel) ?_
  refine lv_iconst (v := 1) hx hb d_FO_dataOf_14 (by decide) ?_
  refine lv_isub hx hb d_FO_dataOf_15 ?_
  refine lv_ci (y := 0) (by decide +kernel) ?_
  refine va_mmax hx hb (by rw [hml]; exact hl.1.symm) hown (hts _ (List.mem_cons_of_mem _ w_478)) (hts _ (List.mem_cons_of_mem _ w_350)) (hts _ (List.mem_cons_of_mem _ w_17)) (hts _ (List.mem_cons_of_mem _ w_351)) (Nat.le_of_ble_eq_true rfl) (Nat.le_of_ble_eq_true rfl) (Nat.le_of_ble_eq_true rfl) (Nat.le_of_ble_eq_true rfl) d_FO_dataOf_16 ?_
  refine lv_ci (y := 0) (by decide +kernel) ?_
  refine va_aldq hx hb hK hP 3 0 rfl rfl (pk_in (0) 3 (by omega) rfl (by decide)) d_FO_dataOf_19 ?_
  rw [show (DT kd0 kd1 kd2) (Int32.toNatClampNeg 0) = some kd0 from DT_0 _ _ _]
  show W p l e _ s m _ below meth c s.heap _ _ _ _ (F0 m 20 ls [.ref kd0])
  refine lv_astore_n (lv' := [(3, .ref kd0), (0, .ref h0), (1, .int g), (2, .int 1)]) hx hb d_FO_dataOf_20 rfl hl (by decide) rfl (fun ls hl => ?_)
  refine lv_aload_n hx hb d_FO_dataOf_21 rfl (lv_at hl 1 rfl) ?_
  refine lv_iload_n hx hb d_FO_dataOf_22 rfl (lv_at hl 2 rfl) ?_
  have hPc := hP.sub (ws' := [(h0, .inr (4, [.ref qa, .ref kr, .ref k1, .ref k2, .ref k3, .ref k4, .ref k5, .ref k6, .ref km, .ref kp, .ref kD, .int (nI (ee)), .int (nI (gl)), .int (nI (wd)), .int (bI il)])), (k5, .inr (0, [.ref qa, .int (nI (x5)), .int (nI (y5)), .int (bI z5)])), (qa, .inl (cA, 1200, .inl (f)))]) [0, 1, 5] rfl
  have hDc := hD.sub (ws' := [(h0, .inr (4, [.ref qa, .ref kr, .ref k1, .ref k2, .ref k3, .ref k4, .ref k5, .ref k6, .ref km, .ref kp, .ref kD, .int (nI (ee)), .int (nI (gl)), .int (nI (wd)), .int (bI il)])), (k5, .inr (0, [.ref qa, .int (nI (x5)), .int (nI (y5)), .int (bI z5)])), (qa, .inl (cA, 1200, .inl (f)))]) [0, 1, 5] (by decide) rfl
  have hKc := hK.sub (tys' := [(cA, .int)]) [1] rfl
  have hFc := va_free (wc := [(h0, .inr (4, [.ref qa, .ref kr, .ref k1, .ref k2, .ref k3, .ref k4, .ref k5, .ref k6, .ref km, .ref kp, .ref kD, .int (nI (ee)), .int (nI (gl)), .int (nI (wd)), .int (bI il)])), (k5, .inr (0, [.ref qa, .int (nI (x5)), .int (nI (y5)), .int (bI z5)])), (qa, .inl (cA, 1200, .inl (f)))]) hD hS hA [0, 1, 5] rfl
  refine va_calll (va_runV (As := [.int g]) (rest := []) ⟨hx, hb, hml, hown, hts⟩ (g_FO_placeOf l dC dI h0 qa kr k1 k2 k3 k4 k5 k6 km kp kD ee gl wd il x5 y5 z5 cA f g s.heap.size (by omega) (by omega) (by omega) (by omega) (by assumption)) (cwV 1 hts (tw_inV w_416 w_418 wp_7 w_2 w_419) rfl rfl rfl (by decide +kernel) ⟨Nat.le_of_ble_eq_true rfl, Nat.le_of_ble_eq_true rfl⟩) ⟨fun a U g mk q => by obtain ⟨q0, q1, qP, qK, qD, qE0⟩ := q; exact ⟨q0, q1, qP, va_K.moved (u := U) (U := U.calling g mk a) (Vm.Alike.refl U.vm) qK, qD, nests.call qE0⟩, va_recv (hK := hK) (hP := hP) (q0 := 0) (ci := 4) rfl rfl, fun U hU hW => ⟨rfl, by rw [hU], by rw [hU]; exact hPc, va_K.moved hW.alike hKc, hDc.weaken (fun _ _ _ _ => trivial), nests.warm hW hNs⟩⟩ rfl rfl hl.1 rfl (lv_room (Nat.le_of_ble_eq_true rfl)) d_FO_dataOf_23 ⟨Nat.le_of_ble_eq_true rfl, Nat.le_of_ble_eq_true rfl⟩) hS (fun q _ h => hFc q h) hFc (fun r2059 u t H1 locs ht hvm hw hB hz1 hk1 hS => ?_)
  obtain ⟨z5__2060, hP1, hK1, hD1⟩ := hB
  rw [ht] at hP1
  have hK1 := va_K.moved hvm.symm hK1
  obtain ⟨hP, hD⟩ := va_join (wr := [(k6, .inr (0, [.ref qa, .int (nI (x6)), .int (nI (y6)), .int (bI z6)])), (kD, .inl (cD, 3, .inr (.inr (.inr (.inr (DT kd0 kd1 kd2)))))), (kd0, .inr (0, [.ref qa, .int (nI (xa)), .int (nI (ya)), .int (bI za)]))]) (w1 := [(h0, .inr (4, [.ref qa, .ref kr, .ref k1, .ref k2, .ref k3, .ref k4, .ref k5, .ref k6, .ref km, .ref kp, .ref kD, .int (nI (ee)), .int (nI (gl)), .int (nI (wd)), .int (bI il)])), (k5, .inr (0, [.ref qa, .int (nI (x5)), .int (nI (y5)), .int (bI z5__2060)])), (qa, .inl (cA, 1200, .inl (f)))]) hP hD [0, 1, 5] [2, 3, 4] rfl rfl (by decide) (by decide) hk1 hFc hP1 hD1
  have hK := (hK.sub (tys' := [(cD, .object "GlyphLines$Span")]) [0] rfl).app hK1
  generalize H1 = H at hP hS ⊢
  have hP : va_P (dC, dI) cls_ [(k6, .inr (0, [.ref qa, .int (nI (x6)), .int (nI (y6)), .int (bI z6)])), (kD, .inl (cD, 3, .inr (.inr (.inr (.inr (DT kd0 kd1 kd2)))))), (kd0, .inr (0, [.ref qa, .int (nI (xa)), .int (nI (ya)), .int (bI za)])), (h0, .inr (4, [.ref qa, .ref kr, .ref k1, .ref k2, .ref k3, .ref k4, .ref k5, .ref k6, .ref km, .ref kp, .ref kD, .int (nI (ee)), .int (nI (gl)), .int (nI (wd)), .int (bI il)])), (k5, .inr (0, [.ref qa, .int (nI (x5)), .int (nI (y5)), .int (bI z5__2060)])), (qa, .inl (cA, 1200, .inl (f)))] H := hP
  have hD : va_D A [(k6, .inr (0, [.ref qa, .int (nI (x6)), .int (nI (y6)), .int (bI z6)])), (kD, .inl (cD, 3, .inr (.inr (.inr (.inr (DT kd0 kd1 kd2)))))), (kd0, .inr (0, [.ref qa, .int (nI (xa)), .int (nI (ya)), .int (bI za)])), (h0, .inr (4, [.ref qa, .ref kr, .ref k1, .ref k2, .ref k3, .ref k4, .ref k5, .ref k6, .ref km, .ref kp, .ref kD, .int (nI (ee)), .int (nI (gl)), .int (nI (wd)), .int (bI il)])), (k5, .inr (0, [.ref qa, .int (nI (x5)), .int (nI (y5)), .int (bI z5__2060)])), (qa, .inl (cA, 1200, .inl (f)))] := hD
  have hK : va_K (dC, dI) cls_ [(cD, .object "GlyphLines$Span"), (cA, .int)] s := hK
  have hw_r2059 := hw
  refine lv_l2i (v := r2059.toInt32) hx hb d_FO_dataOf_26 rfl ?_
  refine lv_topi (fun v2061 ev2061 => ?_)
  refine lv_istore (lv' := [(4, .int v2061), (3, .ref kd0), (0, .ref h0), (1, .int g), (2, .int 1)]) hx hb d_FO_dataOf_27 hl (by decide) rfl (fun ls hl => ?_)
  refine lv_aload_n hx hb d_FO_dataOf_29 rfl (lv_at hl 1 rfl) ?_
  refine lv_aload_n hx hb d_FO_dataOf_30 rfl (lv_at hl 2 rfl) ?_
  refine va_get (D := (dC, dI)) (ci := 4) (v := .ref k6) (C := R_FO) (T := F_FO) (N := 15) hx hb hts in_FO hown hK hP 3 rfl rfl 7 (by decide) (hts _ (List.mem_cons_of_mem _ w_124)) (fun _ h9 => h9) rfl d_FO_dataOf_31 ?_
  refine va_getN (D := (dC, dI)) (ci := 0) (v := .int (nI (x6))) (C := R_SP) (T := F_SP) (N := 4) (host := "GlyphLines") hx hb hts in_SP hown hK hP 0 rfl rfl 1 (by decide) (va_Nw.use rfl (nest_0 hNs)) (fun _ h9 => h9) rfl d_FO_dataOf_34 ?_
  refine lv_iload hx hb d_FO_dataOf_37 (lv_at hl 0 rfl) ?_
  refine lv_iadd hx hb d_FO_dataOf_39 ?_
  refine lv_topi (fun v2062 ev2062 => ?_)
  refine lv_aload_n hx hb d_FO_dataOf_40 rfl (lv_at hl 2 rfl) ?_
  refine lv_iload_n hx hb d_FO_dataOf_41 rfl (lv_at hl 3 rfl) ?_
  refine lv_iconst (v := 1) hx hb d_FO_dataOf_42 (by decide) ?_
  refine lv_iadd hx hb d_FO_dataOf_43 ?_
  refine lv_topi (fun v2063 ev2063 => ?_)
  have hPc := hP.sub (ws' := [(h0, .inr (4, [.ref qa, .ref kr, .ref k1, .ref k2, .ref k3, .ref k4, .ref k5, .ref k6, .ref km, .ref kp, .ref kD, .int (nI (ee)), .int (nI (gl)), .int (nI (wd)), .int (bI il)])), (k5, .inr (0, [.ref qa, .int (nI (x5)), .int (nI (y5)), .int (bI z5__2060)])), (qa, .inl (cA, 1200, .inl (f)))]) [3, 4, 5] rfl
  have hDc := hD.sub (ws' := [(h0, .inr (4, [.ref qa, .ref kr, .ref k1, .ref k2, .ref k3, .ref k4, .ref k5, .ref k6, .ref km, .ref kp, .ref kD, .int (nI (ee)), .int (nI (gl)), .int (nI (wd)), .int (bI il)])), (k5, .inr (0, [.ref qa, .int (nI (x5)), .int (nI (y5)), .int (bI z5__2060)])), (qa, .inl (cA, 1200, .inl (f)))]) [3, 4, 5] (by decide) rfl
  have hKc := hK.sub (tys' := [(cA, .int)]) [1] rfl
  have hFc := va_free (wc := [(h0, .inr (4, [.ref qa, .ref kr, .ref k1, .ref k2, .ref k3, .ref k4, .ref k5, .ref k6, .ref km, .ref kp, .ref kD, .int (nI (ee)), .int (nI (gl)), .int (nI (wd)), .int (bI il)])), (k5, .inr (0, [.ref qa, .int (nI (x5)), .int (nI (y5)), .int (bI z5__2060)])), (qa, .inl (cA, 1200, .inl (f)))]) hD hS hA [3, 4, 5] rfl
  refine va_calll (va_runV (As := [.int v2063]) (rest := [.int v2062, .ref kd0]) ⟨hx, hb, hml, hown, hts⟩ (g_FO_placeOf l dC dI h0 qa kr k1 k2 k3 k4 k5 k6 km kp kD ee gl wd il x5 y5 z5__2060 cA f v2063 H.size (by omega) (by omega) (by omega) (by omega) (by assumption)) (cwV 1 hts (tw_inV w_416 w_418 wp_7 w_2 w_419) rfl rfl rfl (by decide +kernel) ⟨Nat.le_of_ble_eq_true rfl, Nat.le_of_ble_eq_true rfl⟩) ⟨fun a U g mk q => by obtain ⟨q0, q1, qP, qK, qD, qE0⟩ := q; exact ⟨q0, q1, qP, va_K.moved (u := U) (U := U.calling g mk a) (Vm.Alike.refl U.vm) qK, qD, nests.call qE0⟩, va_recv (hK := hK) (hP := hP) (q0 := 3) (ci := 4) rfl rfl, fun U hU hW => ⟨rfl, by rw [hU], by rw [hU]; exact hPc, va_K.moved hW.alike hKc, hDc.weaken (fun _ _ _ _ => trivial), nests.warm hW hNs⟩⟩ rfl rfl hl.1 rfl (lv_room (Nat.le_of_ble_eq_true rfl)) d_FO_dataOf_44 ⟨Nat.le_of_ble_eq_true rfl, Nat.le_of_ble_eq_true rfl⟩) hS (fun q _ h => hFc q h) hFc (fun r2064 u t H1 locs ht hvm hw hB hz1 hk1 hS => ?_)
  obtain ⟨z5__2065, hP1, hK1, hD1⟩ := hB
  rw [ht] at hP1
  have hK1 := va_K.moved hvm.symm hK1
  obtain ⟨hP, hD⟩ := va_join (wr := [(k6, .inr (0, [.ref qa, .int (nI (x6)), .int (nI (y6)), .int (bI z6)])), (kD, .inl (cD, 3, .inr (.inr (.inr (.inr (DT kd0 kd1 kd2)))))), (kd0, .inr (0, [.ref qa, .int (nI (xa)), .int (nI (ya)), .int (bI za)]))]) (w1 := [(h0, .inr (4, [.ref qa, .ref kr, .ref k1, .ref k2, .ref k3, .ref k4, .ref k5, .ref k6, .ref km, .ref kp, .ref kD, .int (nI (ee)), .int (nI (gl)), .int (nI (wd)), .int (bI il)])), (k5, .inr (0, [.ref qa, .int (nI (x5)), .int (nI (y5)), .int (bI z5__2065)])), (qa, .inl (cA, 1200, .inl (f)))]) hP hD [3, 4, 5] [0, 1, 2] rfl rfl (by decide) (by decide) hk1 hFc hP1 hD1
  have hK := (hK.sub (tys' := [(cD, .object "GlyphLines$Span")]) [0] rfl).app hK1
  generalize H1 = H at hP hS ⊢
  have hP : va_P (dC, dI) cls_ [(k6, .inr (0, [.ref qa, .int (nI (x6)), .int (nI (y6)), .int (bI z6)])), (kD, .inl (cD, 3, .inr (.inr (.inr (.inr (DT kd0 kd1 kd2)))))), (kd0, .inr (0, [.ref qa, .int (nI (xa)), .int (nI (ya)), .int (bI za)])), (h0, .inr (4, [.ref qa, .ref kr, .ref k1, .ref k2, .ref k3, .ref k4, .ref k5, .ref k6, .ref km, .ref kp, .ref kD, .int (nI (ee)), .int (nI (gl)), .int (nI (wd)), .int (bI il)])), (k5, .inr (0, [.ref qa, .int (nI (x5)), .int (nI (y5)), .int (bI z5__2065)])), (qa, .inl (cA, 1200, .inl (f)))] H := hP
  have hD : va_D A [(k6, .inr (0, [.ref qa, .int (nI (x6)), .int (nI (y6)), .int (bI z6)])), (kD, .inl (cD, 3, .inr (.inr (.inr (.inr (DT kd0 kd1 kd2)))))), (kd0, .inr (0, [.ref qa, .int (nI (xa)), .int (nI (ya)), .int (bI za)])), (h0, .inr (4, [.ref qa, .ref kr, .ref k1, .ref k2, .ref k3, .ref k4, .ref k5, .ref k6, .ref km, .ref kp, .ref kD, .int (nI (ee)), .int (nI (gl)), .int (nI (wd)), .int (bI il)])), (k5, .inr (0, [.ref qa, .int (nI (x5)), .int (nI (y5)), .int (bI z5__2065)])), (qa, .inl (cA, 1200, .inl (f)))] := hD
  have hK : va_K (dC, dI) cls_ [(cD, .object "GlyphLines$Span"), (cA, .int)] s := hK
  have hw_r2064 := hw
  refine lv_l2i (v := r2064.toInt32) hx hb d_FO_dataOf_47 rfl ?_
  refine lv_topi (fun v2066 ev2066 => ?_)
  refine lv_iload hx hb d_FO_dataOf_48 (lv_at hl 0 rfl) ?_
  refine lv_isub hx hb d_FO_dataOf_50 ?_
  refine lv_topi (fun v2067 ev2067 => ?_)
  have hPc := hP.sub (ws' := [(kd0, .inr (0, [.ref qa, .int (nI (xa)), .int (nI (ya)), .int (bI za)])), (qa, .inl (cA, 1200, .inl (f)))]) [2, 5] rfl
  have hDc := hD.sub (ws' := [(kd0, .inr (0, [.ref qa, .int (nI (xa)), .int (nI (ya)), .int (bI za)])), (qa, .inl (cA, 1200, .inl (f)))]) [2, 5] (by decide) rfl
  have hKc := hK.sub (tys' := [(cA, .int)]) [1] rfl
  have hFc := va_free (wc := [(kd0, .inr (0, [.ref qa, .int (nI (xa)), .int (nI (ya)), .int (bI za)])), (qa, .inl (cA, 1200, .inl (f)))]) hD hS hA [2, 5] rfl
  refine va_callv (va_runV (As := [.int v2062, .int v2067]) (rest := []) ⟨hx, hb, hml, hown, hts⟩ (g_SP_lay l dC dI kd0 qa (nI (xa)) (nI (ya)) za cA f v2062 v2067 H.size) (cwV 2 hts (tw_inV w_479 w_345 w_346 w_4 w_347) rfl rfl rfl (by decide +kernel) ⟨Nat.le_of_ble_eq_true rfl, Nat.le_of_ble_eq_true rfl⟩) ⟨fun a U g mk q => by obtain ⟨q0, q1, qP, qK, qD⟩ := q; exact ⟨q0, q1, qP, va_K.moved (u := U) (U := U.calling g mk a) (Vm.Alike.refl U.vm) qK, qD⟩, va_recv (hK := hK) (hP := hP) (q0 := 2) (ci := 0) rfl rfl, fun U hU hW => ⟨rfl, by rw [hU], by rw [hU]; exact hPc, va_K.moved hW.alike hKc, hDc.weaken (fun _ _ _ _ => trivial)⟩⟩ rfl rfl hl.1 rfl (lv_room (Nat.le_of_ble_eq_true rfl)) d_FO_dataOf_51 ⟨Nat.le_of_ble_eq_true rfl, Nat.le_of_ble_eq_true rfl⟩) hS (fun q _ h => hFc q h) hFc (fun u t H1 locs ht hvm hw hB hz1 hk1 hS => ?_)
  obtain ⟨a_2068, n_2069, hq_f2070_0, hP1, hK1, hD1⟩ := hB
  rw [ht] at hP1
  have hK1 := va_K.moved hvm.symm hK1
  obtain ⟨hP, hD⟩ := va_join (wr := [(k6, .inr (0, [.ref qa, .int (nI (x6)), .int (nI (y6)), .int (bI z6)])), (kD, .inl (cD, 3, .inr (.inr (.inr (.inr (DT kd0 kd1 kd2)))))), (h0, .inr (4, [.ref qa, .ref kr, .ref k1, .ref k2, .ref k3, .ref k4, .ref k5, .ref k6, .ref km, .ref kp, .ref kD, .int (nI (ee)), .int (nI (gl)), .int (nI (wd)), .int (bI il)])), (k5, .inr (0, [.ref qa, .int (nI (x5)), .int (nI (y5)), .int (bI z5__2065)]))]) (w1 := [(kd0, .inr (0, [.ref qa, .int (nI (a_2068)), .int (nI (n_2069)), .int 0])), (qa, .inl (cA, 1200, .inl (f)))]) hP hD [2, 5] [0, 1, 3, 4] rfl rfl (by decide) (by decide) hk1 hFc hP1 hD1
  have hK := (hK.sub (tys' := [(cD, .object "GlyphLines$Span")]) [0] rfl).app hK1
  generalize H1 = H at hP hS ⊢
  have hP : va_P (dC, dI) cls_ [(k6, .inr (0, [.ref qa, .int (nI (x6)), .int (nI (y6)), .int (bI z6)])), (kD, .inl (cD, 3, .inr (.inr (.inr (.inr (DT kd0 kd1 kd2)))))), (h0, .inr (4, [.ref qa, .ref kr, .ref k1, .ref k2, .ref k3, .ref k4, .ref k5, .ref k6, .ref km, .ref kp, .ref kD, .int (nI (ee)), .int (nI (gl)), .int (nI (wd)), .int (bI il)])), (k5, .inr (0, [.ref qa, .int (nI (x5)), .int (nI (y5)), .int (bI z5__2065)])), (kd0, .inr (0, [.ref qa, .int (nI (a_2068)), .int (nI (n_2069)), .int 0])), (qa, .inl (cA, 1200, .inl (f)))] H := hP
  have hD : va_D A [(k6, .inr (0, [.ref qa, .int (nI (x6)), .int (nI (y6)), .int (bI z6)])), (kD, .inl (cD, 3, .inr (.inr (.inr (.inr (DT kd0 kd1 kd2)))))), (h0, .inr (4, [.ref qa, .ref kr, .ref k1, .ref k2, .ref k3, .ref k4, .ref k5, .ref k6, .ref km, .ref kp, .ref kD, .int (nI (ee)), .int (nI (gl)), .int (nI (wd)), .int (bI il)])), (k5, .inr (0, [.ref qa, .int (nI (x5)), .int (nI (y5)), .int (bI z5__2065)])), (kd0, .inr (0, [.ref qa, .int (nI (a_2068)), .int (nI (n_2069)), .int 0])), (qa, .inl (cA, 1200, .inl (f)))] := hD
  have hK : va_K (dC, dI) cls_ [(cD, .object "GlyphLines$Span"), (cA, .int)] s := hK
  refine lv_aload_n hx hb d_FO_dataOf_54 rfl (lv_at hl 1 rfl) ?_
  refine W.widen (k := 0) (n := 0) (Nat.le_of_ble_eq_true rfl) (Nat.le_of_ble_eq_true rfl) ?_
  have hP9 := hP.sub (ws' := [(h0, .inr (4, [.ref qa, .ref kr, .ref k1, .ref k2, .ref k3, .ref k4, .ref k5, .ref k6, .ref km, .ref kp, .ref kD, .int (nI (ee)), .int (nI (gl)), .int (nI (wd)), .int (bI il)])), (k5, .inr (0, [.ref qa, .int (nI (x5)), .int (nI (y5)), .int (bI z5__2065)])), (k6, .inr (0, [.ref qa, .int (nI (x6)), .int (nI (y6)), .int (bI z6)])), (kD, .inl (cD, 3, .inr (.inr (.inr (.inr (DT kd0 kd1 kd2)))))), (kd0, .inr (0, [.ref qa, .int (nI (a_2068)), .int (nI (n_2069)), .int 0])), (qa, .inl (cA, 1200, .inl (f)))]) [2, 3, 0, 1, 4, 5] rfl
  have hD9 := hD.sub (ws' := [(h0, .inr (4, [.ref qa, .ref kr, .ref k1, .ref k2, .ref k3, .ref k4, .ref k5, .ref k6, .ref km, .ref kp, .ref kD, .int (nI (ee)), .int (nI (gl)), .int (nI (wd)), .int (bI il)])), (k5, .inr (0, [.ref qa, .int (nI (x5)), .int (nI (y5)), .int (bI z5__2065)])), (k6, .inr (0, [.ref qa, .int (nI (x6)), .int (nI (y6)), .int (bI z6)])), (kD, .inl (cD, 3, .inr (.inr (.inr (.inr (DT kd0 kd1 kd2)))))), (kd0, .inr (0, [.ref qa, .int (nI (a_2068)), .int (nI (n_2069)), .int 0])), (qa, .inl (cA, 1200, .inl (f)))]) [2, 3, 0, 1, 4, 5] (by decide) rfl
  have hK9 := hK.sub (tys' := [(cD, .object "GlyphLines$Span"), (cA, .int)]) [0, 1] rfl
  exact W.aret (v := .ref kd0) (rt := .object "GlyphLines$Span") hx hb hr (Or.inl ⟨_, rfl⟩) (Or.inr ⟨_, rfl⟩) (fun t ht hW => ⟨⟨(), kd0, rfl, trivial, rfl, z5__2065, a_2068, n_2069, false, by omega, by rw [ht]; exact hP9, va_K.moved hW.alike hK9, hD9⟩, hS.F ht⟩) hS.2.2 d_FO_dataOf_55
set_option maxHeartbeats 4000000 in
set_option maxRecDepth 100000 in
/-- GlyphLines$Font.dataOf -/
theorem g_FO_dataOf2 (l : Launch) (dC : Nat → ClassId) (dI : Nat → Nat → Nat) (h0 : Nat) (qa : Nat) (kr : Nat) (k1 : Nat) (k2 : Nat) (k3 : Nat) (k4 : Nat) (k5 : Nat) (k6 : Nat) (km : Nat) (kp : Nat) (kD : Nat) (ee : Nat) (gl : Nat) (wd : Nat) (il : Bool) (x5 : Nat) (y5 : Nat) (z5 : Bool) (x6 : Nat) (y6 : Nat) (z6 : Bool) (cD : ClassId) (kd0 : Nat) (kd1 : Nat) (kd2 : Nat) (xb : Nat) (yb : Nat) (zb : Bool) (cA : ClassId) (f : Nat → Int32) (g : Int32) (sz : Nat) (hq0 : ee < 65536) (hq1 : gl < 65536) (hq2 : wd < 65536) (hq3 : x5 + y5 ≤ 1200) (hq4 : x6 + y6 ≤ 1200) (hq5 : xb + yb ≤ 1200) (hq6 : isB f) : Met l y_FO_dataOf s_FO_dataOf ({ frames := 12, cells := 0, slots := 0, locals := 400 }) (va_Pc [.ref h0, .int g, .int 2] (fun U => U.heap.size = sz ∧ va_P (dC, dI) cls_ [(h0, .inr (4, [.ref qa, .ref kr, .ref k1, .ref k2, .ref k3, .ref k4, .ref k5, .ref k6, .ref km, .ref kp, .ref kD, .int (nI (ee)), .int (nI (gl)), .int (nI (wd)), .int (bI il)])), (k5, .inr (0, [.ref qa, .int (nI (x5)), .int (nI (y5)), .int (bI z5)])), (k6, .inr (0, [.ref qa, .int (nI (x6)), .int (nI (y6)), .int (bI z6)])), (kD, .inl (cD, 3, .inr (.inr (.inr (.inr (DT kd0 kd1 kd2)))))), (kd1, .inr (0, [.ref qa, .int (nI (xb)), .int (nI (yb)), .int (bI zb)])), (qa, .inl (cA, 1200, .inl (f)))] U.heap ∧ va_K (dC, dI) cls_ [(cD, .object "GlyphLines$Span"), (cA, .int)] U ∧ va_D (fun _ => True) [(h0, .inr (4, [.ref qa, .ref kr, .ref k1, .ref k2, .ref k3, .ref k4, .ref k5, .ref k6, .ref km, .ref kp, .ref kD, .int (nI (ee)), .int (nI (gl)), .int (nI (wd)), .int (bI il)])), (k5, .inr (0, [.ref qa, .int (nI (x5)), .int (nI (y5)), .int (bI z5)])), (k6, .inr (0, [.ref qa, .int (nI (x6)), .int (nI (y6)), .int (bI z6)])), (kD, .inl (cD, 3, .inr (.inr (.inr (.inr (DT kd0 kd1 kd2)))))), (kd1, .inr (0, [.ref qa, .int (nI (xb)), .int (nI (yb)), .int (bI zb)])), (qa, .inl (cA, 1200, .inl (f)))] ∧ nests U)) (va_Qr (fun _ : Unit => True) (fun (_ : Unit) (ra : Nat) (t : State) => ra = kd1 ∧ ∃ (z5_2 : Bool) (xb_2 : Nat) (yb_2 : Nat) (zb_2 : Bool), xb_2 + yb_2 ≤ 1200 ∧ va_P (dC, dI) cls_ [(h0, .inr (4, [.ref qa, .ref kr, .ref k1, .ref k2, .ref k3, .ref k4, .ref k5, .ref k6, .ref km, .ref kp, .ref kD, .int (nI (ee)), .int (nI (gl)), .int (nI (wd)), .int (bI il)])), (k5, .inr (0, [.ref qa, .int (nI (x5)), .int (nI (y5)), .int (bI z5_2)])), (k6, .inr (0, [.ref qa, .int (nI (x6)), .int (nI (y6)), .int (bI z6)])), (kD, .inl (cD, 3, .inr (.inr (.inr (.inr (DT kd0 kd1 kd2)))))), (kd1, .inr (0, [.ref qa, .int (nI (xb_2)), .int (nI (yb_2)), .int (bI zb_2)])), (qa, .inl (cA, 1200, .inl (f)))] t.heap ∧ va_K (dC, dI) cls_ [(cD, .object "GlyphLines$Span"), (cA, .int)] t ∧ va_D (va_A [(h0, .inr (4, [.ref qa, .ref kr, .ref k1, .ref k2, .ref k3, .ref k4, .ref k5, .ref k6, .ref km, .ref kp, .ref kD, .int (nI (ee)), .int (nI (gl)), .int (nI (wd)), .int (bI il)])), (k5, .inr (0, [.ref qa, .int (nI (x5)), .int (nI (y5)), .int (bI z5)])), (k6, .inr (0, [.ref qa, .int (nI (x6)), .int (nI (y6)), .int (bI z6)])), (kD, .inl (cD, 3, .inr (.inr (.inr (.inr (DT kd0 kd1 kd2)))))), (kd1, .inr (0, [.ref qa, .int (nI (xb)), .int (nI (yb)), .int (bI zb)])), (qa, .inl (cA, 1200, .inl (f)))] sz) [(h0, .inr (4, [.ref qa, .ref kr, .ref k1, .ref k2, .ref k3, .ref k4, .ref k5, .ref k6, .ref km, .ref kp, .ref kD, .int (nI (ee)), .int (nI (gl)), .int (nI (wd)), .int (bI il)])), (k5, .inr (0, [.ref qa, .int (nI (x5)), .int (nI (y5)), .int (bI z5_2)])), (k6, .inr (0, [.ref qa, .int (nI (x6)), .int (nI (y6)), .int (bI z6)])), (kD, .inl (cD, 3, .inr (.inr (.inr (.inr (DT kd0 kd1 kd2)))))), (kd1, .inr (0, [.ref qa, .int (nI (xb_2)), .int (nI (yb_2)), .int (bI zb_2)])), (qa, .inl (cA, 1200, .inl (f)))]) (va_A [(h0, .inr (4, [.ref qa, .ref kr, .ref k1, .ref k2, .ref k3, .ref k4, .ref k5, .ref k6, .ref km, .ref kp, .ref kD, .int (nI (ee)), .int (nI (gl)), .int (nI (wd)), .int (bI il)])), (k5, .inr (0, [.ref qa, .int (nI (x5)), .int (nI (y5)), .int (bI z5)])), (k6, .inr (0, [.ref qa, .int (nI (x6)), .int (nI (y6)), .int (bI z6)])), (kD, .inl (cD, 3, .inr (.inr (.inr (.inr (DT kd0 kd1 kd2)))))), (kd1, .inr (0, [.ref qa, .int (nI (xb)), .int (nI (yb)), .int (bI zb)])), (qa, .inl (cA, 1200, .inl (f)))] sz)) 0 0 (va_A [(h0, .inr (4, [.ref qa, .ref kr, .ref k1, .ref k2, .ref k3, .ref k4, .ref k5, .ref k6, .ref km, .ref kp, .ref kD, .int (nI (ee)), .int (nI (gl)), .int (nI (wd)), .int (bI il)])), (k5, .inr (0, [.ref qa, .int (nI (x5)), .int (nI (y5)), .int (bI z5)])), (k6, .inr (0, [.ref qa, .int (nI (x6)), .int (nI (y6)), .int (bI z6)])), (kD, .inl (cD, 3, .inr (.inr (.inr (.inr (DT kd0 kd1 kd2)))))), (kd1, .inr (0, [.ref qa, .int (nI (xb)), .int (nI (yb)), .int (bI zb)])), (qa, .inl (cA, 1200, .inl (f)))] sz) := by
  refine Met.ofW (cc := b_FO_dataOf) (maxL := 5) (ret := (some (.object "GlyphLines$Span"))) (by decide) rfl ?_
  intro p e s m args below meth c s₁ B hml hv
  obtain ⟨rfl, hsz, hP, hK, hD0, hNs⟩ := hv
  have hx := B.exec
  have hb := B.bytes
  have hr := B.returns
  have hts := atoms_spec (ws := s_FO_dataOf) B.pre
  have hown : s.vm.findClass R_FO = some m.cls := findClass_of_methodNamed B.named
  have hlocks := B.notSynchronized
  subst hsz
  have hD := hD0.self (sz := s.heap.size)
  generalize hAe : va_A [(h0, .inr (4, [.ref qa, .ref kr, .ref k1, .ref k2, .ref k3, .ref k4, .ref k5, .ref k6, .ref km, .ref kp, .ref kD, .int (nI (ee)), .int (nI (gl)), .int (nI (wd)), .int (bI il)])), (k5, .inr (0, [.ref qa, .int (nI (x5)), .int (nI (y5)), .int (bI z5)])), (k6, .inr (0, [.ref qa, .int (nI (x6)), .int (nI (y6)), .int (bI z6)])), (kD, .inl (cD, 3, .inr (.inr (.inr (.inr (DT kd0 kd1 kd2)))))), (kd1, .inr (0, [.ref qa, .int (nI (xb)), .int (nI (yb)), .int (bI zb)])), (qa, .inl (cA, 1200, .inl (f)))] s.heap.size = A at hD ⊢
  have hA : ∀ q : Nat, s.heap.size ≤ q → A q := fun q h => by rw [← hAe]; exact Or.inr h
  have hS : va_S A s.heap s.heap [] := va_S.rf
  have hP : va_P (dC, dI) cls_ [(h0, .inr (4, [.ref qa, .ref kr, .ref k1, .ref k2, .ref k3, .ref k4, .ref k5, .ref k6, .ref km, .ref kp, .ref kD, .int (nI (ee)), .int (nI (gl)), .int (nI (wd)), .int (bI il)])), (k5, .inr (0, [.ref qa, .int (nI (x5)), .int (nI (y5)), .int (bI z5)])), (k6, .inr (0, [.ref qa, .int (nI (x6)), .int (nI (y6)), .int (bI z6)])), (kD, .inl (cD, 3, .inr (.inr (.inr (.inr (DT kd0 kd1 kd2)))))), (kd1, .inr (0, [.ref qa, .int (nI (xb)), .int (nI (yb)), .int (bI zb)])), (qa, .inl (cA, 1200, .inl (f)))] s.heap := hP
  have hl := lv_entry ([.ref h0, .int g, .int 2]) (n := 5) (Nat.le_of_ble_eq_true rfl)
  rw [lg_entry_eq]
  generalize (lg_sl ([.ref h0, .int g, .int 2]) ++ List.replicate (5 - (lg_sl ([.ref h0, .int g, .int 2])).length) Slot.unset).toArray = ls at hl ⊢
  have hl : lv_has ls 5 [(0, .ref h0), (1, .int g), (2, .int 2)] := hl
  refine lv_aload_n hx hb d_FO_dataOf_0 rfl (lv_at hl 0 rfl) ?_
  refine va_get (D := (dC, dI)) (ci := 4) (v := .ref kD) (C := R_FO) (T := F_FO) (N := 15) hx hb hts in_FO hown hK hP 0 rfl rfl 10 (by decide) (hts _ (List.mem_cons_of_mem _ w_127)) (fun _ h9 => h9) rfl d_FO_dataOf_1 ?_
  refine lv_iconst (v := 0) hx hb d_FO_dataOf_4 (by decide) ?_
  refine lv_iload_n hx hb d_FO_dataOf_5 rfl (lv_at hl 2 rfl) ?_
  refine lv_aload_n hx hb d_FO_dataOf_6 rfl (lv_at hl 0 rfl) ?_
  refine va_get (D := (dC, dI)) (ci := 4) (v := .ref kD) (C := R_FO) (T := F_FO) (N := 15) hx hb hts in_FO hown hK hP 0 rfl rfl 10 (by decide) (hts _ (List.mem_cons_of_mem _ w_127)) (fun _ h9 => h9) rfl d_FO_dataOf_7 ?_
  refine va_alen (v := 3) hx hb hK hP 3 0 rfl rfl (by show Int32.ofNat 3 = 3; decide +kernel) d_FO_dataOf_10 ?_
  refine va_mmin hx hb (by rw [hml]; exact hl.1.symm) hown (hts _ (List.mem_cons_of_mem _ w_334)) (hts _ (List.mem_cons_of_mem _ w_335)) (hts _ (List.mem_cons_of_mem _ w_17)) (hts _ (List.mem_cons_of_mem _ w_336)) (Nat.le_of_ble_eq_true rfl) (Nat.le_of_ble_eq_true rfl) (Nat.le_of_ble_eq_true rfl) (Nat.le_of_ble_eq_true rfl) d_FO_dataOf_11 ?_
  refine lv_ci (y := 2) (by decide +kernel) ?_
  refine lv_iconst (v := 1) hx hb d_FO_dataOf_14 (by decide) ?_
  refine lv_isub hx hb d_FO_dataOf_15 ?_
  refine lv_ci (y := 1) (by decide +kernel) ?_
  refine va_mmax hx hb (by rw [hml]; exact hl.1.symm) hown (hts _ (List.mem_cons_of_mem _ w_478)) (hts _ (List.mem_cons_of_mem _ w_350)) (hts _ (List.mem_cons_of_mem _ w_17)) (hts _ (List.mem_cons_of_mem _ w_351)) (Nat.le_of_ble_eq_true rfl) (Nat.le_of_ble_eq_true rfl) (Nat.le_of_ble_eq_true rfl) (Nat.le_of_ble_eq_true rfl) d_FO_dataOf_16 ?_
  refine lv_ci (y := 1) (by decide +kernel) ?_
  refine va_aldq hx hb hK hP 3 0 rfl rfl (pk_in (1) 3 (by omega) rfl (by decide)) d_FO_dataOf_19 ?_
  rw [show (DT kd0 kd1 kd2) (Int32.toNatClampNeg 1) = some kd1 from DT_1 _ _ _]
  show W p l e _ s m _ below meth c s.heap _ _ _ _ (F0 m 20 ls [.ref kd1])
  refine lv_astore_n (lv' := [(3, .ref kd1), (0, .ref h0), (1, .int g), (2, .int 2)]) hx hb d_FO_dataOf_20 rfl hl (by decide) rfl (fun ls hl => ?_)
  refine lv_aload_n hx hb d_FO_dataOf_21 rfl (lv_at hl 1 rfl) ?_
  refine lv_iload_n hx hb d_FO_dataOf_22 rfl (lv_at hl 2 rfl) ?_
  have hPc := hP.sub (ws' := [(h0, .inr (4, [.ref qa, .ref kr, .ref k1, .ref k2, .ref k3, .ref k4, .ref k5, .ref k6, .ref km, .ref kp, .ref kD, .int (nI (ee)), .int (nI (gl)), .int (nI (wd)), .int (bI il)])), (k5, .inr (0, [.ref qa, .int (nI (x5)), .int (nI (y5)), .int (bI z5)])), (qa, .inl (cA, 1200, .inl (f)))]) [0, 1, 5] rfl
  have hDc := hD.sub (ws' := [(h0, .inr (4, [.ref qa, .ref kr, .ref k1, .ref k2, .ref k3, .ref k4, .ref k5, .ref k6, .ref km, .ref kp, .ref kD, .int (nI (ee)), .int (nI (gl)), .int (nI (wd)), .int (bI il)])), (k5, .inr (0, [.ref qa, .int (nI (x5)), .int (nI (y5)), .int (bI z5)])), (qa, .inl (cA, 1200, .inl (f)))]) [0, 1, 5] (by decide) rfl
  have hKc := hK.sub (tys' := [(cA, .int)]) [1] rfl
  have hFc := va_free (wc := [(h0, .inr (4, [.ref qa, .ref kr, .ref k1, .ref k2, .ref k3, .ref k4, .ref k5, .ref k6, .ref km, .ref kp, .ref kD, .int (nI (ee)), .int (nI (gl)), .int (nI (wd)), .int (bI il)])), (k5, .inr (0, [.ref qa, .int (nI (x5)), .int (nI (y5)), .int (bI z5)])), (qa, .inl (cA, 1200, .inl (f)))]) hD hS hA [0, 1, 5] rfl
  refine va_calll (va_runV (As := [.int g]) (rest := []) ⟨hx, hb, hml, hown, hts⟩ (g_FO_placeOf l dC dI h0 qa kr k1 k2 k3 k4 k5 k6 km kp kD ee gl wd il x5 y5 z5 cA f g s.heap.size (by omega) (by omega) (by omega) (by omega) (by assumption)) (cwV 1 hts (tw_inV w_416 w_418 wp_7 w_2 w_419) rfl rfl rfl (by decide +kernel) ⟨Nat.le_of_ble_eq_true rfl, Nat.le_of_ble_eq_true rfl⟩) ⟨fun a U g mk q => by obtain ⟨q0, q1, qP, qK, qD, qE0⟩ := q; exact ⟨q0, q1, qP, va_K.moved (u := U) (U := U.calling g mk a) (Vm.Alike.refl U.vm) qK, qD, nests.call qE0⟩, va_recv (hK := hK) (hP := hP) (q0 := 0) (ci := 4) rfl rfl, fun U hU hW => ⟨rfl, by rw [hU], by rw [hU]; exact hPc, va_K.moved hW.alike hKc, hDc.weaken (fun _ _ _ _ => trivial), nests.warm hW hNs⟩⟩ rfl rfl hl.1 rfl (lv_room (Nat.le_of_ble_eq_true rfl)) d_FO_dataOf_23 ⟨Nat.le_of_ble_eq_true rfl, Nat.le_of_ble_eq_true rfl⟩) hS (fun q _ h => hFc q h) hFc (fun r2071 u t H1 locs ht hvm hw hB hz1 hk1 hS => ?_)
  obtain ⟨z5__2072, hP1, hK1, hD1⟩ := hB
  rw [ht] at hP1
  have hK1 := va_K.moved hvm.symm hK1
  obtain ⟨hP, hD⟩ := va_join (wr := [(k6, .inr (0, [.ref qa, .int (nI (x6)), .int (nI (y6)), .int (bI z6)])), (kD, .inl (cD, 3, .inr (.inr (.inr (.inr (DT kd0 kd1 kd2)))))), (kd1, .inr (0, [.ref qa, .int (nI (xb)), .int (nI (yb)), .int (bI zb)]))]) (w1 := [(h0, .inr (4, [.ref qa, .ref kr, .ref k1, .ref k2, .ref k3, .ref k4, .ref k5, .ref k6, .ref km, .ref kp, .ref kD, .int (nI (ee)), .int (nI (gl)), .int (nI (wd)), .int (bI il)])), (k5, .inr (0, [.ref qa, .int (nI (x5)), .int (nI (y5)), .int (bI z5__2072)])), (qa, .inl (cA, 1200, .inl (f)))]) hP hD [0, 1, 5] [2, 3, 4] rfl rfl (by decide) (by decide) hk1 hFc hP1 hD1
  have hK := (hK.sub (tys' := [(cD, .object "GlyphLines$Span")]) [0] rfl).app hK1
  generalize H1 = H at hP hS ⊢
  have hP : va_P (dC, dI) cls_ [(k6, .inr (0, [.ref qa, .int (nI (x6)), .int (nI (y6)), .int (bI z6)])), (kD, .inl (cD, 3, .inr (.inr (.inr (.inr (DT kd0 kd1 kd2)))))), (kd1, .inr (0, [.ref qa, .int (nI (xb)), .int (nI (yb)), .int (bI zb)])), (h0, .inr (4, [.ref qa, .ref kr, .ref k1, .ref k2, .ref k3, .ref k4, .ref k5, .ref k6, .ref km, .ref kp, .ref kD, .int (nI (ee)), .int (nI (gl)), .int (nI (wd)), .int (bI il)])), (k5, .inr (0, [.ref qa, .int (nI (x5)), .int (nI (y5)), .int (bI z5__2072)])), (qa, .inl (cA, 1200, .inl (f)))] H := hP
  have hD : va_D A [(k6, .inr (0, [.ref qa, .int (nI (x6)), .int (nI (y6)), .int (bI z6)])), (kD, .inl (cD, 3, .inr (.inr (.inr (.inr (DT kd0 kd1 kd2)))))), (kd1, .inr (0, [.ref qa, .int (nI (xb)), .int (nI (yb)), .int (bI zb)])), (h0, .inr (4, [.ref qa, .ref kr, .ref k1, .ref k2, .ref k3, .ref k4, .ref k5, .ref k6, .ref km, .ref kp, .ref kD, .int (nI (ee)), .int (nI (gl)), .int (nI (wd)), .int (bI il)])), (k5, .inr (0, [.ref qa, .int (nI (x5)), .int (nI (y5)), .int (bI z5__2072)])), (qa, .inl (cA, 1200, .inl (f)))] := hD
  have hK : va_K (dC, dI) cls_ [(cD, .object "GlyphLines$Span"), (cA, .int)] s := hK
  have hw_r2071 := hw
  refine lv_l2i (v := r2071.toInt32) hx hb d_FO_dataOf_26 rfl ?_
  refine lv_topi (fun v2073 ev2073 => ?_)
  refine lv_istore (lv' := [(4, .int v2073), (3, .ref kd1), (0, .ref h0), (1, .int g), (2, .int 2)]) hx hb d_FO_dataOf_27 hl (by decide) rfl (fun ls hl => ?_)
  refine lv_aload_n hx hb d_FO_dataOf_29 rfl (lv_at hl 1 rfl) ?_
  refine lv_aload_n hx hb d_FO_dataOf_30 rfl (lv_at hl 2 rfl) ?_
  refine va_get (D := (dC, dI)) (ci := 4) (v := .ref k6) (C := R_FO) (T := F_FO) (N := 15) hx hb hts in_FO hown hK hP 3 rfl rfl 7 (by decide) (hts _ (List.mem_cons_of_mem _ w_124)) (fun _ h9 => h9) rfl d_FO_dataOf_31 ?_
  refine va_getN (D := (dC, dI)) (ci := 0) (v := .int (nI (x6))) (C := R_SP) (T := F_SP) (N := 4) (host := "GlyphLines") hx hb hts in_SP hown hK hP 0 rfl rfl 1 (by decide) (va_Nw.use rfl (nest_0 hNs)) (fun _ h9 => h9) rfl d_FO_dataOf_34 ?_
  refine lv_iload hx hb d_FO_dataOf_37 (lv_at hl 0 rfl) ?_
  refine lv_iadd hx hb d_FO_dataOf_39 ?_
  refine lv_topi (fun v2074 ev2074 => ?_)
  refine lv_aload_n hx hb d_FO_dataOf_40 rfl (lv_at hl 2 rfl) ?_
  refine lv_iload_n hx hb d_FO_dataOf_41 rfl (lv_at hl 3 rfl) ?_
  refine lv_iconst (v := 1) hx hb d_FO_dataOf_42 (by decide) ?_
  refine lv_iadd hx hb d_FO_dataOf_43 ?_
  refine lv_topi (fun v2075 ev2075 => ?_)
  have hPc := hP.sub (ws' := [(h0, .inr (4, [.ref qa, .ref kr, .ref k1, .ref k2, .ref k3, .ref k4, .ref k5, .ref k6, .ref km, .ref kp, .ref kD, .int (nI (ee)), .int (nI (gl)), .int (nI (wd)), .int (bI il)])), (k5, .inr (0, [.ref qa, .int (nI (x5)), .int (nI (y5)), .int (bI z5__2072)])), (qa, .inl (cA, 1200, .inl (f)))]) [3, 4, 5] rfl
  have hDc := hD.sub (ws' := [(h0, .inr (4, [.ref qa, .ref kr, .ref k1, .ref k2, .ref k3, .ref k4, .ref k5, .ref k6, .ref km, .ref kp, .ref kD, .int (nI (ee)), .int (nI (gl)), .int (nI (wd)), .int (bI il)])), (k5, .inr (0, [.ref qa, .int (nI (x5)), .int (nI (y5)), .int (bI z5__2072)])), (qa, .inl (cA, 1200, .inl (f)))]) [3, 4, 5] (by decide) rfl
  have hKc := hK.sub (tys' := [(cA, .int)]) [1] rfl
  have hFc := va_free (wc := [(h0, .inr (4, [.ref qa, .ref kr, .ref k1, .ref k2, .ref k3, .ref k4, .ref k5, .ref k6, .ref km, .ref kp, .ref kD, .int (nI (ee)), .int (nI (gl)), .int (nI (wd)), .int (bI il)])), (k5, .inr (0, [.ref qa, .int (nI (x5)), .int (nI (y5)), .int (bI z5__2072)])), (qa, .inl (cA, 1200, .inl (f)))]) hD hS hA [3, 4, 5] rfl
  refine va_calll (va_runV (As := [.int v2075]) (rest := [.int v2074, .ref kd1]) ⟨hx, hb, hml, hown, hts⟩ (g_FO_placeOf l dC dI h0 qa kr k1 k2 k3 k4 k5 k6 km kp kD ee gl wd il x5 y5 z5__2072 cA f v2075 H.size (by omega) (by omega) (by omega) (by omega) (by assumption)) (cwV 1 hts (tw_inV w_416 w_418 wp_7 w_2 w_419) rfl rfl rfl (by decide +kernel) ⟨Nat.le_of_ble_eq_true rfl, Nat.le_of_ble_eq_true rfl⟩) ⟨fun a U g mk q => by obtain ⟨q0, q1, qP, qK, qD, qE0⟩ := q; exact ⟨q0, q1, qP, va_K.moved (u := U) (U := U.calling g mk a) (Vm.Alike.refl U.vm) qK, qD, nests.call qE0⟩, va_recv (hK := hK) (hP := hP) (q0 := 3) (ci := 4) rfl rfl, fun U hU hW => ⟨rfl, by rw [hU], by rw [hU]; exact hPc, va_K.moved hW.alike hKc, hDc.weaken (fun _ _ _ _ => trivial), nests.warm hW hNs⟩⟩ rfl rfl hl.1 rfl (lv_room (Nat.le_of_ble_eq_true rfl)) d_FO_dataOf_44 ⟨Nat.le_of_ble_eq_true rfl, Nat.le_of_ble_eq_true rfl⟩) hS (fun q _ h => hFc q h) hFc (fun r2076 u t H1 locs ht hvm hw hB hz1 hk1 hS => ?_)
  obtain ⟨z5__2077, hP1, hK1, hD1⟩ := hB
  rw [ht] at hP1
  have hK1 := va_K.moved hvm.symm hK1
  obtain ⟨hP, hD⟩ := va_join (wr := [(k6, .inr (0, [.ref qa, .int (nI (x6)), .int (nI (y6)), .int (bI z6)])), (kD, .inl (cD, 3, .inr (.inr (.inr (.inr (DT kd0 kd1 kd2)))))), (kd1, .inr (0, [.ref qa, .int (nI (xb)), .int (nI (yb)), .int (bI zb)]))]) (w1 := [(h0, .inr (4, [.ref qa, .ref kr, .ref k1, .ref k2, .ref k3, .ref k4, .ref k5, .ref k6, .ref km, .ref kp, .ref kD, .int (nI (ee)), .int (nI (gl)), .int (nI (wd)), .int (bI il)])), (k5, .inr (0, [.ref qa, .int (nI (x5)), .int (nI (y5)), .int (bI z5__2077)])), (qa, .inl (cA, 1200, .inl (f)))]) hP hD [3, 4, 5] [0, 1, 2] rfl rfl (by decide) (by decide) hk1 hFc hP1 hD1
  have hK := (hK.sub (tys' := [(cD, .object "GlyphLines$Span")]) [0] rfl).app hK1
  generalize H1 = H at hP hS ⊢
  have hP : va_P (dC, dI) cls_ [(k6, .inr (0, [.ref qa, .int (nI (x6)), .int (nI (y6)), .int (bI z6)])), (kD, .inl (cD, 3, .inr (.inr (.inr (.inr (DT kd0 kd1 kd2)))))), (kd1, .inr (0, [.ref qa, .int (nI (xb)), .int (nI (yb)), .int (bI zb)])), (h0, .inr (4, [.ref qa, .ref kr, .ref k1, .ref k2, .ref k3, .ref k4, .ref k5, .ref k6, .ref km, .ref kp, .ref kD, .int (nI (ee)), .int (nI (gl)), .int (nI (wd)), .int (bI il)])), (k5, .inr (0, [.ref qa, .int (nI (x5)), .int (nI (y5)), .int (bI z5__2077)])), (qa, .inl (cA, 1200, .inl (f)))] H := hP
  have hD : va_D A [(k6, .inr (0, [.ref qa, .int (nI (x6)), .int (nI (y6)), .int (bI z6)])), (kD, .inl (cD, 3, .inr (.inr (.inr (.inr (DT kd0 kd1 kd2)))))), (kd1, .inr (0, [.ref qa, .int (nI (xb)), .int (nI (yb)), .int (bI zb)])), (h0, .inr (4, [.ref qa, .ref kr, .ref k1, .ref k2, .ref k3, .ref k4, .ref k5, .ref k6, .ref km, .ref kp, .ref kD, .int (nI (ee)), .int (nI (gl)), .int (nI (wd)), .int (bI il)])), (k5, .inr (0, [.ref qa, .int (nI (x5)), .int (nI (y5)), .int (bI z5__2077)])), (qa, .inl (cA, 1200, .inl (f)))] := hD
  have hK : va_K (dC, dI) cls_ [(cD, .object "GlyphLines$Span"), (cA, .int)] s := hK
  have hw_r2076 := hw
  refine lv_l2i (v := r2076.toInt32) hx hb d_FO_dataOf_47 rfl ?_
  refine lv_topi (fun v2078 ev2078 => ?_)
  refine lv_iload hx hb d_FO_dataOf_48 (lv_at hl 0 rfl) ?_
  refine lv_isub hx hb d_FO_dataOf_50 ?_
  refine lv_topi (fun v2079 ev2079 => ?_)
  have hPc := hP.sub (ws' := [(kd1, .inr (0, [.ref qa, .int (nI (xb)), .int (nI (yb)), .int (bI zb)])), (qa, .inl (cA, 1200, .inl (f)))]) [2, 5] rfl
  have hDc := hD.sub (ws' := [(kd1, .inr (0, [.ref qa, .int (nI (xb)), .int (nI (yb)), .int (bI zb)])), (qa, .inl (cA, 1200, .inl (f)))]) [2, 5] (by decide) rfl
  have hKc := hK.sub (tys' := [(cA, .int)]) [1] rfl
  have hFc := va_free (wc := [(kd1, .inr (0, [.ref qa, .int (nI (xb)), .int (nI (yb)), .int (bI zb)])), (qa, .inl (cA, 1200, .inl (f)))]) hD hS hA [2, 5] rfl
  refine va_callv (va_runV (As := [.int v2074, .int v2079]) (rest := []) ⟨hx, hb, hml, hown, hts⟩ (g_SP_lay l dC dI kd1 qa (nI (xb)) (nI (yb)) zb cA f v2074 v2079 H.size) (cwV 2 hts (tw_inV w_479 w_345 w_346 w_4 w_347) rfl rfl rfl (by decide +kernel) ⟨Nat.le_of_ble_eq_true rfl, Nat.le_of_ble_eq_true rfl⟩) ⟨fun a U g mk q => by obtain ⟨q0, q1, qP, qK, qD⟩ := q; exact ⟨q0, q1, qP, va_K.moved (u := U) (U := U.calling g mk a) (Vm.Alike.refl U.vm) qK, qD⟩, va_recv (hK := hK) (hP := hP) (q0 := 2) (ci := 0) rfl rfl, fun U hU hW => ⟨rfl, by rw [hU], by rw [hU]; exact hPc, va_K.moved hW.alike hKc, hDc.weaken (fun _ _ _ _ => trivial)⟩⟩ rfl rfl hl.1 rfl (lv_room (Nat.le_of_ble_eq_true rfl)) d_FO_dataOf_51 ⟨Nat.le_of_ble_eq_true rfl, Nat.le_of_ble_eq_true rfl⟩) hS (fun q _ h => hFc q h) hFc (fun u t H1 locs ht hvm hw hB hz1 hk1 hS => ?_)
  obtain ⟨a_2080, n_2081, hq_f2082_0, hP1, hK1, hD1⟩ := hB
  rw [ht] at hP1
  have hK1 := va_K.moved hvm.symm hK1
  obtain ⟨hP, hD⟩ := va_join (wr := [(k6, .inr (0, [.ref qa, .int (nI (x6)), .int (nI (y6)), .int (bI z6)])), (kD, .inl (cD, 3, .inr (.inr (.inr (.inr (DT kd0 kd1 kd2)))))), (h0, .inr (4, [.ref qa, .ref kr, .ref k1, .ref k2, .ref k3, .ref k4, .ref k5, .ref k6, .ref km, .ref kp, .ref kD, .int (nI (ee)), .int (nI (gl)), .int (nI (wd)), .int (bI il)])), (k5, .inr (0, [.ref qa, .int (nI (x5)), .int (nI (y5)), .int (bI z5__2077)]))]) (w1 := [(kd1, .inr (0, [.ref qa, .int (nI (a_2080)), .int (nI (n_2081)), .int 0])), (qa, .inl (cA, 1200, .inl (f)))]) hP hD [2, 5] [0, 1, 3, 4] rfl rfl (by decide) (by decide) hk1 hFc hP1 hD1
  have hK := (hK.sub (tys' := [(cD, .object "GlyphLines$Span")]) [0] rfl).app hK1
  generalize H1 = H at hP hS ⊢
  have hP : va_P (dC, dI) cls_ [(k6, .inr (0, [.ref qa, .int (nI (x6)), .int (nI (y6)), .int (bI z6)])), (kD, .inl (cD, 3, .inr (.inr (.inr (.inr (DT kd0 kd1 kd2)))))), (h0, .inr (4, [.ref qa, .ref kr, .ref k1, .ref k2, .ref k3, .ref k4, .ref k5, .ref k6, .ref km, .ref kp, .ref kD, .int (nI (ee)), .int (nI (gl)), .int (nI (wd)), .int (bI il)])), (k5, .inr (0, [.ref qa, .int (nI (x5)), .int (nI (y5)), .int (bI z5__2077)])), (kd1, .inr (0, [.ref qa, .int (nI (a_2080)), .int (nI (n_2081)), .int 0])), (qa, .inl (cA, 1200, .inl (f)))] H := hP
  have hD : va_D A [(k6, .inr (0, [.ref qa, .int (nI (x6)), .int (nI (y6)), .int (bI z6)])), (kD, .inl (cD, 3, .inr (.inr (.inr (.inr (DT kd0 kd1 kd2)))))), (h0, .inr (4, [.ref qa, .ref kr, .ref k1, .ref k2, .ref k3, .ref k4, .ref k5, .ref k6, .ref km, .ref kp, .ref kD, .int (nI (ee)), .int (nI (gl)), .int (nI (wd)), .int (bI il)])), (k5, .inr (0, [.ref qa, .int (nI (x5)), .int (nI (y5)), .int (bI z5__2077)])), (kd1, .inr (0, [.ref qa, .int (nI (a_2080)), .int (nI (n_2081)), .int 0])), (qa, .inl (cA, 1200, .inl (f)))] := hD
  have hK : va_K (dC, dI) cls_ [(cD, .object "GlyphLines$Span"), (cA, .int)] s := hK
  refine lv_aload_n hx hb d_FO_dataOf_54 rfl (lv_at hl 1 rfl) ?_
  refine W.widen (k := 0) (n := 0) (Nat.le_of_ble_eq_true rfl) (Nat.le_of_ble_eq_true rfl) ?_
  have hP9 := hP.sub (ws' := [(h0, .inr (4, [.ref qa, .ref kr, .ref k1, .ref k2, .ref k3, .ref k4, .ref k5, .ref k6, .ref km, .ref kp, .ref kD, .int (nI (ee)), .int (nI (gl)), .int (nI (wd)), .int (bI il)])), (k5, .inr (0, [.ref qa, .int (nI (x5)), .int (nI (y5)), .int (bI z5__2077)])), (k6, .inr (0, [.ref qa, .int (nI (x6)), .int (nI (y6)), .int (bI z6)])), (kD, .inl (cD, 3, .inr (.inr (.inr (.inr (DT kd0 kd1 kd2)))))), (kd1, .inr (0, [.ref qa, .int (nI (a_2080)), .int (nI (n_2081)), .int 0])), (qa, .inl (cA, 1200, .inl (f)))]) [2, 3, 0, 1, 4, 5] rfl
  have hD9 := hD.sub (ws' := [(h0, .inr (4, [.ref qa, .ref kr, .ref k1, .ref k2, .ref k3, .ref k4, .ref k5, .ref k6, .ref km, .ref kp, .ref kD, .int (nI (ee)), .int (nI (gl)), .int (nI (wd)), .int (bI il)])), (k5, .inr (0, [.ref qa, .int (nI (x5)), .int (nI (y5)), .int (bI z5__2077)])), (k6, .inr (0, [.ref qa, .int (nI (x6)), .int (nI (y6)), .int (bI z6)])), (kD, .inl (cD, 3, .inr (.inr (.inr (.inr (DT kd0 kd1 kd2)))))), (kd1, .inr (0, [.ref qa, .int (nI (a_2080)), .int (nI (n_2081)), .int 0])), (qa, .inl (cA, 1200, .inl (f)))]) [2, 3, 0, 1, 4, 5] (by decide) rfl
  have hK9 := hK.sub (tys' := [(cD, .object "GlyphLines$Span"), (cA, .int)]) [0, 1] rfl
  exact W.aret (v := .ref kd1) (rt := .object "GlyphLines$Span") hx hb hr (Or.inl ⟨_, rfl⟩) (Or.inr ⟨_, rfl⟩) (fun t ht hW => ⟨⟨(), kd1, rfl, trivial, rfl, z5__2077, a_2080, n_2081, false, by omega, by rw [ht]; exact hP9, va_K.moved hW.alike hK9, hD9⟩, hS.F ht⟩) hS.2.2 d_FO_dataOf_55
set_option maxHeartbeats 4000000 in
set_option maxRecDepth 100000 in
/-- GlyphLines$Font.dataOf -/
theorem g_FO_dataOf3 (l : Launch) (dC : Nat → ClassId) (dI : Nat → Nat → Nat) (h0 : Nat) (qa : Nat) (kr : Nat) (k1 : Nat) (k2 : Nat) (k3 : Nat) (k4 : Nat) (k5 : Nat) (k6 : Nat) (km : Nat) (kp : Nat) (kD : Nat) (ee : Nat) (gl : Nat) (wd : Nat) (il : Bool) (x5 : Nat) (y5 : Nat) (z5 : Bool) (x6 : Nat) (y6 : Nat) (z6 : Bool) (cD : ClassId) (kd0 : Nat) (kd1 : Nat) (kd2 : Nat) (xc : Nat) (yc : Nat) (zc : Bool) (cA : ClassId) (f : Nat → Int32) (g : Int32) (sz : Nat) (hq0 : ee < 65536) (hq1 : gl < 65536) (hq2 : wd < 65536) (hq3 : x5 + y5 ≤ 1200) (hq4 : x6 + y6 ≤ 1200) (hq5 : xc + yc ≤ 1200) (hq6 : isB f) : Met l y_FO_dataOf s_FO_dataOf ({ frames := 12, cells := 0, slots := 0, locals := 400 }) (va_Pc [.ref h0, .int g, .int 3] (fun U => U.heap.size = sz ∧ va_P (dC, dI) cls_ [(h0, .inr (4, [.ref qa, .ref kr, .ref k1, .ref k2, .ref k3, .ref k4, .ref k5, .ref k6, .ref km, .ref kp, .ref kD, .int (nI (ee)), .int (nI (gl)), .int (nI (wd)), .int (bI il)])), (k5, .inr (0, [.ref qa, .int (nI (x5)), .int (nI (y5)), .int (bI z5)])), (k6, .inr (0, [.ref qa, .int (nI (x6)), .int (nI (y6)), .int (bI z6)])), (kD, .inl (cD, 3, .inr (.inr (.inr (.inr (DT kd0 kd1 kd2)))))), (kd2, .inr (0, [.ref qa, .int (nI (xc)), .int (nI (yc)), .int (bI zc)])), (qa, .inl (cA, 1200, .inl (f)))] U.heap ∧ va_K (dC, dI) cls_ [(cD, .object "GlyphLines$Span"), (cA, .int)] U ∧ va_D (fun _ => True) [(h0, .inr (4, [.ref qa, .ref kr, .ref k1, .ref k2, .ref k3, .ref k4, .ref k5, .ref k6, .ref km, .ref kp, .ref kD, .int (nI (ee)), .int (nI (gl)), .int (nI (wd)), .int (bI il)])), (k5, .inr (0, [.ref qa, .int (nI (x5)), .int (nI (y5)), .int (bI z5)])), (k6, .inr (0, [.ref qa, .int (nI (x6)), .int (nI (y6)), .int (bI z6)])), (kD, .inl (cD, 3, .inr (.inr (.inr (.inr (DT kd0 kd1 kd2)))))), (kd2, .inr (0, [.ref qa, .int (nI (xc)), .int (nI (yc)), .int (bI zc)])), (qa, .inl (cA, 1200, .inl (f)))] ∧ nests U)) (va_Qr (fun _ : Unit => True) (fun (_ : Unit) (ra : Nat) (t : State) => ra = kd2 ∧ ∃ (z5_2 : Bool) (xc_2 : Nat) (yc_2 : Nat) (zc_2 : Bool), xc_2 + yc_2 ≤ 1200 ∧ va_P (dC, dI) cls_ [(h0, .inr (4, [.ref qa, .ref kr, .ref k1, .ref k2, .ref k3, .ref k4, .ref k5, .ref k6, .ref km, .ref kp, .ref kD, .int (nI (ee)), .int (nI (gl)), .int (nI (wd)), .int (bI il)])), (k5, .inr (0, [.ref qa, .int (nI (x5)), .int (nI (y5)), .int (bI z5_2)])), (k6, .inr (0, [.ref qa, .int (nI (x6)), .int (nI (y6)), .int (bI z6)])), (kD, .inl (cD, 3, .inr (.inr (.inr (.inr (DT kd0 kd1 kd2)))))), (kd2, .inr (0, [.ref qa, .int (nI (xc_2)), .int (nI (yc_2)), .int (bI zc_2)])), (qa, .inl (cA, 1200, .inl (f)))] t.heap ∧ va_K (dC, dI) cls_ [(cD, .object "GlyphLines$Span"), (cA, .int)] t ∧ va_D (va_A [(h0, .inr (4, [.ref qa, .ref kr, .ref k1, .ref k2, .ref k3, .ref k4, .ref k5, .ref k6, .ref km, .ref kp, .ref kD, .int (nI (ee)), .int (nI (gl)), .int (nI (wd)), .int (bI il)])), (k5, .inr (0, [.ref qa, .int (nI (x5)), .int (nI (y5)), .int (bI z5)])), (k6, .inr (0, [.ref qa, .int (nI (x6)), .int (nI (y6)), .int (bI z6)])), (kD, .inl (cD, 3, .inr (.inr (.inr (.inr (DT kd0 kd1 kd2)))))), (kd2, .inr (0, [.ref qa, .int (nI (xc)), .int (nI (yc)), .int (bI zc)])), (qa, .inl (cA, 1200, .inl (f)))] sz) [(h0, .inr (4, [.ref qa, .ref kr, .ref k1, .ref k2, .ref k3, .ref k4, .ref k5, .ref k6, .ref km, .ref kp, .ref kD, .int (nI (ee)), .int (nI (gl)), .int (nI (wd)), .int (bI il)])), (k5, .inr (0, [.ref qa, .int (nI (x5)), .int (nI (y5)), .int (bI z5_2)])), (k6, .inr (0, [.ref qa, .int (nI (x6)), .int (nI (y6)), .int (bI z6)])), (kD, .inl (cD, 3, .inr (.inr (.inr (.inr (DT kd0 kd1 kd2)))))), (kd2, .inr (0, [.ref qa, .int (nI (xc_2)), .int (nI (yc_2)), .int (bI zc_2)])), (qa, .inl (cA, 1200, .inl (f)))]) (va_A [(h0, .inr (4, [.ref qa, .ref kr, .ref k1, .ref k2, .ref k3, .ref k4, .ref k5, .ref k6, .ref km, .ref kp, .ref kD, .int (nI (ee)), .int (nI (gl)), .int (nI (wd)), .int (bI il)])), (k5, .inr (0, [.ref qa, .int (nI (x5)), .int (nI (y5)), .int (bI z5)])), (k6, .inr (0, [.ref qa, .int (nI (x6)), .int (nI (y6)), .int (bI z6)])), (kD, .inl (cD, 3, .inr (.inr (.inr (.inr (DT kd0 kd1 kd2)))))), (kd2, .inr (0, [.ref qa, .int (nI (xc)), .int (nI (yc)), .int (bI zc)])), (qa, .inl (cA, 1200, .inl (f)))] sz)) 0 0 (va_A [(h0, .inr (4, [.ref qa, .ref kr, .ref k1, .ref k2, .ref k3, .ref k4, .ref k5, .ref k6, .ref km, .ref kp, .ref kD, .int (nI (ee)), .int (nI (gl)), .int (nI (wd)), .int (bI il)])), (k5, .inr (0, [.ref qa, .int (nI (x5)), .int (nI (y5)), .int (bI z5)])), (k6, .inr (0, [.ref qa, .int (nI (x6)), .int (nI (y6)), .int (bI z6)])), (kD, .inl (cD, 3, .inr (.inr (.inr (.inr (DT kd0 kd1 kd2)))))), (kd2, .inr (0, [.ref qa, .int (nI (xc)), .int (nI (yc)), .int (bI zc)])), (qa, .inl (cA, 1200, .inl (f)))] sz) := by
  refine Met.ofW (cc := b_FO_dataOf) (maxL := 5) (ret := (some (.object "GlyphLines$Span"))) (by decide) rfl ?_
  intro p e s m args below meth c s₁ B hml hv
  obtain ⟨rfl, hsz, hP, hK, hD0, hNs⟩ := hv
  have hx := B.exec
  have hb := B.bytes
  have hr := B.returns
  have hts := atoms_spec (ws := s_FO_dataOf) B.pre
  have hown : s.vm.findClass R_FO = some m.cls := findClass_of_methodNamed B.named
  have hlocks := B.notSynchronized
  subst hsz
  have hD := hD0.self (sz := s.heap.size)
  generalize hAe : va_A [(h0, .inr (4, [.ref qa, .ref kr, .ref k1, .ref k2, .ref k3, .ref k4, .ref k5, .ref k6, .ref km, .ref kp, .ref kD, .int (nI (ee)), .int (nI (gl)), .int (nI (wd)), .int (bI il)])), (k5, .inr (0, [.ref qa, .int (nI (x5)), .int (nI (y5)), .int (bI z5)])), (k6, .inr (0, [.ref qa, .int (nI (x6)), .int (nI (y6)), .int (bI z6)])), (kD, .inl (cD, 3, .inr (.inr (.inr (.inr (DT kd0 kd1 kd2)))))), (kd2, .inr (0, [.ref qa, .int (nI (xc)), .int (nI (yc)), .int (bI zc)])), (qa, .inl (cA, 1200, .inl (f)))] s.heap.size = A at hD ⊢
  have hA : ∀ q : Nat, s.heap.size ≤ q → A q := fun q h => by rw [← hAe]; exact Or.inr h
  have hS : va_S A s.heap s.heap [] := va_S.rf
  have hP : va_P (dC, dI) cls_ [(h0, .inr (4, [.ref qa, .ref kr, .ref k1, .ref k2, .ref k3, .ref k4, .ref k5, .ref k6, .ref km, .ref kp, .ref kD, .int (nI (ee)), .int (nI (gl)), .int (nI (wd)), .int (bI il)])), (k5, .inr (0, [.ref qa, .int (nI (x5)), .int (nI (y5)), .int (bI z5)])), (k6, .inr (0, [.ref qa, .int (nI (x6)), .int (nI (y6)), .int (bI z6)])), (kD, .inl (cD, 3, .inr (.inr (.inr (.inr (DT kd0 kd1 kd2)))))), (kd2, .inr (0, [.ref qa, .int (nI (xc)), .int (nI (yc)), .int (bI zc)])), (qa, .inl (cA, 1200, .inl (f)))] s.heap := hP
  have hl := lv_entry ([.ref h0, .int g, .int 3]) (n := 5) (Nat.le_of_ble_eq_true rfl)
  rw [lg_entry_eq]
  generalize (lg_sl ([.ref h0, .int g, .int 3]) ++ List.replicate (5 - (lg_sl ([.ref h0, .int g, .int 3])).length) Slot.unset).toArray = ls at hl ⊢
  have hl : lv_has ls 5 [(0, .ref h0), (1, .int g), (2, .int 3)] := hl
  refine lv_aload_n hx hb d_FO_dataOf_0 rfl (lv_at hl 0 rfl) ?_
  refine va_get (D := (dC, dI)) (ci := 4) (v := .ref kD) (C := R_FO) (T := F_FO) (N := 15) hx hb hts in_FO hown hK hP 0 rfl rfl 10 (by decide) (hts _ (List.mem_cons_of_mem _ w_127)) (fun _ h9 => h9) rfl d_FO_dataOf_1 ?_
  refine lv_iconst (v := 0) hx hb d_FO_dataOf_4 (by decide) ?_
  refine lv_iload_n hx hb d_FO_dataOf_5 rfl (lv_at hl 2 rfl) ?_
  refine lv_aload_n hx hb d_FO_dataOf_6 rfl (lv_at hl 0 rfl) ?_
  refine va_get (D := (dC, dI)) (ci := 4) (v := .ref kD) (C := R_FO) (T := F_FO) (N := 15) hx hb hts in_FO hown hK hP 0 rfl rfl 10 (by decide) (hts _ (List.mem_cons_of_mem _ w_127)) (fun _ h9 => h9) rfl d_FO_dataOf_7 ?_
  refine va_alen (v := 3) hx hb hK hP 3 0 rfl rfl (by show Int32.ofNat 3 = 3; decide +kernel) d_FO_dataOf_10 ?_
  refine va_mmin hx hb (by rw [hml]; exact hl.1.symm) hown (hts _ (List.mem_cons_of_mem _ w_334)) (hts _ (List.mem_cons_of_mem _ w_335)) (hts _ (List.mem_cons_of_mem _ w_17)) (hts _ (List.mem_cons_of_mem _ w_336)) (Nat.le_of_ble_eq_true rfl) (Nat.le_of_ble_eq_true rfl) (Nat.le_of_ble_eq_true rfl) (Nat.le_of_ble_eq_true rfl) d_FO_dataOf_11 ?_
  refine lv_ci (y := 3) (by decide +kernel) ?_
  refine lv_iconst (v := 1) hx hb d_FO_dataOf_14 (by decide) ?_
  refine lv_isub hx hb d_FO_dataOf_15 ?_
  refine lv_ci (y := 2) (by decide +kernel) ?_
  refine va_mmax hx hb (by rw [hml]; exact hl.1.symm) hown (hts _ (List.mem_cons_of_mem _ w_478)) (hts _ (List.mem_cons_of_mem _ w_350)) (hts _ (List.mem_cons_of_mem _ w_17)) (hts _ (List.mem_cons_of_mem _ w_351)) (Nat.le_of_ble_eq_true rfl) (Nat.le_of_ble_eq_true rfl) (Nat.le_of_ble_eq_true rfl) (Nat.le_of_ble_eq_true rfl) d_FO_dataOf_16 ?_
  refine lv_ci (y := 2) (by decide +kernel) ?_
  refine va_aldq hx hb hK hP 3 0 rfl rfl (pk_in (2) 3 (by omega) rfl (by decide)) d_FO_dataOf_19 ?_
  rw [show (DT kd0 kd1 kd2) (Int32.toNatClampNeg 2) = some kd2 from DT_2 _ _ _]
  show W p l e _ s m _ below meth c s.heap _ _ _ _ (F0 m 20 ls [.ref kd2])
  refine lv_astore_n (lv' := [(3, .ref kd2), (0, .ref h0), (1, .int g), (2, .int 3)]) hx hb d_FO_dataOf_20 rfl hl (by decide) rfl (fun ls hl => ?_)
  refine lv_aload_n hx hb d_FO_dataOf_21 rfl (lv_at hl 1 rfl) ?_
  refine lv_iload_n hx hb d_FO_dataOf_22 rfl (lv_at hl 2 rfl) ?_
  have hPc := hP.sub (ws' := [(h0, .inr (4, [.ref qa, .ref kr, .ref k1, .ref k2, .ref k3, .ref k4, .ref k5, .ref k6, .ref km, .ref kp, .ref kD, .int (nI (ee)), .int (nI (gl)), .int (nI (wd)), .int (bI il)])), (k5, .inr (0, [.ref qa, .int (nI (x5)), .int (nI (y5)), .int (bI z5)])), (qa, .inl (cA, 1200, .inl (f)))]) [0, 1, 5] rfl
  have hDc := hD.sub (ws' := [(h0, .inr (4, [.ref qa, .ref kr, .ref k1, .ref k2, .ref k3, .ref k4, .ref k5, .ref k6, .ref km, .ref kp, .ref kD, .int (nI (ee)), .int (nI (gl)), .int (nI (wd)), .int (bI il)])), (k5, .inr (0, [.ref qa, .int (nI (x5)), .int (nI (y5)), .int (bI z5)])), (qa, .inl (cA, 1200, .inl (f)))]) [0, 1, 5] (by decide) rfl
  have hKc := hK.sub (tys' := [(cA, .int)]) [1] rfl
  have hFc := va_free (wc := [(h0, .inr (4, [.ref qa, .ref kr, .ref k1, .ref k2, .ref k3, .ref k4, .ref k5, .ref k6, .ref km, .ref kp, .ref kD, .int (nI (ee)), .int (nI (gl)), .int (nI (wd)), .int (bI il)])), (k5, .inr (0, [.ref qa, .int (nI (x5)), .int (nI (y5)), .int (bI z5)])), (qa, .inl (cA, 1200, .inl (f)))]) hD hS hA [0, 1, 5] rfl
  refine va_calll (va_runV (As := [.int g]) (rest := []) ⟨hx, hb, hml, hown, hts⟩ (g_FO_placeOf l dC dI h0 qa kr k1 k2 k3 k4 k5 k6 km kp kD ee gl wd il x5 y5 z5 cA f g s.heap.size (by omega) (by omega) (by omega) (by omega) (by assumption)) (cwV 1 hts (tw_inV w_416 w_418 wp_7 w_2 w_419) rfl rfl rfl (by decide +kernel) ⟨Nat.le_of_ble_eq_true rfl, Nat.le_of_ble_eq_true rfl⟩) ⟨fun a U g mk q => by obtain ⟨q0, q1, qP, qK, qD, qE0⟩ := q; exact ⟨q0, q1, qP, va_K.moved (u := U) (U := U.calling g mk a) (Vm.Alike.refl U.vm) qK, qD, nests.call qE0⟩, va_recv (hK := hK) (hP := hP) (q0 := 0) (ci := 4) rfl rfl, fun U hU hW => ⟨rfl, by rw [hU], by rw [hU]; exact hPc, va_K.moved hW.alike hKc, hDc.weaken (fun _ _ _ _ => trivial), nests.warm hW hNs⟩⟩ rfl rfl hl.1 rfl (lv_room (Nat.le_of_ble_eq_true rfl)) d_FO_dataOf_23 ⟨Nat.le_of_ble_eq_true rfl, Nat.le_of_ble_eq_true rfl⟩) hS (fun q _ h => hFc q h) hFc (fun r2083 u t H1 locs ht hvm hw hB hz1 hk1 hS => ?_)
  obtain ⟨z5__2084, hP1, hK1, hD1⟩ := hB
  rw [ht] at hP1
  have hK1 := va_K.moved hvm.symm hK1
  obtain ⟨hP, hD⟩ := va_join (wr := [(k6, .inr (0, [.ref qa, .int (nI (x6)), .int (nI (y6)), .int (bI z6)])), (kD, .inl (cD, 3, .inr (.inr (.inr (.inr (DT kd0 kd1 kd2)))))), (kd2, .inr (0, [.ref qa, .int (nI (xc)), .int (nI (yc)), .int (bI zc)]))]) (w1 := [(h0, .inr (4, [.ref qa, .ref kr, .ref k1, .ref k2, .ref k3, .ref k4, .ref k5, .ref k6, .ref km, .ref kp, .ref kD, .int (nI (ee)), .int (nI (gl)), .int (nI (wd)), .int (bI il)])), (k5, .inr (0, [.ref qa, .int (nI (x5)), .int (nI (y5)), .int (bI z5__2084)])), (qa, .inl (cA, 1200, .inl (f)))]) hP hD [0, 1, 5] [2, 3, 4] rfl rfl (by decide) (by decide) hk1 hFc hP1 hD1
  have hK := (hK.sub (tys' := [(cD, .object "GlyphLines$Span")]) [0] rfl).app hK1
  generalize H1 = H at hP hS ⊢
  have hP : va_P (dC, dI) cls_ [(k6, .inr (0, [.ref qa, .int (nI (x6)), .int (nI (y6)), .int (bI z6)])), (kD, .inl (cD, 3, .inr (.inr (.inr (.inr (DT kd0 kd1 kd2)))))), (kd2, .inr (0, [.ref qa, .int (nI (xc)), .int (nI (yc)), .int (bI zc)])), (h0, .inr (4, [.ref qa, .ref kr, .ref k1, .ref k2, .ref k3, .ref k4, .ref k5, .ref k6, .ref km, .ref kp, .ref kD, .int (nI (ee)), .int (nI (gl)), .int (nI (wd)), .int (bI il)])), (k5, .inr (0, [.ref qa, .int (nI (x5)), .int (nI (y5)), .int (bI z5__2084)])), (qa, .inl (cA, 1200, .inl (f)))] H := hP
  have hD : va_D A [(k6, .inr (0, [.ref qa, .int (nI (x6)), .int (nI (y6)), .int (bI z6)])), (kD, .inl (cD, 3, .inr (.inr (.inr (.inr (DT kd0 kd1 kd2)))))), (kd2, .inr (0, [.ref qa, .int (nI (xc)), .int (nI (yc)), .int (bI zc)])), (h0, .inr (4, [.ref qa, .ref kr, .ref k1, .ref k2, .ref k3, .ref k4, .ref k5, .ref k6, .ref km, .ref kp, .ref kD, .int (nI (ee)), .int (nI (gl)), .int (nI (wd)), .int (bI il)])), (k5, .inr (0, [.ref qa, .int (nI (x5)), .int (nI (y5)), .int (bI z5__2084)])), (qa, .inl (cA, 1200, .inl (f)))] := hD
  have hK : va_K (dC, dI) cls_ [(cD, .object "GlyphLines$Span"), (cA, .int)] s := hK
  have hw_r2083 := hw
  refine lv_l2i (v := r2083.toInt32) hx hb d_FO_dataOf_26 rfl ?_
  refine lv_topi (fun v2085 ev2085 => ?_)
  refine lv_istore (lv' := [(4, .int v2085), (3, .ref kd2), (0, .ref h0), (1, .int g), (2, .int 3)]) hx hb d_FO_dataOf_27 hl (by decide) rfl (fun ls hl => ?_)
  refine lv_aload_n hx hb d_FO_dataOf_29 rfl (lv_at hl 1 rfl) ?_
  refine lv_aload_n hx hb d_FO_dataOf_30 rfl (lv_at hl 2 rfl) ?_
  refine va_get (D := (dC, dI)) (ci := 4) (v := .ref k6) (C := R_FO) (T := F_FO) (N := 15) hx hb hts in_FO hown hK hP 3 rfl rfl 7 (by decide) (hts _ (List.mem_cons_of_mem _ w_124)) (fun _ h9 => h9) rfl d_FO_dataOf_31 ?_
  refine va_getN (D := (dC, dI)) (ci := 0) (v := .int (nI (x6))) (C := R_SP) (T := F_SP) (N := 4) (host := "GlyphLines") hx hb hts in_SP hown hK hP 0 rfl rfl 1 (by decide) (va_Nw.use rfl (nest_0 hNs)) (fun _ h9 => h9) rfl d_FO_dataOf_34 ?_
  refine lv_iload hx hb d_FO_dataOf_37 (lv_at hl 0 rfl) ?_
  refine lv_iadd hx hb d_FO_dataOf_39 ?_
  refine lv_topi (fun v2086 ev2086 => ?_)
  refine lv_aload_n hx hb d_FO_dataOf_40 rfl (lv_at hl 2 rfl) ?_
  refine lv_iload_n hx hb d_FO_dataOf_41 rfl (lv_at hl 3 rfl) ?_
  refine lv_iconst (v := 1) hx hb d_FO_dataOf_42 (by decide) ?_
  refine lv_iadd hx hb d_FO_dataOf_43 ?_
  refine lv_topi (fun v2087 ev2087 => ?_)
  have hPc := hP.sub (ws' := [(h0, .inr (4, [.ref qa, .ref kr, .ref k1, .ref k2, .ref k3, .ref k4, .ref k5, .ref k6, .ref km, .ref kp, .ref kD, .int (nI (ee)), .int (nI (gl)), .int (nI (wd)), .int (bI il)])), (k5, .inr (0, [.ref qa, .int (nI (x5)), .int (nI (y5)), .int (bI z5__2084)])), (qa, .inl (cA, 1200, .inl (f)))]) [3, 4, 5] rfl
  have hDc := hD.sub (ws' := [(h0, .inr (4, [.ref qa, .ref kr, .ref k1, .ref k2, .ref k3, .ref k4, .ref k5, .ref k6, .ref km, .ref kp, .ref kD, .int (nI (ee)), .int (nI (gl)), .int (nI (wd)), .int (bI il)])), (k5, .inr (0, [.ref qa, .int (nI (x5)), .int (nI (y5)), .int (bI z5__2084)])), (qa, .inl (cA, 1200, .inl (f)))]) [3, 4, 5] (by decide) rfl
  have hKc := hK.sub (tys' := [(cA, .int)]) [1] rfl
  have hFc := va_free (wc := [(h0, .inr (4, [.ref qa, .ref kr, .ref k1, .ref k2, .ref k3, .ref k4, .ref k5, .ref k6, .ref km, .ref kp, .ref kD, .int (nI (ee)), .int (nI (gl)), .int (nI (wd)), .int (bI il)])), (k5, .inr (0, [.ref qa, .int (nI (x5)), .int (nI (y5)), .int (bI z5__2084)])), (qa, .inl (cA, 1200, .inl (f)))]) hD hS hA [3, 4, 5] rfl
  refine va_calll (va_runV (As := [.int v2087]) (rest := [.int v2086, .ref kd2]) ⟨hx, hb, hml, hown, hts⟩ (g_FO_placeOf l dC dI h0 qa kr k1 k2 k3 k4 k5 k6 km kp kD ee gl wd il x5 y5 z5__2084 cA f v2087 H.size (by omega) (by omega) (by omega) (by omega) (by assumption)) (cwV 1 hts (tw_inV w_416 w_418 wp_7 w_2 w_419) rfl rfl rfl (by decide +kernel) ⟨Nat.le_of_ble_eq_true rfl, Nat.le_of_ble_eq_true rfl⟩) ⟨fun a U g mk q => by obtain ⟨q0, q1, qP, qK, qD, qE0⟩ := q; exact ⟨q0, q1, qP, va_K.moved (u := U) (U := U.calling g mk a) (Vm.Alike.refl U.vm) qK, qD, nests.call qE0⟩, va_recv (hK := hK) (hP := hP) (q0 := 3) (ci := 4) rfl rfl, fun U hU hW => ⟨rfl, by rw [hU], by rw [hU]; exact hPc, va_K.moved hW.alike hKc, hDc.weaken (fun _ _ _ _ => trivial), nests.warm hW hNs⟩⟩ rfl rfl hl.1 rfl (lv_room (Nat.le_of_ble_eq_true rfl)) d_FO_dataOf_44 ⟨Nat.le_of_ble_eq_true rfl, Nat.le_of_ble_eq_true rfl⟩) hS (fun q _ h => hFc q h) hFc (fun r2088 u t H1 locs ht hvm hw hB hz1 hk1 hS => ?_)
  obtain ⟨z5__2089, hP1, hK1, hD1⟩ := hB
  rw [ht] at hP1
  have hK1 := va_K.moved hvm.symm hK1
  obtain ⟨hP, hD⟩ := va_join (wr := [(k6, .inr (0, [.ref qa, .int (nI (x6)), .int (nI (y6)), .int (bI z6)])), (kD, .inl (cD, 3, .inr (.inr (.inr (.inr (DT kd0 kd1 kd2)))))), (kd2, .inr (0, [.ref qa, .int (nI (xc)), .int (nI (yc)), .int (bI zc)]))]) (w1 := [(h0, .inr (4, [.ref qa, .ref kr, .ref k1, .ref k2, .ref k3, .ref k4, .ref k5, .ref k6, .ref km, .ref kp, .ref kD, .int (nI (ee)), .int (nI (gl)), .int (nI (wd)), .int (bI il)])), (k5, .inr (0, [.ref qa, .int (nI (x5)), .int (nI (y5)), .int (bI z5__2089)])), (qa, .inl (cA, 1200, .inl (f)))]) hP hD [3, 4, 5] [0, 1, 2] rfl rfl (by decide) (by decide) hk1 hFc hP1 hD1
  have hK := (hK.sub (tys' := [(cD, .object "GlyphLines$Span")]) [0] rfl).app hK1
  generalize H1 = H at hP hS ⊢
  have hP : va_P (dC, dI) cls_ [(k6, .inr (0, [.ref qa, .int (nI (x6)), .int (nI (y6)), .int (bI z6)])), (kD, .inl (cD, 3, .inr (.inr (.inr (.inr (DT kd0 kd1 kd2)))))), (kd2, .inr (0, [.ref qa, .int (nI (xc)), .int (nI (yc)), .int (bI zc)])), (h0, .inr (4, [.ref qa, .ref kr, .ref k1, .ref k2, .ref k3, .ref k4, .ref k5, .ref k6, .ref km, .ref kp, .ref kD, .int (nI (ee)), .int (nI (gl)), .int (nI (wd)), .int (bI il)])), (k5, .inr (0, [.ref qa, .int (nI (x5)), .int (nI (y5)), .int (bI z5__2089)])), (qa, .inl (cA, 1200, .inl (f)))] H := hP
  have hD : va_D A [(k6, .inr (0, [.ref qa, .int (nI (x6)), .int (nI (y6)), .int (bI z6)])), (kD, .inl (cD, 3, .inr (.inr (.inr (.inr (DT kd0 kd1 kd2)))))), (kd2, .inr (0, [.ref qa, .int (nI (xc)), .int (nI (yc)), .int (bI zc)])), (h0, .inr (4, [.ref qa, .ref kr, .ref k1, .ref k2, .ref k3, .ref k4, .ref k5, .ref k6, .ref km, .ref kp, .ref kD, .int (nI (ee)), .int (nI (gl)), .int (nI (wd)), .int (bI il)])), (k5, .inr (0, [.ref qa, .int (nI (x5)), .int (nI (y5)), .int (bI z5__2089)])), (qa, .inl (cA, 1200, .inl (f)))] := hD
  have hK : va_K (dC, dI) cls_ [(cD, .object "GlyphLines$Span"), (cA, .int)] s := hK
  have hw_r2088 := hw
  refine lv_l2i (v := r2088.toInt32) hx hb d_FO_dataOf_47 rfl ?_
  refine lv_topi (fun v2090 ev2090 => ?_)
  refine lv_iload hx hb d_FO_dataOf_48 (lv_at hl 0 rfl) ?_
  refine lv_isub hx hb d_FO_dataOf_50 ?_
  refine lv_topi (fun v2091 ev2091 => ?_)
  have hPc := hP.sub (ws' := [(kd2, .inr (0, [.ref qa, .int (nI (xc)), .int (nI (yc)), .int (bI zc)])), (qa, .inl (cA, 1200, .inl (f)))]) [2, 5] rfl
  have hDc := hD.sub (ws' := [(kd2, .inr (0, [.ref qa, .int (nI (xc)), .int (nI (yc)), .int (bI zc)])), (qa, .inl (cA, 1200, .inl (f)))]) [2, 5] (by decide) rfl
  have hKc := hK.sub (tys' := [(cA, .int)]) [1] rfl
  have hFc := va_free (wc := [(kd2, .inr (0, [.ref qa, .int (nI (xc)), .int (nI (yc)), .int (bI zc)])), (qa, .inl (cA, 1200, .inl (f)))]) hD hS hA [2, 5] rfl
  refine va_callv (va_runV (As := [.int v2086, .int v2091]) (rest := []) ⟨hx, hb, hml, hown, hts⟩ (g_SP_lay l dC dI kd2 qa (nI (xc)) (nI (yc)) zc cA f v2086 v2091 H.size) (cwV 2 hts (tw_inV w_479 w_345 w_346 w_4 w_347) rfl rfl rfl (by decide +kernel) ⟨Nat.le_of_ble_eq_true rfl, Nat.le_of_ble_eq_true rfl⟩) ⟨fun a U g mk q => by obtain ⟨q0, q1, qP, qK, qD⟩ := q; exact ⟨q0, q1, qP, va_K.moved (u := U) (U := U.calling g mk a) (Vm.Alike.refl U.vm) qK, qD⟩, va_recv (hK := hK) (hP := hP) (q0 := 2) (ci := 0) rfl rfl, fun U hU hW => ⟨rfl, by rw [hU], by rw [hU]; exact hPc, va_K.moved hW.alike hKc, hDc.weaken (fun _ _ _ _ => trivial)⟩⟩ rfl rfl hl.1 rfl (lv_room (Nat.le_of_ble_eq_true rfl)) d_FO_dataOf_51 ⟨Nat.le_of_ble_eq_true rfl, Nat.le_of_ble_eq_true rfl⟩) hS (fun q _ h => hFc q h) hFc (fun u t H1 locs ht hvm hw hB hz1 hk1 hS => ?_)
  obtain ⟨a_2092, n_2093, hq_f2094_0, hP1, hK1, hD1⟩ := hB
  rw [ht] at hP1
  have hK1 := va_K.moved hvm.symm hK1
  obtain ⟨hP, hD⟩ := va_join (wr := [(k6, .inr (0, [.ref qa, .int (nI (x6)), .int (nI (y6)), .int (bI z6)])), (kD, .inl (cD, 3, .inr (.inr (.inr (.inr (DT kd0 kd1 kd2)))))), (h0, .inr (4, [.ref qa, .ref kr, .ref k1, .ref k2, .ref k3, .ref k4, .ref k5, .ref k6, .ref km, .ref kp, .ref kD, .int (nI (ee)), .int (nI (gl)), .int (nI (wd)), .int (bI il)])), (k5, .inr (0, [.ref qa, .int (nI (x5)), .int (nI (y5)), .int (bI z5__2089)]))]) (w1 := [(kd2, .inr (0, [.ref qa, .int (nI (a_2092)), .int (nI (n_2093)), .int 0])), (qa, .inl (cA, 1200, .inl (f)))]) hP hD [2, 5] [0, 1, 3, 4] rfl rfl (by decide) (by decide) hk1 hFc hP1 hD1
  have hK := (hK.sub (tys' := [(cD, .object "GlyphLines$Span")]) [0] rfl).app hK1
  generalize H1 = H at hP hS ⊢
  have hP : va_P (dC, dI) cls_ [(k6, .inr (0, [.ref qa, .int (nI (x6)), .int (nI (y6)), .int (bI z6)])), (kD, .inl (cD, 3, .inr (.inr (.inr (.inr (DT kd0 kd1 kd2)))))), (h0, .inr (4, [.ref qa, .ref kr, .ref k1, .ref k2, .ref k3, .ref k4, .ref k5, .ref k6, .ref km, .ref kp, .ref kD, .int (nI (ee)), .int (nI (gl)), .int (nI (wd)), .int (bI il)])), (k5, .inr (0, [.ref qa, .int (nI (x5)), .int (nI (y5)), .int (bI z5__2089)])), (kd2, .inr (0, [.ref qa, .int (nI (a_2092)), .int (nI (n_2093)), .int 0])), (qa, .inl (cA, 1200, .inl (f)))] H := hP
  have hD : va_D A [(k6, .inr (0, [.ref qa, .int (nI (x6)), .int (nI (y6)), .int (bI z6)])), (kD, .inl (cD, 3, .inr (.inr (.inr (.inr (DT kd0 kd1 kd2)))))), (h0, .inr (4, [.ref qa, .ref kr, .ref k1, .ref k2, .ref k3, .ref k4, .ref k5, .ref k6, .ref km, .ref kp, .ref kD, .int (nI (ee)), .int (nI (gl)), .int (nI (wd)), .int (bI il)])), (k5, .inr (0, [.ref qa, .int (nI (x5)), .int (nI (y5)), .int (bI z5__2089)])), (kd2, .inr (0, [.ref qa, .int (nI (a_2092)), .int (nI (n_2093)), .int 0])), (qa, .inl (cA, 1200, .inl (f)))] := hD
  have hK : va_K (dC, dI) cls_ [(cD, .object "GlyphLines$Span"), (cA, .int)] s := hK
  refine lv_aload_n hx hb d_FO_dataOf_54 rfl (lv_at hl 1 rfl) ?_
  refine W.widen (k := 0) (n := 0) (Nat.le_of_ble_eq_true rfl) (Nat.le_of_ble_eq_true rfl) ?_
  have hP9 := hP.sub (ws' := [(h0, .inr (4, [.ref qa, .ref kr, .ref k1, .ref k2, .ref k3, .ref k4, .ref k5, .ref k6, .ref km, .ref kp, .ref kD, .int (nI (ee)), .int (nI (gl)), .int (nI (wd)), .int (bI il)])), (k5, .inr (0, [.ref qa, .int (nI (x5)), .int (nI (y5)), .int (bI z5__2089)])), (k6, .inr (0, [.ref qa, .int (nI (x6)), .int (nI (y6)), .int (bI z6)])), (kD, .inl (cD, 3, .inr (.inr (.inr (.inr (DT kd0 kd1 kd2)))))), (kd2, .inr (0, [.ref qa, .int (nI (a_2092)), .int (nI (n_2093)), .int 0])), (qa, .inl (cA, 1200, .inl (f)))]) [2, 3, 0, 1, 4, 5] rfl
  have hD9 := hD.sub (ws' := [(h0, .inr (4, [.ref qa, .ref kr, .ref k1, .ref k2, .ref k3, .ref k4, .ref k5, .ref k6, .ref km, .ref kp, .ref kD, .int (nI (ee)), .int (nI (gl)), .int (nI (wd)), .int (bI il)])), (k5, .inr (0, [.ref qa, .int (nI (x5)), .int (nI (y5)), .int (bI z5__2089)])), (k6, .inr (0, [.ref qa, .int (nI (x6)), .int (nI (y6)), .int (bI z6)])), (kD, .inl (cD, 3, .inr (.inr (.inr (.inr (DT kd0 kd1 kd2)))))), (kd2, .inr (0, [.ref qa, .int (nI (a_2092)), .int (nI (n_2093)), .int 0])), (qa, .inl (cA, 1200, .inl (f)))]) [2, 3, 0, 1, 4, 5] (by decide) rfl
  have hK9 := hK.sub (tys' := [(cD, .object "GlyphLines$Span"), (cA, .int)]) [0, 1] rfl
  exact W.aret (v := .ref kd2) (rt := .object "GlyphLines$Span") hx hb hr (Or.inl ⟨_, rfl⟩) (Or.inr ⟨_, rfl⟩) (fun t ht hW => ⟨⟨(), kd2, rfl, trivial, rfl, z5__2089, a_2092, n_2093, false, by omega, by rw [ht]; exact hP9, va_K.moved hW.alike hK9, hD9⟩, hS.F ht⟩) hS.2.2 d_FO_dataOf_55
set_option maxHeartbeats 4000000 in
set_option maxRecDepth 100000 in
/-- GlyphLines$Font.headIsRight -/
theorem g_FO_headIsRight (l : Launch) (dC : Nat → ClassId) (dI : Nat → Nat → Nat) (h0 : Nat) (qa : Nat) (kr : Nat) (k1 : Nat) (k2 : Nat) (k3 : Nat) (k4 : Nat) (k5 : Nat) (k6 : Nat) (km : Nat) (kp : Nat) (kD : Nat) (ee : Nat) (gl : Nat) (wd : Nat) (il : Bool) (x1 : Nat) (y1 : Nat) (z1 : Bool) (cA : ClassId) (f : Nat → Int32) (sz : Nat) (hq0 : ee < 65536) (hq1 : gl < 65536) (hq2 : wd < 65536) (hq3 : x1 + y1 ≤ 1200) (hq4 : isB f) : Met l y_FO_headIsRight s_FO_headIsRight ({ frames := 10, cells := 0, slots := 0, locals := 300 }) (va_Pc [.ref h0] (fun U => U.heap.size = sz ∧ va_P (dC, dI) cls_ [(h0, .inr (4, [.ref qa, .ref kr, .ref k1, .ref k2, .ref k3, .ref k4, .ref k5, .ref k6, .ref km, .ref kp, .ref kD, .int (nI (ee)), .int (nI (gl)), .int (nI (wd)), .int (bI il)])), (k1, .inr (0, [.ref qa, .int (nI (x1)), .int (nI (y1)), .int (bI z1)])), (qa, .inl (cA, 1200, .inl (f)))] U.heap ∧ va_K (dC, dI) cls_ [(cA, .int)] U ∧ va_D (fun _ => True) [(h0, .inr (4, [.ref qa, .ref kr, .ref k1, .ref k2, .ref k3, .ref k4, .ref k5, .ref k6, .ref km, .ref kp, .ref kD, .int (nI (ee)), .int (nI (gl)), .int (nI (wd)), .int (bI il)])), (k1, .inr (0, [.ref qa, .int (nI (x1)), .int (nI (y1)), .int (bI z1)])), (qa, .inl (cA, 1200, .inl (f)))] ∧ nests U)) (va_Qi (fun (r : Int32) (_ : Unit) => ∃ b9 : Bool, r = bI b9) (fun (_ : Unit) (t : State) => ∃ (ee_2 : Nat) (il_2 : Bool) (z1_2 : Bool), ee_2 < 65536 ∧ va_P (dC, dI) cls_ [(h0, .inr (4, [.ref qa, .ref kr, .ref k1, .ref k2, .ref k3, .ref k4, .ref k5, .ref k6, .ref km, .ref kp, .ref kD, .int (nI (ee_2)), .int (nI (gl)), .int (nI (wd)), .int (bI il_2)])), (k1, .inr (0, [.ref qa, .int (nI (x1)), .int (nI (y1)), .int (bI z1_2)])), (qa, .inl (cA, 1200, .inl (f)))] t.heap ∧ va_K (dC, dI) cls_ [(cA, .int)] t ∧ va_D (va_A [(h0, .inr (4, [.ref qa, .ref kr, .ref k1, .ref k2, .ref k3, .ref k4, .ref k5, .ref k6, .ref km, .ref kp, .ref kD, .int (nI (ee)), .int (nI (gl)), .int (nI (wd)), .int (bI il)])), (k1, .inr (0, [.ref qa, .int (nI (x1)), .int (nI (y1)), .int (bI z1)])), (qa, .inl (cA, 1200, .inl (f)))] sz) [(h0, .inr (4, [.ref qa, .ref kr, .ref k1, .ref k2, .ref k3, .ref k4, .ref k5, .ref k6, .ref km, .ref kp, .ref kD, .int (nI (ee_2)), .int (nI (gl)), .int (nI (wd)), .int (bI il_2)])), (k1, .inr (0, [.ref qa, .int (nI (x1)), .int (nI (y1)), .int (bI z1_2)])), (qa, .inl (cA, 1200, .inl (f)))]) (va_A [(h0, .inr (4, [.ref qa, .ref kr, .ref k1, .ref k2, .ref k3, .ref k4, .ref k5, .ref k6, .ref km, .ref kp, .ref kD, .int (nI (ee)), .int (nI (gl)), .int (nI (wd)), .int (bI il)])), (k1, .inr (0, [.ref qa, .int (nI (x1)), .int (nI (y1)), .int (bI z1)])), (qa, .inl (cA, 1200, .inl (f)))] sz)) 0 0 (va_A [(h0, .inr (4, [.ref qa, .ref kr, .ref k1, .ref k2, .ref k3, .ref k4, .ref k5, .ref k6, .ref km, .ref kp, .ref kD, .int (nI (ee)), .int (nI (gl)), .int (nI (wd)), .int (bI il)])), (k1, .inr (0, [.ref qa, .int (nI (x1)), .int (nI (y1)), .int (bI z1)])), (qa, .inl (cA, 1200, .inl (f)))] sz) := by
  refine Met.ofW (cc := b_FO_headIsRight) (maxL := 2) (ret := (some .boolean)) (by decide) rfl ?_
  intro p e s m args below meth c s₁ B hml hv
  obtain ⟨rfl, hsz, hP, hK, hD0, hNs⟩ := hv
  have hx := B.exec
  have hb := B.bytes
  have hr := B.returns
  have hts := atoms_spec (ws := s_FO_headIsRight) B.pre
  have hown : s.vm.findClass R_FO = some m.cls := findClass_of_methodNamed B.named
  have hlocks := B.notSynchronized
  subst hsz
  have hD := hD0.self (sz := s.heap.size)
  generalize hAe : va_A [(h0, .inr (4, [.ref qa, .ref kr, .ref k1, .ref k2, .ref k3, .ref k4, .ref k5, .ref k6, .ref km, .ref kp, .ref kD, .int (nI (ee)), .int (nI (gl)), .int (nI (wd)), .int (bI il)])), (k1, .inr (0, [.ref qa, .int (nI (x1)), .int (nI (y1)), .int (bI z1)])), (qa, .inl (cA, 1200, .inl (f)))] s.heap.size = A at hD ⊢
  have hA : ∀ q : Nat, s.heap.size ≤ q → A q := fun q h => by rw [← hAe]; exact Or.inr h
  have hS : va_S A s.heap s.heap [] := va_S.rf
  have hP : va_P (dC, dI) cls_ [(h0, .inr (4, [.ref qa, .ref kr, .ref k1, .ref k2, .ref k3, .ref k4, .ref k5, .ref k6, .ref km, .ref kp, .ref kD, .int (nI (ee)), .int (nI (gl)), .int (nI (wd)), .int (bI il)])), (k1, .inr (0, [.ref qa, .int (nI (x1)), .int (nI (y1)), .int (bI z1)])), (qa, .inl (cA, 1200, .inl (f)))] s.heap := hP
  have hl := lv_entry ([.ref h0]) (n := 2) (Nat.le_of_ble_eq_true rfl)
  rw [lg_entry_eq]
  generalize (lg_sl ([.ref h0]) ++ List.replicate (2 - (lg_sl ([.ref h0])).length) Slot.unset).toArray = ls at hl ⊢
  have hl : lv_has ls 2 [(0, .ref h0)] := hl
  refine lv_aload_n hx hb d_FO_headIsRight_0 rfl (lv_at hl 0 rfl) ?_
  refine lv_aload_n hx hb d_FO_headIsRight_1 rfl (lv_at hl 0 rfl) ?_
  refine va_get (D := (dC, dI)) (ci := 4) (v := .ref k1) (C := R_FO) (T := F_FO) (N := 15) hx hb hts in_FO hown hK hP 0 rfl rfl 2 (by decide) (hts _ (List.mem_cons_of_mem _ w_119)) (fun _ h9 => h9) rfl d_FO_headIsRight_2 ?_
  refine lv_bipush (v := 18) hx hb d_FO_headIsRight_5 (by decide) ?_
  have hPc := hP.sub (ws' := [(k1, .inr (0, [.ref qa, .int (nI (x1)), .int (nI (y1)), .int (bI z1)])), (qa, .inl (cA, 1200, .inl (f)))]) [1, 2] rfl
  have hDc := hD.sub (ws' := [(k1, .inr (0, [.ref qa, .int (nI (x1)), .int (nI (y1)), .int (bI z1)])), (qa, .inl (cA, 1200, .inl (f)))]) [1, 2] (by decide) rfl
  have hKc := hK.sub (tys' := [(cA, .int)]) [0] rfl
  have hFc := va_free (wc := [(k1, .inr (0, [.ref qa, .int (nI (x1)), .int (nI (y1)), .int (bI z1)])), (qa, .inl (cA, 1200, .inl (f)))]) hD hS hA [1, 2] rfl
  refine va_calli (va_runV (As := [.int 18]) (rest := [.ref h0]) ⟨hx, hb, hml, hown, hts⟩ (g_SP_u16 l dC dI k1 qa x1 y1 z1 cA f 18 s.heap.size (by omega) (by assumption)) (cwV 1 hts (tw_inV w_407 w_353 w_354 w_4 w_355) rfl rfl rfl (by decide +kernel) ⟨Nat.le_of_ble_eq_true rfl, Nat.le_of_ble_eq_true rfl⟩) ⟨fun a U g mk q => by obtain ⟨q0, q1, qP, qK, qD⟩ := q; exact ⟨q0, q1, qP, va_K.moved (u := U) (U := U.calling g mk a) (Vm.Alike.refl U.vm) qK, qD⟩, va_recv (hK := hK) (hP := hP) (q0 := 1) (ci := 0) rfl rfl, fun U hU hW => ⟨rfl, by rw [hU], by rw [hU]; exact hPc, va_K.moved hW.alike hKc, hDc.weaken (fun _ _ _ _ => trivial)⟩⟩ rfl rfl hl.1 rfl (lv_room (Nat.le_of_ble_eq_true rfl)) d_FO_headIsRight_7 ⟨Nat.le_of_ble_eq_true rfl, Nat.le_of_ble_eq_true rfl⟩) hS (fun q _ h => hFc q h) hFc (fun r2095 u t H1 locs ht hvm hw hB hz1 hk1 hS => ?_)
  obtain ⟨m_2096, hP1, hK1, hD1⟩ := hB
  rw [ht] at hP1
  have hK1 := va_K.moved hvm.symm hK1
  obtain ⟨hP, hD⟩ := va_join (wr := [(h0, .inr (4, [.ref qa, .ref kr, .ref k1, .ref k2, .ref k3, .ref k4, .ref k5, .ref k6, .ref km, .ref kp, .ref kD, .int (nI (ee)), .int (nI (gl)), .int (nI (wd)), .int (bI il)]))]) (w1 := [(k1, .inr (0, [.ref qa, .int (nI (x1)), .int (nI (y1)), .int (bI m_2096)])), (qa, .inl (cA, 1200, .inl (f)))]) hP hD [1, 2] [0] rfl rfl (by decide) (by decide) hk1 hFc hP1 hD1
  have hK := (hK.sub (tys' := []) [] rfl).app hK1
  generalize H1 = H at hP hS ⊢
  have hP : va_P (dC, dI) cls_ [(h0, .inr (4, [.ref qa, .ref kr, .ref k1, .ref k2, .ref k3, .ref k4, .ref k5, .ref k6, .ref km, .ref kp, .ref kD, .int (nI (ee)), .int (nI (gl)), .int (nI (wd)), .int (bI il)])), (k1, .inr (0, [.ref qa, .int (nI (x1)), .int (nI (y1)), .int (bI m_2096)])), (qa, .inl (cA, 1200, .inl (f)))] H := hP
  have hD : va_D A [(h0, .inr (4, [.ref qa, .ref kr, .ref k1, .ref k2, .ref k3, .ref k4, .ref k5, .ref k6, .ref km, .ref kp, .ref kD, .int (nI (ee)), .int (nI (gl)), .int (nI (wd)), .int (bI il)])), (k1, .inr (0, [.ref qa, .int (nI (x1)), .int (nI (y1)), .int (bI m_2096)])), (qa, .inl (cA, 1200, .inl (f)))] := hD
  have hK : va_K (dC, dI) cls_ [(cA, .int)] s := hK
  have hw_r2095 := hw
  obtain ⟨kn2097, hb_kn2097, rfl⟩ := hw_r2095
  refine va_put (D := (dC, dI)) (ci := 4) (v := .int (nI (kn2097))) (ty := .int) (C := R_FO) (T := F_FO) (N := 15) hx hb hts in_FO t_FO t_FO_ok n_FO hown hK hP hD hS 0 rfl rfl 11 (by decide) (hts _ (List.mem_cons_of_mem _ w_128)) (fun _ h9 => h9) rfl  (by decide +kernel) rfl rfl (Nat.le_of_ble_eq_true rfl) d_FO_headIsRight_10 (fun H locs hP hD hS => ?_)
  have hP : va_P (dC, dI) cls_ [(h0, .inr (4, [.ref qa, .ref kr, .ref k1, .ref k2, .ref k3, .ref k4, .ref k5, .ref k6, .ref km, .ref kp, .ref kD, .int (nI (kn2097)), .int (nI (gl)), .int (nI (wd)), .int (bI il)])), (k1, .inr (0, [.ref qa, .int (nI (x1)), .int (nI (y1)), .int (bI m_2096)])), (qa, .inl (cA, 1200, .inl (f)))] H := hP
  have hD : va_D A [(h0, .inr (4, [.ref qa, .ref kr, .ref k1, .ref k2, .ref k3, .ref k4, .ref k5, .ref k6, .ref km, .ref kp, .ref kD, .int (nI (kn2097)), .int (nI (gl)), .int (nI (wd)), .int (bI il)])), (k1, .inr (0, [.ref qa, .int (nI (x1)), .int (nI (y1)), .int (bI m_2096)])), (qa, .inl (cA, 1200, .inl (f)))] := hD
  refine lv_aload_n hx hb d_FO_headIsRight_13 rfl (lv_at hl 0 rfl) ?_
  refine va_get (D := (dC, dI)) (ci := 4) (v := .ref k1) (C := R_FO) (T := F_FO) (N := 15) hx hb hts in_FO hown hK hP 0 rfl rfl 2 (by decide) (hts _ (List.mem_cons_of_mem _ w_119)) (fun _ h9 => h9) rfl d_FO_headIsRight_14 ?_
  refine lv_bipush (v := 50) hx hb d_FO_headIsRight_17 (by decide) ?_
  have hPc := hP.sub (ws' := [(k1, .inr (0, [.ref qa, .int (nI (x1)), .int (nI (y1)), .int (bI m_2096)])), (qa, .inl (cA, 1200, .inl (f)))]) [1, 2] rfl
  have hDc := hD.sub (ws' := [(k1, .inr (0, [.ref qa, .int (nI (x1)), .int (nI (y1)), .int (bI m_2096)])), (qa, .inl (cA, 1200, .inl (f)))]) [1, 2] (by decide) rfl
  have hKc := hK.sub (tys' := [(cA, .int)]) [0] rfl
  have hFc := va_free (wc := [(k1, .inr (0, [.ref qa, .int (nI (x1)), .int (nI (y1)), .int (bI m_2096)])), (qa, .inl (cA, 1200, .inl (f)))]) hD hS hA [1, 2] rfl
  refine va_calli (va_runV (As := [.int 50]) (rest := []) ⟨hx, hb, hml, hown, hts⟩ (g_SP_u16 l dC dI k1 qa x1 y1 m_2096 cA f 50 H.size (by omega) (by assumption)) (cwV 1 hts (tw_inV w_407 w_353 w_354 w_4 w_355) rfl rfl rfl (by decide +kernel) ⟨Nat.le_of_ble_eq_true rfl, Nat.le_of_ble_eq_true rfl⟩) ⟨fun a U g mk q => by obtain ⟨q0, q1, qP, qK, qD⟩ := q; exact ⟨q0, q1, qP, va_K.moved (u := U) (U := U.calling g mk a) (Vm.Alike.refl U.vm) qK, qD⟩, va_recv (hK := hK) (hP := hP) (q0 := 1) (ci := 0) rfl rfl, fun U hU hW => ⟨rfl, by rw [hU], by rw [hU]; exact hPc, va_K.moved hW.alike hKc, hDc.weaken (fun _ _ _ _ => trivial)⟩⟩ rfl rfl hl.1 rfl (lv_room (Nat.le_of_ble_eq_true rfl)) d_FO_headIsRight_19 ⟨Nat.le_of_ble_eq_true rfl, Nat.le_of_ble_eq_true rfl⟩) hS (fun q _ h => hFc q h) hFc (fun r2098 u t H1 locs ht hvm hw hB hz1 hk1 hS => ?_)
  obtain ⟨m_2099, hP1, hK1, hD1⟩ := hB
  rw [ht] at hP1
  have hK1 := va_K.moved hvm.symm hK1
  obtain ⟨hP, hD⟩ := va_join (wr := [(h0, .inr (4, [.ref qa, .ref kr, .ref k1, .ref k2, .ref k3, .ref k4, .ref k5, .ref k6, .ref km, .ref kp, .ref kD, .int (nI (kn2097)), .int (nI (gl)), .int (nI (wd)), .int (bI il)]))]) (w1 := [(k1, .inr (0, [.ref qa, .int (nI (x1)), .int (nI (y1)), .int (bI m_2099)])), (qa, .inl (cA, 1200, .inl (f)))]) hP hD [1, 2] [0] rfl rfl (by decide) (by decide) hk1 hFc hP1 hD1
  have hK := (hK.sub (tys' := []) [] rfl).app hK1
  generalize H1 = H at hP hS ⊢
  have hP : va_P (dC, dI) cls_ [(h0, .inr (4, [.ref qa, .ref kr, .ref k1, .ref k2, .ref k3, .ref k4, .ref k5, .ref k6, .ref km, .ref kp, .ref kD, .int (nI (kn2097)), .int (nI (gl)), .int (nI (wd)), .int (bI il)])), (k1, .inr (0, [.ref qa, .int (nI (x1)), .int (nI (y1)), .int (bI m_2099)])), (qa, .inl (cA, 1200, .inl (f)))] H := hP
  have hD : va_D A [(h0, .inr (4, [.ref qa, .ref kr, .ref k1, .ref k2, .ref k3, .ref k4, .ref k5, .ref k6, .ref km, .ref kp, .ref kD, .int (nI (kn2097)), .int (nI (gl)), .int (nI (wd)), .int (bI il)])), (k1, .inr (0, [.ref qa, .int (nI (x1)), .int (nI (y1)), .int (bI m_2099)])), (qa, .inl (cA, 1200, .inl (f)))] := hD
  have hK : va_K (dC, dI) cls_ [(cA, .int)] s := hK
  have hw_r2098 := hw
  obtain ⟨kn2100, hb_kn2100, rfl⟩ := hw_r2098
  refine lv_istore_n (lv' := [(1, .int (nI (kn2100))), (0, .ref h0)]) hx hb d_FO_headIsRight_22 rfl hl (by decide) rfl (fun ls hl => ?_)
  refine lv_aload_n hx hb d_FO_headIsRight_23 rfl (lv_at hl 1 rfl) ?_
  refine lv_iload_n hx hb d_FO_headIsRight_24 rfl (lv_at hl 0 rfl) ?_
  refine lv_iconst (v := 1) hx hb d_FO_headIsRight_25 (by decide) ?_
  refine lv_icmp_ne (tgt := 33) hx hb d_FO_headIsRight_26 (by decide) (fun hc2101 => ?_) (fun hc2101 => ?_)
  · skip
    have hc2101n : ¬ kn2100 = 1 := fun z => hc2101 ((nI_eq (a := kn2100) (b := 1) (by omega) (by omega)).mpr z)
    refine lv_iconst (v := 0) hx hb d_FO_headIsRight_33 (by decide) ?_
    refine va_put (D := (dC, dI)) (ci := 4) (v := .int 0) (ty := .boolean) (C := R_FO) (T := F_FO) (N := 15) hx hb hts in_FO t_FO t_FO_ok n_FO hown hK hP hD hS 0 rfl rfl 14 (by decide) (hts _ (List.mem_cons_of_mem _ w_134)) (fun _ h9 => h9) rfl  (by decide +kernel) rfl rfl (Nat.le_of_ble_eq_true rfl) d_FO_headIsRight_34 (fun H locs hP hD hS => ?_)
    have hP : va_P (dC, dI) cls_ [(h0, .inr (4, [.ref qa, .ref kr, .ref k1, .ref k2, .ref k3, .ref k4, .ref k5, .ref k6, .ref km, .ref kp, .ref kD, .int (nI (kn2097)), .int (nI (gl)), .int (nI (wd)), .int 0])), (k1, .inr (0, [.ref qa, .int (nI (x1)), .int (nI (y1)), .int (bI m_2099)])), (qa, .inl (cA, 1200, .inl (f)))] H := hP
    have hD : va_D A [(h0, .inr (4, [.ref qa, .ref kr, .ref k1, .ref k2, .ref k3, .ref k4, .ref k5, .ref k6, .ref km, .ref kp, .ref kD, .int (nI (kn2097)), .int (nI (gl)), .int (nI (wd)), .int 0])), (k1, .inr (0, [.ref qa, .int (nI (x1)), .int (nI (y1)), .int (bI m_2099)])), (qa, .inl (cA, 1200, .inl (f)))] := hD
    refine lv_aload_n hx hb d_FO_headIsRight_37 rfl (lv_at hl 1 rfl) ?_
    refine va_get (D := (dC, dI)) (ci := 4) (v := .ref k1) (C := R_FO) (T := F_FO) (N := 15) hx hb hts in_FO hown hK hP 0 rfl rfl 2 (by decide) (hts _ (List.mem_cons_of_mem _ w_119)) (fun _ h9 => h9) rfl d_FO_headIsRight_38 ?_
    refine va_getN (D := (dC, dI)) (ci := 0) (v := .int (nI (y1))) (C := R_SP) (T := F_SP) (N := 4) (host := "GlyphLines") hx hb hts in_SP hown hK hP 1 rfl rfl 2 (by decide) (va_Nw.use rfl (nest_3 hNs)) (fun _ h9 => h9) rfl d_FO_headIsRight_41 ?_
    refine lv_bipush (v := 54) hx hb d_FO_headIsRight_44 (by decide) ?_
    refine lv_icmp_lt (tgt := 77) hx hb d_FO_headIsRight_46 (by decide) (fun hc2102 => ?_) (fun hc2102 => ?_)
    · skip
      have hc2102n : y1 < 54 := (nI_ltI (a := y1) (b := 54) (by omega) (by omega)).mp hc2102
      refine lv_iconst (v := 0) hx hb d_FO_headIsRight_77 (by decide) ?_
      refine W.widen (k := 0) (n := 0) (Nat.le_of_ble_eq_true rfl) (Nat.le_of_ble_eq_true rfl) ?_
      have hP9 := hP.sub (ws' := [(h0, .inr (4, [.ref qa, .ref kr, .ref k1, .ref k2, .ref k3, .ref k4, .ref k5, .ref k6, .ref km, .ref kp, .ref kD, .int (nI (kn2097)), .int (nI (gl)), .int (nI (wd)), .int 0])), (k1, .inr (0, [.ref qa, .int (nI (x1)), .int (nI (y1)), .int (bI m_2099)])), (qa, .inl (cA, 1200, .inl (f)))]) [0, 1, 2] rfl
      have hD9 := hD.sub (ws' := [(h0, .inr (4, [.ref qa, .ref kr, .ref k1, .ref k2, .ref k3, .ref k4, .ref k5, .ref k6, .ref km, .ref kp, .ref kD, .int (nI (kn2097)), .int (nI (gl)), .int (nI (wd)), .int 0])), (k1, .inr (0, [.ref qa, .int (nI (x1)), .int (nI (y1)), .int (bI m_2099)])), (qa, .inl (cA, 1200, .inl (f)))]) [0, 1, 2] (by decide) rfl
      have hK9 := hK.sub (tys' := [(cA, .int)]) [0] rfl
      exact W.zret (v := 0) (ty := .boolean) hx hb hr (by decide +kernel) (fun t ht hW => ⟨⟨0, (), rfl, ⟨false, rfl⟩, kn2097, false, m_2099, by omega, by rw [ht]; exact hP9, va_K.moved hW.alike hK9, hD9⟩, hS.F ht⟩) hS.2.2 d_FO_headIsRight_78
    · skip
      have hc2102n : ¬ (y1 < 54) := fun z => hc2102 ((nI_ltI (a := y1) (b := 54) (by omega) (by omega)).mpr z)
      refine lv_aload_n hx hb d_FO_headIsRight_49 rfl (lv_at hl 1 rfl) ?_
      refine va_get (D := (dC, dI)) (ci := 4) (v := .int (nI (kn2097))) (C := R_FO) (T := F_FO) (N := 15) hx hb hts in_FO hown hK hP 0 rfl rfl 11 (by decide) (hts _ (List.mem_cons_of_mem _ w_128)) (fun _ h9 => h9) rfl d_FO_headIsRight_50 ?_
      refine lv_bipush (v := 64) hx hb d_FO_headIsRight_53 (by decide) ?_
      refine lv_icmp_lt (tgt := 77) hx hb d_FO_headIsRight_55 (by decide) (fun hc2103 => ?_) (fun hc2103 => ?_)
      · skip
        have hc2103n : kn2097 < 64 := (nI_ltI (a := kn2097) (b := 64) (by omega) (by omega)).mp hc2103
        refine lv_iconst (v := 0) hx hb d_FO_headIsRight_77 (by decide) ?_
        refine W.widen (k := 0) (n := 0) (Nat.le_of_ble_eq_true rfl) (Nat.le_of_ble_eq_true rfl) ?_
        have hP9 := hP.sub (ws' := [(h0, .inr (4, [.ref qa, .ref kr, .ref k1, .ref k2, .ref k3, .ref k4, .ref k5, .ref k6, .ref km, .ref kp, .ref kD, .int (nI (kn2097)), .int (nI (gl)), .int (nI (wd)), .int 0])), (k1, .inr (0, [.ref qa, .int (nI (x1)), .int (nI (y1)), .int (bI m_2099)])), (qa, .inl (cA, 1200, .inl (f)))]) [0, 1, 2] rfl
        have hD9 := hD.sub (ws' := [(h0, .inr (4, [.ref qa, .ref kr, .ref k1, .ref k2, .ref k3, .ref k4, .ref k5, .ref k6, .ref km, .ref kp, .ref kD, .int (nI (kn2097)), .int (nI (gl)), .int (nI (wd)), .int 0])), (k1, .inr (0, [.ref qa, .int (nI (x1)), .int (nI (y1)), .int (bI m_2099)])), (qa, .inl (cA, 1200, .inl (f)))]) [0, 1, 2] (by decide) rfl
        have hK9 := hK.sub (tys' := [(cA, .int)]) [0] rfl
        exact W.zret (v := 0) (ty := .boolean) hx hb hr (by decide +kernel) (fun t ht hW => ⟨⟨0, (), rfl, ⟨false, rfl⟩, kn2097, false, m_2099, by omega, by rw [ht]; exact hP9, va_K.moved hW.alike hK9, hD9⟩, hS.F ht⟩) hS.2.2 d_FO_headIsRight_78
      · skip
        have hc2103n : ¬ (kn2097 < 64) := fun z => hc2103 ((nI_ltI (a := kn2097) (b := 64) (by omega) (by omega)).mpr z)
        refine lv_aload_n hx hb d_FO_headIsRight_58 rfl (lv_at hl 1 rfl) ?_
        refine va_get (D := (dC, dI)) (ci := 4) (v := .int (nI (kn2097))) (C := R_FO) (T := F_FO) (N := 15) hx hb hts in_FO hown hK hP 0 rfl rfl 11 (by decide) (hts _ (List.mem_cons_of_mem _ w_128)) (fun _ h9 => h9) rfl d_FO_headIsRight_59 ?_
        refine lv_sipush (v := 2048) hx hb d_FO_headIsRight_62 (by decide) ?_
        refine lv_icmp_gt (tgt := 77) hx hb d_FO_headIsRight_65 (by decide) (fun hc2104 => ?_) (fun hc2104 => ?_)
        · skip
          have hc2104n : 2048 < kn2097 := (nI_ltI (a := 2048) (b := kn2097) (by omega) (by omega)).mp hc2104
          refine lv_iconst (v := 0) hx hb d_FO_headIsRight_77 (by decide) ?_
          refine W.widen (k := 0) (n := 0) (Nat.le_of_ble_eq_true rfl) (Nat.le_of_ble_eq_true rfl) ?_
          have hP9 := hP.sub (ws' := [(h0, .inr (4, [.ref qa, .ref kr, .ref k1, .ref k2, .ref k3, .ref k4, .ref k5, .ref k6, .ref km, .ref kp, .ref kD, .int (nI (kn2097)), .int (nI (gl)), .int (nI (wd)), .int 0])), (k1, .inr (0, [.ref qa, .int (nI (x1)), .int (nI (y1)), .int (bI m_2099)])), (qa, .inl (cA, 1200, .inl (f)))]) [0, 1, 2] rfl
          have hD9 := hD.sub (ws' := [(h0, .inr (4, [.ref qa, .ref kr, .ref k1, .ref k2, .ref k3, .ref k4, .ref k5, .ref k6, .ref km, .ref kp, .ref kD, .int (nI (kn2097)), .int (nI (gl)), .int (nI (wd)), .int 0])), (k1, .inr (0, [.ref qa, .int (nI (x1)), .int (nI (y1)), .int (bI m_2099)])), (qa, .inl (cA, 1200, .inl (f)))]) [0, 1, 2] (by decide) rfl
          have hK9 := hK.sub (tys' := [(cA, .int)]) [0] rfl
          exact W.zret (v := 0) (ty := .boolean) hx hb hr (by decide +kernel) (fun t ht hW => ⟨⟨0, (), rfl, ⟨false, rfl⟩, kn2097, false, m_2099, by omega, by rw [ht]; exact hP9, va_K.moved hW.alike hK9, hD9⟩, hS.F ht⟩) hS.2.2 d_FO_headIsRight_78
        · skip
          have hc2104n : ¬ (2048 < kn2097) := fun z => hc2104 ((nI_ltI (a := 2048) (b := kn2097) (by omega) (by omega)).mpr z)
          refine lv_iload_n hx hb d_FO_headIsRight_68 rfl (lv_at hl 0 rfl) ?_
          refine lv_iconst (v := 1) hx hb d_FO_headIsRight_69 (by decide) ?_
          refine lv_icmp_gt (tgt := 77) hx hb d_FO_headIsRight_70 (by decide) (fun hc2105 => ?_) (fun hc2105 => ?_)
          · skip
            have hc2105n : 1 < kn2100 := (nI_ltI (a := 1) (b := kn2100) (by omega) (by omega)).mp hc2105
            refine lv_iconst (v := 0) hx hb d_FO_headIsRight_77 (by decide) ?_
            refine W.widen (k := 0) (n := 0) (Nat.le_of_ble_eq_true rfl) (Nat.le_of_ble_eq_true rfl) ?_
            have hP9 := hP.sub (ws' := [(h0, .inr (4, [.ref qa, .ref kr, .ref k1, .ref k2, .ref k3, .ref k4, .ref k5, .ref k6, .ref km, .ref kp, .ref kD, .int (nI (kn2097)), .int (nI (gl)), .int (nI (wd)), .int 0])), (k1, .inr (0, [.ref qa, .int (nI (x1)), .int (nI (y1)), .int (bI m_2099)])), (qa, .inl (cA, 1200, .inl (f)))]) [0, 1, 2] rfl
            have hD9 := hD.sub (ws' := [(h0, .inr (4, [.ref qa, .ref kr, .ref k1, .ref k2, .ref k3, .ref k4, .ref k5, .ref k6, .ref km, .ref kp, .ref kD, .int (nI (kn2097)), .int (nI (gl)), .int (nI (wd)), .int 0])), (k1, .inr (0, [.ref qa, .int (nI (x1)), .int (nI (y1)), .int (bI m_2099)])), (qa, .inl (cA, 1200, .inl (f)))]) [0, 1, 2] (by decide) rfl
            have hK9 := hK.sub (tys' := [(cA, .int)]) [0] rfl
            exact W.zret (v := 0) (ty := .boolean) hx hb hr (by decide +kernel) (fun t ht hW => ⟨⟨0, (), rfl, ⟨false, rfl⟩, kn2097, false, m_2099, by omega, by rw [ht]; exact hP9, va_K.moved hW.alike hK9, hD9⟩, hS.F ht⟩) hS.2.2 d_FO_headIsRight_78
          · skip
            have hc2105n : ¬ (1 < kn2100) := fun z => hc2105 ((nI_ltI (a := 1) (b := kn2100) (by omega) (by omega)).mpr z)
            refine lv_iconst (v := 1) hx hb d_FO_headIsRight_73 (by decide) ?_
            refine lv_goto (tgt := 78) hx hb d_FO_headIsRight_74 (by decide) ?_
            refine W.widen (k := 0) (n := 0) (Nat.le_of_ble_eq_true rfl) (Nat.le_of_ble_eq_true rfl) ?_
            have hP9 := hP.sub (ws' := [(h0, .inr (4, [.ref qa, .ref kr, .ref k1, .ref k2, .ref k3, .ref k4, .ref k5, .ref k6, .ref km, .ref kp, .ref kD, .int (nI (kn2097)), .int (nI (gl)), .int (nI (wd)), .int 0])), (k1, .inr (0, [.ref qa, .int (nI (x1)), .int (nI (y1)), .int (bI m_2099)])), (qa, .inl (cA, 1200, .inl (f)))]) [0, 1, 2] rfl
            have hD9 := hD.sub (ws' := [(h0, .inr (4, [.ref qa, .ref kr, .ref k1, .ref k2, .ref k3, .ref k4, .ref k5, .ref k6, .ref km, .ref kp, .ref kD, .int (nI (kn2097)), .int (nI (gl)), .int (nI (wd)), .int 0])), (k1, .inr (0, [.ref qa, .int (nI (x1)), .int (nI (y1)), .int (bI m_2099)])), (qa, .inl (cA, 1200, .inl (f)))]) [0, 1, 2] (by decide) rfl
            have hK9 := hK.sub (tys' := [(cA, .int)]) [0] rfl
            exact W.zret (v := 1) (ty := .boolean) hx hb hr (by decide +kernel) (fun t ht hW => ⟨⟨1, (), rfl, ⟨true, rfl⟩, kn2097, false, m_2099, by omega, by rw [ht]; exact hP9, va_K.moved hW.alike hK9, hD9⟩, hS.F ht⟩) hS.2.2 d_FO_headIsRight_78
  · skip
    have hc2101n : kn2100 = 1 := (nI_eq (a := kn2100) (b := 1) (by omega) (by omega)).mp hc2101
    refine lv_iconst (v := 1) hx hb d_FO_headIsRight_29 (by decide) ?_
    refine lv_goto (tgt := 34) hx hb d_FO_headIsRight_30 (by decide) ?_
    refine va_put (D := (dC, dI)) (ci := 4) (v := .int 1) (ty := .boolean) (C := R_FO) (T := F_FO) (N := 15) hx hb hts in_FO t_FO t_FO_ok n_FO hown hK hP hD hS 0 rfl rfl 14 (by decide) (hts _ (List.mem_cons_of_mem _ w_134)) (fun _ h9 => h9) rfl  (by decide +kernel) rfl rfl (Nat.le_of_ble_eq_true rfl) d_FO_headIsRight_34 (fun H locs hP hD hS => ?_)
    have hP : va_P (dC, dI) cls_ [(h0, .inr (4, [.ref qa, .ref kr, .ref k1, .ref k2, .ref k3, .ref k4, .ref k5, .ref k6, .ref km, .ref kp, .ref kD, .int (nI (kn2097)), .int (nI (gl)), .int (nI (wd)), .int 1])), (k1, .inr (0, [.ref qa, .int (nI (x1)), .int (nI (y1)), .int (bI m_2099)])), (qa, .inl (cA, 1200, .inl (f)))] H := hP
    have hD : va_D A [(h0, .inr (4, [.ref qa, .ref kr, .ref k1, .ref k2, .ref k3, .ref k4, .ref k5, .ref k6, .ref km, .ref kp, .ref kD, .int (nI (kn2097)), .int (nI (gl)), .int (nI (wd)), .int 1])), (k1, .inr (0, [.ref qa, .int (nI (x1)), .int (nI (y1)), .int (bI m_2099)])), (qa, .inl (cA, 1200, .inl (f)))] := hD
    refine lv_aload_n hx hb d_FO_headIsRight_37 rfl (lv_at hl 1 rfl) ?_
    refine va_get (D := (dC, dI)) (ci := 4) (v := .ref k1) (C := R_FO) (T := F_FO) (N := 15) hx hb hts in_FO hown hK hP 0 rfl rfl 2 (by decide) (hts _ (List.mem_cons_of_mem _ w_119)) (fun _ h9 => h9) rfl d_FO_headIsRight_38 ?_
    refine va_getN (D := (dC, dI)) (ci := 0) (v := .int (nI (y1))) (C := R_SP) (T := F_SP) (N := 4) (host := "GlyphLines") hx hb hts in_SP hown hK hP 1 rfl rfl 2 (by decide) (va_Nw.use rfl (nest_3 hNs)) (fun _ h9 => h9) rfl d_FO_headIsRight_41 ?_
    refine lv_bipush (v := 54) hx hb d_FO_headIsRight_44 (by decide) ?_
    refine lv_icmp_lt (tgt := 77) hx hb d_FO_headIsRight_46 (by decide) (fun hc2106 => ?_) (fun hc2106 => ?_)
    · skip
      have hc2106n : y1 < 54 := (nI_ltI (a := y1) (b := 54) (by omega) (by omega)).mp hc2106
      refine lv_iconst (v := 0) hx hb d_FO_headIsRight_77 (by decide) ?_
      refine W.widen (k := 0) (n := 0) (Nat.le_of_ble_eq_true rfl) (Nat.le_of_ble_eq_true rfl) ?_
      have hP9 := hP.sub (ws' := [(h0, .inr (4, [.ref qa, .ref kr, .ref k1, .ref k2, .ref k3, .ref k4, .ref k5, .ref k6, .ref km, .ref kp, .ref kD, .int (nI (kn2097)), .int (nI (gl)), .int (nI (wd)), .int 1])), (k1, .inr (0, [.ref qa, .int (nI (x1)), .int (nI (y1)), .int (bI m_2099)])), (qa, .inl (cA, 1200, .inl (f)))]) [0, 1, 2] rfl
      have hD9 := hD.sub (ws' := [(h0, .inr (4, [.ref qa, .ref kr, .ref k1, .ref k2, .ref k3, .ref k4, .ref k5, .ref k6, .ref km, .ref kp, .ref kD, .int (nI (kn2097)), .int (nI (gl)), .int (nI (wd)), .int 1])), (k1, .inr (0, [.ref qa, .int (nI (x1)), .int (nI (y1)), .int (bI m_2099)])), (qa, .inl (cA, 1200, .inl (f)))]) [0, 1, 2] (by decide) rfl
      have hK9 := hK.sub (tys' := [(cA, .int)]) [0] rfl
      exact W.zret (v := 0) (ty := .boolean) hx hb hr (by decide +kernel) (fun t ht hW => ⟨⟨0, (), rfl, ⟨false, rfl⟩, kn2097, true, m_2099, by omega, by rw [ht]; exact hP9, va_K.moved hW.alike hK9, hD9⟩, hS.F ht⟩) hS.2.2 d_FO_headIsRight_78
    · skip
      have hc2106n : ¬ (y1 < 54) := fun z => hc2106 ((nI_ltI (a := y1) (b := 54) (by omega) (by omega)).mpr z)
      refine lv_aload_n hx hb d_FO_headIsRight_49 rfl (lv_at hl 1 rfl) ?_
      refine va_get (D := (dC, dI)) (ci := 4) (v := .int (nI (kn2097))) (C := R_FO) (T := F_FO) (N := 15) hx hb hts in_FO hown hK hP 0 rfl rfl 11 (by decide) (hts _ (List.mem_cons_of_mem _ w_128)) (fun _ h9 => h9) rfl d_FO_headIsRight_50 ?_
      refine lv_bipush (v := 64) hx hb d_FO_headIsRight_53 (by decide) ?_
      refine lv_icmp_lt (tgt := 77) hx hb d_FO_headIsRight_55 (by decide) (fun hc2107 => ?_) (fun hc2107 => ?_)
      · skip
        have hc2107n : kn2097 < 64 := (nI_ltI (a := kn2097) (b := 64) (by omega) (by omega)).mp hc2107
        refine lv_iconst (v := 0) hx hb d_FO_headIsRight_77 (by decide) ?_
        refine W.widen (k := 0) (n := 0) (Nat.le_of_ble_eq_true rfl) (Nat.le_of_ble_eq_true rfl) ?_
        have hP9 := hP.sub (ws' := [(h0, .inr (4, [.ref qa, .ref kr, .ref k1, .ref k2, .ref k3, .ref k4, .ref k5, .ref k6, .ref km, .ref kp, .ref kD, .int (nI (kn2097)), .int (nI (gl)), .int (nI (wd)), .int 1])), (k1, .inr (0, [.ref qa, .int (nI (x1)), .int (nI (y1)), .int (bI m_2099)])), (qa, .inl (cA, 1200, .inl (f)))]) [0, 1, 2] rfl
        have hD9 := hD.sub (ws' := [(h0, .inr (4, [.ref qa, .ref kr, .ref k1, .ref k2, .ref k3, .ref k4, .ref k5, .ref k6, .ref km, .ref kp, .ref kD, .int (nI (kn2097)), .int (nI (gl)), .int (nI (wd)), .int 1])), (k1, .inr (0, [.ref qa, .int (nI (x1)), .int (nI (y1)), .int (bI m_2099)])), (qa, .inl (cA, 1200, .inl (f)))]) [0, 1, 2] (by decide) rfl
        have hK9 := hK.sub (tys' := [(cA, .int)]) [0] rfl
        exact W.zret (v := 0) (ty := .boolean) hx hb hr (by decide +kernel) (fun t ht hW => ⟨⟨0, (), rfl, ⟨false, rfl⟩, kn2097, true, m_2099, by omega, by rw [ht]; exact hP9, va_K.moved hW.alike hK9, hD9⟩, hS.F ht⟩) hS.2.2 d_FO_headIsRight_78
      · skip
        have hc2107n : ¬ (kn2097 < 64) := fun z => hc2107 ((nI_ltI (a := kn2097) (b := 64) (by omega) (by omega)).mpr z)
        refine lv_aload_n hx hb d_FO_headIsRight_58 rfl (lv_at hl 1 rfl) ?_
        refine va_get (D := (dC, dI)) (ci := 4) (v := .int (nI (kn2097))) (C := R_FO) (T := F_FO) (N := 15) hx hb hts in_FO hown hK hP 0 rfl rfl 11 (by decide) (hts _ (List.mem_cons_of_mem _ w_128)) (fun _ h9 => h9) rfl d_FO_headIsRight_59 ?_
        refine lv_sipush (v := 2048) hx hb d_FO_headIsRight_62 (by decide) ?_
        refine lv_icmp_gt (tgt := 77) hx hb d_FO_headIsRight_65 (by decide) (fun hc2108 => ?_) (fun hc2108 => ?_)
        · skip
          have hc2108n : 2048 < kn2097 := (nI_ltI (a := 2048) (b := kn2097) (by omega) (by omega)).mp hc2108
          refine lv_iconst (v := 0) hx hb d_FO_headIsRight_77 (by decide) ?_
          refine W.widen (k := 0) (n := 0) (Nat.le_of_ble_eq_true rfl) (Nat.le_of_ble_eq_true rfl) ?_
          have hP9 := hP.sub (ws' := [(h0, .inr (4, [.ref qa, .ref kr, .ref k1, .ref k2, .ref k3, .ref k4, .ref k5, .ref k6, .ref km, .ref kp, .ref kD, .int (nI (kn2097)), .int (nI (gl)), .int (nI (wd)), .int 1])), (k1, .inr (0, [.ref qa, .int (nI (x1)), .int (nI (y1)), .int (bI m_2099)])), (qa, .inl (cA, 1200, .inl (f)))]) [0, 1, 2] rfl
          have hD9 := hD.sub (ws' := [(h0, .inr (4, [.ref qa, .ref kr, .ref k1, .ref k2, .ref k3, .ref k4, .ref k5, .ref k6, .ref km, .ref kp, .ref kD, .int (nI (kn2097)), .int (nI (gl)), .int (nI (wd)), .int 1])), (k1, .inr (0, [.ref qa, .int (nI (x1)), .int (nI (y1)), .int (bI m_2099)])), (qa, .inl (cA, 1200, .inl (f)))]) [0, 1, 2] (by decide) rfl
          have hK9 := hK.sub (tys' := [(cA, .int)]) [0] rfl
          exact W.zret (v := 0) (ty := .boolean) hx hb hr (by decide +kernel) (fun t ht hW => ⟨⟨0, (), rfl, ⟨false, rfl⟩, kn2097, true, m_2099, by omega, by rw [ht]; exact hP9, va_K.moved hW.alike hK9, hD9⟩, hS.F ht⟩) hS.2.2 d_FO_headIsRight_78
        · skip
          have hc2108n : ¬ (2048 < kn2097) := fun z => hc2108 ((nI_ltI (a := 2048) (b := kn2097) (by omega) (by omega)).mpr z)
          refine lv_iload_n hx hb d_FO_headIsRight_68 rfl (lv_at hl 0 rfl) ?_
          refine lv_iconst (v := 1) hx hb d_FO_headIsRight_69 (by decide) ?_
          refine lv_icmp_gt (tgt := 77) hx hb d_FO_headIsRight_70 (by decide) (fun hc2109 => ?_) (fun hc2109 => ?_)
          · skip
            have hc2109n : 1 < kn2100 := (nI_ltI (a := 1) (b := kn2100) (by omega) (by omega)).mp hc2109
            refine lv_iconst (v := 0) hx hb d_FO_headIsRight_77 (by decide) ?_
            refine W.widen (k := 0) (n := 0) (Nat.le_of_ble_eq_true rfl) (Nat.le_of_ble_eq_true rfl) ?_
            have hP9 := hP.sub (ws' := [(h0, .inr (4, [.ref qa, .ref kr, .ref k1, .ref k2, .ref k3, .ref k4, .ref k5, .ref k6, .ref km, .ref kp, .ref kD, .int (nI (kn2097)), .int (nI (gl)), .int (nI (wd)), .int 1])), (k1, .inr (0, [.ref qa, .int (nI (x1)), .int (nI (y1)), .int (bI m_2099)])), (qa, .inl (cA, 1200, .inl (f)))]) [0, 1, 2] rfl
            have hD9 := hD.sub (ws' := [(h0, .inr (4, [.ref qa, .ref kr, .ref k1, .ref k2, .ref k3, .ref k4, .ref k5, .ref k6, .ref km, .ref kp, .ref kD, .int (nI (kn2097)), .int (nI (gl)), .int (nI (wd)), .int 1])), (k1, .inr (0, [.ref qa, .int (nI (x1)), .int (nI (y1)), .int (bI m_2099)])), (qa, .inl (cA, 1200, .inl (f)))]) [0, 1, 2] (by decide) rfl
            have hK9 := hK.sub (tys' := [(cA, .int)]) [0] rfl
            exact W.zret (v := 0) (ty := .boolean) hx hb hr (by decide +kernel) (fun t ht hW => ⟨⟨0, (), rfl, ⟨false, rfl⟩, kn2097, true, m_2099, by omega, by rw [ht]; exact hP9, va_K.moved hW.alike hK9, hD9⟩, hS.F ht⟩) hS.2.2 d_FO_headIsRight_78
          · skip
            have hc2109n : ¬ (1 < kn2100) := fun z => hc2109 ((nI_ltI (a := 1) (b := kn2100) (by omega) (by omega)).mpr z)
            refine lv_iconst (v := 1) hx hb d_FO_headIsRight_73 (by decide) ?_
            refine lv_goto (tgt := 78) hx hb d_FO_headIsRight_74 (by decide) ?_
            refine W.widen (k := 0) (n := 0) (Nat.le_of_ble_eq_true rfl) (Nat.le_of_ble_eq_true rfl) ?_
            have hP9 := hP.sub (ws' := [(h0, .inr (4, [.ref qa, .ref kr, .ref k1, .ref k2, .ref k3, .ref k4, .ref k5, .ref k6, .ref km, .ref kp, .ref kD, .int (nI (kn2097)), .int (nI (gl)), .int (nI (wd)), .int 1])), (k1, .inr (0, [.ref qa, .int (nI (x1)), .int (nI (y1)), .int (bI m_2099)])), (qa, .inl (cA, 1200, .inl (f)))]) [0, 1, 2] rfl
            have hD9 := hD.sub (ws' := [(h0, .inr (4, [.ref qa, .ref kr, .ref k1, .ref k2, .ref k3, .ref k4, .ref k5, .ref k6, .ref km, .ref kp, .ref kD, .int (nI (kn2097)), .int (nI (gl)), .int (nI (wd)), .int 1])), (k1, .inr (0, [.ref qa, .int (nI (x1)), .int (nI (y1)), .int (bI m_2099)])), (qa, .inl (cA, 1200, .inl (f)))]) [0, 1, 2] (by decide) rfl
            have hK9 := hK.sub (tys' := [(cA, .int)]) [0] rfl
            exact W.zret (v := 1) (ty := .boolean) hx hb hr (by decide +kernel) (fun t ht hW => ⟨⟨1, (), rfl, ⟨true, rfl⟩, kn2097, true, m_2099, by omega, by rw [ht]; exact hP9, va_K.moved hW.alike hK9, hD9⟩, hS.F ht⟩) hS.2.2 d_FO_headIsRight_78
set_option maxHeartbeats 4000000 in
set_option maxRecDepth 100000 in
/-- GlyphLines$Font.countsAreRight -/
theorem g_FO_countsAreRight (l : Launch) (dC : Nat → ClassId) (dI : Nat → Nat → Nat) (h0 : Nat) (qa : Nat) (kr : Nat) (k1 : Nat) (k2 : Nat) (k3 : Nat) (k4 : Nat) (k5 : Nat) (k6 : Nat) (km : Nat) (kp : Nat) (kD : Nat) (ee : Nat) (gl : Nat) (wd : Nat) (il : Bool) (x2 : Nat) (y2 : Nat) (z2 : Bool) (x3 : Nat) (y3 : Nat) (z3 : Bool) (x4 : Nat) (y4 : Nat) (z4 : Bool) (cA : ClassId) (f : Nat → Int32) (sz : Nat) (hq0 : ee < 65536) (hq1 : gl < 65536) (hq2 : wd < 65536) (hq3 : x2 + y2 ≤ 1200) (hq4 : x3 + y3 ≤ 1200) (hq5 : x4 + y4 ≤ 1200) (hq6 : isB f) : Met l y_FO_countsAreRight s_FO_countsAreRight ({ frames := 10, cells := 0, slots := 0, locals := 300 }) (va_Pc [.ref h0] (fun U => U.heap.size = sz ∧ va_P (dC, dI) cls_ [(h0, .inr (4, [.ref qa, .ref kr, .ref k1, .ref k2, .ref k3, .ref k4, .ref k5, .ref k6, .ref km, .ref kp, .ref kD, .int (nI (ee)), .int (nI (gl)), .int (nI (wd)), .int (bI il)])), (k2, .inr (0, [.ref qa, .int (nI (x2)), .int (nI (y2)), .int (bI z2)])), (k3, .inr (0, [.ref qa, .int (nI (x3)), .int (nI (y3)), .int (bI z3)])), (k4, .inr (0, [.ref qa, .int (nI (x4)), .int (nI (y4)), .int (bI z4)])), (qa, .inl (cA, 1200, .inl (f)))] U.heap ∧ va_K (dC, dI) cls_ [(cA, .int)] U ∧ va_D (fun _ => True) [(h0, .inr (4, [.ref qa, .ref kr, .ref k1, .ref k2, .ref k3, .ref k4, .ref k5, .ref k6, .ref km, .ref kp, .ref kD, .int (nI (ee)), .int (nI (gl)), .int (nI (wd)), .int (bI il)])), (k2, .inr (0, [.ref qa, .int (nI (x2)), .int (nI (y2)), .int (bI z2)])), (k3, .inr (0, [.ref qa, .int (nI (x3)), .int (nI (y3)), .int (bI z3)])), (k4, .inr (0, [.ref qa, .int (nI (x4)), .int (nI (y4)), .int (bI z4)])), (qa, .inl (cA, 1200, .inl (f)))] ∧ nests U)) (va_Qi (fun (r : Int32) (_ : Unit) => ∃ b9 : Bool, r = bI b9) (fun (_ : Unit) (t : State) => ∃ (gl_2 : Nat) (wd_2 : Nat) (z2_2 : Bool) (z3_2 : Bool), gl_2 < 65536 ∧ wd_2 < 65536 ∧ va_P (dC, dI) cls_ [(h0, .inr (4, [.ref qa, .ref kr, .ref k1, .ref k2, .ref k3, .ref k4, .ref k5, .ref k6, .ref km, .ref kp, .ref kD, .int (nI (ee)), .int (nI (gl_2)), .int (nI (wd_2)), .int (bI il)])), (k2, .inr (0, [.ref qa, .int (nI (x2)), .int (nI (y2)), .int (bI z2_2)])), (k3, .inr (0, [.ref qa, .int (nI (x3)), .int (nI (y3)), .int (bI z3_2)])), (k4, .inr (0, [.ref qa, .int (nI (x4)), .int (nI (y4)), .int (bI z4)])), (qa, .inl (cA, 1200, .inl (f)))] t.heap ∧ va_K (dC, dI) cls_ [(cA, .int)] t ∧ va_D (va_A [(h0, .inr (4, [.ref qa, .ref kr, .ref k1, .ref k2, .ref k3, .ref k4, .ref k5, .ref k6, .ref km, .ref kp, .ref kD, .int (nI (ee)), .int (nI (gl)), .int (nI (wd)), .int (bI il)])), (k2, .inr (0, [.ref qa, .int (nI (x2)), .int (nI (y2)), .int (bI z2)])), (k3, .inr (0, [.ref qa, .int (nI (x3)), .int (nI (y3)), .int (bI z3)])), (k4, .inr (0, [.ref qa, .int (nI (x4)), .int (nI (y4)), .int (bI z4)])), (qa, .inl (cA, 1200, .inl (f)))] sz) [(h0, .inr (4, [.ref qa, .ref kr, .ref k1, .ref k2, .ref k3, .ref k4, .ref k5, .ref k6, .ref km, .ref kp, .ref kD, .int (nI (ee)), .int (nI (gl_2)), .int (nI (wd_2)), .int (bI il)])), (k2, .inr (0, [.ref qa, .int (nI (x2)), .int (nI (y2)), .int (bI z2_2)])), (k3, .inr (0, [.ref qa, .int (nI (x3)), .int (nI (y3)), .int (bI z3_2)])), (k4, .inr (0, [.ref qa, .int (nI (x4)), .int (nI (y4)), .int (bI z4)])), (qa, .inl (cA, 1200, .inl (f)))]) (va_A [(h0, .inr (4, [.ref qa, .ref kr, .ref k1, .ref k2, .ref k3, .ref k4, .ref k5, .ref k6, .ref km, .ref kp, .ref kD, .int (nI (ee)), .int (nI (gl)), .int (nI (wd)), .int (bI il)])), (k2, .inr (0, [.ref qa, .int (nI (x2)), .int (nI (y2)), .int (bI z2)])), (k3, .inr (0, [.ref qa, .int (nI (x3)), .int (nI (y3)), .int (bI z3)])), (k4, .inr (0, [.ref qa, .int (nI (x4)), .int (nI (y4)), .int (bI z4)])), (qa, .inl (cA, 1200, .inl (f)))] sz)) 0 0 (va_A [(h0, .inr (4, [.ref qa, .ref kr, .ref k1, .ref k2, .ref k3, .ref k4, .ref k5, .ref k6, .ref km, .ref kp, .ref kD, .int (nI (ee)), .int (nI (gl)), .int (nI (wd)), .int (bI il)])), (k2, .inr (0, [.ref qa, .int (nI (x2)), .int (nI (y2)), .int (bI z2)])), (k3, .inr (0, [.ref qa, .int (nI (x3)), .int (nI (y3)), .int (bI z3)])), (k4, .inr (0, [.ref qa, .int (nI (x4)), .int (nI (y4)), .int (bI z4)])), (qa, .inl (cA, 1200, .inl (f)))] sz) := by
  refine Met.ofW (cc := b_FO_countsAreRight) (maxL := 1) (ret := (some .boolean)) (by decide) rfl ?_
  intro p e s m args below meth c s₁ B hml hv
  obtain ⟨rfl, hsz, hP, hK, hD0, hNs⟩ := hv
  have hx := B.exec
  have hb := B.bytes
  have hr := B.returns
  have hts := atoms_spec (ws := s_FO_countsAreRight) B.pre
  have hown : s.vm.findClass R_FO = some m.cls := findClass_of_methodNamed B.named
  have hlocks := B.notSynchronized
  subst hsz
  have hD := hD0.self (sz := s.heap.size)
  generalize hAe : va_A [(h0, .inr (4, [.ref qa, .ref kr, .ref k1, .ref k2, .ref k3, .ref k4, .ref k5, .ref k6, .ref km, .ref kp, .ref kD, .int (nI (ee)), .int (nI (gl)), .int (nI (wd)), .int (bI il)])), (k2, .inr (0, [.ref qa, .int (nI (x2)), .int (nI (y2)), .int (bI z2)])), (k3, .inr (0, [.ref qa, .int (nI (x3)), .int (nI (y3)), .int (bI z3)])), (k4, .inr (0, [.ref qa, .int (nI (x4)), .int (nI (y4)), .int (bI z4)])), (qa, .inl (cA, 1200, .inl (f)))] s.heap.size = A at hD ⊢
  have hA : ∀ q : Nat, s.heap.size ≤ q → A q := fun q h => by rw [← hAe]; exact Or.inr h
  have hS : va_S A s.heap s.heap [] := va_S.rf
  have hP : va_P (dC, dI) cls_ [(h0, .inr (4, [.ref qa, .ref kr, .ref k1, .ref k2, .ref k3, .ref k4, .ref k5, .ref k6, .ref km, .ref kp, .ref kD, .int (nI (ee)), .int (nI (gl)), .int (nI (wd)), .int (bI il)])), (k2, .inr (0, [.ref qa, .int (nI (x2)), .int (nI (y2)), .int (bI z2)])), (k3, .inr (0, [.ref qa, .int (nI (x3)), .int (nI (y3)), .int (bI z3)])), (k4, .inr (0, [.ref qa, .int (nI (x4)), .int (nI (y4)), .int (bI z4)])), (qa, .inl (cA, 1200, .inl (f)))] s.heap := hP
  have hl := lv_entry ([.ref h0]) (n := 1) (Nat.le_of_ble_eq_true rfl)
  rw [lg_entry_eq]
  generalize (lg_sl ([.ref h0]) ++ List.replicate (1 - (lg_sl ([.ref h0])).length) Slot.unset).toArray = ls at hl ⊢
  have hl : lv_has ls 1 [(0, .ref h0)] := hl
  refine lv_aload_n hx hb d_FO_countsAreRight_0 rfl (lv_at hl 0 rfl) ?_
  refine lv_aload_n hx hb d_FO_countsAreRight_1 rfl (lv_at hl 0 rfl) ?_
  refine va_get (D := (dC, dI)) (ci := 4) (v := .ref k2) (C := R_FO) (T := F_FO) (N := 15) hx hb hts in_FO hown hK hP 0 rfl rfl 3 (by decide) (hts _ (List.mem_cons_of_mem _ w_120)) (fun _ h9 => h9) rfl d_FO_countsAreRight_2 ?_
  refine lv_iconst (v := 4) hx hb d_FO_countsAreRight_5 (by decide) ?_
  have hPc := hP.sub (ws' := [(k2, .inr (0, [.ref qa, .int (nI (x2)), .int (nI (y2)), .int (bI z2)])), (qa, .inl (cA, 1200, .inl (f)))]) [1, 4] rfl
  have hDc := hD.sub (ws' := [(k2, .inr (0, [.ref qa, .int (nI (x2)), .int (nI (y2)), .int (bI z2)])), (qa, .inl (cA, 1200, .inl (f)))]) [1, 4] (by decide) rfl
  have hKc := hK.sub (tys' := [(cA, .int)]) [0] rfl
  have hFc := va_free (wc := [(k2, .inr (0, [.ref qa, .int (nI (x2)), .int (nI (y2)), .int (bI z2)])), (qa, .inl (cA, 1200, .inl (f)))]) hD hS hA [1, 4] rfl
  refine va_calli (va_runV (As := [.int 4]) (rest := [.ref h0]) ⟨hx, hb, hml, hown, hts⟩ (g_SP_u16 l dC dI k2 qa x2 y2 z2 cA f 4 s.heap.size (by omega) (by assumption)) (cwV 1 hts (tw_inV w_407 w_353 w_354 w_4 w_355) rfl rfl rfl (by decide +kernel) ⟨Nat.le_of_ble_eq_true rfl, Nat.le_of_ble_eq_true rfl⟩) ⟨fun a U g mk q => by obtain ⟨q0, q1, qP, qK, qD⟩ := q; exact ⟨q0, q1, qP, va_K.moved (u := U) (U := U.calling g mk a) (Vm.Alike.refl U.vm) qK, qD⟩, va_recv (hK := hK) (hP := hP) (q0 := 1) (ci := 0) rfl rfl, fun U hU hW => ⟨rfl, by rw [hU], by rw [hU]; exact hPc, va_K.moved hW.alike hKc, hDc.weaken (fun _ _ _ _ => trivial)⟩⟩ rfl rfl hl.1 rfl (lv_room (Nat.le_of_ble_eq_true rfl)) d_FO_countsAreRight_6 ⟨Nat.le_of_ble_eq_true rfl, Nat.le_of_ble_eq_true rfl⟩) hS (fun q _ h => hFc q h) hFc (fun r2110 u t H1 locs ht hvm hw hB hz1 hk1 hS => ?_)
  obtain ⟨m_2111, hP1, hK1, hD1⟩ := hB
  rw [ht] at hP1
  have hK1 := va_K.moved hvm.symm hK1
  obtain ⟨hP, hD⟩ := va_join (wr := [(h0, .inr (4, [.ref qa, .ref kr, .ref k1, .ref k2, .ref k3, .ref k4, .ref k5, .ref k6, .ref km, .ref kp, .ref kD, .int (nI (ee)), .int (nI (gl)), .int (nI (wd)), .int (bI il)])), (k3, .inr (0, [.ref qa, .int (nI (x3)), .int (nI (y3)), .int (bI z3)])), (k4, .inr (0, [.ref qa, .int (nI (x4)), .int (nI (y4)), .int (bI z4)]))]) (w1 := [(k2, .inr (0, [.ref qa, .int (nI (x2)), .int (nI (y2)), .int (bI m_2111)])), (qa, .inl (cA, 1200, .inl (f)))]) hP hD [1, 4] [0, 2, 3] rfl rfl (by decide) (by decide) hk1 hFc hP1 hD1
  have hK := (hK.sub (tys' := []) [] rfl).app hK1
  generalize H1 = H at hP hS ⊢
  have hP : va_P (dC, dI) cls_ [(h0, .inr (4, [.ref qa, .ref kr, .ref k1, .ref k2, .ref k3, .ref k4, .ref k5, .ref k6, .ref km, .ref kp, .ref kD, .int (nI (ee)), .int (nI (gl)), .int (nI (wd)), .int (bI il)])), (k3, .inr (0, [.ref qa, .int (nI (x3)), .int (nI (y3)), .int (bI z3)])), (k4, .inr (0, [.ref qa, .int (nI (x4)), .int (nI (y4)), .int (bI z4)])), (k2, .inr (0, [.ref qa, .int (nI (x2)), .int (nI (y2)), .int (bI m_2111)])), (qa, .inl (cA, 1200, .inl (f)))] H := hP
  have hD : va_D A [(h0, .inr (4, [.ref qa, .ref kr, .ref k1, .ref k2, .ref k3, .ref k4, .ref k5, .ref k6, .ref km, .ref kp, .ref kD, .int (nI (ee)), .int (nI (gl)), .int (nI (wd)), .int (bI il)])), (k3, .inr (0, [.ref qa, .int (nI (x3)), .int (nI (y3)), .int (bI z3)])), (k4, .inr (0, [.ref qa, .int (nI (x4)), .int (nI (y4)), .int (bI z4)])), (k2, .inr (0, [.ref qa, .int (nI (x2)), .int (nI (y2)), .int (bI m_2111)])), (qa, .inl (cA, 1200, .inl (f)))] := hD
  have hK : va_K (dC, dI) cls_ [(cA, .int)] s := hK
  have hw_r2110 := hw
  obtain ⟨kn2112, hb_kn2112, rfl⟩ := hw_r2110
  refine va_put (D := (dC, dI)) (ci := 4) (v := .int (nI (kn2112))) (ty := .int) (C := R_FO) (T := F_FO) (N := 15) hx hb hts in_FO t_FO t_FO_ok n_FO hown hK hP hD hS 0 rfl rfl 12 (by decide) (hts _ (List.mem_cons_of_mem _ w_130)) (fun _ h9 => h9) rfl  (by decide +kernel) rfl rfl (Nat.le_of_ble_eq_true rfl) d_FO_countsAreRight_9 (fun H locs hP hD hS => ?_)
  have hP : va_P (dC, dI) cls_ [(h0, .inr (4, [.ref qa, .ref kr, .ref k1, .ref k2, .ref k3, .ref k4, .ref k5, .ref k6, .ref km, .ref kp, .ref kD, .int (nI (ee)), .int (nI (kn2112)), .int (nI (wd)), .int (bI il)])), (k3, .inr (0, [.ref qa, .int (nI (x3)), .int (nI (y3)), .int (bI z3)])), (k4, .inr (0, [.ref qa, .int (nI (x4)), .int (nI (y4)), .int (bI z4)])), (k2, .inr (0, [.ref qa, .int (nI (x2)), .int (nI (y2)), .int (bI m_2111)])), (qa, .inl (cA, 1200, .inl (f)))] H := hP
  have hD : va_D A [(h0, .inr (4, [.ref qa, .ref kr, .ref k1, .ref k2, .ref k3, .ref k4, .ref k5, .ref k6, .ref km, .ref kp, .ref kD, .int (nI (ee)), .int (nI (kn2112)), .int (nI (wd)), .int (bI il)])), (k3, .inr (0, [.ref qa, .int (nI (x3)), .int (nI (y3)), .int (bI z3)])), (k4, .inr (0, [.ref qa, .int (nI (x4)), .int (nI (y4)), .int (bI z4)])), (k2, .inr (0, [.ref qa, .int (nI (x2)), .int (nI (y2)), .int (bI m_2111)])), (qa, .inl (cA, 1200, .inl (f)))] := hD
  refine lv_aload_n hx hb d_FO_countsAreRight_12 rfl (lv_at hl 0 rfl) ?_
  refine lv_aload_n hx hb d_FO_countsAreRight_13 rfl (lv_at hl 0 rfl) ?_
  refine va_get (D := (dC, dI)) (ci := 4) (v := .ref k3) (C := R_FO) (T := F_FO) (N := 15) hx hb hts in_FO hown hK hP 0 rfl rfl 4 (by decide) (hts _ (List.mem_cons_of_mem _ w_121)) (fun _ h9 => h9) rfl d_FO_countsAreRight_14 ?_
  refine lv_bipush (v := 34) hx hb d_FO_countsAreRight_17 (by decide) ?_
  have hPc := hP.sub (ws' := [(k3, .inr (0, [.ref qa, .int (nI (x3)), .int (nI (y3)), .int (bI z3)])), (qa, .inl (cA, 1200, .inl (f)))]) [1, 4] rfl
  have hDc := hD.sub (ws' := [(k3, .inr (0, [.ref qa, .int (nI (x3)), .int (nI (y3)), .int (bI z3)])), (qa, .inl (cA, 1200, .inl (f)))]) [1, 4] (by decide) rfl
  have hKc := hK.sub (tys' := [(cA, .int)]) [0] rfl
  have hFc := va_free (wc := [(k3, .inr (0, [.ref qa, .int (nI (x3)), .int (nI (y3)), .int (bI z3)])), (qa, .inl (cA, 1200, .inl (f)))]) hD hS hA [1, 4] rfl
  refine va_calli (va_runV (As := [.int 34]) (rest := [.ref h0]) ⟨hx, hb, hml, hown, hts⟩ (g_SP_u16 l dC dI k3 qa x3 y3 z3 cA f 34 H.size (by omega) (by assumption)) (cwV 1 hts (tw_inV w_407 w_353 w_354 w_4 w_355) rfl rfl rfl (by decide +kernel) ⟨Nat.le_of_ble_eq_true rfl, Nat.le_of_ble_eq_true rfl⟩) ⟨fun a U g mk q => by obtain ⟨q0, q1, qP, qK, qD⟩ := q; exact ⟨q0, q1, qP, va_K.moved (u := U) (U := U.calling g mk a) (Vm.Alike.refl U.vm) qK, qD⟩, va_recv (hK := hK) (hP := hP) (q0 := 1) (ci := 0) rfl rfl, fun U hU hW => ⟨rfl, by rw [hU], by rw [hU]; exact hPc, va_K.moved hW.alike hKc, hDc.weaken (fun _ _ _ _ => trivial)⟩⟩ rfl rfl hl.1 rfl (lv_room (Nat.le_of_ble_eq_true rfl)) d_FO_countsAreRight_19 ⟨Nat.le_of_ble_eq_true rfl, Nat.le_of_ble_eq_true rfl⟩) hS (fun q _ h => hFc q h) hFc (fun r2113 u t H1 locs ht hvm hw hB hz1 hk1 hS => ?_)
  obtain ⟨m_2114, hP1, hK1, hD1⟩ := hB
  rw [ht] at hP1
  have hK1 := va_K.moved hvm.symm hK1
  obtain ⟨hP, hD⟩ := va_join (wr := [(h0, .inr (4, [.ref qa, .ref kr, .ref k1, .ref k2, .ref k3, .ref k4, .ref k5, .ref k6, .ref km, .ref kp, .ref kD, .int (nI (ee)), .int (nI (kn2112)), .int (nI (wd)), .int (bI il)])), (k4, .inr (0, [.ref qa, .int (nI (x4)), .int (nI (y4)), .int (bI z4)])), (k2, .inr (0, [.ref qa, .int (nI (x2)), .int (nI (y2)), .int (bI m_2111)]))]) (w1 := [(k3, .inr (0, [.ref qa, .int (nI (x3)), .int (nI (y3)), .int (bI m_2114)])), (qa, .inl (cA, 1200, .inl (f)))]) hP hD [1, 4] [0, 2, 3] rfl rfl (by decide) (by decide) hk1 hFc hP1 hD1
  have hK := (hK.sub (tys' := []) [] rfl).app hK1
  generalize H1 = H at hP hS ⊢
  have hP : va_P (dC, dI) cls_ [(h0, .inr (4, [.ref qa, .ref kr, .ref k1, .ref k2, .ref k3, .ref k4, .ref k5, .ref k6, .ref km, .ref kp, .ref kD, .int (nI (ee)), .int (nI (kn2112)), .int (nI (wd)), .int (bI il)])), (k4, .inr (0, [.ref qa, .int (nI (x4)), .int (nI (y4)), .int (bI z4)])), (k2, .inr (0, [.ref qa, .int (nI (x2)), .int (nI (y2)), .int (bI m_2111)])), (k3, .inr (0, [.ref qa, .int (nI (x3)), .int (nI (y3)), .int (bI m_2114)])), (qa, .inl (cA, 1200, .inl (f)))] H := hP
  have hD : va_D A [(h0, .inr (4, [.ref qa, .ref kr, .ref k1, .ref k2, .ref k3, .ref k4, .ref k5, .ref k6, .ref km, .ref kp, .ref kD, .int (nI (ee)), .int (nI (kn2112)), .int (nI (wd)), .int (bI il)])), (k4, .inr (0, [.ref qa, .int (nI (x4)), .int (nI (y4)), .int (bI z4)])), (k2, .inr (0, [.ref qa, .int (nI (x2)), .int (nI (y2)), .int (bI m_2111)])), (k3, .inr (0, [.ref qa, .int (nI (x3)), .int (nI (y3)), .int (bI m_2114)])), (qa, .inl (cA, 1200, .inl (f)))] := hD
  have hK : va_K (dC, dI) cls_ [(cA, .int)] s := hK
  have hw_r2113 := hw
  obtain ⟨kn2115, hb_kn2115, rfl⟩ := hw_r2113
  refine va_put (D := (dC, dI)) (ci := 4) (v := .int (nI (kn2115))) (ty := .int) (C := R_FO) (T := F_FO) (N := 15) hx hb hts in_FO t_FO t_FO_ok n_FO hown hK hP hD hS 0 rfl rfl 13 (by decide) (hts _ (List.mem_cons_of_mem _ w_133)) (fun _ h9 => h9) rfl  (by decide +kernel) rfl rfl (Nat.le_of_ble_eq_true rfl) d_FO_countsAreRight_22 (fun H locs hP hD hS => ?_)
  have hP : va_P (dC, dI) cls_ [(h0, .inr (4, [.ref qa, .ref kr, .ref k1, .ref k2, .ref k3, .ref k4, .ref k5, .ref k6, .ref km, .ref kp, .ref kD, .int (nI (ee)), .int (nI (kn2112)), .int (nI (kn2115)), .int (bI il)])), (k4, .inr (0, [.ref qa, .int (nI (x4)), .int (nI (y4)), .int (bI z4)])), (k2, .inr (0, [.ref qa, .int (nI (x2)), .int (nI (y2)), .int (bI m_2111)])), (k3, .inr (0, [.ref qa, .int (nI (x3)), .int (nI (y3)), .int (bI m_2114)])), (qa, .inl (cA, 1200, .inl (f)))] H := hP
  have hD : va_D A [(h0, .inr (4, [.ref qa, .ref kr, .ref k1, .ref k2, .ref k3, .ref k4, .ref k5, .ref k6, .ref km, .ref kp, .ref kD, .int (nI (ee)), .int (nI (kn2112)), .int (nI (kn2115)), .int (bI il)])), (k4, .inr (0, [.ref qa, .int (nI (x4)), .int (nI (y4)), .int (bI z4)])), (k2, .inr (0, [.ref qa, .int (nI (x2)), .int (nI (y2)), .int (bI m_2111)])), (k3, .inr (0, [.ref qa, .int (nI (x3)), .int (nI (y3)), .int (bI m_2114)])), (qa, .inl (cA, 1200, .inl (f)))] := hD
  refine lv_aload_n hx hb d_FO_countsAreRight_25 rfl (lv_at hl 0 rfl) ?_
  refine va_get (D := (dC, dI)) (ci := 4) (v := .ref k2) (C := R_FO) (T := F_FO) (N := 15) hx hb hts in_FO hown hK hP 0 rfl rfl 3 (by decide) (hts _ (List.mem_cons_of_mem _ w_120)) (fun _ h9 => h9) rfl d_FO_countsAreRight_26 ?_
  refine va_getN (D := (dC, dI)) (ci := 0) (v := .int (nI (y2))) (C := R_SP) (T := F_SP) (N := 4) (host := "GlyphLines") hx hb hts in_SP hown hK hP 2 rfl rfl 2 (by decide) (va_Nw.use rfl (nest_3 hNs)) (fun _ h9 => h9) rfl d_FO_countsAreRight_29 ?_
  refine lv_bipush (v := 6) hx hb d_FO_countsAreRight_32 (by decide) ?_
  refine lv_icmp_lt (tgt := 105) hx hb d_FO_countsAreRight_34 (by decide) (fun hc2116 => ?_) (fun hc2116 => ?_)
  · skip
    have hc2116n : y2 < 6 := (nI_ltI (a := y2) (b := 6) (by omega) (by omega)).mp hc2116
    refine lv_iconst (v := 0) hx hb d_FO_countsAreRight_105 (by decide) ?_
    refine W.widen (k := 0) (n := 0) (Nat.le_of_ble_eq_true rfl) (Nat.le_of_ble_eq_true rfl) ?_
    have hP9 := hP.sub (ws' := [(h0, .inr (4, [.ref qa, .ref kr, .ref k1, .ref k2, .ref k3, .ref k4, .ref k5, .ref k6, .ref km, .ref kp, .ref kD, .int (nI (ee)), .int (nI (kn2112)), .int (nI (kn2115)), .int (bI il)])), (k2, .inr (0, [.ref qa, .int (nI (x2)), .int (nI (y2)), .int (bI m_2111)])), (k3, .inr (0, [.ref qa, .int (nI (x3)), .int (nI (y3)), .int (bI m_2114)])), (k4, .inr (0, [.ref qa, .int (nI (x4)), .int (nI (y4)), .int (bI z4)])), (qa, .inl (cA, 1200, .inl (f)))]) [0, 2, 3, 1, 4] rfl
    have hD9 := hD.sub (ws' := [(h0, .inr (4, [.ref qa, .ref kr, .ref k1, .ref k2, .ref k3, .ref k4, .ref k5, .ref k6, .ref km, .ref kp, .ref kD, .int (nI (ee)), .int (nI (kn2112)), .int (nI (kn2115)), .int (bI il)])), (k2, .inr (0, [.ref qa, .int (nI (x2)), .int (nI (y2)), .int (bI m_2111)])), (k3, .inr (0, [.ref qa, .int (nI (x3)), .int (nI (y3)), .int (bI m_2114)])), (k4, .inr (0, [.ref qa, .int (nI (x4)), .int (nI (y4)), .int (bI z4)])), (qa, .inl (cA, 1200, .inl (f)))]) [0, 2, 3, 1, 4] (by decide) rfl
    have hK9 := hK.sub (tys' := [(cA, .int)]) [0] rfl
    exact W.zret (v := 0) (ty := .boolean) hx hb hr (by decide +kernel) (fun t ht hW => ⟨⟨0, (), rfl, ⟨false, rfl⟩, kn2112, kn2115, m_2111, m_2114, by omega, by omega, by rw [ht]; exact hP9, va_K.moved hW.alike hK9, hD9⟩, hS.F ht⟩) hS.2.2 d_FO_countsAreRight_106
  · skip
    have hc2116n : ¬ (y2 < 6) := fun z => hc2116 ((nI_ltI (a := y2) (b := 6) (by omega) (by omega)).mpr z)
    refine lv_aload_n hx hb d_FO_countsAreRight_37 rfl (lv_at hl 0 rfl) ?_
    refine va_get (D := (dC, dI)) (ci := 4) (v := .int (nI (kn2112))) (C := R_FO) (T := F_FO) (N := 15) hx hb hts in_FO hown hK hP 0 rfl rfl 12 (by decide) (hts _ (List.mem_cons_of_mem _ w_130)) (fun _ h9 => h9) rfl d_FO_countsAreRight_38 ?_
    refine lv_iconst (v := 1) hx hb d_FO_countsAreRight_41 (by decide) ?_
    refine lv_icmp_lt (tgt := 105) hx hb d_FO_countsAreRight_42 (by decide) (fun hc2117 => ?_) (fun hc2117 => ?_)
    · skip
      have hc2117n : kn2112 < 1 := (nI_ltI (a := kn2112) (b := 1) (by omega) (by omega)).mp hc2117
      refine lv_iconst (v := 0) hx hb d_FO_countsAreRight_105 (by decide) ?_
      refine W.widen (k := 0) (n := 0) (Nat.le_of_ble_eq_true rfl) (Nat.le_of_ble_eq_true rfl) ?_
      have hP9 := hP.sub (ws' := [(h0, .inr (4, [.ref qa, .ref kr, .ref k1, .ref k2, .ref k3, .ref k4, .ref k5, .ref k6, .ref km, .ref kp, .ref kD, .int (nI (ee)), .int (nI (kn2112)), .int (nI (kn2115)), .int (bI il)])), (k2, .inr (0, [.ref qa, .int (nI (x2)), .int (nI (y2)), .int (bI m_2111)])), (k3, .inr (0, [.ref qa, .int (nI (x3)), .int (nI (y3)), .int (bI m_2114)])), (k4, .inr (0, [.ref qa, .int (nI (x4)), .int (nI (y4)), .int (bI z4)])), (qa, .inl (cA, 1200, .inl (f)))]) [0, 2, 3, 1, 4] rfl
      have hD9 := hD.sub (ws' := [(h0, .inr (4, [.ref qa, .ref kr, .ref k1, .ref k2, .ref k3, .ref k4, .ref k5, .ref k6, .ref km, .ref kp, .ref kD, .int (nI (ee)), .int (nI (kn2112)), .int (nI (kn2115)), .int (bI il)])), (k2, .inr (0, [.ref qa, .int (nI (x2)), .int (nI (y2)), .int (bI m_2111)])), (k3, .inr (0, [.ref qa, .int (nI (x3)), .int (nI (y3)), .int (bI m_2114)])), (k4, .inr (0, [.ref qa, .int (nI (x4)), .int (nI (y4)), .int (bI z4)])), (qa, .inl (cA, 1200, .inl (f)))]) [0, 2, 3, 1, 4] (by decide) rfl
      have hK9 := hK.sub (tys' := [(cA, .int)]) [0] rfl
      exact W.zret (v := 0) (ty := .boolean) hx hb hr (by decide +kernel) (fun t ht hW => ⟨⟨0, (), rfl, ⟨false, rfl⟩, kn2112, kn2115, m_2111, m_2114, by omega, by omega, by rw [ht]; exact hP9, va_K.moved hW.alike hK9, hD9⟩, hS.F ht⟩) hS.2.2 d_FO_countsAreRight_106
    · skip
      have hc2117n : ¬ (kn2112 < 1) := fun z => hc2117 ((nI_ltI (a := kn2112) (b := 1) (by omega) (by omega)).mpr z)
      refine lv_aload_n hx hb d_FO_countsAreRight_45 rfl (lv_at hl 0 rfl) ?_
      refine va_get (D := (dC, dI)) (ci := 4) (v := .int (nI (kn2112))) (C := R_FO) (T := F_FO) (N := 15) hx hb hts in_FO hown hK hP 0 rfl rfl 12 (by decide) (hts _ (List.mem_cons_of_mem _ w_130)) (fun _ h9 => h9) rfl d_FO_countsAreRight_46 ?_
      refine lv_bipush (v := 16) hx hb d_FO_countsAreRight_49 (by decide) ?_
      refine lv_icmp_gt (tgt := 105) hx hb d_FO_countsAreRight_51 (by decide) (fun hc2118 => ?_) (fun hc2118 => ?_)
      · skip
        have hc2118n : 16 < kn2112 := (nI_ltI (a := 16) (b := kn2112) (by omega) (by omega)).mp hc2118
        refine lv_iconst (v := 0) hx hb d_FO_countsAreRight_105 (by decide) ?_
        refine W.widen (k := 0) (n := 0) (Nat.le_of_ble_eq_true rfl) (Nat.le_of_ble_eq_true rfl) ?_
        have hP9 := hP.sub (ws' := [(h0, .inr (4, [.ref qa, .ref kr, .ref k1, .ref k2, .ref k3, .ref k4, .ref k5, .ref k6, .ref km, .ref kp, .ref kD, .int (nI (ee)), .int (nI (kn2112)), .int (nI (kn2115)), .int (bI il)])), (k2, .inr (0, [.ref qa, .int (nI (x2)), .int (nI (y2)), .int (bI m_2111)])), (k3, .inr (0, [.ref qa, .int (nI (x3)), .int (nI (y3)), .int (bI m_2114)])), (k4, .inr (0, [.ref qa, .int (nI (x4)), .int (nI (y4)), .int (bI z4)])), (qa, .inl (cA, 1200, .inl (f)))]) [0, 2, 3, 1, 4] rfl
        have hD9 := hD.sub (ws' := [(h0, .inr (4, [.ref qa, .ref kr, .ref k1, .ref k2, .ref k3, .ref k4, .ref k5, .ref k6, .ref km, .ref kp, .ref kD, .int (nI (ee)), .int (nI (kn2112)), .int (nI (kn2115)), .int (bI il)])), (k2, .inr (0, [.ref qa, .int (nI (x2)), .int (nI (y2)), .int (bI m_2111)])), (k3, .inr (0, [.ref qa, .int (nI (x3)), .int (nI (y3)), .int (bI m_2114)])), (k4, .inr (0, [.ref qa, .int (nI (x4)), .int (nI (y4)), .int (bI z4)])), (qa, .inl (cA, 1200, .inl (f)))]) [0, 2, 3, 1, 4] (by decide) rfl
        have hK9 := hK.sub (tys' := [(cA, .int)]) [0] rfl
        exact W.zret (v := 0) (ty := .boolean) hx hb hr (by decide +kernel) (fun t ht hW => ⟨⟨0, (), rfl, ⟨false, rfl⟩, kn2112, kn2115, m_2111, m_2114, by omega, by omega, by rw [ht]; exact hP9, va_K.moved hW.alike hK9, hD9⟩, hS.F ht⟩) hS.2.2 d_FO_countsAreRight_106
      · skip
        have hc2118n : ¬ (16 < kn2112) := fun z => hc2118 ((nI_ltI (a := 16) (b := kn2112) (by omega) (by omega)).mpr z)
        refine lv_aload_n hx hb d_FO_countsAreRight_54 rfl (lv_at hl 0 rfl) ?_
        refine va_get (D := (dC, dI)) (ci := 4) (v := .ref k3) (C := R_FO) (T := F_FO) (N := 15) hx hb hts in_FO hown hK hP 0 rfl rfl 4 (by decide) (hts _ (List.mem_cons_of_mem _ w_121)) (fun _ h9 => h9) rfl d_FO_countsAreRight_55 ?_
        refine va_getN (D := (dC, dI)) (ci := 0) (v := .int (nI (y3))) (C := R_SP) (T := F_SP) (N := 4) (host := "GlyphLines") hx hb hts in_SP hown hK hP 3 rfl rfl 2 (by decide) (va_Nw.use rfl (nest_3 hNs)) (fun _ h9 => h9) rfl d_FO_countsAreRight_58 ?_
        refine lv_bipush (v := 36) hx hb d_FO_countsAreRight_61 (by decide) ?_
        refine lv_icmp_lt (tgt := 105) hx hb d_FO_countsAreRight_63 (by decide) (fun hc2119 => ?_) (fun hc2119 => ?_)
        · skip
          have hc2119n : y3 < 36 := (nI_ltI (a := y3) (b := 36) (by omega) (by omega)).mp hc2119
          refine lv_iconst (v := 0) hx hb d_FO_countsAreRight_105 (by decide) ?_
          refine W.widen (k := 0) (n := 0) (Nat.le_of_ble_eq_true rfl) (Nat.le_of_ble_eq_true rfl) ?_
          have hP9 := hP.sub (ws' := [(h0, .inr (4, [.ref qa, .ref kr, .ref k1, .ref k2, .ref k3, .ref k4, .ref k5, .ref k6, .ref km, .ref kp, .ref kD, .int (nI (ee)), .int (nI (kn2112)), .int (nI (kn2115)), .int (bI il)])), (k2, .inr (0, [.ref qa, .int (nI (x2)), .int (nI (y2)), .int (bI m_2111)])), (k3, .inr (0, [.ref qa, .int (nI (x3)), .int (nI (y3)), .int (bI m_2114)])), (k4, .inr (0, [.ref qa, .int (nI (x4)), .int (nI (y4)), .int (bI z4)])), (qa, .inl (cA, 1200, .inl (f)))]) [0, 2, 3, 1, 4] rfl
          have hD9 := hD.sub (ws' := [(h0, .inr (4, [.ref qa, .ref kr, .ref k1, .ref k2, .ref k3, .ref k4, .ref k5, .ref k6, .ref km, .ref kp, .ref kD, .int (nI (ee)), .int (nI (kn2112)), .int (nI (kn2115)), .int (bI il)])), (k2, .inr (0, [.ref qa, .int (nI (x2)), .int (nI (y2)), .int (bI m_2111)])), (k3, .inr (0, [.ref qa, .int (nI (x3)), .int (nI (y3)), .int (bI m_2114)])), (k4, .inr (0, [.ref qa, .int (nI (x4)), .int (nI (y4)), .int (bI z4)])), (qa, .inl (cA, 1200, .inl (f)))]) [0, 2, 3, 1, 4] (by decide) rfl
          have hK9 := hK.sub (tys' := [(cA, .int)]) [0] rfl
          exact W.zret (v := 0) (ty := .boolean) hx hb hr (by decide +kernel) (fun t ht hW => ⟨⟨0, (), rfl, ⟨false, rfl⟩, kn2112, kn2115, m_2111, m_2114, by omega, by omega, by rw [ht]; exact hP9, va_K.moved hW.alike hK9, hD9⟩, hS.F ht⟩) hS.2.2 d_FO_countsAreRight_106
        · skip
          have hc2119n : ¬ (y3 < 36) := fun z => hc2119 ((nI_ltI (a := y3) (b := 36) (by omega) (by omega)).mpr z)
          refine lv_aload_n hx hb d_FO_countsAreRight_66 rfl (lv_at hl 0 rfl) ?_
          refine va_get (D := (dC, dI)) (ci := 4) (v := .int (nI (kn2115))) (C := R_FO) (T := F_FO) (N := 15) hx hb hts in_FO hown hK hP 0 rfl rfl 13 (by decide) (hts _ (List.mem_cons_of_mem _ w_133)) (fun _ h9 => h9) rfl d_FO_countsAreRight_67 ?_
          refine lv_iconst (v := 1) hx hb d_FO_countsAreRight_70 (by decide) ?_
          refine lv_icmp_lt (tgt := 105) hx hb d_FO_countsAreRight_71 (by decide) (fun hc2120 => ?_) (fun hc2120 => ?_)
          · skip
            have hc2120n : kn2115 < 1 := (nI_ltI (a := kn2115) (b := 1) (by omega) (by omega)).mp hc2120
            refine lv_iconst (v := 0) hx hb d_FO_countsAreRight_105 (by decide) ?_
            refine W.widen (k := 0) (n := 0) (Nat.le_of_ble_eq_true rfl) (Nat.le_of_ble_eq_true rfl) ?_
            have hP9 := hP.sub (ws' := [(h0, .inr (4, [.ref qa, .ref kr, .ref k1, .ref k2, .ref k3, .ref k4, .ref k5, .ref k6, .ref km, .ref kp, .ref kD, .int (nI (ee)), .int (nI (kn2112)), .int (nI (kn2115)), .int (bI il)])), (k2, .inr (0, [.ref qa, .int (nI (x2)), .int (nI (y2)), .int (bI m_2111)])), (k3, .inr (0, [.ref qa, .int (nI (x3)), .int (nI (y3)), .int (bI m_2114)])), (k4, .inr (0, [.ref qa, .int (nI (x4)), .int (nI (y4)), .int (bI z4)])), (qa, .inl (cA, 1200, .inl (f)))]) [0, 2, 3, 1, 4] rfl
            have hD9 := hD.sub (ws' := [(h0, .inr (4, [.ref qa, .ref kr, .ref k1, .ref k2, .ref k3, .ref k4, .ref k5, .ref k6, .ref km, .ref kp, .ref kD, .int (nI (ee)), .int (nI (kn2112)), .int (nI (kn2115)), .int (bI il)])), (k2, .inr (0, [.ref qa, .int (nI (x2)), .int (nI (y2)), .int (bI m_2111)])), (k3, .inr (0, [.ref qa, .int (nI (x3)), .int (nI (y3)), .int (bI m_2114)])), (k4, .inr (0, [.ref qa, .int (nI (x4)), .int (nI (y4)), .int (bI z4)])), (qa, .inl (cA, 1200, .inl (f)))]) [0, 2, 3, 1, 4] (by decide) rfl
            have hK9 := hK.sub (tys' := [(cA, .int)]) [0] rfl
            exact W.zret (v := 0) (ty := .boolean) hx hb hr (by decide +kernel) (fun t ht hW => ⟨⟨0, (), rfl, ⟨false, rfl⟩, kn2112, kn2115, m_2111, m_2114, by omega, by omega, by rw [ht]; exact hP9, va_K.moved hW.alike hK9, hD9⟩, hS.F ht⟩) hS.2.2 d_FO_countsAreRight_106
          · skip
            have hc2120n : ¬ (kn2115 < 1) := fun z => hc2120 ((nI_ltI (a := kn2115) (b := 1) (by omega) (by omega)).mpr z)
            refine lv_aload_n hx hb d_FO_countsAreRight_74 rfl (lv_at hl 0 rfl) ?_
            refine va_get (D := (dC, dI)) (ci := 4) (v := .int (nI (kn2115))) (C := R_FO) (T := F_FO) (N := 15) hx hb hts in_FO hown hK hP 0 rfl rfl 13 (by decide) (hts _ (List.mem_cons_of_mem _ w_133)) (fun _ h9 => h9) rfl d_FO_countsAreRight_75 ?_
            refine lv_aload_n hx hb d_FO_countsAreRight_78 rfl (lv_at hl 0 rfl) ?_
            refine va_get (D := (dC, dI)) (ci := 4) (v := .int (nI (kn2112))) (C := R_FO) (T := F_FO) (N := 15) hx hb hts in_FO hown hK hP 0 rfl rfl 12 (by decide) (hts _ (List.mem_cons_of_mem _ w_130)) (fun _ h9 => h9) rfl d_FO_countsAreRight_79 ?_
            refine lv_icmp_gt (tgt := 105) hx hb d_FO_countsAreRight_82 (by decide) (fun hc2121 => ?_) (fun hc2121 => ?_)
            · skip
              have hc2121n : kn2112 < kn2115 := (nI_ltI (a := kn2112) (b := kn2115) (by omega) (by omega)).mp hc2121
              refine lv_iconst (v := 0) hx hb d_FO_countsAreRight_105 (by decide) ?_
              refine W.widen (k := 0) (n := 0) (Nat.le_of_ble_eq_true rfl) (Nat.le_of_ble_eq_true rfl) ?_
              have hP9 := hP.sub (ws' := [(h0, .inr (4, [.ref qa, .ref kr, .ref k1, .ref k2, .ref k3, .ref k4, .ref k5, .ref k6, .ref km, .ref kp, .ref kD, .int (nI (ee)), .int (nI (kn2112)), .int (nI (kn2115)), .int (bI il)])), (k2, .inr (0, [.ref qa, .int (nI (x2)), .int (nI (y2)), .int (bI m_2111)])), (k3, .inr (0, [.ref qa, .int (nI (x3)), .int (nI (y3)), .int (bI m_2114)])), (k4, .inr (0, [.ref qa, .int (nI (x4)), .int (nI (y4)), .int (bI z4)])), (qa, .inl (cA, 1200, .inl (f)))]) [0, 2, 3, 1, 4] rfl
              have hD9 := hD.sub (ws' := [(h0, .inr (4, [.ref qa, .ref kr, .ref k1, .ref k2, .ref k3, .ref k4, .ref k5, .ref k6, .ref km, .ref kp, .ref kD, .int (nI (ee)), .int (nI (kn2112)), .int (nI (kn2115)), .int (bI il)])), (k2, .inr (0, [.ref qa, .int (nI (x2)), .int (nI (y2)), .int (bI m_2111)])), (k3, .inr (0, [.ref qa, .int (nI (x3)), .int (nI (y3)), .int (bI m_2114)])), (k4, .inr (0, [.ref qa, .int (nI (x4)), .int (nI (y4)), .int (bI z4)])), (qa, .inl (cA, 1200, .inl (f)))]) [0, 2, 3, 1, 4] (by decide) rfl
              have hK9 := hK.sub (tys' := [(cA, .int)]) [0] rfl
              exact W.zret (v := 0) (ty := .boolean) hx hb hr (by decide +kernel) (fun t ht hW => ⟨⟨0, (), rfl, ⟨false, rfl⟩, kn2112, kn2115, m_2111, m_2114, by omega, by omega, by rw [ht]; exact hP9, va_K.moved hW.alike hK9, hD9⟩, hS.F ht⟩) hS.2.2 d_FO_countsAreRight_106
            · skip
              have hc2121n : ¬ (kn2112 < kn2115) := fun z => hc2121 ((nI_ltI (a := kn2112) (b := kn2115) (by omega) (by omega)).mpr z)
              refine lv_aload_n hx hb d_FO_countsAreRight_85 rfl (lv_at hl 0 rfl) ?_
              refine va_get (D := (dC, dI)) (ci := 4) (v := .ref k4) (C := R_FO) (T := F_FO) (N := 15) hx hb hts in_FO hown hK hP 0 rfl rfl 5 (by decide) (hts _ (List.mem_cons_of_mem _ w_122)) (fun _ h9 => h9) rfl d_FO_countsAreRight_86 ?_
              refine va_getN (D := (dC, dI)) (ci := 0) (v := .int (nI (y4))) (C := R_SP) (T := F_SP) (N := 4) (host := "GlyphLines") hx hb hts in_SP hown hK hP 1 rfl rfl 2 (by decide) (va_Nw.use rfl (nest_3 hNs)) (fun _ h9 => h9) rfl d_FO_countsAreRight_89 ?_
              refine lv_iconst (v := 4) hx hb d_FO_countsAreRight_92 (by decide) ?_
              refine lv_aload_n hx hb d_FO_countsAreRight_93 rfl (lv_at hl 0 rfl) ?_
              refine va_get (D := (dC, dI)) (ci := 4) (v := .int (nI (kn2115))) (C := R_FO) (T := F_FO) (N := 15) hx hb hts in_FO hown hK hP 0 rfl rfl 13 (by decide) (hts _ (List.mem_cons_of_mem _ w_133)) (fun _ h9 => h9) rfl d_FO_countsAreRight_94 ?_
              refine lv_imul hx hb d_FO_countsAreRight_97 ?_
              refine lv_ci (y := nI (4 * kn2115)) (pk_mul (4) (kn2115)) ?_
              refine lv_icmp_lt (tgt := 105) hx hb d_FO_countsAreRight_98 (by decide) (fun hc2122 => ?_) (fun hc2122 => ?_)
              · skip
                have hc2122n : y4 < 4 * kn2115 := (nI_ltI (a := y4) (b := 4 * kn2115) (by omega) (by omega)).mp hc2122
                refine lv_iconst (v := 0) hx hb d_FO_countsAreRight_105 (by decide) ?_
                refine W.widen (k := 0) (n := 0) (Nat.le_of_ble_eq_true rfl) (Nat.le_of_ble_eq_true rfl) ?_
                have hP9 := hP.sub (ws' := [(h0, .inr (4, [.ref qa, .ref kr, .ref k1, .ref k2, .ref k3, .ref k4, .ref k5, .ref k6, .ref km, .ref kp, .ref kD, .int (nI (ee)), .int (nI (kn2112)), .int (nI (kn2115)), .int (bI il)])), (k2, .inr (0, [.ref qa, .int (nI (x2)), .int (nI (y2)), .int (bI m_2111)])), (k3, .inr (0, [.ref qa, .int (nI (x3)), .int (nI (y3)), .int (bI m_2114)])), (k4, .inr (0, [.ref qa, .int (nI (x4)), .int (nI (y4)), .int (bI z4)])), (qa, .inl (cA, 1200, .inl (f)))]) [0, 2, 3, 1, 4] rfl
                have hD9 := hD.sub (ws' := [(h0, .inr (4, [.ref qa, .ref kr, .ref k1, .ref k2, .ref k3, .ref k4, .ref k5, .ref k6, .ref km, .ref kp, .ref kD, .int (nI (ee)), .int (nI (kn2112)), .int (nI (kn2115)), .int (bI il)])), (k2, .inr (0, [.ref qa, .int (nI (x2)), .int (nI (y2)), .int (bI m_2111)])), (k3, .inr (0, [.ref qa, .int (nI (x3)), .int (nI (y3)), .int (bI m_2114)])), (k4, .inr (0, [.ref qa, .int (nI (x4)), .int (nI (y4)), .int (bI z4)])), (qa, .inl (cA, 1200, .inl (f)))]) [0, 2, 3, 1, 4] (by decide) rfl
                have hK9 := hK.sub (tys' := [(cA, .int)]) [0] rfl
                exact W.zret (v := 0) (ty := .boolean) hx hb hr (by decide +kernel) (fun t ht hW => ⟨⟨0, (), rfl, ⟨false, rfl⟩, kn2112, kn2115, m_2111, m_2114, by omega, by omega, by rw [ht]; exact hP9, va_K.moved hW.alike hK9, hD9⟩, hS.F ht⟩) hS.2.2 d_FO_countsAreRight_106
              · skip
                have hc2122n : ¬ (y4 < 4 * kn2115) := fun z => hc2122 ((nI_ltI (a := y4) (b := 4 * kn2115) (by omega) (by omega)).mpr z)
                refine lv_iconst (v := 1) hx hb d_FO_countsAreRight_101 (by decide) ?_
                refine lv_goto (tgt := 106) hx hb d_FO_countsAreRight_102 (by decide) ?_
                refine W.widen (k := 0) (n := 0) (Nat.le_of_ble_eq_true rfl) (Nat.le_of_ble_eq_true rfl) ?_
                have hP9 := hP.sub (ws' := [(h0, .inr (4, [.ref qa, .ref kr, .ref k1, .ref k2, .ref k3, .ref k4, .ref k5, .ref k6, .ref km, .ref kp, .ref kD, .int (nI (ee)), .int (nI (kn2112)), .int (nI (kn2115)), .int (bI il)])), (k2, .inr (0, [.ref qa, .int (nI (x2)), .int (nI (y2)), .int (bI m_2111)])), (k3, .inr (0, [.ref qa, .int (nI (x3)), .int (nI (y3)), .int (bI m_2114)])), (k4, .inr (0, [.ref qa, .int (nI (x4)), .int (nI (y4)), .int (bI z4)])), (qa, .inl (cA, 1200, .inl (f)))]) [0, 2, 3, 1, 4] rfl
                have hD9 := hD.sub (ws' := [(h0, .inr (4, [.ref qa, .ref kr, .ref k1, .ref k2, .ref k3, .ref k4, .ref k5, .ref k6, .ref km, .ref kp, .ref kD, .int (nI (ee)), .int (nI (kn2112)), .int (nI (kn2115)), .int (bI il)])), (k2, .inr (0, [.ref qa, .int (nI (x2)), .int (nI (y2)), .int (bI m_2111)])), (k3, .inr (0, [.ref qa, .int (nI (x3)), .int (nI (y3)), .int (bI m_2114)])), (k4, .inr (0, [.ref qa, .int (nI (x4)), .int (nI (y4)), .int (bI z4)])), (qa, .inl (cA, 1200, .inl (f)))]) [0, 2, 3, 1, 4] (by decide) rfl
                have hK9 := hK.sub (tys' := [(cA, .int)]) [0] rfl
                exact W.zret (v := 1) (ty := .boolean) hx hb hr (by decide +kernel) (fun t ht hW => ⟨⟨1, (), rfl, ⟨true, rfl⟩, kn2112, kn2115, m_2111, m_2114, by omega, by omega, by rw [ht]; exact hP9, va_K.moved hW.alike hK9, hD9⟩, hS.F ht⟩) hS.2.2 d_FO_countsAreRight_106
set_option maxHeartbeats 4000000 in
set_option maxRecDepth 100000 in
/-- GlyphLines$Font.placesAreRight -/
theorem g_FO_placesAreRight (l : Launch) (dC : Nat → ClassId) (dI : Nat → Nat → Nat) (h0 : Nat) (qa : Nat) (kr : Nat) (k1 : Nat) (k2 : Nat) (k3 : Nat) (k4 : Nat) (k5 : Nat) (k6 : Nat) (km : Nat) (kp : Nat) (kD : Nat) (ee : Nat) (gl : Nat) (wd : Nat) (il : Bool) (x5 : Nat) (y5 : Nat) (z5 : Bool) (x6 : Nat) (y6 : Nat) (z6 : Bool) (cA : ClassId) (f : Nat → Int32) (sz : Nat) (hq0 : ee < 65536) (hq1 : gl < 65536) (hq2 : wd < 65536) (hq3 : x5 + y5 ≤ 1200) (hq4 : x6 + y6 ≤ 1200) (hq5 : isB f) : Met l y_FO_placesAreRight s_FO_placesAreRight ({ frames := 12, cells := 0, slots := 0, locals := 400 }) (va_Pc [.ref h0] (fun U => U.heap.size = sz ∧ va_P (dC, dI) cls_ [(h0, .inr (4, [.ref qa, .ref kr, .ref k1, .ref k2, .ref k3, .ref k4, .ref k5, .ref k6, .ref km, .ref kp, .ref kD, .int (nI (ee)), .int (nI (gl)), .int (nI (wd)), .int (bI il)])), (k5, .inr (0, [.ref qa, .int (nI (x5)), .int (nI (y5)), .int (bI z5)])), (k6, .inr (0, [.ref qa, .int (nI (x6)), .int (nI (y6)), .int (bI z6)])), (qa, .inl (cA, 1200, .inl (f)))] U.heap ∧ va_K (dC, dI) cls_ [(cA, .int)] U ∧ va_D (fun _ => True) [(h0, .inr (4, [.ref qa, .ref kr, .ref k1, .ref k2, .ref k3, .ref k4, .ref k5, .ref k6, .ref km, .ref kp, .ref kD, .int (nI (ee)), .int (nI (gl)), .int (nI (wd)), .int (bI il)])), (k5, .inr (0, [.ref qa, .int (nI (x5)), .int (nI (y5)), .int (bI z5)])), (k6, .inr (0, [.ref qa, .int (nI (x6)), .int (nI (y6)), .int (bI z6)])), (qa, .inl (cA, 1200, .inl (f)))] ∧ nests U)) (va_Qi (fun (r : Int32) (_ : Unit) => ∃ b9 : Bool, r = bI b9) (fun (_ : Unit) (t : State) => ∃ (z5_2 : Bool), va_P (dC, dI) cls_ [(h0, .inr (4, [.ref qa, .ref kr, .ref k1, .ref k2, .ref k3, .ref k4, .ref k5, .ref k6, .ref km, .ref kp, .ref kD, .int (nI (ee)), .int (nI (gl)), .int (nI (wd)), .int (bI il)])), (k5, .inr (0, [.ref qa, .int (nI (x5)), .int (nI (y5)), .int (bI z5_2)])), (k6, .inr (0, [.ref qa, .int (nI (x6)), .int (nI (y6)), .int (bI z6)])), (qa, .inl (cA, 1200, .inl (f)))] t.heap ∧ va_K (dC, dI) cls_ [(cA, .int)] t ∧ va_D (va_A [(h0, .inr (4, [.ref qa, .ref kr, .ref k1, .ref k2, .ref k3, .ref k4, .ref k5, .ref k6, .ref km, .ref kp, .ref kD, .int (nI (ee)), .int (nI (gl)), .int (nI (wd)), .int (bI il)])), (k5, .inr (0, [.ref qa, .int (nI (x5)), .int (nI (y5)), .int (bI z5)])), (k6, .inr (0, [.ref qa, .int (nI (x6)), .int (nI (y6)), .int (bI z6)])), (qa, .inl (cA, 1200, .inl (f)))] sz) [(h0, .inr (4, [.ref qa, .ref kr, .ref k1, .ref k2, .ref k3, .ref k4, .ref k5, .ref k6, .ref km, .ref kp, .ref kD, .int (nI (ee)), .int (nI (gl)), .int (nI (wd)), .int (bI il)])), (k5, .inr (0, [.ref qa, .int (nI (x5)), .int (nI (y5)), .int (bI z5_2)])), (k6, .inr (0, [.ref qa, .int (nI (x6)), .int (nI (y6)), .int (bI z6)])), (qa, .inl (cA, 1200, .inl (f)))]) (va_A [(h0, .inr (4, [.ref qa, .ref kr, .ref k1, .ref k2, .ref k3, .ref k4, .ref k5, .ref k6, .ref km, .ref kp, .ref kD, .int (nI (ee)), .int (nI (gl)), .int (nI (wd)), .int (bI il)])), (k5, .inr (0, [.ref qa, .int (nI (x5)), .int (nI (y5)), .int (bI z5)])), (k6, .inr (0, [.ref qa, .int (nI (x6)), .int (nI (y6)), .int (bI z6)])), (qa, .inl (cA, 1200, .inl (f)))] sz)) 0 0 (va_A [(h0, .inr (4, [.ref qa, .ref kr, .ref k1, .ref k2, .ref k3, .ref k4, .ref k5, .ref k6, .ref km, .ref kp, .ref kD, .int (nI (ee)), .int (nI (gl)), .int (nI (wd)), .int (bI il)])), (k5, .inr (0, [.ref qa, .int (nI (x5)), .int (nI (y5)), .int (bI z5)])), (k6, .inr (0, [.ref qa, .int (nI (x6)), .int (nI (y6)), .int (bI z6)])), (qa, .inl (cA, 1200, .inl (f)))] sz) := by
  refine Met.ofW (cc := b_FO_placesAreRight) (maxL := 6) (ret := (some .boolean)) (by decide) rfl ?_
  intro p e s m args below meth c s₁ B hml hv
  obtain ⟨rfl, hsz, hP, hK, hD0, hNs⟩ := hv
  have hx := B.exec
  have hb := B.bytes
  have hr := B.returns
  have hts := atoms_spec (ws := s_FO_placesAreRight) B.pre
  have hown : s.vm.findClass R_FO = some m.cls := findClass_of_methodNamed B.named
  have hlocks := B.notSynchronized
  subst hsz
  have hD := hD0.self (sz := s.heap.size)
  generalize hAe : va_A [(h0, .inr (4, [.ref qa, .ref kr, .ref k1, .ref k2, .ref k3, .ref k4, .ref k5, .ref k6, .ref km, .ref kp, .ref kD, .int (nI (ee)), .int (nI (gl)), .int (nI (wd)), .int (bI il)])), (k5, .inr (0, [.ref qa, .int (nI (x5)), .int (nI (y5)), .int (bI z5)])), (k6, .inr (0, [.ref qa, .int (nI (x6)), .int (nI (y6)), .int (bI z6)])), (qa, .inl (cA, 1200, .inl (f)))] s.heap.size = A at hD ⊢
  have hA : ∀ q : Nat, s.heap.size ≤ q → A q := fun q h => by rw [← hAe]; exact Or.inr h
  have hS : va_S A s.heap s.heap [] := va_S.rf
  have hP : va_P (dC, dI) cls_ [(h0, .inr (4, [.ref qa, .ref kr, .ref k1, .ref k2, .ref k3, .ref k4, .ref k5, .ref k6, .ref km, .ref kp, .ref kD, .int (nI (ee)), .int (nI (gl)), .int (nI (wd)), .int (bI il)])), (k5, .inr (0, [.ref qa, .int (nI (x5)), .int (nI (y5)), .int (bI z5)])), (k6, .inr (0, [.ref qa, .int (nI (x6)), .int (nI (y6)), .int (bI z6)])), (qa, .inl (cA, 1200, .inl (f)))] s.heap := hP
  have hl := lv_entry ([.ref h0]) (n := 6) (Nat.le_of_ble_eq_true rfl)
  rw [lg_entry_eq]
  generalize (lg_sl ([.ref h0]) ++ List.replicate (6 - (lg_sl ([.ref h0])).length) Slot.unset).toArray = ls at hl ⊢
  have hl : lv_has ls 6 [(0, .ref h0)] := hl
  refine lv_lconst (v := 0) hx hb d_FO_placesAreRight_0 (by decide) ?_
  refine lv_lstore_n (lv' := [(1, .long 0), (0, .ref h0)]) hx hb d_FO_placesAreRight_1 rfl hl (by decide) rfl (fun ls hl => ?_)
  refine lv_iconst (v := 0) hx hb d_FO_placesAreRight_2 (by decide) ?_
  refine lv_istore_n (lv' := [(3, .int 0), (1, .long 0), (0, .ref h0)]) hx hb d_FO_placesAreRight_3 rfl hl (by decide) rfl (fun ls hl => ?_)
  have hP8 := hP.sub (ws' := [(h0, .inr (4, [.ref qa, .ref kr, .ref k1, .ref k2, .ref k3, .ref k4, .ref k5, .ref k6, .ref km, .ref kp, .ref kD, .int (nI (ee)), .int (nI (gl)), .int (nI (wd)), .int (bI il)])), (k5, .inr (0, [.ref qa, .int (nI (x5)), .int (nI (y5)), .int (bI z5)])), (k6, .inr (0, [.ref qa, .int (nI (x6)), .int (nI (y6)), .int (bI z6)])), (qa, .inl (cA, 1200, .inl (f)))]) [0, 1, 2, 3] rfl
  have hD8 := hD.sub (ws' := [(h0, .inr (4, [.ref qa, .ref kr, .ref k1, .ref k2, .ref k3, .ref k4, .ref k5, .ref k6, .ref km, .ref kp, .ref kD, .int (nI (ee)), .int (nI (gl)), .int (nI (wd)), .int (bI il)])), (k5, .inr (0, [.ref qa, .int (nI (x5)), .int (nI (y5)), .int (bI z5)])), (k6, .inr (0, [.ref qa, .int (nI (x6)), .int (nI (y6)), .int (bI z6)])), (qa, .inl (cA, 1200, .inl (f)))]) [0, 1, 2, 3] (by decide) rfl
  refine lv_loop (α := Bool × Nat × Int64) 4 (fun ⟨f_k5_missed_2154, l3_2155, l1_2156⟩ H' locs' ls' => va_P (dC, dI) cls_ [(h0, .inr (4, [.ref qa, .ref kr, .ref k1, .ref k2, .ref k3, .ref k4, .ref k5, .ref k6, .ref km, .ref kp, .ref kD, .int (nI (ee)), .int (nI (gl)), .int (nI (wd)), .int (bI il)])), (k5, .inr (0, [.ref qa, .int (nI (x5)), .int (nI (y5)), .int (bI f_k5_missed_2154)])), (k6, .inr (0, [.ref qa, .int (nI (x6)), .int (nI (y6)), .int (bI z6)])), (qa, .inl (cA, 1200, .inl (f)))] H' ∧ va_D A [(h0, .inr (4, [.ref qa, .ref kr, .ref k1, .ref k2, .ref k3, .ref k4, .ref k5, .ref k6, .ref km, .ref kp, .ref kD, .int (nI (ee)), .int (nI (gl)), .int (nI (wd)), .int (bI il)])), (k5, .inr (0, [.ref qa, .int (nI (x5)), .int (nI (y5)), .int (bI f_k5_missed_2154)])), (k6, .inr (0, [.ref qa, .int (nI (x6)), .int (nI (y6)), .int (bI z6)])), (qa, .inl (cA, 1200, .inl (f)))] ∧ va_S A s.heap H' locs' ∧ lv_has ls' 6 [(3, .int (nI (l3_2155))), (1, .long l1_2156), (0, .ref h0)] ∧ (l3_2155 ≤ gl + 1)) (fun ⟨f_k5_missed_2154, l3_2155, l1_2156⟩ => []) (fun ⟨f_k5_missed_2154, l3_2155, l1_2156⟩ => gl + 1 - l3_2155) ?_ (z5, 0, 0) s.heap _ ls ⟨hP8, hD8, hS, lv_sub hl [0, 1, 2] rfl, by omega⟩
  intro ⟨f_k5_missed_2154, l3_2155, l1_2156⟩ ih2157 H locs ls ⟨hP, hD, hS, hl, hf2158⟩
  show W p l e _ s m _ below meth c H locs _ _ _ (F0 m 4 ls [])
  have hP : va_P (dC, dI) cls_ [(h0, .inr (4, [.ref qa, .ref kr, .ref k1, .ref k2, .ref k3, .ref k4, .ref k5, .ref k6, .ref km, .ref kp, .ref kD, .int (nI (ee)), .int (nI (gl)), .int (nI (wd)), .int (bI il)])), (k5, .inr (0, [.ref qa, .int (nI (x5)), .int (nI (y5)), .int (bI f_k5_missed_2154)])), (k6, .inr (0, [.ref qa, .int (nI (x6)), .int (nI (y6)), .int (bI z6)])), (qa, .inl (cA, 1200, .inl (f)))] H := hP
  have hD : va_D A [(h0, .inr (4, [.ref qa, .ref kr, .ref k1, .ref k2, .ref k3, .ref k4, .ref k5, .ref k6, .ref km, .ref kp, .ref kD, .int (nI (ee)), .int (nI (gl)), .int (nI (wd)), .int (bI il)])), (k5, .inr (0, [.ref qa, .int (nI (x5)), .int (nI (y5)), .int (bI f_k5_missed_2154)])), (k6, .inr (0, [.ref qa, .int (nI (x6)), .int (nI (y6)), .int (bI z6)])), (qa, .inl (cA, 1200, .inl (f)))] := hD
  refine lv_iload_n hx hb d_FO_placesAreRight_4 rfl (lv_at hl 0 rfl) ?_
  refine lv_aload_n hx hb d_FO_placesAreRight_5 rfl (lv_at hl 2 rfl) ?_
  refine va_get (D := (dC, dI)) (ci := 4) (v := .int (nI (gl))) (C := R_FO) (T := F_FO) (N := 15) hx hb hts in_FO hown hK hP 0 rfl rfl 12 (by decide) (hts _ (List.mem_cons_of_mem _ w_130)) (fun _ h9 => h9) rfl d_FO_placesAreRight_6 ?_
  refine lv_icmp_gt (tgt := 37) hx hb d_FO_placesAreRight_9 (by decide) (fun hc2159 => ?_) (fun hc2159 => ?_)
  · skip
    have hc2159n : gl < l3_2155 := (nI_ltI (a := gl) (b := l3_2155) (by omega) (by omega)).mp hc2159
    refine lv_aload_n hx hb d_FO_placesAreRight_37 rfl (lv_at hl 2 rfl) ?_
    refine va_get (D := (dC, dI)) (ci := 4) (v := .ref k5) (C := R_FO) (T := F_FO) (N := 15) hx hb hts in_FO hown hK hP 0 rfl rfl 6 (by decide) (hts _ (List.mem_cons_of_mem _ w_123)) (fun _ h9 => h9) rfl d_FO_placesAreRight_38 ?_
    refine va_getN (D := (dC, dI)) (ci := 0) (v := .int (bI f_k5_missed_2154)) (C := R_SP) (T := F_SP) (N := 4) (host := "GlyphLines") hx hb hts in_SP hown hK hP 1 rfl rfl 3 (by decide) (va_Nw.use rfl (nest_6 hNs)) (fun _ h9 => h9) rfl d_FO_placesAreRight_41 ?_
    refine lv_join (α := Bool) 65 (fun s0_2163 H' locs' ls' => va_P (dC, dI) cls_ [(h0, .inr (4, [.ref qa, .ref kr, .ref k1, .ref k2, .ref k3, .ref k4, .ref k5, .ref k6, .ref km, .ref kp, .ref kD, .int (nI (ee)), .int (nI (gl)), .int (nI (wd)), .int (bI il)])), (k5, .inr (0, [.ref qa, .int (nI (x5)), .int (nI (y5)), .int (bI f_k5_missed_2154)])), (k6, .inr (0, [.ref qa, .int (nI (x6)), .int (nI (y6)), .int (bI z6)])), (qa, .inl (cA, 1200, .inl (f)))] H' ∧ va_D A [(h0, .inr (4, [.ref qa, .ref kr, .ref k1, .ref k2, .ref k3, .ref k4, .ref k5, .ref k6, .ref km, .ref kp, .ref kD, .int (nI (ee)), .int (nI (gl)), .int (nI (wd)), .int (bI il)])), (k5, .inr (0, [.ref qa, .int (nI (x5)), .int (nI (y5)), .int (bI f_k5_missed_2154)])), (k6, .inr (0, [.ref qa, .int (nI (x6)), .int (nI (y6)), .int (bI z6)])), (qa, .inl (cA, 1200, .inl (f)))] ∧ va_S A s.heap H' locs' ∧ lv_has ls' 6 [(3, .int (nI (l3_2155))), (1, .long l1_2156), (0, .ref h0)]) (fun s0_2163 => [.int (bI s0_2163)]) ?_ (fun kj2164 => ?_)
    · skip
      intro s0_2163 H locs ls ⟨hP, hD, hS, hl⟩
      show W p l e _ s m _ below meth c H locs _ _ _ (F0 m 65 ls [.int (bI s0_2163)])
      have hP : va_P (dC, dI) cls_ [(h0, .inr (4, [.ref qa, .ref kr, .ref k1, .ref k2, .ref k3, .ref k4, .ref k5, .ref k6, .ref km, .ref kp, .ref kD, .int (nI (ee)), .int (nI (gl)), .int (nI (wd)), .int (bI il)])), (k5, .inr (0, [.ref qa, .int (nI (x5)), .int (nI (y5)), .int (bI f_k5_missed_2154)])), (k6, .inr (0, [.ref qa, .int (nI (x6)), .int (nI (y6)), .int (bI z6)])), (qa, .inl (cA, 1200, .inl (f)))] H := hP
      have hD : va_D A [(h0, .inr (4, [.ref qa, .ref kr, .ref k1, .ref k2, .ref k3, .ref k4, .ref k5, .ref k6, .ref km, .ref kp, .ref kD, .int (nI (ee)), .int (nI (gl)), .int (nI (wd)), .int (bI il)])), (k5, .inr (0, [.ref qa, .int (nI (x5)), .int (nI (y5)), .int (bI f_k5_missed_2154)])), (k6, .inr (0, [.ref qa, .int (nI (x6)), .int (nI (y6)), .int (bI z6)])), (qa, .inl (cA, 1200, .inl (f)))] := hD
      refine W.widen (k := 0) (n := 0) (Nat.le_of_ble_eq_true rfl) (Nat.le_of_ble_eq_true rfl) ?_
      have hP9 := hP.sub (ws' := [(h0, .inr (4, [.ref qa, .ref kr, .ref k1, .ref k2, .ref k3, .ref k4, .ref k5, .ref k6, .ref km, .ref kp, .ref kD, .int (nI (ee)), .int (nI (gl)), .int (nI (wd)), .int (bI il)])), (k5, .inr (0, [.ref qa, .int (nI (x5)), .int (nI (y5)), .int (bI f_k5_missed_2154)])), (k6, .inr (0, [.ref qa, .int (nI (x6)), .int (nI (y6)), .int (bI z6)])), (qa, .inl (cA, 1200, .inl (f)))]) [0, 1, 2, 3] rfl
      have hD9 := hD.sub (ws' := [(h0, .inr (4, [.ref qa, .ref kr, .ref k1, .ref k2, .ref k3, .ref k4, .ref k5, .ref k6, .ref km, .ref kp, .ref kD, .int (nI (ee)), .int (nI (gl)), .int (nI (wd)), .int (bI il)])), (k5, .inr (0, [.ref qa, .int (nI (x5)), .int (nI (y5)), .int (bI f_k5_missed_2154)])), (k6, .inr (0, [.ref qa, .int (nI (x6)), .int (nI (y6)), .int (bI z6)])), (qa, .inl (cA, 1200, .inl (f)))]) [0, 1, 2, 3] (by decide) rfl
      have hK9 := hK.sub (tys' := [(cA, .int)]) [0] rfl
      exact W.zret (v := bI s0_2163) (ty := .boolean) hx hb hr (bI_n _) (fun t ht hW => ⟨⟨bI s0_2163, (), rfl, ⟨s0_2163, rfl⟩, f_k5_missed_2154, by rw [ht]; exact hP9, va_K.moved hW.alike hK9, hD9⟩, hS.F ht⟩) hS.2.2 d_FO_placesAreRight_65
    · skip
      refine lv_if_ne (tgt := 64) hx hb d_FO_placesAreRight_44 (by decide) (fun hc2165 => ?_) (fun hc2165 => ?_)
      · skip
        have hc2165b : f_k5_missed_2154 = true := bI_1 hc2165
        refine lv_iconst (v := 0) hx hb d_FO_placesAreRight_64 (by decide) ?_
        have hP8 := hP.sub (ws' := [(h0, .inr (4, [.ref qa, .ref kr, .ref k1, .ref k2, .ref k3, .ref k4, .ref k5, .ref k6, .ref km, .ref kp, .ref kD, .int (nI (ee)), .int (nI (gl)), .int (nI (wd)), .int (bI il)])), (k5, .inr (0, [.ref qa, .int (nI (x5)), .int (nI (y5)), .int (bI f_k5_missed_2154)])), (k6, .inr (0, [.ref qa, .int (nI (x6)), .int (nI (y6)), .int (bI z6)])), (qa, .inl (cA, 1200, .inl (f)))]) [0, 1, 2, 3] rfl
        have hD8 := hD.sub (ws' := [(h0, .inr (4, [.ref qa, .ref kr, .ref k1, .ref k2, .ref k3, .ref k4, .ref k5, .ref k6, .ref km, .ref kp, .ref kD, .int (nI (ee)), .int (nI (gl)), .int (nI (wd)), .int (bI il)])), (k5, .inr (0, [.ref qa, .int (nI (x5)), .int (nI (y5)), .int (bI f_k5_missed_2154)])), (k6, .inr (0, [.ref qa, .int (nI (x6)), .int (nI (y6)), .int (bI z6)])), (qa, .inl (cA, 1200, .inl (f)))]) [0, 1, 2, 3] (by decide) rfl
        exact kj2164 (false) H locs ls ⟨hP8, hD8, hS, lv_sub hl [0, 1, 2] rfl⟩
      · skip
        have hc2165b : f_k5_missed_2154 = false := bI_0 hc2165
        refine lv_lload_n hx hb d_FO_placesAreRight_47 rfl (lv_at hl 1 rfl) ?_
        refine lv_aload_n hx hb d_FO_placesAreRight_48 rfl (lv_at hl 2 rfl) ?_
        refine va_get (D := (dC, dI)) (ci := 4) (v := .ref k6) (C := R_FO) (T := F_FO) (N := 15) hx hb hts in_FO hown hK hP 0 rfl rfl 7 (by decide) (hts _ (List.mem_cons_of_mem _ w_124)) (fun _ h9 => h9) rfl d_FO_placesAreRight_49 ?_
        refine va_getN (D := (dC, dI)) (ci := 0) (v := .int (nI (y6))) (C := R_SP) (T := F_SP) (N := 4) (host := "GlyphLines") hx hb hts in_SP hown hK hP 2 rfl rfl 2 (by decide) (va_Nw.use rfl (nest_3 hNs)) (fun _ h9 => h9) rfl d_FO_placesAreRight_52 ?_
        refine lv_i2l (v := (nI (y6)).toInt64) hx hb d_FO_placesAreRight_55 (by first | rfl | decide +kernel) ?_
        refine W.lcmp hx hb d_FO_placesAreRight_56 ?_
        refine lv_topi (fun v2166 ev2166 => ?_)
        refine lv_if_gt (tgt := 64) hx hb d_FO_placesAreRight_57 (by decide) (fun hc2167 => ?_) (fun hc2167 => ?_)
        · skip
          refine lv_iconst (v := 0) hx hb d_FO_placesAreRight_64 (by decide) ?_
          have hP8 := hP.sub (ws' := [(h0, .inr (4, [.ref qa, .ref kr, .ref k1, .ref k2, .ref k3, .ref k4, .ref k5, .ref k6, .ref km, .ref kp, .ref kD, .int (nI (ee)), .int (nI (gl)), .int (nI (wd)), .int (bI il)])), (k5, .inr (0, [.ref qa, .int (nI (x5)), .int (nI (y5)), .int (bI f_k5_missed_2154)])), (k6, .inr (0, [.ref qa, .int (nI (x6)), .int (nI (y6)), .int (bI z6)])), (qa, .inl (cA, 1200, .inl (f)))]) [0, 1, 2, 3] rfl
          have hD8 := hD.sub (ws' := [(h0, .inr (4, [.ref qa, .ref kr, .ref k1, .ref k2, .ref k3, .ref k4, .ref k5, .ref k6, .ref km, .ref kp, .ref kD, .int (nI (ee)), .int (nI (gl)), .int (nI (wd)), .int (bI il)])), (k5, .inr (0, [.ref qa, .int (nI (x5)), .int (nI (y5)), .int (bI f_k5_missed_2154)])), (k6, .inr (0, [.ref qa, .int (nI (x6)), .int (nI (y6)), .int (bI z6)])), (qa, .inl (cA, 1200, .inl (f)))]) [0, 1, 2, 3] (by decide) rfl
          exact kj2164 (false) H locs ls ⟨hP8, hD8, hS, lv_sub hl [0, 1, 2] rfl⟩
        · skip
          refine lv_iconst (v := 1) hx hb d_FO_placesAreRight_60 (by decide) ?_
          refine lv_goto (tgt := 65) hx hb d_FO_placesAreRight_61 (by decide) ?_
          have hP8 := hP.sub (ws' := [(h0, .inr (4, [.ref qa, .ref kr, .ref k1, .ref k2, .ref k3, .ref k4, .ref k5, .ref k6, .ref km, .ref kp, .ref kD, .int (nI (ee)), .int (nI (gl)), .int (nI (wd)), .int (bI il)])), (k5, .inr (0, [.ref qa, .int (nI (x5)), .int (nI (y5)), .int (bI f_k5_missed_2154)])), (k6, .inr (0, [.ref qa, .int (nI (x6)), .int (nI (y6)), .int (bI z6)])), (qa, .inl (cA, 1200, .inl (f)))]) [0, 1, 2, 3] rfl
          have hD8 := hD.sub (ws' := [(h0, .inr (4, [.ref qa, .ref kr, .ref k1, .ref k2, .ref k3, .ref k4, .ref k5, .ref k6, .ref km, .ref kp, .ref kD, .int (nI (ee)), .int (nI (gl)), .int (nI (wd)), .int (bI il)])), (k5, .inr (0, [.ref qa, .int (nI (x5)), .int (nI (y5)), .int (bI f_k5_missed_2154)])), (k6, .inr (0, [.ref qa, .int (nI (x6)), .int (nI (y6)), .int (bI z6)])), (qa, .inl (cA, 1200, .inl (f)))]) [0, 1, 2, 3] (by decide) rfl
          exact kj2164 (true) H locs ls ⟨hP8, hD8, hS, lv_sub hl [0, 1, 2] rfl⟩
  · skip
    have hc2159n : ¬ (gl < l3_2155) := fun z => hc2159 ((nI_ltI (a := gl) (b := l3_2155) (by omega) (by omega)).mpr z)
    refine lv_aload_n hx hb d_FO_placesAreRight_12 rfl (lv_at hl 2 rfl) ?_
    refine lv_iload_n hx hb d_FO_placesAreRight_13 rfl (lv_at hl 0 rfl) ?_
    have hPc := hP.sub (ws' := [(h0, .inr (4, [.ref qa, .ref kr, .ref k1, .ref k2, .ref k3, .ref k4, .ref k5, .ref k6, .ref km, .ref kp, .ref kD, .int (nI (ee)), .int (nI (gl)), .int (nI (wd)), .int (bI il)])), (k5, .inr (0, [.ref qa, .int (nI (x5)), .int (nI (y5)), .int (bI f_k5_missed_2154)])), (qa, .inl (cA, 1200, .inl (f)))]) [0, 1, 3] rfl
    have hDc := hD.sub (ws' := [(h0, .inr (4, [.ref qa, .ref kr, .ref k1, .ref k2, .ref k3, .ref k4, .ref k5, .ref k6, .ref km, .ref kp, .ref kD, .int (nI (ee)), .int (nI (gl)), .int (nI (wd)), .int (bI il)])), (k5, .inr (0, [.ref qa, .int (nI (x5)), .int (nI (y5)), .int (bI f_k5_missed_2154)])), (qa, .inl (cA, 1200, .inl (f)))]) [0, 1, 3] (by decide) rfl
    have hKc := hK.sub (tys' := [(cA, .int)]) [0] rfl
    have hFc := va_free (wc := [(h0, .inr (4, [.ref qa, .ref kr, .ref k1, .ref k2, .ref k3, .ref k4, .ref k5, .ref k6, .ref km, .ref kp, .ref kD, .int (nI (ee)), .int (nI (gl)), .int (nI (wd)), .int (bI il)])), (k5, .inr (0, [.ref qa, .int (nI (x5)), .int (nI (y5)), .int (bI f_k5_missed_2154)])), (qa, .inl (cA, 1200, .inl (f)))]) hD hS hA [0, 1, 3] rfl
    refine va_calll (va_runV (As := [.int (nI (l3_2155))]) (rest := []) ⟨hx, hb, hml, hown, hts⟩ (g_FO_placeOf l dC dI h0 qa kr k1 k2 k3 k4 k5 k6 km kp kD ee gl wd il x5 y5 f_k5_missed_2154 cA f (nI (l3_2155)) H.size (by omega) (by omega) (by omega) (by omega) (by assumption)) (cwV 1 hts (tw_inV w_416 w_418 wp_7 w_2 w_419) rfl rfl rfl (by decide +kernel) ⟨Nat.le_of_ble_eq_true rfl, Nat.le_of_ble_eq_true rfl⟩) ⟨fun a U g mk q => by obtain ⟨q0, q1, qP, qK, qD, qE0⟩ := q; exact ⟨q0, q1, qP, va_K.moved (u := U) (U := U.calling g mk a) (Vm.Alike.refl U.vm) qK, qD, nests.call qE0⟩, va_recv (hK := hK) (hP := hP) (q0 := 0) (ci := 4) rfl rfl, fun U hU hW => ⟨rfl, by rw [hU], by rw [hU]; exact hPc, va_K.moved hW.alike hKc, hDc.weaken (fun _ _ _ _ => trivial), nests.warm hW hNs⟩⟩ rfl rfl hl.1 rfl (lv_room (Nat.le_of_ble_eq_true rfl)) d_FO_placesAreRight_14 ⟨Nat.le_of_ble_eq_true rfl, Nat.le_of_ble_eq_true rfl⟩) hS (fun q _ h => hFc q h) hFc (fun r2168 u t H1 locs ht hvm hw hB hz1 hk1 hS => ?_)
    obtain ⟨z5__2169, hP1, hK1, hD1⟩ := hB
    rw [ht] at hP1
    have hK1 := va_K.moved hvm.symm hK1
    obtain ⟨hP, hD⟩ := va_join (wr := [(k6, .inr (0, [.ref qa, .int (nI (x6)), .int (nI (y6)), .int (bI z6)]))]) (w1 := [(h0, .inr (4, [.ref qa, .ref kr, .ref k1, .ref k2, .ref k3, .ref k4, .ref k5, .ref k6, .ref km, .ref kp, .ref kD, .int (nI (ee)), .int (nI (gl)), .int (nI (wd)), .int (bI il)])), (k5, .inr (0, [.ref qa, .int (nI (x5)), .int (nI (y5)), .int (bI z5__2169)])), (qa, .inl (cA, 1200, .inl (f)))]) hP hD [0, 1, 3] [2] rfl rfl (by decide) (by decide) hk1 hFc hP1 hD1
    have hK := (hK.sub (tys' := []) [] rfl).app hK1
    generalize H1 = H at hP hS ⊢
    have hP : va_P (dC, dI) cls_ [(k6, .inr (0, [.ref qa, .int (nI (x6)), .int (nI (y6)), .int (bI z6)])), (h0, .inr (4, [.ref qa, .ref kr, .ref k1, .ref k2, .ref k3, .ref k4, .ref k5, .ref k6, .ref km, .ref kp, .ref kD, .int (nI (ee)), .int (nI (gl)), .int (nI (wd)), .int (bI il)])), (k5, .inr (0, [.ref qa, .int (nI (x5)), .int (nI (y5)), .int (bI z5__2169)])), (qa, .inl (cA, 1200, .inl (f)))] H := hP
    have hD : va_D A [(k6, .inr (0, [.ref qa, .int (nI (x6)), .int (nI (y6)), .int (bI z6)])), (h0, .inr (4, [.ref qa, .ref kr, .ref k1, .ref k2, .ref k3, .ref k4, .ref k5, .ref k6, .ref km, .ref kp, .ref kD, .int (nI (ee)), .int (nI (gl)), .int (nI (wd)), .int (bI il)])), (k5, .inr (0, [.ref qa, .int (nI (x5)), .int (nI (y5)), .int (bI z5__2169)])), (qa, .inl (cA, 1200, .inl (f)))] := hD
    have hK : va_K (dC, dI) cls_ [(cA, .int)] s := hK
    have hw_r2168 := hw
    refine lv_lstore (lv' := [(4, .long r2168), (3, .int (nI (l3_2155))), (1, .long l1_2156), (0, .ref h0)]) hx hb d_FO_placesAreRight_17 hl (by decide) rfl (fun ls hl => ?_)
    refine lv_lload hx hb d_FO_placesAreRight_19 (lv_at hl 0 rfl) ?_
    refine lv_lload_n hx hb d_FO_placesAreRight_21 rfl (lv_at hl 2 rfl) ?_
    refine W.lcmp hx hb d_FO_placesAreRight_22 ?_
    refine lv_topi (fun v2170 ev2170 => ?_)
    refine lv_if_ge (tgt := 28) hx hb d_FO_placesAreRight_23 (by decide) (fun hc2171 => ?_) (fun hc2171 => ?_)
    · skip
      refine lv_lload hx hb d_FO_placesAreRight_28 (lv_at hl 0 rfl) ?_
      refine lv_lstore_n (lv' := [(1, .long r2168), (4, .long r2168), (3, .int (nI (l3_2155))), (0, .ref h0)]) hx hb d_FO_placesAreRight_30 rfl hl (by decide) rfl (fun ls hl => ?_)
      refine lv_iinc (k := 2) (v := nI (l3_2155 + 1)) (lv' := [(3, .int (nI (l3_2155 + 1))), (1, .long r2168), (4, .long r2168), (0, .ref h0)]) hx hb d_FO_placesAreRight_31 hl rfl (nI_add (l3_2155) 1) (by decide) rfl (fun ls hl => ?_)
      refine lv_goto (tgt := 4) hx hb d_FO_placesAreRight_34 (by decide) ?_
      have hP8 := hP.sub (ws' := [(h0, .inr (4, [.ref qa, .ref kr, .ref k1, .ref k2, .ref k3, .ref k4, .ref k5, .ref k6, .ref km, .ref kp, .ref kD, .int (nI (ee)), .int (nI (gl)), .int (nI (wd)), .int (bI il)])), (k5, .inr (0, [.ref qa, .int (nI (x5)), .int (nI (y5)), .int (bI z5__2169)])), (k6, .inr (0, [.ref qa, .int (nI (x6)), .int (nI (y6)), .int (bI z6)])), (qa, .inl (cA, 1200, .inl (f)))]) [1, 2, 0, 3] rfl
      have hD8 := hD.sub (ws' := [(h0, .inr (4, [.ref qa, .ref kr, .ref k1, .ref k2, .ref k3, .ref k4, .ref k5, .ref k6, .ref km, .ref kp, .ref kD, .int (nI (ee)), .int (nI (gl)), .int (nI (wd)), .int (bI il)])), (k5, .inr (0, [.ref qa, .int (nI (x5)), .int (nI (y5)), .int (bI z5__2169)])), (k6, .inr (0, [.ref qa, .int (nI (x6)), .int (nI (y6)), .int (bI z6)])), (qa, .inl (cA, 1200, .inl (f)))]) [1, 2, 0, 3] (by decide) rfl
      exact ih2157 (z5__2169, l3_2155 + 1, r2168) H locs ls (by show gl + 1 - (l3_2155 + 1) < gl + 1 - l3_2155; omega) ⟨hP8, hD8, hS, lv_sub hl [0, 1, 3] rfl, by omega⟩
    · skip
      refine lv_iconst (v := 0) hx hb d_FO_placesAreRight_26 (by decide) ?_
      refine W.widen (k := 0) (n := 0) (Nat.le_of_ble_eq_true rfl) (Nat.le_of_ble_eq_true rfl) ?_
      have hP9 := hP.sub (ws' := [(h0, .inr (4, [.ref qa, .ref kr, .ref k1, .ref k2, .ref k3, .ref k4, .ref k5, .ref k6, .ref km, .ref kp, .ref kD, .int (nI (ee)), .int (nI (gl)), .int (nI (wd)), .int (bI il)])), (k5, .inr (0, [.ref qa, .int (nI (x5)), .int (nI (y5)), .int (bI z5__2169)])), (k6, .inr (0, [.ref qa, .int (nI (x6)), .int (nI (y6)), .int (bI z6)])), (qa, .inl (cA, 1200, .inl (f)))]) [1, 2, 0, 3] rfl
      have hD9 := hD.sub (ws' := [(h0, .inr (4, [.ref qa, .ref kr, .ref k1, .ref k2, .ref k3, .ref k4, .ref k5, .ref k6, .ref km, .ref kp, .ref kD, .int (nI (ee)), .int (nI (gl)), .int (nI (wd)), .int (bI il)])), (k5, .inr (0, [.ref qa, .int (nI (x5)), .int (nI (y5)), .int (bI z5__2169)])), (k6, .inr (0, [.ref qa, .int (nI (x6)), .int (nI (y6)), .int (bI z6)])), (qa, .inl (cA, 1200, .inl (f)))]) [1, 2, 0, 3] (by decide) rfl
      have hK9 := hK.sub (tys' := [(cA, .int)]) [0] rfl
      exact W.zret (v := 0) (ty := .boolean) hx hb hr (by decide +kernel) (fun t ht hW => ⟨⟨0, (), rfl, ⟨false, rfl⟩, z5__2169, by rw [ht]; exact hP9, va_K.moved hW.alike hK9, hD9⟩, hS.F ht⟩) hS.2.2 d_FO_placesAreRight_27
set_option maxHeartbeats 4000000 in
set_option maxRecDepth 100000 in
/-- GlyphLines$Font.findTables -/
theorem g_FO_findTables (l : Launch) (dC : Nat → ClassId) (dI : Nat → Nat → Nat) (h0 : Nat) (qa : Nat) (kr : Nat) (k1 : Nat) (k2 : Nat) (k3 : Nat) (k4 : Nat) (k5 : Nat) (k6 : Nat) (km : Nat) (kp : Nat) (kD : Nat) (ee : Nat) (gl : Nat) (wd : Nat) (il : Bool) (kw : Nat) (kt : Nat) (tb : Int32) (x9 : Nat) (y9 : Nat) (z9 : Bool) (kc : Nat) (pl : Int32) (rg : Int32) (x7 : Nat) (y7 : Nat) (z7 : Bool) (x6 : Nat) (y6 : Nat) (z6 : Bool) (x1 : Nat) (y1 : Nat) (z1 : Bool) (x3 : Nat) (y3 : Nat) (z3 : Bool) (x4 : Nat) (y4 : Nat) (z4 : Bool) (x5 : Nat) (y5 : Nat) (z5 : Bool) (x2 : Nat) (y2 : Nat) (z2 : Bool) (cA : ClassId) (f : Nat → Int32) (sz : Nat) (hq0 : ee < 65536) (hq1 : gl < 65536) (hq2 : wd < 65536) (hq3 : x1 + y1 ≤ 1200) (hq4 : x2 + y2 ≤ 1200) (hq5 : x3 + y3 ≤ 1200) (hq6 : x4 + y4 ≤ 1200) (hq7 : x5 + y5 ≤ 1200) (hq8 : x6 + y6 ≤ 1200) (hq9 : x7 + y7 ≤ 1200) (hq10 : x9 + y9 ≤ 1200) (hq11 : isB f) : Met l y_FO_findTables s_FO_findTables ({ frames := 14, cells := 0, slots := 0, locals := 500 }) (va_Pc [.ref h0] (fun U => U.heap.size = sz ∧ va_P (dC, dI) cls_ [(h0, .inr (4, [.ref qa, .ref kr, .ref k1, .ref k2, .ref k3, .ref k4, .ref k5, .ref k6, .ref km, .ref kp, .ref kD, .int (nI (ee)), .int (nI (gl)), .int (nI (wd)), .int (bI il)])), (kr, .inr (2, [.ref kw, .ref kt, .int tb])), (kw, .inr (0, [.ref qa, .int (nI (x9)), .int (nI (y9)), .int (bI z9)])), (km, .inr (1, [.ref kc, .int pl, .int rg])), (kc, .inr (0, [.ref qa, .int (nI (x7)), .int (nI (y7)), .int (bI z7)])), (k6, .inr (0, [.ref qa, .int (nI (x6)), .int (nI (y6)), .int (bI z6)])), (k1, .inr (0, [.ref qa, .int (nI (x1)), .int (nI (y1)), .int (bI z1)])), (k3, .inr (0, [.ref qa, .int (nI (x3)), .int (nI (y3)), .int (bI z3)])), (k4, .inr (0, [.ref qa, .int (nI (x4)), .int (nI (y4)), .int (bI z4)])), (k5, .inr (0, [.ref qa, .int (nI (x5)), .int (nI (y5)), .int (bI z5)])), (k2, .inr (0, [.ref qa, .int (nI (x2)), .int (nI (y2)), .int (bI z2)])), (qa, .inl (cA, 1200, .inl (f)))] U.heap ∧ va_K (dC, dI) cls_ [(cA, .int)] U ∧ va_D (fun _ => True) [(h0, .inr (4, [.ref qa, .ref kr, .ref k1, .ref k2, .ref k3, .ref k4, .ref k5, .ref k6, .ref km, .ref kp, .ref kD, .int (nI (ee)), .int (nI (gl)), .int (nI (wd)), .int (bI il)])), (kr, .inr (2, [.ref kw, .ref kt, .int tb])), (kw, .inr (0, [.ref qa, .int (nI (x9)), .int (nI (y9)), .int (bI z9)])), (km, .inr (1, [.ref kc, .int pl, .int rg])), (kc, .inr (0, [.ref qa, .int (nI (x7)), .int (nI (y7)), .int (bI z7)])), (k6, .inr (0, [.ref qa, .int (nI (x6)), .int (nI (y6)), .int (bI z6)])), (k1, .inr (0, [.ref qa, .int (nI (x1)), .int (nI (y1)), .int (bI z1)])), (k3, .inr (0, [.ref qa, .int (nI (x3)), .int (nI (y3)), .int (bI z3)])), (k4, .inr (0, [.ref qa, .int (nI (x4)), .int (nI (y4)), .int (bI z4)])), (k5, .inr (0, [.ref qa, .int (nI (x5)), .int (nI (y5)), .int (bI z5)])), (k2, .inr (0, [.ref qa, .int (nI (x2)), .int (nI (y2)), .int (bI z2)])), (qa, .inl (cA, 1200, .inl (f)))] ∧ nests U)) (va_Qi (fun (r : Int32) (_ : Unit) => ∃ b9 : Bool, r = bI b9) (fun (_ : Unit) (t : State) => ∃ (z9_2 : Bool) (x7_2 : Nat) (y7_2 : Nat) (z7_2 : Bool) (x6_2 : Nat) (y6_2 : Nat) (z6_2 : Bool) (x1_2 : Nat) (y1_2 : Nat) (z1_2 : Bool) (x3_2 : Nat) (y3_2 : Nat) (z3_2 : Bool) (x4_2 : Nat) (y4_2 : Nat) (z4_2 : Bool) (x5_2 : Nat) (y5_2 : Nat) (z5_2 : Bool) (x2_2 : Nat) (y2_2 : Nat) (z2_2 : Bool), x1_2 + y1_2 ≤ 1200 ∧ x2_2 + y2_2 ≤ 1200 ∧ x3_2 + y3_2 ≤ 1200 ∧ x4_2 + y4_2 ≤ 1200 ∧ x5_2 + y5_2 ≤ 1200 ∧ x6_2 + y6_2 ≤ 1200 ∧ x7_2 + y7_2 ≤ 1200 ∧ va_P (dC, dI) cls_ [(h0, .inr (4, [.ref qa, .ref kr, .ref k1, .ref k2, .ref k3, .ref k4, .ref k5, .ref k6, .ref km, .ref kp, .ref kD, .int (nI (ee)), .int (nI (gl)), .int (nI (wd)), .int (bI il)])), (kr, .inr (2, [.ref kw, .ref kt, .int tb])), (kw, .inr (0, [.ref qa, .int (nI (x9)), .int (nI (y9)), .int (bI z9_2)])), (km, .inr (1, [.ref kc, .int pl, .int rg])), (kc, .inr (0, [.ref qa, .int (nI (x7_2)), .int (nI (y7_2)), .int (bI z7_2)])), (k6, .inr (0, [.ref qa, .int (nI (x6_2)), .int (nI (y6_2)), .int (bI z6_2)])), (k1, .inr (0, [.ref qa, .int (nI (x1_2)), .int (nI (y1_2)), .int (bI z1_2)])), (k3, .inr (0, [.ref qa, .int (nI (x3_2)), .int (nI (y3_2)), .int (bI z3_2)])), (k4, .inr (0, [.ref qa, .int (nI (x4_2)), .int (nI (y4_2)), .int (bI z4_2)])), (k5, .inr (0, [.ref qa, .int (nI (x5_2)), .int (nI (y5_2)), .int (bI z5_2)])), (k2, .inr (0, [.ref qa, .int (nI (x2_2)), .int (nI (y2_2)), .int (bI z2_2)])), (qa, .inl (cA, 1200, .inl (f)))] t.heap ∧ va_K (dC, dI) cls_ [(cA, .int)] t ∧ va_D (va_A [(h0, .inr (4, [.ref qa, .ref kr, .ref k1, .ref k2, .ref k3, .ref k4, .ref k5, .ref k6, .ref km, .ref kp, .ref kD, .int (nI (ee)), .int (nI (gl)), .int (nI (wd)), .int (bI il)])), (kr, .inr (2, [.ref kw, .ref kt, .int tb])), (kw, .inr (0, [.ref qa, .int (nI (x9)), .int (nI (y9)), .int (bI z9)])), (km, .inr (1, [.ref kc, .int pl, .int rg])), (kc, .inr (0, [.ref qa, .int (nI (x7)), .int (nI (y7)), .int (bI z7)])), (k6, .inr (0, [.ref qa, .int (nI (x6)), .int (nI (y6)), .int (bI z6)])), (k1, .inr (0, [.ref qa, .int (nI (x1)), .int (nI (y1)), .int (bI z1)])), (k3, .inr (0, [.ref qa, .int (nI (x3)), .int (nI (y3)), .int (bI z3)])), (k4, .inr (0, [.ref qa, .int (nI (x4)), .int (nI (y4)), .int (bI z4)])), (k5, .inr (0, [.ref qa, .int (nI (x5)), .int (nI (y5)), .int (bI z5)])), (k2, .inr (0, [.ref qa, .int (nI (x2)), .int (nI (y2)), .int (bI z2)])), (qa, .inl (cA, 1200, .inl (f)))] sz) [(h0, .inr (4, [.ref qa, .ref kr, .ref k1, .ref k2, .ref k3, .ref k4, .ref k5, .ref k6, .ref km, .ref kp, .ref kD, .int (nI (ee)), .int (nI (gl)), .int (nI (wd)), .int (bI il)])), (kr, .inr (2, [.ref kw, .ref kt, .int tb])), (kw, .inr (0, [.ref qa, .int (nI (x9)), .int (nI (y9)), .int (bI z9_2)])), (km, .inr (1, [.ref kc, .int pl, .int rg])), (kc, .inr (0, [.ref qa, .int (nI (x7_2)), .int (nI (y7_2)), .int (bI z7_2)])), (k6, .inr (0, [.ref qa, .int (nI (x6_2)), .int (nI (y6_2)), .int (bI z6_2)])), (k1, .inr (0, [.ref qa, .int (nI (x1_2)), .int (nI (y1_2)), .int (bI z1_2)])), (k3, .inr (0, [.ref qa, .int (nI (x3_2)), .int (nI (y3_2)), .int (bI z3_2)])), (k4, .inr (0, [.ref qa, .int (nI (x4_2)), .int (nI (y4_2)), .int (bI z4_2)])), (k5, .inr (0, [.ref qa, .int (nI (x5_2)), .int (nI (y5_2)), .int (bI z5_2)])), (k2, .inr (0, [.ref qa, .int (nI (x2_2)), .int (nI (y2_2)), .int (bI z2_2)])), (qa, .inl (cA, 1200, .inl (f)))]) (va_A [(h0, .inr (4, [.ref qa, .ref kr, .ref k1, .ref k2, .ref k3, .ref k4, .ref k5, .ref k6, .ref km, .ref kp, .ref kD, .int (nI (ee)), .int (nI (gl)), .int (nI (wd)), .int (bI il)])), (kr, .inr (2, [.ref kw, .ref kt, .int tb])), (kw, .inr (0, [.ref qa, .int (nI (x9)), .int (nI (y9)), .int (bI z9)])), (km, .inr (1, [.ref kc, .int pl, .int rg])), (kc, .inr (0, [.ref qa, .int (nI (x7)), .int (nI (y7)), .int (bI z7)])), (k6, .inr (0, [.ref qa, .int (nI (x6)), .int (nI (y6)), .int (bI z6)])), (k1, .inr (0, [.ref qa, .int (nI (x1)), .int (nI (y1)), .int (bI z1)])), (k3, .inr (0, [.ref qa, .int (nI (x3)), .int (nI (y3)), .int (bI z3)])), (k4, .inr (0, [.ref qa, .int (nI (x4)), .int (nI (y4)), .int (bI z4)])), (k5, .inr (0, [.ref qa, .int (nI (x5)), .int (nI (y5)), .int (bI z5)])), (k2, .inr (0, [.ref qa, .int (nI (x2)), .int (nI (y2)), .int (bI z2)])), (qa, .inl (cA, 1200, .inl (f)))] sz)) 0 0 (va_A [(h0, .inr (4, [.ref qa, .ref kr, .ref k1, .ref k2, .ref k3, .ref k4, .ref k5, .ref k6, .ref km, .ref kp, .ref kD, .int (nI (ee)), .int (nI (gl)), .int (nI (wd)), .int (bI il)])), (kr, .inr (2, [.ref kw, .ref kt, .int tb])), (kw, .inr (0, [.ref qa, .int (nI (x9)), .int (nI (y9)), .int (bI z9)])), (km, .inr (1, [.ref kc, .int pl, .int rg])), (kc, .inr (0, [.ref qa, .int (nI (x7)), .int (nI (y7)), .int (bI z7)])), (k6, .inr (0, [.ref qa, .int (nI (x6)), .int (nI (y6)), .int (bI z6)])), (k1, .inr (0, [.ref qa, .int (nI (x1)), .int (nI (y1)), .int (bI z1)])), (k3, .inr (0, [.ref qa, .int (nI (x3)), .int (nI (y3)), .int (bI z3)])), (k4, .inr (0, [.ref qa, .int (nI (x4)), .int (nI (y4)), .int (bI z4)])), (k5, .inr (0, [.ref qa, .int (nI (x5)), .int (nI (y5)), .int (bI z5)])), (k2, .inr (0, [.ref qa, .int (nI (x2)), .int (nI (y2)), .int (bI z2)])), (qa, .inl (cA, 1200, .inl (f)))] sz) := by
  refine Met.ofW (cc := b_FO_findTables) (maxL := 1) (ret := (some .boolean)) (by decide) rfl ?_
  intro p e s m args below meth c s₁ B hml hv
  obtain ⟨rfl, hsz, hP, hK, hD0, hNs⟩ := hv
  have hx := B.exec
  have hb := B.bytes
  have hr := B.returns
  have hts := atoms_spec (ws := s_FO_findTables) B.pre
  have hown : s.vm.findClass R_FO = some m.cls := findClass_of_methodNamed B.named
  have hlocks := B.notSynchronized
  subst hsz
  have hD := hD0.self (sz := s.heap.size)
  generalize hAe : va_A [(h0, .inr (4, [.ref qa, .ref kr, .ref k1, .ref k2, .ref k3, .ref k4, .ref k5, .ref k6, .ref km, .ref kp, .ref kD, .int (nI (ee)), .int (nI (gl)), .int (nI (wd)), .int (bI il)])), (kr, .inr (2, [.ref kw, .ref kt, .int tb])), (kw, .inr (0, [.ref qa, .int (nI (x9)), .int (nI (y9)), .int (bI z9)])), (km, .inr (1, [.ref kc, .int pl, .int rg])), (kc, .inr (0, [.ref qa, .int (nI (x7)), .int (nI (y7)), .int (bI z7)])), (k6, .inr (0, [.ref qa, .int (nI (x6)), .int (nI (y6)), .int (bI z6)])), (k1, .inr (0, [.ref qa, .int (nI (x1)), .int (nI (y1)), .int (bI z1)])), (k3, .inr (0, [.ref qa, .int (nI (x3)), .int (nI (y3)), .int (bI z3)])), (k4, .inr (0, [.ref qa, .int (nI (x4)), .int (nI (y4)), .int (bI z4)])), (k5, .inr (0, [.ref qa, .int (nI (x5)), .int (nI (y5)), .int (bI z5)])), (k2, .inr (0, [.ref qa, .int (nI (x2)), .int (nI (y2)), .int (bI z2)])), (qa, .inl (cA, 1200, .inl (f)))] s.heap.size = A at hD ⊢
  have hA : ∀ q : Nat, s.heap.size ≤ q → A q := fun q h => by rw [← hAe]; exact Or.inr h
  have hS : va_S A s.heap s.heap [] := va_S.rf
  have hP : va_P (dC, dI) cls_ [(h0, .inr (4, [.ref qa, .ref kr, .ref k1, .ref k2, .ref k3, .ref k4, .ref k5, .ref k6, .ref km, .ref kp, .ref kD, .int (nI (ee)), .int (nI (gl)), .int (nI (wd)), .int (bI il)])), (kr, .inr (2, [.ref kw, .ref kt, .int tb])), (kw, .inr (0, [.ref qa, .int (nI (x9)), .int (nI (y9)), .int (bI z9)])), (km, .inr (1, [.ref kc, .int pl, .int rg])), (kc, .inr (0, [.ref qa, .int (nI (x7)), .int (nI (y7)), .int (bI z7)])), (k6, .inr (0, [.ref qa, .int (nI (x6)), .int (nI (y6)), .int (bI z6)])), (k1, .inr (0, [.ref qa, .int (nI (x1)), .int (nI (y1)), .int (bI z1)])), (k3, .inr (0, [.ref qa, .int (nI (x3)), .int (nI (y3)), .int (bI z3)])), (k4, .inr (0, [.ref qa, .int (nI (x4)), .int (nI (y4)), .int (bI z4)])), (k5, .inr (0, [.ref qa, .int (nI (x5)), .int (nI (y5)), .int (bI z5)])), (k2, .inr (0, [.ref qa, .int (nI (x2)), .int (nI (y2)), .int (bI z2)])), (qa, .inl (cA, 1200, .inl (f)))] s.heap := hP
  have hl := lv_entry ([.ref h0]) (n := 1) (Nat.le_of_ble_eq_true rfl)
  rw [lg_entry_eq]
  generalize (lg_sl ([.ref h0]) ++ List.replicate (1 - (lg_sl ([.ref h0])).length) Slot.unset).toArray = ls at hl ⊢
  have hl : lv_has ls 1 [(0, .ref h0)] := hl
  refine lv_aload_n hx hb d_FO_findTables_0 rfl (lv_at hl 0 rfl) ?_
  refine va_get (D := (dC, dI)) (ci := 4) (v := .ref kr) (C := R_FO) (T := F_FO) (N := 15) hx hb hts in_FO hown hK hP 0 rfl rfl 1 (by decide) (hts _ (List.mem_cons_of_mem _ w_118)) (fun _ h9 => h9) rfl d_FO_findTables_1 ?_
  refine lv_ldc2 (v := 1668112752) hx hb hown (hts _ (List.mem_cons_of_mem _ w_388)) d_FO_findTables_4 ?_
  refine lv_aload_n hx hb d_FO_findTables_7 rfl (lv_at hl 0 rfl) ?_
  refine va_get (D := (dC, dI)) (ci := 4) (v := .ref km) (C := R_FO) (T := F_FO) (N := 15) hx hb hts in_FO hown hK hP 0 rfl rfl 8 (by decide) (hts _ (List.mem_cons_of_mem _ w_125)) (fun _ h9 => h9) rfl d_FO_findTables_8 ?_
  refine va_getN (D := (dC, dI)) (ci := 1) (v := .ref kc) (C := R_CM) (T := F_CM) (N := 3) (host := "GlyphLines") hx hb hts in_CM hown hK hP 3 rfl rfl 0 (by decide) (va_Nw.use rfl (nest_7 hNs)) (fun _ h9 => h9) rfl d_FO_findTables_11 ?_
  have hPc := hP.sub (ws' := [(kr, .inr (2, [.ref kw, .ref kt, .int tb])), (kw, .inr (0, [.ref qa, .int (nI (x9)), .int (nI (y9)), .int (bI z9)])), (kc, .inr (0, [.ref qa, .int (nI (x7)), .int (nI (y7)), .int (bI z7)])), (qa, .inl (cA, 1200, .inl (f)))]) [1, 2, 4, 11] rfl
  have hDc := hD.sub (ws' := [(kr, .inr (2, [.ref kw, .ref kt, .int tb])), (kw, .inr (0, [.ref qa, .int (nI (x9)), .int (nI (y9)), .int (bI z9)])), (kc, .inr (0, [.ref qa, .int (nI (x7)), .int (nI (y7)), .int (bI z7)])), (qa, .inl (cA, 1200, .inl (f)))]) [1, 2, 4, 11] (by decide) rfl
  have hKc := hK.sub (tys' := [(cA, .int)]) [0] rfl
  have hFc := va_free (wc := [(kr, .inr (2, [.ref kw, .ref kt, .int tb])), (kw, .inr (0, [.ref qa, .int (nI (x9)), .int (nI (y9)), .int (bI z9)])), (kc, .inr (0, [.ref qa, .int (nI (x7)), .int (nI (y7)), .int (bI z7)])), (qa, .inl (cA, 1200, .inl (f)))]) hD hS hA [1, 2, 4, 11] rfl
  refine va_calli (va_runV (As := [.long 1668112752, .ref kc]) (rest := []) ⟨hx, hb, hml, hown, hts⟩ (g_DI_find l dC dI kr kw kt qa x9 y9 z9 cA f tb kc x7 y7 z7 1668112752 s.heap.size (by omega) (by assumption) (by omega)) (cwV 2 hts (tw_inV w_389 w_390 w_391 w_3 w_392) rfl rfl rfl (by decide +kernel) ⟨Nat.le_of_ble_eq_true rfl, Nat.le_of_ble_eq_true rfl⟩) ⟨fun a U g mk q => by obtain ⟨q0, q1, qP, qK, qD⟩ := q; exact ⟨q0, q1, qP, va_K.moved (u := U) (U := U.calling g mk a) (Vm.Alike.refl U.vm) qK, qD⟩, va_recv (hK := hK) (hP := hP) (q0 := 1) (ci := 2) rfl rfl, fun U hU hW => ⟨rfl, by rw [hU], by rw [hU]; exact hPc, va_K.moved hW.alike hKc, hDc.weaken (fun _ _ _ _ => trivial)⟩⟩ rfl rfl hl.1 rfl (lv_room (Nat.le_of_ble_eq_true rfl)) d_FO_findTables_14 ⟨Nat.le_of_ble_eq_true rfl, Nat.le_of_ble_eq_true rfl⟩) hS (fun q _ h => hFc q h) hFc (fun r2172 u t H1 locs ht hvm hw hB hz1 hk1 hS => ?_)
  obtain ⟨m_2173, y_2174, y_2175, my_2176, hq_f2177_0, hP1, hK1, hD1⟩ := hB
  rw [ht] at hP1
  have hK1 := va_K.moved hvm.symm hK1
  obtain ⟨hP, hD⟩ := va_join (wr := [(h0, .inr (4, [.ref qa, .ref kr, .ref k1, .ref k2, .ref k3, .ref k4, .ref k5, .ref k6, .ref km, .ref kp, .ref kD, .int (nI (ee)), .int (nI (gl)), .int (nI (wd)), .int (bI il)])), (km, .inr (1, [.ref kc, .int pl, .int rg])), (k6, .inr (0, [.ref qa, .int (nI (x6)), .int (nI (y6)), .int (bI z6)])), (k1, .inr (0, [.ref qa, .int (nI (x1)), .int (nI (y1)), .int (bI z1)])), (k3, .inr (0, [.ref qa, .int (nI (x3)), .int (nI (y3)), .int (bI z3)])), (k4, .inr (0, [.ref qa, .int (nI (x4)), .int (nI (y4)), .int (bI z4)])), (k5, .inr (0, [.ref qa, .int (nI (x5)), .int (nI (y5)), .int (bI z5)])), (k2, .inr (0, [.ref qa, .int (nI (x2)), .int (nI (y2)), .int (bI z2)]))]) (w1 := [(kr, .inr (2, [.ref kw, .ref kt, .int tb])), (kw, .inr (0, [.ref qa, .int (nI (x9)), .int (nI (y9)), .int (bI m_2173)])), (kc, .inr (0, [.ref qa, .int (nI (y_2174)), .int (nI (y_2175)), .int (bI my_2176)])), (qa, .inl (cA, 1200, .inl (f)))]) hP hD [1, 2, 4, 11] [0, 3, 5, 6, 7, 8, 9, 10] rfl rfl (by decide) (by decide) hk1 hFc hP1 hD1
  have hK := (hK.sub (tys' := []) [] rfl).app hK1
  generalize H1 = H at hP hS ⊢
  have hP : va_P (dC, dI) cls_ [(h0, .inr (4, [.ref qa, .ref kr, .ref k1, .ref k2, .ref k3, .ref k4, .ref k5, .ref k6, .ref km, .ref kp, .ref kD, .int (nI (ee)), .int (nI (gl)), .int (nI (wd)), .int (bI il)])), (km, .inr (1, [.ref kc, .int pl, .int rg])), (k6, .inr (0, [.ref qa, .int (nI (x6)), .int (nI (y6)), .int (bI z6)])), (k1, .inr (0, [.ref qa, .int (nI (x1)), .int (nI (y1)), .int (bI z1)])), (k3, .inr (0, [.ref qa, .int (nI (x3)), .int (nI (y3)), .int (bI z3)])), (k4, .inr (0, [.ref qa, .int (nI (x4)), .int (nI (y4)), .int (bI z4)])), (k5, .inr (0, [.ref qa, .int (nI (x5)), .int (nI (y5)), .int (bI z5)])), (k2, .inr (0, [.ref qa, .int (nI (x2)), .int (nI (y2)), .int (bI z2)])), (kr, .inr (2, [.ref kw, .ref kt, .int tb])), (kw, .inr (0, [.ref qa, .int (nI (x9)), .int (nI (y9)), .int (bI m_2173)])), (kc, .inr (0, [.ref qa, .int (nI (y_2174)), .int (nI (y_2175)), .int (bI my_2176)])), (qa, .inl (cA, 1200, .inl (f)))] H := hP
  have hD : va_D A [(h0, .inr (4, [.ref qa, .ref kr, .ref k1, .ref k2, .ref k3, .ref k4, .ref k5, .ref k6, .ref km, .ref kp, .ref kD, .int (nI (ee)), .int (nI (gl)), .int (nI (wd)), .int (bI il)])), (km, .inr (1, [.ref kc, .int pl, .int rg])), (k6, .inr (0, [.ref qa, .int (nI (x6)), .int (nI (y6)), .int (bI z6)])), (k1, .inr (0, [.ref qa, .int (nI (x1)), .int (nI (y1)), .int (bI z1)])), (k3, .inr (0, [.ref qa, .int (nI (x3)), .int (nI (y3)), .int (bI z3)])), (k4, .inr (0, [.ref qa, .int (nI (x4)), .int (nI (y4)), .int (bI z4)])), (k5, .inr (0, [.ref qa, .int (nI (x5)), .int (nI (y5)), .int (bI z5)])), (k2, .inr (0, [.ref qa, .int (nI (x2)), .int (nI (y2)), .int (bI z2)])), (kr, .inr (2, [.ref kw, .ref kt, .int tb])), (kw, .inr (0, [.ref qa, .int (nI (x9)), .int (nI (y9)), .int (bI m_2173)])), (kc, .inr (0, [.ref qa, .int (nI (y_2174)), .int (nI (y_2175)), .int (bI my_2176)])), (qa, .inl (cA, 1200, .inl (f)))] := hD
  have hK : va_K (dC, dI) cls_ [(cA, .int)] s := hK
  have hw_r2172 := hw
  obtain ⟨bb2178, rfl⟩ := hw_r2172
  refine lv_if_eq (tgt := 126) hx hb d_FO_findTables_17 (by decide) (fun hc2179 => ?_) (fun hc2179 => ?_)
  · skip
    have hc2179b : bb2178 = false := bI_0 hc2179
    refine lv_iconst (v := 0) hx hb d_FO_findTables_126 (by decide) ?_
    refine W.widen (k := 0) (n := 0) (Nat.le_of_ble_eq_true rfl) (Nat.le_of_ble_eq_true rfl) ?_
    have hP9 := hP.sub (ws' := [(h0, .inr (4, [.ref qa, .ref kr, .ref k1, .ref k2, .ref k3, .ref k4, .ref k5, .ref k6, .ref km, .ref kp, .ref kD, .int (nI (ee)), .int (nI (gl)), .int (nI (wd)), .int (bI il)])), (kr, .inr (2, [.ref kw, .ref kt, .int tb])), (kw, .inr (0, [.ref qa, .int (nI (x9)), .int (nI (y9)), .int (bI m_2173)])), (km, .inr (1, [.ref kc, .int pl, .int rg])), (kc, .inr (0, [.ref qa, .int (nI (y_2174)), .int (nI (y_2175)), .int (bI my_2176)])), (k6, .inr (0, [.ref qa, .int (nI (x6)), .int (nI (y6)), .int (bI z6)])), (k1, .inr (0, [.ref qa, .int (nI (x1)), .int (nI (y1)), .int (bI z1)])), (k3, .inr (0, [.ref qa, .int (nI (x3)), .int (nI (y3)), .int (bI z3)])), (k4, .inr (0, [.ref qa, .int (nI (x4)), .int (nI (y4)), .int (bI z4)])), (k5, .inr (0, [.ref qa, .int (nI (x5)), .int (nI (y5)), .int (bI z5)])), (k2, .inr (0, [.ref qa, .int (nI (x2)), .int (nI (y2)), .int (bI z2)])), (qa, .inl (cA, 1200, .inl (f)))]) [0, 8, 9, 1, 10, 2, 3, 4, 5, 6, 7, 11] rfl
    have hD9 := hD.sub (ws' := [(h0, .inr (4, [.ref qa, .ref kr, .ref k1, .ref k2, .ref k3, .ref k4, .ref k5, .ref k6, .ref km, .ref kp, .ref kD, .int (nI (ee)), .int (nI (gl)), .int (nI (wd)), .int (bI il)])), (kr, .inr (2, [.ref kw, .ref kt, .int tb])), (kw, .inr (0, [.ref qa, .int (nI (x9)), .int (nI (y9)), .int (bI m_2173)])), (km, .inr (1, [.ref kc, .int pl, .int rg])), (kc, .inr (0, [.ref qa, .int (nI (y_2174)), .int (nI (y_2175)), .int (bI my_2176)])), (k6, .inr (0, [.ref qa, .int (nI (x6)), .int (nI (y6)), .int (bI z6)])), (k1, .inr (0, [.ref qa, .int (nI (x1)), .int (nI (y1)), .int (bI z1)])), (k3, .inr (0, [.ref qa, .int (nI (x3)), .int (nI (y3)), .int (bI z3)])), (k4, .inr (0, [.ref qa, .int (nI (x4)), .int (nI (y4)), .int (bI z4)])), (k5, .inr (0, [.ref qa, .int (nI (x5)), .int (nI (y5)), .int (bI z5)])), (k2, .inr (0, [.ref qa, .int (nI (x2)), .int (nI (y2)), .int (bI z2)])), (qa, .inl (cA, 1200, .inl (f)))]) [0, 8, 9, 1, 10, 2, 3, 4, 5, 6, 7, 11] (by decide) rfl
    have hK9 := hK.sub (tys' := [(cA, .int)]) [0] rfl
    exact W.zret (v := 0) (ty := .boolean) hx hb hr (by decide +kernel) (fun t ht hW => ⟨⟨0, (), rfl, ⟨false, rfl⟩, m_2173, y_2174, y_2175, my_2176, x6, y6, z6, x1, y1, z1, x3, y3, z3, x4, y4, z4, x5, y5, z5, x2, y2, z2, by omega, by omega, by omega, by omega, by omega, by omega, by omega, by rw [ht]; exact hP9, va_K.moved hW.alike hK9, hD9⟩, hS.F ht⟩) hS.2.2 d_FO_findTables_127
  · skip
    have hc2179b : bb2178 = true := bI_1 hc2179
    refine lv_aload_n hx hb d_FO_findTables_20 rfl (lv_at hl 0 rfl) ?_
    refine va_get (D := (dC, dI)) (ci := 4) (v := .ref kr) (C := R_FO) (T := F_FO) (N := 15) hx hb hts in_FO hown hK hP 0 rfl rfl 1 (by decide) (hts _ (List.mem_cons_of_mem _ w_118)) (fun _ h9 => h9) rfl d_FO_findTables_21 ?_
    refine lv_ldc2 (v := 1735162214) hx hb hown (hts _ (List.mem_cons_of_mem _ w_393)) d_FO_findTables_24 ?_
    refine lv_aload_n hx hb d_FO_findTables_27 rfl (lv_at hl 0 rfl) ?_
    refine va_get (D := (dC, dI)) (ci := 4) (v := .ref k6) (C := R_FO) (T := F_FO) (N := 15) hx hb hts in_FO hown hK hP 0 rfl rfl 7 (by decide) (hts _ (List.mem_cons_of_mem _ w_124)) (fun _ h9 => h9) rfl d_FO_findTables_28 ?_
    have hPc := hP.sub (ws' := [(kr, .inr (2, [.ref kw, .ref kt, .int tb])), (kw, .inr (0, [.ref qa, .int (nI (x9)), .int (nI (y9)), .int (bI m_2173)])), (k6, .inr (0, [.ref qa, .int (nI (x6)), .int (nI (y6)), .int (bI z6)])), (qa, .inl (cA, 1200, .inl (f)))]) [8, 9, 2, 11] rfl
    have hDc := hD.sub (ws' := [(kr, .inr (2, [.ref kw, .ref kt, .int tb])), (kw, .inr (0, [.ref qa, .int (nI (x9)), .int (nI (y9)), .int (bI m_2173)])), (k6, .inr (0, [.ref qa, .int (nI (x6)), .int (nI (y6)), .int (bI z6)])), (qa, .inl (cA, 1200, .inl (f)))]) [8, 9, 2, 11] (by decide) rfl
    have hKc := hK.sub (tys' := [(cA, .int)]) [0] rfl
    have hFc := va_free (wc := [(kr, .inr (2, [.ref kw, .ref kt, .int tb])), (kw, .inr (0, [.ref qa, .int (nI (x9)), .int (nI (y9)), .int (bI m_2173)])), (k6, .inr (0, [.ref qa, .int (nI (x6)), .int (nI (y6)), .int (bI z6)])), (qa, .inl (cA, 1200, .inl (f)))]) hD hS hA [8, 9, 2, 11] rfl
    refine va_calli (va_runV (As := [.long 1735162214, .ref k6]) (rest := []) ⟨hx, hb, hml, hown, hts⟩ (g_DI_find l dC dI kr kw kt qa x9 y9 m_2173 cA f tb k6 x6 y6 z6 1735162214 H.size (by omega) (by assumption) (by omega)) (cwV 2 hts (tw_inV w_389 w_390 w_391 w_3 w_392) rfl rfl rfl (by decide +kernel) ⟨Nat.le_of_ble_eq_true rfl, Nat.le_of_ble_eq_true rfl⟩) ⟨fun a U g mk q => by obtain ⟨q0, q1, qP, qK, qD⟩ := q; exact ⟨q0, q1, qP, va_K.moved (u := U) (U := U.calling g mk a) (Vm.Alike.refl U.vm) qK, qD⟩, va_recv (hK := hK) (hP := hP) (q0 := 8) (ci := 2) rfl rfl, fun U hU hW => ⟨rfl, by rw [hU], by rw [hU]; exact hPc, va_K.moved hW.alike hKc, hDc.weaken (fun _ _ _ _ => trivial)⟩⟩ rfl rfl hl.1 rfl (lv_room (Nat.le_of_ble_eq_true rfl)) d_FO_findTables_31 ⟨Nat.le_of_ble_eq_true rfl, Nat.le_of_ble_eq_true rfl⟩) hS (fun q _ h => hFc q h) hFc (fun r2180 u t H1 locs ht hvm hw hB hz1 hk1 hS => ?_)
    obtain ⟨m_2181, y_2182, y_2183, my_2184, hq_f2185_0, hP1, hK1, hD1⟩ := hB
    rw [ht] at hP1
    have hK1 := va_K.moved hvm.symm hK1
    obtain ⟨hP, hD⟩ := va_join (wr := [(h0, .inr (4, [.ref qa, .ref kr, .ref k1, .ref k2, .ref k3, .ref k4, .ref k5, .ref k6, .ref km, .ref kp, .ref kD, .int (nI (ee)), .int (nI (gl)), .int (nI (wd)), .int (bI il)])), (km, .inr (1, [.ref kc, .int pl, .int rg])), (k1, .inr (0, [.ref qa, .int (nI (x1)), .int (nI (y1)), .int (bI z1)])), (k3, .inr (0, [.ref qa, .int (nI (x3)), .int (nI (y3)), .int (bI z3)])), (k4, .inr (0, [.ref qa, .int (nI (x4)), .int (nI (y4)), .int (bI z4)])), (k5, .inr (0, [.ref qa, .int (nI (x5)), .int (nI (y5)), .int (bI z5)])), (k2, .inr (0, [.ref qa, .int (nI (x2)), .int (nI (y2)), .int (bI z2)])), (kc, .inr (0, [.ref qa, .int (nI (y_2174)), .int (nI (y_2175)), .int (bI my_2176)]))]) (w1 := [(kr, .inr (2, [.ref kw, .ref kt, .int tb])), (kw, .inr (0, [.ref qa, .int (nI (x9)), .int (nI (y9)), .int (bI m_2181)])), (k6, .inr (0, [.ref qa, .int (nI (y_2182)), .int (nI (y_2183)), .int (bI my_2184)])), (qa, .inl (cA, 1200, .inl (f)))]) hP hD [8, 9, 2, 11] [0, 1, 3, 4, 5, 6, 7, 10] rfl rfl (by decide) (by decide) hk1 hFc hP1 hD1
    have hK := (hK.sub (tys' := []) [] rfl).app hK1
    generalize H1 = H at hP hS ⊢
    have hP : va_P (dC, dI) cls_ [(h0, .inr (4, [.ref qa, .ref kr, .ref k1, .ref k2, .ref k3, .ref k4, .ref k5, .ref k6, .ref km, .ref kp, .ref kD, .int (nI (ee)), .int (nI (gl)), .int (nI (wd)), .int (bI il)])), (km, .inr (1, [.ref kc, .int pl, .int rg])), (k1, .inr (0, [.ref qa, .int (nI (x1)), .int (nI (y1)), .int (bI z1)])), (k3, .inr (0, [.ref qa, .int (nI (x3)), .int (nI (y3)), .int (bI z3)])), (k4, .inr (0, [.ref qa, .int (nI (x4)), .int (nI (y4)), .int (bI z4)])), (k5, .inr (0, [.ref qa, .int (nI (x5)), .int (nI (y5)), .int (bI z5)])), (k2, .inr (0, [.ref qa, .int (nI (x2)), .int (nI (y2)), .int (bI z2)])), (kc, .inr (0, [.ref qa, .int (nI (y_2174)), .int (nI (y_2175)), .int (bI my_2176)])), (kr, .inr (2, [.ref kw, .ref kt, .int tb])), (kw, .inr (0, [.ref qa, .int (nI (x9)), .int (nI (y9)), .int (bI m_2181)])), (k6, .inr (0, [.ref qa, .int (nI (y_2182)), .int (nI (y_2183)), .int (bI my_2184)])), (qa, .inl (cA, 1200, .inl (f)))] H := hP
    have hD : va_D A [(h0, .inr (4, [.ref qa, .ref kr, .ref k1, .ref k2, .ref k3, .ref k4, .ref k5, .ref k6, .ref km, .ref kp, .ref kD, .int (nI (ee)), .int (nI (gl)), .int (nI (wd)), .int (bI il)])), (km, .inr (1, [.ref kc, .int pl, .int rg])), (k1, .inr (0, [.ref qa, .int (nI (x1)), .int (nI (y1)), .int (bI z1)])), (k3, .inr (0, [.ref qa, .int (nI (x3)), .int (nI (y3)), .int (bI z3)])), (k4, .inr (0, [.ref qa, .int (nI (x4)), .int (nI (y4)), .int (bI z4)])), (k5, .inr (0, [.ref qa, .int (nI (x5)), .int (nI (y5)), .int (bI z5)])), (k2, .inr (0, [.ref qa, .int (nI (x2)), .int (nI (y2)), .int (bI z2)])), (kc, .inr (0, [.ref qa, .int (nI (y_2174)), .int (nI (y_2175)), .int (bI my_2176)])), (kr, .inr (2, [.ref kw, .ref kt, .int tb])), (kw, .inr (0, [.ref qa, .int (nI (x9)), .int (nI (y9)), .int (bI m_2181)])), (k6, .inr (0, [.ref qa, .int (nI (y_2182)), .int (nI (y_2183)), .int (bI my_2184)])), (qa, .inl (cA, 1200, .inl (f)))] := hD
    have hK : va_K (dC, dI) cls_ [(cA, .int)] s := hK
    have hw_r2180 := hw
    obtain ⟨bb2186, rfl⟩ := hw_r2180
    refine lv_if_eq (tgt := 126) hx hb d_FO_findTables_34 (by decide) (fun hc2187 => ?_) (fun hc2187 => ?_)
    · skip
      have hc2187b : bb2186 = false := bI_0 hc2187
      refine lv_iconst (v := 0) hx hb d_FO_findTables_126 (by decide) ?_
      refine W.widen (k := 0) (n := 0) (Nat.le_of_ble_eq_true rfl) (Nat.le_of_ble_eq_true rfl) ?_
      have hP9 := hP.sub (ws' := [(h0, .inr (4, [.ref qa, .ref kr, .ref k1, .ref k2, .ref k3, .ref k4, .ref k5, .ref k6, .ref km, .ref kp, .ref kD, .int (nI (ee)), .int (nI (gl)), .int (nI (wd)), .int (bI il)])), (kr, .inr (2, [.ref kw, .ref kt, .int tb])), (kw, .inr (0, [.ref qa, .int (nI (x9)), .int (nI (y9)), .int (bI m_2181)])), (km, .inr (1, [.ref kc, .int pl, .int rg])), (kc, .inr (0, [.ref qa, .int (nI (y_2174)), .int (nI (y_2175)), .int (bI my_2176)])), (k6, .inr (0, [.ref qa, .int (nI (y_2182)), .int (nI (y_2183)), .int (bI my_2184)])), (k1, .inr (0, [.ref qa, .int (nI (x1)), .int (nI (y1)), .int (bI z1)])), (k3, .inr (0, [.ref qa, .int (nI (x3)), .int (nI (y3)), .int (bI z3)])), (k4, .inr (0, [.ref qa, .int (nI (x4)), .int (nI (y4)), .int (bI z4)])), (k5, .inr (0, [.ref qa, .int (nI (x5)), .int (nI (y5)), .int (bI z5)])), (k2, .inr (0, [.ref qa, .int (nI (x2)), .int (nI (y2)), .int (bI z2)])), (qa, .inl (cA, 1200, .inl (f)))]) [0, 8, 9, 1, 7, 10, 2, 3, 4, 5, 6, 11] rfl
      have hD9 := hD.sub (ws' := [(h0, .inr (4, [.ref qa, .ref kr, .ref k1, .ref k2, .ref k3, .ref k4, .ref k5, .ref k6, .ref km, .ref kp, .ref kD, .int (nI (ee)), .int (nI (gl)), .int (nI (wd)), .int (bI il)])), (kr, .inr (2, [.ref kw, .ref kt, .int tb])), (kw, .inr (0, [.ref qa, .int (nI (x9)), .int (nI (y9)), .int (bI m_2181)])), (km, .inr (1, [.ref kc, .int pl, .int rg])), (kc, .inr (0, [.ref qa, .int (nI (y_2174)), .int (nI (y_2175)), .int (bI my_2176)])), (k6, .inr (0, [.ref qa, .int (nI (y_2182)), .int (nI (y_2183)), .int (bI my_2184)])), (k1, .inr (0, [.ref qa, .int (nI (x1)), .int (nI (y1)), .int (bI z1)])), (k3, .inr (0, [.ref qa, .int (nI (x3)), .int (nI (y3)), .int (bI z3)])), (k4, .inr (0, [.ref qa, .int (nI (x4)), .int (nI (y4)), .int (bI z4)])), (k5, .inr (0, [.ref qa, .int (nI (x5)), .int (nI (y5)), .int (bI z5)])), (k2, .inr (0, [.ref qa, .int (nI (x2)), .int (nI (y2)), .int (bI z2)])), (qa, .inl (cA, 1200, .inl (f)))]) [0, 8, 9, 1, 7, 10, 2, 3, 4, 5, 6, 11] (by decide) rfl
      have hK9 := hK.sub (tys' := [(cA, .int)]) [0] rfl
      exact W.zret (v := 0) (ty := .boolean) hx hb hr (by decide +kernel) (fun t ht hW => ⟨⟨0, (), rfl, ⟨false, rfl⟩, m_2181, y_2174, y_2175, my_2176, y_2182, y_2183, my_2184, x1, y1, z1, x3, y3, z3, x4, y4, z4, x5, y5, z5, x2, y2, z2, by omega, by omega, by omega, by omega, by omega, by omega, by omega, by rw [ht]; exact hP9, va_K.moved hW.alike hK9, hD9⟩, hS.F ht⟩) hS.2.2 d_FO_findTables_127
    · skip
      have hc2187b : bb2186 = true := bI_1 hc2187
      refine lv_aload_n hx hb d_FO_findTables_37 rfl (lv_at hl 0 rfl) ?_
      refine va_get (D := (dC, dI)) (ci := 4) (v := .ref kr) (C := R_FO) (T := F_FO) (N := 15) hx hb hts in_FO hown hK hP 0 rfl rfl 1 (by decide) (hts _ (List.mem_cons_of_mem _ w_118)) (fun _ h9 => h9) rfl d_FO_findTables_38 ?_
      refine lv_ldc2 (v := 1751474532) hx hb hown (hts _ (List.mem_cons_of_mem _ w_394)) d_FO_findTables_41 ?_
      refine lv_aload_n hx hb d_FO_findTables_44 rfl (lv_at hl 0 rfl) ?_
      refine va_get (D := (dC, dI)) (ci := 4) (v := .ref k1) (C := R_FO) (T := F_FO) (N := 15) hx hb hts in_FO hown hK hP 0 rfl rfl 2 (by decide) (hts _ (List.mem_cons_of_mem _ w_119)) (fun _ h9 => h9) rfl d_FO_findTables_45 ?_
      have hPc := hP.sub (ws' := [(kr, .inr (2, [.ref kw, .ref kt, .int tb])), (kw, .inr (0, [.ref qa, .int (nI (x9)), .int (nI (y9)), .int (bI m_2181)])), (k1, .inr (0, [.ref qa, .int (nI (x1)), .int (nI (y1)), .int (bI z1)])), (qa, .inl (cA, 1200, .inl (f)))]) [8, 9, 2, 11] rfl
      have hDc := hD.sub (ws' := [(kr, .inr (2, [.ref kw, .ref kt, .int tb])), (kw, .inr (0, [.ref qa, .int (nI (x9)), .int (nI (y9)), .int (bI m_2181)])), (k1, .inr (0, [.ref qa, .int (nI (x1)), .int (nI (y1)), .int (bI z1)])), (qa, .inl (cA, 1200, .inl (f)))]) [8, 9, 2, 11] (by decide) rfl
      have hKc := hK.sub (tys' := [(cA, .int)]) [0] rfl
      have hFc := va_free (wc := [(kr, .inr (2, [.ref kw, .ref kt, .int tb])), (kw, .inr (0, [.ref qa, .int (nI (x9)), .int (nI (y9)), .int (bI m_2181)])), (k1, .inr (0, [.ref qa, .int (nI (x1)), .int (nI (y1)), .int (bI z1)])), (qa, .inl (cA, 1200, .inl (f)))]) hD hS hA [8, 9, 2, 11] rfl
      refine va_calli (va_runV (As := [.long 1751474532, .ref k1]) (rest := []) ⟨hx, hb, hml, hown, hts⟩ (g_DI_find l dC dI kr kw kt qa x9 y9 m_2181 cA f tb k1 x1 y1 z1 1751474532 H.size (by omega) (by assumption) (by omega)) (cwV 2 hts (tw_inV w_389 w_390 w_391 w_3 w_392) rfl rfl rfl (by decide +kernel) ⟨Nat.le_of_ble_eq_true rfl, Nat.le_of_ble_eq_true rfl⟩) ⟨fun a U g mk q => by obtain ⟨q0, q1, qP, qK, qD⟩ := q; exact ⟨q0, q1, qP, va_K.moved (u := U) (U := U.calling g mk a) (Vm.Alike.refl U.vm) qK, qD⟩, va_recv (hK := hK) (hP := hP) (q0 := 8) (ci := 2) rfl rfl, fun U hU hW => ⟨rfl, by rw [hU], by rw [hU]; exact hPc, va_K.moved hW.alike hKc, hDc.weaken (fun _ _ _ _ => trivial)⟩⟩ rfl rfl hl.1 rfl (lv_room (Nat.le_of_ble_eq_true rfl)) d_FO_findTables_48 ⟨Nat.le_of_ble_eq_true rfl, Nat.le_of_ble_eq_true rfl⟩) hS (fun q _ h => hFc q h) hFc (fun r2188 u t H1 locs ht hvm hw hB hz1 hk1 hS => ?_)
      obtain ⟨m_2189, y_2190, y_2191, my_2192, hq_f2193_0, hP1, hK1, hD1⟩ := hB
      rw [ht] at hP1
      have hK1 := va_K.moved hvm.symm hK1
      obtain ⟨hP, hD⟩ := va_join (wr := [(h0, .inr (4, [.ref qa, .ref kr, .ref k1, .ref k2, .ref k3, .ref k4, .ref k5, .ref k6, .ref km, .ref kp, .ref kD, .int (nI (ee)), .int (nI (gl)), .int (nI (wd)), .int (bI il)])), (km, .inr (1, [.ref kc, .int pl, .int rg])), (k3, .inr (0, [.ref qa, .int (nI (x3)), .int (nI (y3)), .int (bI z3)])), (k4, .inr (0, [.ref qa, .int (nI (x4)), .int (nI (y4)), .int (bI z4)])), (k5, .inr (0, [.ref qa, .int (nI (x5)), .int (nI (y5)), .int (bI z5)])), (k2, .inr (0, [.ref qa, .int (nI (x2)), .int (nI (y2)), .int (bI z2)])), (kc, .inr (0, [.ref qa, .int (nI (y_2174)), .int (nI (y_2175)), .int (bI my_2176)])), (k6, .inr (0, [.ref qa, .int (nI (y_2182)), .int (nI (y_2183)), .int (bI my_2184)]))]) (w1 := [(kr, .inr (2, [.ref kw, .ref kt, .int tb])), (kw, .inr (0, [.ref qa, .int (nI (x9)), .int (nI (y9)), .int (bI m_2189)])), (k1, .inr (0, [.ref qa, .int (nI (y_2190)), .int (nI (y_2191)), .int (bI my_2192)])), (qa, .inl (cA, 1200, .inl (f)))]) hP hD [8, 9, 2, 11] [0, 1, 3, 4, 5, 6, 7, 10] rfl rfl (by decide) (by decide) hk1 hFc hP1 hD1
      have hK := (hK.sub (tys' := []) [] rfl).app hK1
      generalize H1 = H at hP hS ⊢
      have hP : va_P (dC, dI) cls_ [(h0, .inr (4, [.ref qa, .ref kr, .ref k1, .ref k2, .ref k3, .ref k4, .ref k5, .ref k6, .ref km, .ref kp, .ref kD, .int (nI (ee)), .int (nI (gl)), .int (nI (wd)), .int (bI il)])), (km, .inr (1, [.ref kc, .int pl, .int rg])), (k3, .inr (0, [.ref qa, .int (nI (x3)), .int (nI (y3)), .int (bI z3)])), (k4, .inr (0, [.ref qa, .int (nI (x4)), .int (nI (y4)), .int (bI z4)])), (k5, .inr (0, [.ref qa, .int (nI (x5)), .int (nI (y5)), .int (bI z5)])), (k2, .inr (0, [.ref qa, .int (nI (x2)), .int (nI (y2)), .int (bI z2)])), (kc, .inr (0, [.ref qa, .int (nI (y_2174)), .int (nI (y_2175)), .int (bI my_2176)])), (k6, .inr (0, [.ref qa, .int (nI (y_2182)), .int (nI (y_2183)), .int (bI my_2184)])), (kr, .inr (2, [.ref kw, .ref kt, .int tb])), (kw, .inr (0, [.ref qa, .int (nI (x9)), .int (nI (y9)), .int (bI m_2189)])), (k1, .inr (0, [.ref qa, .int (nI (y_2190)), .int (nI (y_2191)), .int (bI my_2192)])), (qa, .inl (cA, 1200, .inl (f)))] H := hP
      have hD : va_D A [(h0, .inr (4, [.ref qa, .ref kr, .ref k1, .ref k2, .ref k3, .ref k4, .ref k5, .ref k6, .ref km, .ref kp, .ref kD, .int (nI (ee)), .int (nI (gl)), .int (nI (wd)), .int (bI il)])), (km, .inr (1, [.ref kc, .int pl, .int rg])), (k3, .inr (0, [.ref qa, .int (nI (x3)), .int (nI (y3)), .int (bI z3)])), (k4, .inr (0, [.ref qa, .int (nI (x4)), .int (nI (y4)), .int (bI z4)])), (k5, .inr (0, [.ref qa, .int (nI (x5)), .int (nI (y5)), .int (bI z5)])), (k2, .inr (0, [.ref qa, .int (nI (x2)), .int (nI (y2)), .int (bI z2)])), (kc, .inr (0, [.ref qa, .int (nI (y_2174)), .int (nI (y_2175)), .int (bI my_2176)])), (k6, .inr (0, [.ref qa, .int (nI (y_2182)), .int (nI (y_2183)), .int (bI my_2184)])), (kr, .inr (2, [.ref kw, .ref kt, .int tb])), (kw, .inr (0, [.ref qa, .int (nI (x9)), .int (nI (y9)), .int (bI m_2189)])), (k1, .inr (0, [.ref qa, .int (nI (y_2190)), .int (nI (y_2191)), .int (bI my_2192)])), (qa, .inl (cA, 1200, .inl (f)))] := hD
      have hK : va_K (dC, dI) cls_ [(cA, .int)] s := hK
      have hw_r2188 := hw
      obtain ⟨bb2194, rfl⟩ := hw_r2188
      refine lv_if_eq (tgt := 126) hx hb d_FO_findTables_51 (by decide) (fun hc2195 => ?_) (fun hc2195 => ?_)
      · skip
        have hc2195b : bb2194 = false := bI_0 hc2195
        refine lv_iconst (v := 0) hx hb d_FO_findTables_126 (by decide) ?_
        refine W.widen (k := 0) (n := 0) (Nat.le_of_ble_eq_true rfl) (Nat.le_of_ble_eq_true rfl) ?_
        have hP9 := hP.sub (ws' := [(h0, .inr (4, [.ref qa, .ref kr, .ref k1, .ref k2, .ref k3, .ref k4, .ref k5, .ref k6, .ref km, .ref kp, .ref kD, .int (nI (ee)), .int (nI (gl)), .int (nI (wd)), .int (bI il)])), (kr, .inr (2, [.ref kw, .ref kt, .int tb])), (kw, .inr (0, [.ref qa, .int (nI (x9)), .int (nI (y9)), .int (bI m_2189)])), (km, .inr (1, [.ref kc, .int pl, .int rg])), (kc, .inr (0, [.ref qa, .int (nI (y_2174)), .int (nI (y_2175)), .int (bI my_2176)])), (k6, .inr (0, [.ref qa, .int (nI (y_2182)), .int (nI (y_2183)), .int (bI my_2184)])), (k1, .inr (0, [.ref qa, .int (nI (y_2190)), .int (nI (y_2191)), .int (bI my_2192)])), (k3, .inr (0, [.ref qa, .int (nI (x3)), .int (nI (y3)), .int (bI z3)])), (k4, .inr (0, [.ref qa, .int (nI (x4)), .int (nI (y4)), .int (bI z4)])), (k5, .inr (0, [.ref qa, .int (nI (x5)), .int (nI (y5)), .int (bI z5)])), (k2, .inr (0, [.ref qa, .int (nI (x2)), .int (nI (y2)), .int (bI z2)])), (qa, .inl (cA, 1200, .inl (f)))]) [0, 8, 9, 1, 6, 7, 10, 2, 3, 4, 5, 11] rfl
        have hD9 := hD.sub (ws' := [(h0, .inr (4, [.ref qa, .ref kr, .ref k1, .ref k2, .ref k3, .ref k4, .ref k5, .ref k6, .ref km, .ref kp, .ref kD, .int (nI (ee)), .int (nI (gl)), .int (nI (wd)), .int (bI il)])), (kr, .inr (2, [.ref kw, .ref kt, .int tb])), (kw, .inr (0, [.ref qa, .int (nI (x9)), .int (nI (y9)), .int (bI m_2189)])), (km, .inr (1, [.ref kc, .int pl, .int rg])), (kc, .inr (0, [.ref qa, .int (nI (y_2174)), .int (nI (y_2175)), .int (bI my_2176)])), (k6, .inr (0, [.ref qa, .int (nI (y_2182)), .int (nI (y_2183)), .int (bI my_2184)])), (k1, .inr (0, [.ref qa, .int (nI (y_2190)), .int (nI (y_2191)), .int (bI my_2192)])), (k3, .inr (0, [.ref qa, .int (nI (x3)), .int (nI (y3)), .int (bI z3)])), (k4, .inr (0, [.ref qa, .int (nI (x4)), .int (nI (y4)), .int (bI z4)])), (k5, .inr (0, [.ref qa, .int (nI (x5)), .int (nI (y5)), .int (bI z5)])), (k2, .inr (0, [.ref qa, .int (nI (x2)), .int (nI (y2)), .int (bI z2)])), (qa, .inl (cA, 1200, .inl (f)))]) [0, 8, 9, 1, 6, 7, 10, 2, 3, 4, 5, 11] (by decide) rfl
        have hK9 := hK.sub (tys' := [(cA, .int)]) [0] rfl
        exact W.zret (v := 0) (ty := .boolean) hx hb hr (by decide +kernel) (fun t ht hW => ⟨⟨0, (), rfl, ⟨false, rfl⟩, m_2189, y_2174, y_2175, my_2176, y_2182, y_2183, my_2184, y_2190, y_2191, my_2192, x3, y3, z3, x4, y4, z4, x5, y5, z5, x2, y2, z2, by omega, by omega, by omega, by omega, by omega, by omega, by omega, by rw [ht]; exact hP9, va_K.moved hW.alike hK9, hD9⟩, hS.F ht⟩) hS.2.2 d_FO_findTables_127
      · skip
        have hc2195b : bb2194 = true := bI_1 hc2195
        refine lv_aload_n hx hb d_FO_findTables_54 rfl (lv_at hl 0 rfl) ?_
        refine va_get (D := (dC, dI)) (ci := 4) (v := .ref kr) (C := R_FO) (T := F_FO) (N := 15) hx hb hts in_FO hown hK hP 0 rfl rfl 1 (by decide) (hts _ (List.mem_cons_of_mem _ w_118)) (fun _ h9 => h9) rfl d_FO_findTables_55 ?_
        refine lv_ldc2 (v := 1751672161) hx hb hown (hts _ (List.mem_cons_of_mem _ w_395)) d_FO_findTables_58 ?_
        refine lv_aload_n hx hb d_FO_findTables_61 rfl (lv_at hl 0 rfl) ?_
        refine va_get (D := (dC, dI)) (ci := 4) (v := .ref k3) (C := R_FO) (T := F_FO) (N := 15) hx hb hts in_FO hown hK hP 0 rfl rfl 4 (by decide) (hts _ (List.mem_cons_of_mem _ w_121)) (fun _ h9 => h9) rfl d_FO_findTables_62 ?_
        have hPc := hP.sub (ws' := [(kr, .inr (2, [.ref kw, .ref kt, .int tb])), (kw, .inr (0, [.ref qa, .int (nI (x9)), .int (nI (y9)), .int (bI m_2189)])), (k3, .inr (0, [.ref qa, .int (nI (x3)), .int (nI (y3)), .int (bI z3)])), (qa, .inl (cA, 1200, .inl (f)))]) [8, 9, 2, 11] rfl
        have hDc := hD.sub (ws' := [(kr, .inr (2, [.ref kw, .ref kt, .int tb])), (kw, .inr (0, [.ref qa, .int (nI (x9)), .int (nI (y9)), .int (bI m_2189)])), (k3, .inr (0, [.ref qa, .int (nI (x3)), .int (nI (y3)), .int (bI z3)])), (qa, .inl (cA, 1200, .inl (f)))]) [8, 9, 2, 11] (by decide) rfl
        have hKc := hK.sub (tys' := [(cA, .int)]) [0] rfl
        have hFc := va_free (wc := [(kr, .inr (2, [.ref kw, .ref kt, .int tb])), (kw, .inr (0, [.ref qa, .int (nI (x9)), .int (nI (y9)), .int (bI m_2189)])), (k3, .inr (0, [.ref qa, .int (nI (x3)), .int (nI (y3)), .int (bI z3)])), (qa, .inl (cA, 1200, .inl (f)))]) hD hS hA [8, 9, 2, 11] rfl
        refine va_calli (va_runV (As := [.long 1751672161, .ref k3]) (rest := []) ⟨hx, hb, hml, hown, hts⟩ (g_DI_find l dC dI kr kw kt qa x9 y9 m_2189 cA f tb k3 x3 y3 z3 1751672161 H.size (by omega) (by assumption) (by omega)) (cwV 2 hts (tw_inV w_389 w_390 w_391 w_3 w_392) rfl rfl rfl (by decide +kernel) ⟨Nat.le_of_ble_eq_true rfl, Nat.le_of_ble_eq_true rfl⟩) ⟨fun a U g mk q => by obtain ⟨q0, q1, qP, qK, qD⟩ := q; exact ⟨q0, q1, qP, va_K.moved (u := U) (U := U.calling g mk a) (Vm.Alike.refl U.vm) qK, qD⟩, va_recv (hK := hK) (hP := hP) (q0 := 8) (ci := 2) rfl rfl, fun U hU hW => ⟨rfl, by rw [hU], by rw [hU]; exact hPc, va_K.moved hW.alike hKc, hDc.weaken (fun _ _ _ _ => trivial)⟩⟩ rfl rfl hl.1 rfl (lv_room (Nat.le_of_ble_eq_true rfl)) d_FO_findTables_65 ⟨Nat.le_of_ble_eq_true rfl, Nat.le_of_ble_eq_true rfl⟩) hS (fun q _ h => hFc q h) hFc (fun r2196 u t H1 locs ht hvm hw hB hz1 hk1 hS => ?_)
        obtain ⟨m_2197, y_2198, y_2199, my_2200, hq_f2201_0, hP1, hK1, hD1⟩ := hB
        rw [ht] at hP1
        have hK1 := va_K.moved hvm.symm hK1
        obtain ⟨hP, hD⟩ := va_join (wr := [(h0, .inr (4, [.ref qa, .ref kr, .ref k1, .ref k2, .ref k3, .ref k4, .ref k5, .ref k6, .ref km, .ref kp, .ref kD, .int (nI (ee)), .int (nI (gl)), .int (nI (wd)), .int (bI il)])), (km, .inr (1, [.ref kc, .int pl, .int rg])), (k4, .inr (0, [.ref qa, .int (nI (x4)), .int (nI (y4)), .int (bI z4)])), (k5, .inr (0, [.ref qa, .int (nI (x5)), .int (nI (y5)), .int (bI z5)])), (k2, .inr (0, [.ref qa, .int (nI (x2)), .int (nI (y2)), .int (bI z2)])), (kc, .inr (0, [.ref qa, .int (nI (y_2174)), .int (nI (y_2175)), .int (bI my_2176)])), (k6, .inr (0, [.ref qa, .int (nI (y_2182)), .int (nI (y_2183)), .int (bI my_2184)])), (k1, .inr (0, [.ref qa, .int (nI (y_2190)), .int (nI (y_2191)), .int (bI my_2192)]))]) (w1 := [(kr, .inr (2, [.ref kw, .ref kt, .int tb])), (kw, .inr (0, [.ref qa, .int (nI (x9)), .int (nI (y9)), .int (bI m_2197)])), (k3, .inr (0, [.ref qa, .int (nI (y_2198)), .int (nI (y_2199)), .int (bI my_2200)])), (qa, .inl (cA, 1200, .inl (f)))]) hP hD [8, 9, 2, 11] [0, 1, 3, 4, 5, 6, 7, 10] rfl rfl (by decide) (by decide) hk1 hFc hP1 hD1
        have hK := (hK.sub (tys' := []) [] rfl).app hK1
        generalize H1 = H at hP hS ⊢
        have hP : va_P (dC, dI) cls_ [(h0, .inr (4, [.ref qa, .ref kr, .ref k1, .ref k2, .ref k3, .ref k4, .ref k5, .ref k6, .ref km, .ref kp, .ref kD, .int (nI (ee)), .int (nI (gl)), .int (nI (wd)), .int (bI il)])), (km, .inr (1, [.ref kc, .int pl, .int rg])), (k4, .inr (0, [.ref qa, .int (nI (x4)), .int (nI (y4)), .int (bI z4)])), (k5, .inr (0, [.ref qa, .int (nI (x5)), .int (nI (y5)), .int (bI z5)])), (k2, .inr (0, [.ref qa, .int (nI (x2)), .int (nI (y2)), .int (bI z2)])), (kc, .inr (0, [.ref qa, .int (nI (y_2174)), .int (nI (y_2175)), .int (bI my_2176)])), (k6, .inr (0, [.ref qa, .int (nI (y_2182)), .int (nI (y_2183)), .int (bI my_2184)])), (k1, .inr (0, [.ref qa, .int (nI (y_2190)), .int (nI (y_2191)), .int (bI my_2192)])), (kr, .inr (2, [.ref kw, .ref kt, .int tb])), (kw, .inr (0, [.ref qa, .int (nI (x9)), .int (nI (y9)), .int (bI m_2197)])), (k3, .inr (0, [.ref qa, .int (nI (y_2198)), .int (nI (y_2199)), .int (bI my_2200)])), (qa, .inl (cA, 1200, .inl (f)))] H := hP
        have hD : va_D A [(h0, .inr (4, [.ref qa, .ref kr, .ref k1, .ref k2, .ref k3, .ref k4, .ref k5, .ref k6, .ref km, .ref kp, .ref kD, .int (nI (ee)), .int (nI (gl)), .int (nI (wd)), .int (bI il)])), (km, .inr (1, [.ref kc, .int pl, .int rg])), (k4, .inr (0, [.ref qa, .int (nI (x4)), .int (nI (y4)), .int (bI z4)])), (k5, .inr (0, [.ref qa, .int (nI (x5)), .int (nI (y5)), .int (bI z5)])), (k2, .inr (0, [.ref qa, .int (nI (x2)), .int (nI (y2)), .int (bI z2)])), (kc, .inr (0, [.ref qa, .int (nI (y_2174)), .int (nI (y_2175)), .int (bI my_2176)])), (k6, .inr (0, [.ref qa, .int (nI (y_2182)), .int (nI (y_2183)), .int (bI my_2184)])), (k1, .inr (0, [.ref qa, .int (nI (y_2190)), .int (nI (y_2191)), .int (bI my_2192)])), (kr, .inr (2, [.ref kw, .ref kt, .int tb])), (kw, .inr (0, [.ref qa, .int (nI (x9)), .int (nI (y9)), .int (bI m_2197)])), (k3, .inr (0, [.ref qa, .int (nI (y_2198)), .int (nI (y_2199)), .int (bI my_2200)])), (qa, .inl (cA, 1200, .inl (f)))] := hD
        have hK : va_K (dC, dI) cls_ [(cA, .int)] s := hK
        have hw_r2196 := hw
        obtain ⟨bb2202, rfl⟩ := hw_r2196
        refine lv_if_eq (tgt := 126) hx hb d_FO_findTables_68 (by decide) (fun hc2203 => ?_) (fun hc2203 => ?_)
        · skip
          have hc2203b : bb2202 = false := bI_0 hc2203
          refine lv_iconst (v := 0) hx hb d_FO_findTables_126 (by decide) ?_
          refine W.widen (k := 0) (n := 0) (Nat.le_of_ble_eq_true rfl) (Nat.le_of_ble_eq_true rfl) ?_
          have hP9 := hP.sub (ws' := [(h0, .inr (4, [.ref qa, .ref kr, .ref k1, .ref k2, .ref k3, .ref k4, .ref k5, .ref k6, .ref km, .ref kp, .ref kD, .int (nI (ee)), .int (nI (gl)), .int (nI (wd)), .int (bI il)])), (kr, .inr (2, [.ref kw, .ref kt, .int tb])), (kw, .inr (0, [.ref qa, .int (nI (x9)), .int (nI (y9)), .int (bI m_2197)])), (km, .inr (1, [.ref kc, .int pl, .int rg])), (kc, .inr (0, [.ref qa, .int (nI (y_2174)), .int (nI (y_2175)), .int (bI my_2176)])), (k6, .inr (0, [.ref qa, .int (nI (y_2182)), .int (nI (y_2183)), .int (bI my_2184)])), (k1, .inr (0, [.ref qa, .int (nI (y_2190)), .int (nI (y_2191)), .int (bI my_2192)])), (k3, .inr (0, [.ref qa, .int (nI (y_2198)), .int (nI (y_2199)), .int (bI my_2200)])), (k4, .inr (0, [.ref qa, .int (nI (x4)), .int (nI (y4)), .int (bI z4)])), (k5, .inr (0, [.ref qa, .int (nI (x5)), .int (nI (y5)), .int (bI z5)])), (k2, .inr (0, [.ref qa, .int (nI (x2)), .int (nI (y2)), .int (bI z2)])), (qa, .inl (cA, 1200, .inl (f)))]) [0, 8, 9, 1, 5, 6, 7, 10, 2, 3, 4, 11] rfl
          have hD9 := hD.sub (ws' := [(h0, .inr (4, [.ref qa, .ref kr, .ref k1, .ref k2, .ref k3, .ref k4, .ref k5, .ref k6, .ref km, .ref kp, .ref kD, .int (nI (ee)), .int (nI (gl)), .int (nI (wd)), .int (bI il)])), (kr, .inr (2, [.ref kw, .ref kt, .int tb])), (kw, .inr (0, [.ref qa, .int (nI (x9)), .int (nI (y9)), .int (bI m_2197)])), (km, .inr (1, [.ref kc, .int pl, .int rg])), (kc, .inr (0, [.ref qa, .int (nI (y_2174)), .int (nI (y_2175)), .int (bI my_2176)])), (k6, .inr (0, [.ref qa, .int (nI (y_2182)), .int (nI (y_2183)), .int (bI my_2184)])), (k1, .inr (0, [.ref qa, .int (nI (y_2190)), .int (nI (y_2191)), .int (bI my_2192)])), (k3, .inr (0, [.ref qa, .int (nI (y_2198)), .int (nI (y_2199)), .int (bI my_2200)])), (k4, .inr (0, [.ref qa, .int (nI (x4)), .int (nI (y4)), .int (bI z4)])), (k5, .inr (0, [.ref qa, .int (nI (x5)), .int (nI (y5)), .int (bI z5)])), (k2, .inr (0, [.ref qa, .int (nI (x2)), .int (nI (y2)), .int (bI z2)])), (qa, .inl (cA, 1200, .inl (f)))]) [0, 8, 9, 1, 5, 6, 7, 10, 2, 3, 4, 11] (by decide) rfl
          have hK9 := hK.sub (tys' := [(cA, .int)]) [0] rfl
          exact W.zret (v := 0) (ty := .boolean) hx hb hr (by decide +kernel) (fun t ht hW => ⟨⟨0, (), rfl, ⟨false, rfl⟩, m_2197, y_2174, y_2175, my_2176, y_2182, y_2183, my_2184, y_2190, y_2191, my_2192, y_2198, y_2199, my_2200, x4, y4, z4, x5, y5, z5, x2, y2, z2, by omega, by omega, by omega, by omega, by omega, by omega, by omega, by rw [ht]; exact hP9, va_K.moved hW.alike hK9, hD9⟩, hS.F ht⟩) hS.2.2 d_FO_findTables_127
        · skip
          have hc2203b : bb2202 = true := bI_1 hc2203
          refine lv_aload_n hx hb d_FO_findTables_71 rfl (lv_at hl 0 rfl) ?_
          refine va_get (D := (dC, dI)) (ci := 4) (v := .ref kr) (C := R_FO) (T := F_FO) (N := 15) hx hb hts in_FO hown hK hP 0 rfl rfl 1 (by decide) (hts _ (List.mem_cons_of_mem _ w_118)) (fun _ h9 => h9) rfl d_FO_findTables_72 ?_
          refine lv_ldc2 (v := 1752003704) hx hb hown (hts _ (List.mem_cons_of_mem _ w_396)) d_FO_findTables_75 ?_
          refine lv_aload_n hx hb d_FO_findTables_78 rfl (lv_at hl 0 rfl) ?_
          refine va_get (D := (dC, dI)) (ci := 4) (v := .ref k4) (C := R_FO) (T := F_FO) (N := 15) hx hb hts in_FO hown hK hP 0 rfl rfl 5 (by decide) (hts _ (List.mem_cons_of_mem _ w_122)) (fun _ h9 => h9) rfl d_FO_findTables_79 ?_
          have hPc := hP.sub (ws' := [(kr, .inr (2, [.ref kw, .ref kt, .int tb])), (kw, .inr (0, [.ref qa, .int (nI (x9)), .int (nI (y9)), .int (bI m_2197)])), (k4, .inr (0, [.ref qa, .int (nI (x4)), .int (nI (y4)), .int (bI z4)])), (qa, .inl (cA, 1200, .inl (f)))]) [8, 9, 2, 11] rfl
          have hDc := hD.sub (ws' := [(kr, .inr (2, [.ref kw, .ref kt, .int tb])), (kw, .inr (0, [.ref qa, .int (nI (x9)), .int (nI (y9)), .int (bI m_2197)])), (k4, .inr (0, [.ref qa, .int (nI (x4)), .int (nI (y4)), .int (bI z4)])), (qa, .inl (cA, 1200, .inl (f)))]) [8, 9, 2, 11] (by decide) rfl
          have hKc := hK.sub (tys' := [(cA, .int)]) [0] rfl
          have hFc := va_free (wc := [(kr, .inr (2, [.ref kw, .ref kt, .int tb])), (kw, .inr (0, [.ref qa, .int (nI (x9)), .int (nI (y9)), .int (bI m_2197)])), (k4, .inr (0, [.ref qa, .int (nI (x4)), .int (nI (y4)), .int (bI z4)])), (qa, .inl (cA, 1200, .inl (f)))]) hD hS hA [8, 9, 2, 11] rfl
          refine va_calli (va_runV (As := [.long 1752003704, .ref k4]) (rest := []) ⟨hx, hb, hml, hown, hts⟩ (g_DI_find l dC dI kr kw kt qa x9 y9 m_2197 cA f tb k4 x4 y4 z4 1752003704 H.size (by omega) (by assumption) (by omega)) (cwV 2 hts (tw_inV w_389 w_390 w_391 w_3 w_392) rfl rfl rfl (by decide +kernel) ⟨Nat.le_of_ble_eq_true rfl, Nat.le_of_ble_eq_true rfl⟩) ⟨fun a U g mk q => by obtain ⟨q0, q1, qP, qK, qD⟩ := q; exact ⟨q0, q1, qP, va_K.moved (u := U) (U := U.calling g mk a) (Vm.Alike.refl U.vm) qK, qD⟩, va_recv (hK := hK) (hP := hP) (q0 := 8) (ci := 2) rfl rfl, fun U hU hW => ⟨rfl, by rw [hU], by rw [hU]; exact hPc, va_K.moved hW.alike hKc, hDc.weaken (fun _ _ _ _ => trivial)⟩⟩ rfl rfl hl.1 rfl (lv_room (Nat.le_of_ble_eq_true rfl)) d_FO_findTables_82 ⟨Nat.le_of_ble_eq_true rfl, Nat.le_of_ble_eq_true rfl⟩) hS (fun q _ h => hFc q h) hFc (fun r2204 u t H1 locs ht hvm hw hB hz1 hk1 hS => ?_)
          obtain ⟨m_2205, y_2206, y_2207, my_2208, hq_f2209_0, hP1, hK1, hD1⟩ := hB
          rw [ht] at hP1
          have hK1 := va_K.moved hvm.symm hK1
          obtain ⟨hP, hD⟩ := va_join (wr := [(h0, .inr (4, [.ref qa, .ref kr, .ref k1, .ref k2, .ref k3, .ref k4, .ref k5, .ref k6, .ref km, .ref kp, .ref kD, .int (nI (ee)), .int (nI (gl)), .int (nI (wd)), .int (bI il)])), (km, .inr (1, [.ref kc, .int pl, .int rg])), (k5, .inr (0, [.ref qa, .int (nI (x5)), .int (nI (y5)), .int (bI z5)])), (k2, .inr (0, [.ref qa, .int (nI (x2)), .int (nI (y2)), .int (bI z2)])), (kc, .inr (0, [.ref qa, .int (nI (y_2174)), .int (nI (y_2175)), .int (bI my_2176)])), (k6, .inr (0, [.ref qa, .int (nI (y_2182)), .int (nI (y_2183)), .int (bI my_2184)])), (k1, .inr (0, [.ref qa, .int (nI (y_2190)), .int (nI (y_2191)), .int (bI my_2192)])), (k3, .inr (0, [.ref qa, .int (nI (y_2198)), .int (nI (y_2199)), .int (bI my_2200)]))]) (w1 := [(kr, .inr (2, [.ref kw, .ref kt, .int tb])), (kw, .inr (0, [.ref qa, .int (nI (x9)), .int (nI (y9)), .int (bI m_2205)])), (k4, .inr (0, [.ref qa, .int (nI (y_2206)), .int (nI (y_2207)), .int (bI my_2208)])), (qa, .inl (cA, 1200, .inl (f)))]) hP hD [8, 9, 2, 11] [0, 1, 3, 4, 5, 6, 7, 10] rfl rfl (by decide) (by decide) hk1 hFc hP1 hD1
          have hK := (hK.sub (tys' := []) [] rfl).app hK1
          generalize H1 = H at hP hS ⊢
          have hP : va_P (dC, dI) cls_ [(h0, .inr (4, [.ref qa, .ref kr, .ref k1, .ref k2, .ref k3, .ref k4, .ref k5, .ref k6, .ref km, .ref kp, .ref kD, .int (nI (ee)), .int (nI (gl)), .int (nI (wd)), .int (bI il)])), (km, .inr (1, [.ref kc, .int pl, .int rg])), (k5, .inr (0, [.ref qa, .int (nI (x5)), .int (nI (y5)), .int (bI z5)])), (k2, .inr (0, [.ref qa, .int (nI (x2)), .int (nI (y2)), .int (bI z2)])), (kc, .inr (0, [.ref qa, .int (nI (y_2174)), .int (nI (y_2175)), .int (bI my_2176)])), (k6, .inr (0, [.ref qa, .int (nI (y_2182)), .int (nI (y_2183)), .int (bI my_2184)])), (k1, .inr (0, [.ref qa, .int (nI (y_2190)), .int (nI (y_2191)), .int (bI my_2192)])), (k3, .inr (0, [.ref qa, .int (nI (y_2198)), .int (nI (y_2199)), .int (bI my_2200)])), (kr, .inr (2, [.ref kw, .ref kt, .int tb])), (kw, .inr (0, [.ref qa, .int (nI (x9)), .int (nI (y9)), .int (bI m_2205)])), (k4, .inr (0, [.ref qa, .int (nI (y_2206)), .int (nI (y_2207)), .int (bI my_2208)])), (qa, .inl (cA, 1200, .inl (f)))] H := hP
          have hD : va_D A [(h0, .inr (4, [.ref qa, .ref kr, .ref k1, .ref k2, .ref k3, .ref k4, .ref k5, .ref k6, .ref km, .ref kp, .ref kD, .int (nI (ee)), .int (nI (gl)), .int (nI (wd)), .int (bI il)])), (km, .inr (1, [.ref kc, .int pl, .int rg])), (k5, .inr (0, [.ref qa, .int (nI (x5)), .int (nI (y5)), .int (bI z5)])), (k2, .inr (0, [.ref qa, .int (nI (x2)), .int (nI (y2)), .int (bI z2)])), (kc, .inr (0, [.ref qa, .int (nI (y_2174)), .int (nI (y_2175)), .int (bI my_2176)])), (k6, .inr (0, [.ref qa, .int (nI (y_2182)), .int (nI (y_2183)), .int (bI my_2184)])), (k1, .inr (0, [.ref qa, .int (nI (y_2190)), .int (nI (y_2191)), .int (bI my_2192)])), (k3, .inr (0, [.ref qa, .int (nI (y_2198)), .int (nI (y_2199)), .int (bI my_2200)])), (kr, .inr (2, [.ref kw, .ref kt, .int tb])), (kw, .inr (0, [.ref qa, .int (nI (x9)), .int (nI (y9)), .int (bI m_2205)])), (k4, .inr (0, [.ref qa, .int (nI (y_2206)), .int (nI (y_2207)), .int (bI my_2208)])), (qa, .inl (cA, 1200, .inl (f)))] := hD
          have hK : va_K (dC, dI) cls_ [(cA, .int)] s := hK
          have hw_r2204 := hw
          obtain ⟨bb2210, rfl⟩ := hw_r2204
          refine lv_if_eq (tgt := 126) hx hb d_FO_findTables_85 (by decide) (fun hc2211 => ?_) (fun hc2211 => ?_)
          · skip
            have hc2211b : bb2210 = false := bI_0 hc2211
            refine lv_iconst (v := 0) hx hb d_FO_findTables_126 (by decide) ?_
            refine W.widen (k := 0) (n := 0) (Nat.le_of_ble_eq_true rfl) (Nat.le_of_ble_eq_true rfl) ?_
            have hP9 := hP.sub (ws' := [(h0, .inr (4, [.ref qa, .ref kr, .ref k1, .ref k2, .ref k3, .ref k4, .ref k5, .ref k6, .ref km, .ref kp, .ref kD, .int (nI (ee)), .int (nI (gl)), .int (nI (wd)), .int (bI il)])), (kr, .inr (2, [.ref kw, .ref kt, .int tb])), (kw, .inr (0, [.ref qa, .int (nI (x9)), .int (nI (y9)), .int (bI m_2205)])), (km, .inr (1, [.ref kc, .int pl, .int rg])), (kc, .inr (0, [.ref qa, .int (nI (y_2174)), .int (nI (y_2175)), .int (bI my_2176)])), (k6, .inr (0, [.ref qa, .int (nI (y_2182)), .int (nI (y_2183)), .int (bI my_2184)])), (k1, .inr (0, [.ref qa, .int (nI (y_2190)), .int (nI (y_2191)), .int (bI my_2192)])), (k3, .inr (0, [.ref qa, .int (nI (y_2198)), .int (nI (y_2199)), .int (bI my_2200)])), (k4, .inr (0, [.ref qa, .int (nI (y_2206)), .int (nI (y_2207)), .int (bI my_2208)])), (k5, .inr (0, [.ref qa, .int (nI (x5)), .int (nI (y5)), .int (bI z5)])), (k2, .inr (0, [.ref qa, .int (nI (x2)), .int (nI (y2)), .int (bI z2)])), (qa, .inl (cA, 1200, .inl (f)))]) [0, 8, 9, 1, 4, 5, 6, 7, 10, 2, 3, 11] rfl
            have hD9 := hD.sub (ws' := [(h0, .inr (4, [.ref qa, .ref kr, .ref k1, .ref k2, .ref k3, .ref k4, .ref k5, .ref k6, .ref km, .ref kp, .ref kD, .int (nI (ee)), .int (nI (gl)), .int (nI (wd)), .int (bI il)])), (kr, .inr (2, [.ref kw, .ref kt, .int tb])), (kw, .inr (0, [.ref qa, .int (nI (x9)), .int (nI (y9)), .int (bI m_2205)])), (km, .inr (1, [.ref kc, .int pl, .int rg])), (kc, .inr (0, [.ref qa, .int (nI (y_2174)), .int (nI (y_2175)), .int (bI my_2176)])), (k6, .inr (0, [.ref qa, .int (nI (y_2182)), .int (nI (y_2183)), .int (bI my_2184)])), (k1, .inr (0, [.ref qa, .int (nI (y_2190)), .int (nI (y_2191)), .int (bI my_2192)])), (k3, .inr (0, [.ref qa, .int (nI (y_2198)), .int (nI (y_2199)), .int (bI my_2200)])), (k4, .inr (0, [.ref qa, .int (nI (y_2206)), .int (nI (y_2207)), .int (bI my_2208)])), (k5, .inr (0, [.ref qa, .int (nI (x5)), .int (nI (y5)), .int (bI z5)])), (k2, .inr (0, [.ref qa, .int (nI (x2)), .int (nI (y2)), .int (bI z2)])), (qa, .inl (cA, 1200, .inl (f)))]) [0, 8, 9, 1, 4, 5, 6, 7, 10, 2, 3, 11] (by decide) rfl
            have hK9 := hK.sub (tys' := [(cA, .int)]) [0] rfl
            exact W.zret (v := 0) (ty := .boolean) hx hb hr (by decide +kernel) (fun t ht hW => ⟨⟨0, (), rfl, ⟨false, rfl⟩, m_2205, y_2174, y_2175, my_2176, y_2182, y_2183, my_2184, y_2190, y_2191, my_2192, y_2198, y_2199, my_2200, y_2206, y_2207, my_2208, x5, y5, z5, x2, y2, z2, by omega, by omega, by omega, by omega, by omega, by omega, by omega, by rw [ht]; exact hP9, va_K.moved hW.alike hK9, hD9⟩, hS.F ht⟩) hS.2.2 d_FO_findTables_127
          · skip
            have hc2211b : bb2210 = true := bI_1 hc2211
            refine lv_aload_n hx hb d_FO_findTables_88 rfl (lv_at hl 0 rfl) ?_
            refine va_get (D := (dC, dI)) (ci := 4) (v := .ref kr) (C := R_FO) (T := F_FO) (N := 15) hx hb hts in_FO hown hK hP 0 rfl rfl 1 (by decide) (hts _ (List.mem_cons_of_mem _ w_118)) (fun _ h9 => h9) rfl d_FO_findTables_89 ?_
            refine lv_ldc2 (v := 1819239265) hx hb hown (hts _ (List.mem_cons_of_mem _ w_397)) d_FO_findTables_92 ?_
            refine lv_aload_n hx hb d_FO_findTables_95 rfl (lv_at hl 0 rfl) ?_
            refine va_get (D := (dC, dI)) (ci := 4) (v := .ref k5) (C := R_FO) (T := F_FO) (N := 15) hx hb hts in_FO hown hK hP 0 rfl rfl 6 (by decide) (hts _ (List.mem_cons_of_mem _ w_123)) (fun _ h9 => h9) rfl d_FO_findTables_96 ?_
            have hPc := hP.sub (ws' := [(kr, .inr (2, [.ref kw, .ref kt, .int tb])), (kw, .inr (0, [.ref qa, .int (nI (x9)), .int (nI (y9)), .int (bI m_2205)])), (k5, .inr (0, [.ref qa, .int (nI (x5)), .int (nI (y5)), .int (bI z5)])), (qa, .inl (cA, 1200, .inl (f)))]) [8, 9, 2, 11] rfl
            have hDc := hD.sub (ws' := [(kr, .inr (2, [.ref kw, .ref kt, .int tb])), (kw, .inr (0, [.ref qa, .int (nI (x9)), .int (nI (y9)), .int (bI m_2205)])), (k5, .inr (0, [.ref qa, .int (nI (x5)), .int (nI (y5)), .int (bI z5)])), (qa, .inl (cA, 1200, .inl (f)))]) [8, 9, 2, 11] (by decide) rfl
            have hKc := hK.sub (tys' := [(cA, .int)]) [0] rfl
            have hFc := va_free (wc := [(kr, .inr (2, [.ref kw, .ref kt, .int tb])), (kw, .inr (0, [.ref qa, .int (nI (x9)), .int (nI (y9)), .int (bI m_2205)])), (k5, .inr (0, [.ref qa, .int (nI (x5)), .int (nI (y5)), .int (bI z5)])), (qa, .inl (cA, 1200, .inl (f)))]) hD hS hA [8, 9, 2, 11] rfl
            refine va_calli (va_runV (As := [.long 1819239265, .ref k5]) (rest := []) ⟨hx, hb, hml, hown, hts⟩ (g_DI_find l dC dI kr kw kt qa x9 y9 m_2205 cA f tb k5 x5 y5 z5 1819239265 H.size (by omega) (by assumption) (by omega)) (cwV 2 hts (tw_inV w_389 w_390 w_391 w_3 w_392) rfl rfl rfl (by decide +kernel) ⟨Nat.le_of_ble_eq_true rfl, Nat.le_of_ble_eq_true rfl⟩) ⟨fun a U g mk q => by obtain ⟨q0, q1, qP, qK, qD⟩ := q; exact ⟨q0, q1, qP, va_K.moved (u := U) (U := U.calling g mk a) (Vm.Alike.refl U.vm) qK, qD⟩, va_recv (hK := hK) (hP := hP) (q0 := 8) (ci := 2) rfl rfl, fun U hU hW => ⟨rfl, by rw [hU], by rw [hU]; exact hPc, va_K.moved hW.alike hKc, hDc.weaken (fun _ _ _ _ => trivial)⟩⟩ rfl rfl hl.1 rfl (lv_room (Nat.le_of_ble_eq_true rfl)) d_FO_findTables_99 ⟨Nat.le_of_ble_eq_true rfl, Nat.le_of_ble_eq_true rfl⟩) hS (fun q _ h => hFc q h) hFc (fun r2212 u t H1 locs ht hvm hw hB hz1 hk1 hS => ?_)
            obtain ⟨m_2213, y_2214, y_2215, my_2216, hq_f2217_0, hP1, hK1, hD1⟩ := hB
            rw [ht] at hP1
            have hK1 := va_K.moved hvm.symm hK1
            obtain ⟨hP, hD⟩ := va_join (wr := [(h0, .inr (4, [.ref qa, .ref kr, .ref k1, .ref k2, .ref k3, .ref k4, .ref k5, .ref k6, .ref km, .ref kp, .ref kD, .int (nI (ee)), .int (nI (gl)), .int (nI (wd)), .int (bI il)])), (km, .inr (1, [.ref kc, .int pl, .int rg])), (k2, .inr (0, [.ref qa, .int (nI (x2)), .int (nI (y2)), .int (bI z2)])), (kc, .inr (0, [.ref qa, .int (nI (y_2174)), .int (nI (y_2175)), .int (bI my_2176)])), (k6, .inr (0, [.ref qa, .int (nI (y_2182)), .int (nI (y_2183)), .int (bI my_2184)])), (k1, .inr (0, [.ref qa, .int (nI (y_2190)), .int (nI (y_2191)), .int (bI my_2192)])), (k3, .inr (0, [.ref qa, .int (nI (y_2198)), .int (nI (y_2199)), .int (bI my_2200)])), (k4, .inr (0, [.ref qa, .int (nI (y_2206)), .int (nI (y_2207)), .int (bI my_2208)]))]) (w1 := [(kr, .inr (2, [.ref kw, .ref kt, .int tb])), (kw, .inr (0, [.ref qa, .int (nI (x9)), .int (nI (y9)), .int (bI m_2213)])), (k5, .inr (0, [.ref qa, .int (nI (y_2214)), .int (nI (y_2215)), .int (bI my_2216)])), (qa, .inl (cA, 1200, .inl (f)))]) hP hD [8, 9, 2, 11] [0, 1, 3, 4, 5, 6, 7, 10] rfl rfl (by decide) (by decide) hk1 hFc hP1 hD1
            have hK := (hK.sub (tys' := []) [] rfl).app hK1
            generalize H1 = H at hP hS ⊢
            have hP : va_P (dC, dI) cls_ [(h0, .inr (4, [.ref qa, .ref kr, .ref k1, .ref k2, .ref k3, .ref k4, .ref k5, .ref k6, .ref km, .ref kp, .ref kD, .int (nI (ee)), .int (nI (gl)), .int (nI (wd)), .int (bI il)])), (km, .inr (1, [.ref kc, .int pl, .int rg])), (k2, .inr (0, [.ref qa, .int (nI (x2)), .int (nI (y2)), .int (bI z2)])), (kc, .inr (0, [.ref qa, .int (nI (y_2174)), .int (nI (y_2175)), .int (bI my_2176)])), (k6, .inr (0, [.ref qa, .int (nI (y_2182)), .int (nI (y_2183)), .int (bI my_2184)])), (k1, .inr (0, [.ref qa, .int (nI (y_2190)), .int (nI (y_2191)), .int (bI my_2192)])), (k3, .inr (0, [.ref qa, .int (nI (y_2198)), .int (nI (y_2199)), .int (bI my_2200)])), (k4, .inr (0, [.ref qa, .int (nI (y_2206)), .int (nI (y_2207)), .int (bI my_2208)])), (kr, .inr (2, [.ref kw, .ref kt, .int tb])), (kw, .inr (0, [.ref qa, .int (nI (x9)), .int (nI (y9)), .int (bI m_2213)])), (k5, .inr (0, [.ref qa, .int (nI (y_2214)), .int (nI (y_2215)), .int (bI my_2216)])), (qa, .inl (cA, 1200, .inl (f)))] H := hP
            have hD : va_D A [(h0, .inr (4, [.ref qa, .ref kr, .ref k1, .ref k2, .ref k3, .ref k4, .ref k5, .ref k6, .ref km, .ref kp, .ref kD, .int (nI (ee)), .int (nI (gl)), .int (nI (wd)), .int (bI il)])), (km, .inr (1, [.ref kc, .int pl, .int rg])), (k2, .inr (0, [.ref qa, .int (nI (x2)), .int (nI (y2)), .int (bI z2)])), (kc, .inr (0, [.ref qa, .int (nI (y_2174)), .int (nI (y_2175)), .int (bI my_2176)])), (k6, .inr (0, [.ref qa, .int (nI (y_2182)), .int (nI (y_2183)), .int (bI my_2184)])), (k1, .inr (0, [.ref qa, .int (nI (y_2190)), .int (nI (y_2191)), .int (bI my_2192)])), (k3, .inr (0, [.ref qa, .int (nI (y_2198)), .int (nI (y_2199)), .int (bI my_2200)])), (k4, .inr (0, [.ref qa, .int (nI (y_2206)), .int (nI (y_2207)), .int (bI my_2208)])), (kr, .inr (2, [.ref kw, .ref kt, .int tb])), (kw, .inr (0, [.ref qa, .int (nI (x9)), .int (nI (y9)), .int (bI m_2213)])), (k5, .inr (0, [.ref qa, .int (nI (y_2214)), .int (nI (y_2215)), .int (bI my_2216)])), (qa, .inl (cA, 1200, .inl (f)))] := hD
            have hK : va_K (dC, dI) cls_ [(cA, .int)] s := hK
            have hw_r2212 := hw
            obtain ⟨bb2218, rfl⟩ := hw_r2212
            refine lv_if_eq (tgt := 126) hx hb d_FO_findTables_102 (by decide) (fun hc2219 => ?_) (fun hc2219 => ?_)
            · skip
              have hc2219b : bb2218 = false := bI_0 hc2219
              refine lv_iconst (v := 0) hx hb d_FO_findTables_126 (by decide) ?_
              refine W.widen (k := 0) (n := 0) (Nat.le_of_ble_eq_true rfl) (Nat.le_of_ble_eq_true rfl) ?_
              have hP9 := hP.sub (ws' := [(h0, .inr (4, [.ref qa, .ref kr, .ref k1, .ref k2, .ref k3, .ref k4, .ref k5, .ref k6, .ref km, .ref kp, .ref kD, .int (nI (ee)), .int (nI (gl)), .int (nI (wd)), .int (bI il)])), (kr, .inr (2, [.ref kw, .ref kt, .int tb])), (kw, .inr (0, [.ref qa, .int (nI (x9)), .int (nI (y9)), .int (bI m_2213)])), (km, .inr (1, [.ref kc, .int pl, .int rg])), (kc, .inr (0, [.ref qa, .int (nI (y_2174)), .int (nI (y_2175)), .int (bI my_2176)])), (k6, .inr (0, [.ref qa, .int (nI (y_2182)), .int (nI (y_2183)), .int (bI my_2184)])), (k1, .inr (0, [.ref qa, .int (nI (y_2190)), .int (nI (y_2191)), .int (bI my_2192)])), (k3, .inr (0, [.ref qa, .int (nI (y_2198)), .int (nI (y_2199)), .int (bI my_2200)])), (k4, .inr (0, [.ref qa, .int (nI (y_2206)), .int (nI (y_2207)), .int (bI my_2208)])), (k5, .inr (0, [.ref qa, .int (nI (y_2214)), .int (nI (y_2215)), .int (bI my_2216)])), (k2, .inr (0, [.ref qa, .int (nI (x2)), .int (nI (y2)), .int (bI z2)])), (qa, .inl (cA, 1200, .inl (f)))]) [0, 8, 9, 1, 3, 4, 5, 6, 7, 10, 2, 11] rfl
              have hD9 := hD.sub (ws' := [(h0, .inr (4, [.ref qa, .ref kr, .ref k1, .ref k2, .ref k3, .ref k4, .ref k5, .ref k6, .ref km, .ref kp, .ref kD, .int (nI (ee)), .int (nI (gl)), .int (nI (wd)), .int (bI il)])), (kr, .inr (2, [.ref kw, .ref kt, .int tb])), (kw, .inr (0, [.ref qa, .int (nI (x9)), .int (nI (y9)), .int (bI m_2213)])), (km, .inr (1, [.ref kc, .int pl, .int rg])), (kc, .inr (0, [.ref qa, .int (nI (y_2174)), .int (nI (y_2175)), .int (bI my_2176)])), (k6, .inr (0, [.ref qa, .int (nI (y_2182)), .int (nI (y_2183)), .int (bI my_2184)])), (k1, .inr (0, [.ref qa, .int (nI (y_2190)), .int (nI (y_2191)), .int (bI my_2192)])), (k3, .inr (0, [.ref qa, .int (nI (y_2198)), .int (nI (y_2199)), .int (bI my_2200)])), (k4, .inr (0, [.ref qa, .int (nI (y_2206)), .int (nI (y_2207)), .int (bI my_2208)])), (k5, .inr (0, [.ref qa, .int (nI (y_2214)), .int (nI (y_2215)), .int (bI my_2216)])), (k2, .inr (0, [.ref qa, .int (nI (x2)), .int (nI (y2)), .int (bI z2)])), (qa, .inl (cA, 1200, .inl (f)))]) [0, 8, 9, 1, 3, 4, 5, 6, 7, 10, 2, 11] (by decide) rfl
              have hK9 := hK.sub (tys' := [(cA, .int)]) [0] rfl
              exact W.zret (v := 0) (ty := .boolean) hx hb hr (by decide +kernel) (fun t ht hW => ⟨⟨0, (), rfl, ⟨false, rfl⟩, m_2213, y_2174, y_2175, my_2176, y_2182, y_2183, my_2184, y_2190, y_2191, my_2192, y_2198, y_2199, my_2200, y_2206, y_2207, my_2208, y_2214, y_2215, my_2216, x2, y2, z2, by omega, by omega, by omega, by omega, by omega, by omega, by omega, by rw [ht]; exact hP9, va_K.moved hW.alike hK9, hD9⟩, hS.F ht⟩) hS.2.2 d_FO_findTables_127
            · skip
              have hc2219b : bb2218 = true := bI_1 hc2219
              refine lv_aload_n hx hb d_FO_findTables_105 rfl (lv_at hl 0 rfl) ?_
              refine va_get (D := (dC, dI)) (ci := 4) (v := .ref kr) (C := R_FO) (T := F_FO) (N := 15) hx hb hts in_FO hown hK hP 0 rfl rfl 1 (by decide) (hts _ (List.mem_cons_of_mem _ w_118)) (fun _ h9 => h9) rfl d_FO_findTables_106 ?_
              refine lv_ldc2 (v := 1835104368) hx hb hown (hts _ (List.mem_cons_of_mem _ w_398)) d_FO_findTables_109 ?_
              refine lv_aload_n hx hb d_FO_findTables_112 rfl (lv_at hl 0 rfl) ?_
              refine va_get (D := (dC, dI)) (ci := 4) (v := .ref k2) (C := R_FO) (T := F_FO) (N := 15) hx hb hts in_FO hown hK hP 0 rfl rfl 3 (by decide) (hts _ (List.mem_cons_of_mem _ w_120)) (fun _ h9 => h9) rfl d_FO_findTables_113 ?_
              have hPc := hP.sub (ws' := [(kr, .inr (2, [.ref kw, .ref kt, .int tb])), (kw, .inr (0, [.ref qa, .int (nI (x9)), .int (nI (y9)), .int (bI m_2213)])), (k2, .inr (0, [.ref qa, .int (nI (x2)), .int (nI (y2)), .int (bI z2)])), (qa, .inl (cA, 1200, .inl (f)))]) [8, 9, 2, 11] rfl
              have hDc := hD.sub (ws' := [(kr, .inr (2, [.ref kw, .ref kt, .int tb])), (kw, .inr (0, [.ref qa, .int (nI (x9)), .int (nI (y9)), .int (bI m_2213)])), (k2, .inr (0, [.ref qa, .int (nI (x2)), .int (nI (y2)), .int (bI z2)])), (qa, .inl (cA, 1200, .inl (f)))]) [8, 9, 2, 11] (by decide) rfl
              have hKc := hK.sub (tys' := [(cA, .int)]) [0] rfl
              have hFc := va_free (wc := [(kr, .inr (2, [.ref kw, .ref kt, .int tb])), (kw, .inr (0, [.ref qa, .int (nI (x9)), .int (nI (y9)), .int (bI m_2213)])), (k2, .inr (0, [.ref qa, .int (nI (x2)), .int (nI (y2)), .int (bI z2)])), (qa, .inl (cA, 1200, .inl (f)))]) hD hS hA [8, 9, 2, 11] rfl
              refine va_calli (va_runV (As := [.long 1835104368, .ref k2]) (rest := []) ⟨hx, hb, hml, hown, hts⟩ (g_DI_find l dC dI kr kw kt qa x9 y9 m_2213 cA f tb k2 x2 y2 z2 1835104368 H.size (by omega) (by assumption) (by omega)) (cwV 2 hts (tw_inV w_389 w_390 w_391 w_3 w_392) rfl rfl rfl (by decide +kernel) ⟨Nat.le_of_ble_eq_true rfl, Nat.le_of_ble_eq_true rfl⟩) ⟨fun a U g mk q => by obtain ⟨q0, q1, qP, qK, qD⟩ := q; exact ⟨q0, q1, qP, va_K.moved (u := U) (U := U.calling g mk a) (Vm.Alike.refl U.vm) qK, qD⟩, va_recv (hK := hK) (hP := hP) (q0 := 8) (ci := 2) rfl rfl, fun U hU hW => ⟨rfl, by rw [hU], by rw [hU]; exact hPc, va_K.moved hW.alike hKc, hDc.weaken (fun _ _ _ _ => trivial)⟩⟩ rfl rfl hl.1 rfl (lv_room (Nat.le_of_ble_eq_true rfl)) d_FO_findTables_116 ⟨Nat.le_of_ble_eq_true rfl, Nat.le_of_ble_eq_true rfl⟩) hS (fun q _ h => hFc q h) hFc (fun r2220 u t H1 locs ht hvm hw hB hz1 hk1 hS => ?_)
              obtain ⟨m_2221, y_2222, y_2223, my_2224, hq_f2225_0, hP1, hK1, hD1⟩ := hB
              rw [ht] at hP1
              have hK1 := va_K.moved hvm.symm hK1
              obtain ⟨hP, hD⟩ := va_join (wr := [(h0, .inr (4, [.ref qa, .ref kr, .ref k1, .ref k2, .ref k3, .ref k4, .ref k5, .ref k6, .ref km, .ref kp, .ref kD, .int (nI (ee)), .int (nI (gl)), .int (nI (wd)), .int (bI il)])), (km, .inr (1, [.ref kc, .int pl, .int rg])), (kc, .inr (0, [.ref qa, .int (nI (y_2174)), .int (nI (y_2175)), .int (bI my_2176)])), (k6, .inr (0, [.ref qa, .int (nI (y_2182)), .int (nI (y_2183)), .int (bI my_2184)])), (k1, .inr (0, [.ref qa, .int (nI (y_2190)), .int (nI (y_2191)), .int (bI my_2192)])), (k3, .inr (0, [.ref qa, .int (nI (y_2198)), .int (nI (y_2199)), .int (bI my_2200)])), (k4, .inr (0, [.ref qa, .int (nI (y_2206)), .int (nI (y_2207)), .int (bI my_2208)])), (k5, .inr (0, [.ref qa, .int (nI (y_2214)), .int (nI (y_2215)), .int (bI my_2216)]))]) (w1 := [(kr, .inr (2, [.ref kw, .ref kt, .int tb])), (kw, .inr (0, [.ref qa, .int (nI (x9)), .int (nI (y9)), .int (bI m_2221)])), (k2, .inr (0, [.ref qa, .int (nI (y_2222)), .int (nI (y_2223)), .int (bI my_2224)])), (qa, .inl (cA, 1200, .inl (f)))]) hP hD [8, 9, 2, 11] [0, 1, 3, 4, 5, 6, 7, 10] rfl rfl (by decide) (by decide) hk1 hFc hP1 hD1
              have hK := (hK.sub (tys' := []) [] rfl).app hK1
              generalize H1 = H at hP hS ⊢
              have hP : va_P (dC, dI) cls_ [(h0, .inr (4, [.ref qa, .ref kr, .ref k1, .ref k2, .ref k3, .ref k4, .ref k5, .ref k6, .ref km, .ref kp, .ref kD, .int (nI (ee)), .int (nI (gl)), .int (nI (wd)), .int (bI il)])), (km, .inr (1, [.ref kc, .int pl, .int rg])), (kc, .inr (0, [.ref qa, .int (nI (y_2174)), .int (nI (y_2175)), .int (bI my_2176)])), (k6, .inr (0, [.ref qa, .int (nI (y_2182)), .int (nI (y_2183)), .int (bI my_2184)])), (k1, .inr (0, [.ref qa, .int (nI (y_2190)), .int (nI (y_2191)), .int (bI my_2192)])), (k3, .inr (0, [.ref qa, .int (nI (y_2198)), .int (nI (y_2199)), .int (bI my_2200)])), (k4, .inr (0, [.ref qa, .int (nI (y_2206)), .int (nI (y_2207)), .int (bI my_2208)])), (k5, .inr (0, [.ref qa, .int (nI (y_2214)), .int (nI (y_2215)), .int (bI my_2216)])), (kr, .inr (2, [.ref kw, .ref kt, .int tb])), (kw, .inr (0, [.ref qa, .int (nI (x9)), .int (nI (y9)), .int (bI m_2221)])), (k2, .inr (0, [.ref qa, .int (nI (y_2222)), .int (nI (y_2223)), .int (bI my_2224)])), (qa, .inl (cA, 1200, .inl (f)))] H := hP
              have hD : va_D A [(h0, .inr (4, [.ref qa, .ref kr, .ref k1, .ref k2, .ref k3, .ref k4, .ref k5, .ref k6, .ref km, .ref kp, .ref kD, .int (nI (ee)), .int (nI (gl)), .int (nI (wd)), .int (bI il)])), (km, .inr (1, [.ref kc, .int pl, .int rg])), (kc, .inr (0, [.ref qa, .int (nI (y_2174)), .int (nI (y_2175)), .int (bI my_2176)])), (k6, .inr (0, [.ref qa, .int (nI (y_2182)), .int (nI (y_2183)), .int (bI my_2184)])), (k1, .inr (0, [.ref qa, .int (nI (y_2190)), .int (nI (y_2191)), .int (bI my_2192)])), (k3, .inr (0, [.ref qa, .int (nI (y_2198)), .int (nI (y_2199)), .int (bI my_2200)])), (k4, .inr (0, [.ref qa, .int (nI (y_2206)), .int (nI (y_2207)), .int (bI my_2208)])), (k5, .inr (0, [.ref qa, .int (nI (y_2214)), .int (nI (y_2215)), .int (bI my_2216)])), (kr, .inr (2, [.ref kw, .ref kt, .int tb])), (kw, .inr (0, [.ref qa, .int (nI (x9)), .int (nI (y9)), .int (bI m_2221)])), (k2, .inr (0, [.ref qa, .int (nI (y_2222)), .int (nI (y_2223)), .int (bI my_2224)])), (qa, .inl (cA, 1200, .inl (f)))] := hD
              have hK : va_K (dC, dI) cls_ [(cA, .int)] s := hK
              have hw_r2220 := hw
              obtain ⟨bb2226, rfl⟩ := hw_r2220
              refine lv_if_eq (tgt := 126) hx hb d_FO_findTables_119 (by decide) (fun hc2227 => ?_) (fun hc2227 => ?_)
              · skip
                have hc2227b : bb2226 = false := bI_0 hc2227
                refine lv_iconst (v := 0) hx hb d_FO_findTables_126 (by decide) ?_
                refine W.widen (k := 0) (n := 0) (Nat.le_of_ble_eq_true rfl) (Nat.le_of_ble_eq_true rfl) ?_
                have hP9 := hP.sub (ws' := [(h0, .inr (4, [.ref qa, .ref kr, .ref k1, .ref k2, .ref k3, .ref k4, .ref k5, .ref k6, .ref km, .ref kp, .ref kD, .int (nI (ee)), .int (nI (gl)), .int (nI (wd)), .int (bI il)])), (kr, .inr (2, [.ref kw, .ref kt, .int tb])), (kw, .inr (0, [.ref qa, .int (nI (x9)), .int (nI (y9)), .int (bI m_2221)])), (km, .inr (1, [.ref kc, .int pl, .int rg])), (kc, .inr (0, [.ref qa, .int (nI (y_2174)), .int (nI (y_2175)), .int (bI my_2176)])), (k6, .inr (0, [.ref qa, .int (nI (y_2182)), .int (nI (y_2183)), .int (bI my_2184)])), (k1, .inr (0, [.ref qa, .int (nI (y_2190)), .int (nI (y_2191)), .int (bI my_2192)])), (k3, .inr (0, [.ref qa, .int (nI (y_2198)), .int (nI (y_2199)), .int (bI my_2200)])), (k4, .inr (0, [.ref qa, .int (nI (y_2206)), .int (nI (y_2207)), .int (bI my_2208)])), (k5, .inr (0, [.ref qa, .int (nI (y_2214)), .int (nI (y_2215)), .int (bI my_2216)])), (k2, .inr (0, [.ref qa, .int (nI (y_2222)), .int (nI (y_2223)), .int (bI my_2224)])), (qa, .inl (cA, 1200, .inl (f)))]) [0, 8, 9, 1, 2, 3, 4, 5, 6, 7, 10, 11] rfl
                have hD9 := hD.sub (ws' := [(h0, .inr (4, [.ref qa, .ref kr, .ref k1, .ref k2, .ref k3, .ref k4, .ref k5, .ref k6, .ref km, .ref kp, .ref kD, .int (nI (ee)), .int (nI (gl)), .int (nI (wd)), .int (bI il)])), (kr, .inr (2, [.ref kw, .ref kt, .int tb])), (kw, .inr (0, [.ref qa, .int (nI (x9)), .int (nI (y9)), .int (bI m_2221)])), (km, .inr (1, [.ref kc, .int pl, .int rg])), (kc, .inr (0, [.ref qa, .int (nI (y_2174)), .int (nI (y_2175)), .int (bI my_2176)])), (k6, .inr (0, [.ref qa, .int (nI (y_2182)), .int (nI (y_2183)), .int (bI my_2184)])), (k1, .inr (0, [.ref qa, .int (nI (y_2190)), .int (nI (y_2191)), .int (bI my_2192)])), (k3, .inr (0, [.ref qa, .int (nI (y_2198)), .int (nI (y_2199)), .int (bI my_2200)])), (k4, .inr (0, [.ref qa, .int (nI (y_2206)), .int (nI (y_2207)), .int (bI my_2208)])), (k5, .inr (0, [.ref qa, .int (nI (y_2214)), .int (nI (y_2215)), .int (bI my_2216)])), (k2, .inr (0, [.ref qa, .int (nI (y_2222)), .int (nI (y_2223)), .int (bI my_2224)])), (qa, .inl (cA, 1200, .inl (f)))]) [0, 8, 9, 1, 2, 3, 4, 5, 6, 7, 10, 11] (by decide) rfl
                have hK9 := hK.sub (tys' := [(cA, .int)]) [0] rfl
                exact W.zret (v := 0) (ty := .boolean) hx hb hr (by decide +kernel) (fun t ht hW => ⟨⟨0, (), rfl, ⟨false, rfl⟩, m_2221, y_2174, y_2175, my_2176, y_2182, y_2183, my_2184, y_2190, y_2191, my_2192, y_2198, y_2199, my_2200, y_2206, y_2207, my_2208, y_2214, y_2215, my_2216, y_2222, y_2223, my_2224, by omega, by omega, by omega, by omega, by omega, by omega, by omega, by rw [ht]; exact hP9, va_K.moved hW.alike hK9, hD9⟩, hS.F ht⟩) hS.2.2 d_FO_findTables_127
              · skip
                have hc2227b : bb2226 = true := bI_1 hc2227
                refine lv_iconst (v := 1) hx hb d_FO_findTables_122 (by decide) ?_
                refine lv_goto (tgt := 127) hx hb d_FO_findTables_123 (by decide) ?_
                refine W.widen (k := 0) (n := 0) (Nat.le_of_ble_eq_true rfl) (Nat.le_of_ble_eq_true rfl) ?_
                have hP9 := hP.sub (ws' := [(h0, .inr (4, [.ref qa, .ref kr, .ref k1, .ref k2, .ref k3, .ref k4, .ref k5, .ref k6, .ref km, .ref kp, .ref kD, .int (nI (ee)), .int (nI (gl)), .int (nI (wd)), .int (bI il)])), (kr, .inr (2, [.ref kw, .ref kt, .int tb])), (kw, .inr (0, [.ref qa, .int (nI (x9)), .int (nI (y9)), .int (bI m_2221)])), (km, .inr (1, [.ref kc, .int pl, .int rg])), (kc, .inr (0, [.ref qa, .int (nI (y_2174)), .int (nI (y_2175)), .int (bI my_2176)])), (k6, .inr (0, [.ref qa, .int (nI (y_2182)), .int (nI (y_2183)), .int (bI my_2184)])), (k1, .inr (0, [.ref qa, .int (nI (y_2190)), .int (nI (y_2191)), .int (bI my_2192)])), (k3, .inr (0, [.ref qa, .int (nI (y_2198)), .int (nI (y_2199)), .int (bI my_2200)])), (k4, .inr (0, [.ref qa, .int (nI (y_2206)), .int (nI (y_2207)), .int (bI my_2208)])), (k5, .inr (0, [.ref qa, .int (nI (y_2214)), .int (nI (y_2215)), .int (bI my_2216)])), (k2, .inr (0, [.ref qa, .int (nI (y_2222)), .int (nI (y_2223)), .int (bI my_2224)])), (qa, .inl (cA, 1200, .inl (f)))]) [0, 8, 9, 1, 2, 3, 4, 5, 6, 7, 10, 11] rfl
                have hD9 := hD.sub (ws' := [(h0, .inr (4, [.ref qa, .ref kr, .ref k1, .ref k2, .ref k3, .ref k4, .ref k5, .ref k6, .ref km, .ref kp, .ref kD, .int (nI (ee)), .int (nI (gl)), .int (nI (wd)), .int (bI il)])), (kr, .inr (2, [.ref kw, .ref kt, .int tb])), (kw, .inr (0, [.ref qa, .int (nI (x9)), .int (nI (y9)), .int (bI m_2221)])), (km, .inr (1, [.ref kc, .int pl, .int rg])), (kc, .inr (0, [.ref qa, .int (nI (y_2174)), .int (nI (y_2175)), .int (bI my_2176)])), (k6, .inr (0, [.ref qa, .int (nI (y_2182)), .int (nI (y_2183)), .int (bI my_2184)])), (k1, .inr (0, [.ref qa, .int (nI (y_2190)), .int (nI (y_2191)), .int (bI my_2192)])), (k3, .inr (0, [.ref qa, .int (nI (y_2198)), .int (nI (y_2199)), .int (bI my_2200)])), (k4, .inr (0, [.ref qa, .int (nI (y_2206)), .int (nI (y_2207)), .int (bI my_2208)])), (k5, .inr (0, [.ref qa, .int (nI (y_2214)), .int (nI (y_2215)), .int (bI my_2216)])), (k2, .inr (0, [.ref qa, .int (nI (y_2222)), .int (nI (y_2223)), .int (bI my_2224)])), (qa, .inl (cA, 1200, .inl (f)))]) [0, 8, 9, 1, 2, 3, 4, 5, 6, 7, 10, 11] (by decide) rfl
                have hK9 := hK.sub (tys' := [(cA, .int)]) [0] rfl
                exact W.zret (v := 1) (ty := .boolean) hx hb hr (by decide +kernel) (fun t ht hW => ⟨⟨1, (), rfl, ⟨true, rfl⟩, m_2221, y_2174, y_2175, my_2176, y_2182, y_2183, my_2184, y_2190, y_2191, my_2192, y_2198, y_2199, my_2200, y_2206, y_2207, my_2208, y_2214, y_2215, my_2216, y_2222, y_2223, my_2224, by omega, by omega, by omega, by omega, by omega, by omega, by omega, by rw [ht]; exact hP9, va_K.moved hW.alike hK9, hD9⟩, hS.F ht⟩) hS.2.2 d_FO_findTables_127
set_option maxHeartbeats 4000000 in
set_option maxRecDepth 100000 in
/-- GlyphLines$Font.kernIsRight -/
theorem g_FO_kernIsRight (l : Launch) (dC : Nat → ClassId) (dI : Nat → Nat → Nat) (h0 : Nat) (qa : Nat) (kr : Nat) (k1 : Nat) (k2 : Nat) (k3 : Nat) (k4 : Nat) (k5 : Nat) (k6 : Nat) (km : Nat) (kp : Nat) (kD : Nat) (ee : Nat) (gl : Nat) (wd : Nat) (il : Bool) (kw : Nat) (kt : Nat) (tb : Int32) (x9 : Nat) (y9 : Nat) (z9 : Bool) (kk : Nat) (pr : Nat) (x8 : Nat) (y8 : Nat) (z8 : Bool) (cA : ClassId) (f : Nat → Int32) (sz : Nat) (hq0 : ee < 65536) (hq1 : gl < 65536) (hq2 : wd < 65536) (hq3 : pr < 65536) (hq4 : x8 + y8 ≤ 1200) (hq5 : x9 + y9 ≤ 1200) (hq6 : isB f) : Met l y_FO_kernIsRight s_FO_kernIsRight ({ frames := 14, cells := 0, slots := 0, locals := 500 }) (va_Pc [.ref h0] (fun U => U.heap.size = sz ∧ va_P (dC, dI) cls_ [(h0, .inr (4, [.ref qa, .ref kr, .ref k1, .ref k2, .ref k3, .ref k4, .ref k5, .ref k6, .ref km, .ref kp, .ref kD, .int (nI (ee)), .int (nI (gl)), .int (nI (wd)), .int (bI il)])), (kr, .inr (2, [.ref kw, .ref kt, .int tb])), (kw, .inr (0, [.ref qa, .int (nI (x9)), .int (nI (y9)), .int (bI z9)])), (kp, .inr (3, [.ref kk, .int (nI (pr))])), (kk, .inr (0, [.ref qa, .int (nI (x8)), .int (nI (y8)), .int (bI z8)])), (qa, .inl (cA, 1200, .inl (f)))] U.heap ∧ va_K (dC, dI) cls_ [(cA, .int)] U ∧ va_D (fun _ => True) [(h0, .inr (4, [.ref qa, .ref kr, .ref k1, .ref k2, .ref k3, .ref k4, .ref k5, .ref k6, .ref km, .ref kp, .ref kD, .int (nI (ee)), .int (nI (gl)), .int (nI (wd)), .int (bI il)])), (kr, .inr (2, [.ref kw, .ref kt, .int tb])), (kw, .inr (0, [.ref qa, .int (nI (x9)), .int (nI (y9)), .int (bI z9)])), (kp, .inr (3, [.ref kk, .int (nI (pr))])), (kk, .inr (0, [.ref qa, .int (nI (x8)), .int (nI (y8)), .int (bI z8)])), (qa, .inl (cA, 1200, .inl (f)))] ∧ nests U)) (va_Qi (fun (r : Int32) (_ : Unit) => ∃ b9 : Bool, r = bI b9) (fun (_ : Unit) (t : State) => ∃ (z9_2 : Bool) (x8_2 : Nat) (y8_2 : Nat) (z8_2 : Bool) (pr_2 : Nat), pr_2 < 65536 ∧ x8_2 + y8_2 ≤ 1200 ∧ va_P (dC, dI) cls_ [(h0, .inr (4, [.ref qa, .ref kr, .ref k1, .ref k2, .ref k3, .ref k4, .ref k5, .ref k6, .ref km, .ref kp, .ref kD, .int (nI (ee)), .int (nI (gl)), .int (nI (wd)), .int (bI il)])), (kr, .inr (2, [.ref kw, .ref kt, .int tb])), (kw, .inr (0, [.ref qa, .int (nI (x9)), .int (nI (y9)), .int (bI z9_2)])), (kp, .inr (3, [.ref kk, .int (nI (pr_2))])), (kk, .inr (0, [.ref qa, .int (nI (x8_2)), .int (nI (y8_2)), .int (bI z8_2)])), (qa, .inl (cA, 1200, .inl (f)))] t.heap ∧ va_K (dC, dI) cls_ [(cA, .int)] t ∧ va_D (va_A [(h0, .inr (4, [.ref qa, .ref kr, .ref k1, .ref k2, .ref k3, .ref k4, .ref k5, .ref k6, .ref km, .ref kp, .ref kD, .int (nI (ee)), .int (nI (gl)), .int (nI (wd)), .int (bI il)])), (kr, .inr (2, [.ref kw, .ref kt, .int tb])), (kw, .inr (0, [.ref qa, .int (nI (x9)), .int (nI (y9)), .int (bI z9)])), (kp, .inr (3, [.ref kk, .int (nI (pr))])), (kk, .inr (0, [.ref qa, .int (nI (x8)), .int (nI (y8)), .int (bI z8)])), (qa, .inl (cA, 1200, .inl (f)))] sz) [(h0, .inr (4, [.ref qa, .ref kr, .ref k1, .ref k2, .ref k3, .ref k4, .ref k5, .ref k6, .ref km, .ref kp, .ref kD, .int (nI (ee)), .int (nI (gl)), .int (nI (wd)), .int (bI il)])), (kr, .inr (2, [.ref kw, .ref kt, .int tb])), (kw, .inr (0, [.ref qa, .int (nI (x9)), .int (nI (y9)), .int (bI z9_2)])), (kp, .inr (3, [.ref kk, .int (nI (pr_2))])), (kk, .inr (0, [.ref qa, .int (nI (x8_2)), .int (nI (y8_2)), .int (bI z8_2)])), (qa, .inl (cA, 1200, .inl (f)))]) (va_A [(h0, .inr (4, [.ref qa, .ref kr, .ref k1, .ref k2, .ref k3, .ref k4, .ref k5, .ref k6, .ref km, .ref kp, .ref kD, .int (nI (ee)), .int (nI (gl)), .int (nI (wd)), .int (bI il)])), (kr, .inr (2, [.ref kw, .ref kt, .int tb])), (kw, .inr (0, [.ref qa, .int (nI (x9)), .int (nI (y9)), .int (bI z9)])), (kp, .inr (3, [.ref kk, .int (nI (pr))])), (kk, .inr (0, [.ref qa, .int (nI (x8)), .int (nI (y8)), .int (bI z8)])), (qa, .inl (cA, 1200, .inl (f)))] sz)) 0 0 (va_A [(h0, .inr (4, [.ref qa, .ref kr, .ref k1, .ref k2, .ref k3, .ref k4, .ref k5, .ref k6, .ref km, .ref kp, .ref kD, .int (nI (ee)), .int (nI (gl)), .int (nI (wd)), .int (bI il)])), (kr, .inr (2, [.ref kw, .ref kt, .int tb])), (kw, .inr (0, [.ref qa, .int (nI (x9)), .int (nI (y9)), .int (bI z9)])), (kp, .inr (3, [.ref kk, .int (nI (pr))])), (kk, .inr (0, [.ref qa, .int (nI (x8)), .int (nI (y8)), .int (bI z8)])), (qa, .inl (cA, 1200, .inl (f)))] sz) := by
  refine Met.ofW (cc := b_FO_kernIsRight) (maxL := 1) (ret := (some .boolean)) (by decide) rfl ?_
  intro p e s m args below meth c s₁ B hml hv
  obtain ⟨rfl, hsz, hP, hK, hD0, hNs⟩ := hv
  have hx := B.exec
  have hb := B.bytes
  have hr := B.returns
  have hts := atoms_spec (ws := s_FO_kernIsRight) B.pre
  have hown : s.vm.findClass R_FO = some m.cls := findClass_of_methodNamed B.named
  have hlocks := B.notSynchronized
  subst hsz
  have hD := hD0.self (sz := s.heap.size)
  generalize hAe : va_A [(h0, .inr (4, [.ref qa, .ref kr, .ref k1, .ref k2, .ref k3, .ref k4, .ref k5, .ref k6, .ref km, .ref kp, .ref kD, .int (nI (ee)), .int (nI (gl)), .int (nI (wd)), .int (bI il)])), (kr, .inr (2, [.ref kw, .ref kt, .int tb])), (kw, .inr (0, [.ref qa, .int (nI (x9)), .int (nI (y9)), .int (bI z9)])), (kp, .inr (3, [.ref kk, .int (nI (pr))])), (kk, .inr (0, [.ref qa, .int (nI (x8)), .int (nI (y8)), .int (bI z8)])), (qa, .inl (cA, 1200, .inl (f)))] s.heap.size = A at hD ⊢
  have hA : ∀ q : Nat, s.heap.size ≤ q → A q := fun q h => by rw [← hAe]; exact Or.inr h
  have hS : va_S A s.heap s.heap [] := va_S.rf
  have hP : va_P (dC, dI) cls_ [(h0, .inr (4, [.ref qa, .ref kr, .ref k1, .ref k2, .ref k3, .ref k4, .ref k5, .ref k6, .ref km, .ref kp, .ref kD, .int (nI (ee)), .int (nI (gl)), .int (nI (wd)), .int (bI il)])), (kr, .inr (2, [.ref kw, .ref kt, .int tb])), (kw, .inr (0, [.ref qa, .int (nI (x9)), .int (nI (y9)), .int (bI z9)])), (kp, .inr (3, [.ref kk, .int (nI (pr))])), (kk, .inr (0, [.ref qa, .int (nI (x8)), .int (nI (y8)), .int (bI z8)])), (qa, .inl (cA, 1200, .inl (f)))] s.heap := hP
  have hl := lv_entry ([.ref h0]) (n := 1) (Nat.le_of_ble_eq_true rfl)
  rw [lg_entry_eq]
  generalize (lg_sl ([.ref h0]) ++ List.replicate (1 - (lg_sl ([.ref h0])).length) Slot.unset).toArray = ls at hl ⊢
  have hl : lv_has ls 1 [(0, .ref h0)] := hl
  refine lv_aload_n hx hb d_FO_kernIsRight_0 rfl (lv_at hl 0 rfl) ?_
  refine va_get (D := (dC, dI)) (ci := 4) (v := .ref kr) (C := R_FO) (T := F_FO) (N := 15) hx hb hts in_FO hown hK hP 0 rfl rfl 1 (by decide) (hts _ (List.mem_cons_of_mem _ w_118)) (fun _ h9 => h9) rfl d_FO_kernIsRight_1 ?_
  refine lv_ldc2 (v := 1801810542) hx hb hown (hts _ (List.mem_cons_of_mem _ w_453)) d_FO_kernIsRight_4 ?_
  refine lv_aload_n hx hb d_FO_kernIsRight_7 rfl (lv_at hl 0 rfl) ?_
  refine va_get (D := (dC, dI)) (ci := 4) (v := .ref kp) (C := R_FO) (T := F_FO) (N := 15) hx hb hts in_FO hown hK hP 0 rfl rfl 9 (by decide) (hts _ (List.mem_cons_of_mem _ w_126)) (fun _ h9 => h9) rfl d_FO_kernIsRight_8 ?_
  refine va_getN (D := (dC, dI)) (ci := 3) (v := .ref kk) (C := R_PA) (T := F_PA) (N := 2) (host := "GlyphLines") hx hb hts in_PA hown hK hP 3 rfl rfl 0 (by decide) (va_Nw.use rfl (nest_8 hNs)) (fun _ h9 => h9) rfl d_FO_kernIsRight_11 ?_
  have hPc := hP.sub (ws' := [(kr, .inr (2, [.ref kw, .ref kt, .int tb])), (kw, .inr (0, [.ref qa, .int (nI (x9)), .int (nI (y9)), .int (bI z9)])), (kk, .inr (0, [.ref qa, .int (nI (x8)), .int (nI (y8)), .int (bI z8)])), (qa, .inl (cA, 1200, .inl (f)))]) [1, 2, 4, 5] rfl
  have hDc := hD.sub (ws' := [(kr, .inr (2, [.ref kw, .ref kt, .int tb])), (kw, .inr (0, [.ref qa, .int (nI (x9)), .int (nI (y9)), .int (bI z9)])), (kk, .inr (0, [.ref qa, .int (nI (x8)), .int (nI (y8)), .int (bI z8)])), (qa, .inl (cA, 1200, .inl (f)))]) [1, 2, 4, 5] (by decide) rfl
  have hKc := hK.sub (tys' := [(cA, .int)]) [0] rfl
  have hFc := va_free (wc := [(kr, .inr (2, [.ref kw, .ref kt, .int tb])), (kw, .inr (0, [.ref qa, .int (nI (x9)), .int (nI (y9)), .int (bI z9)])), (kk, .inr (0, [.ref qa, .int (nI (x8)), .int (nI (y8)), .int (bI z8)])), (qa, .inl (cA, 1200, .inl (f)))]) hD hS hA [1, 2, 4, 5] rfl
  refine va_calli (va_runV (As := [.long 1801810542, .ref kk]) (rest := []) ⟨hx, hb, hml, hown, hts⟩ (g_DI_find l dC dI kr kw kt qa x9 y9 z9 cA f tb kk x8 y8 z8 1801810542 s.heap.size (by omega) (by assumption) (by omega)) (cwV 2 hts (tw_inV w_389 w_390 w_391 w_3 w_392) rfl rfl rfl (by decide +kernel) ⟨Nat.le_of_ble_eq_true rfl, Nat.le_of_ble_eq_true rfl⟩) ⟨fun a U g mk q => by obtain ⟨q0, q1, qP, qK, qD⟩ := q; exact ⟨q0, q1, qP, va_K.moved (u := U) (U := U.calling g mk a) (Vm.Alike.refl U.vm) qK, qD⟩, va_recv (hK := hK) (hP := hP) (q0 := 1) (ci := 2) rfl rfl, fun U hU hW => ⟨rfl, by rw [hU], by rw [hU]; exact hPc, va_K.moved hW.alike hKc, hDc.weaken (fun _ _ _ _ => trivial)⟩⟩ rfl rfl hl.1 rfl (lv_room (Nat.le_of_ble_eq_true rfl)) d_FO_kernIsRight_14 ⟨Nat.le_of_ble_eq_true rfl, Nat.le_of_ble_eq_true rfl⟩) hS (fun q _ h => hFc q h) hFc (fun r2228 u t H1 locs ht hvm hw hB hz1 hk1 hS => ?_)
  obtain ⟨m_2229, y_2230, y_2231, my_2232, hq_f2233_0, hP1, hK1, hD1⟩ := hB
  rw [ht] at hP1
  have hK1 := va_K.moved hvm.symm hK1
  obtain ⟨hP, hD⟩ := va_join (wr := [(h0, .inr (4, [.ref qa, .ref kr, .ref k1, .ref k2, .ref k3, .ref k4, .ref k5, .ref k6, .ref km, .ref kp, .ref kD, .int (nI (ee)), .int (nI (gl)), .int (nI (wd)), .int (bI il)])), (kp, .inr (3, [.ref kk, .int (nI (pr))]))]) (w1 := [(kr, .inr (2, [.ref kw, .ref kt, .int tb])), (kw, .inr (0, [.ref qa, .int (nI (x9)), .int (nI (y9)), .int (bI m_2229)])), (kk, .inr (0, [.ref qa, .int (nI (y_2230)), .int (nI (y_2231)), .int (bI my_2232)])), (qa, .inl (cA, 1200, .inl (f)))]) hP hD [1, 2, 4, 5] [0, 3] rfl rfl (by decide) (by decide) hk1 hFc hP1 hD1
  have hK := (hK.sub (tys' := []) [] rfl).app hK1
  generalize H1 = H at hP hS ⊢
  have hP : va_P (dC, dI) cls_ [(h0, .inr (4, [.ref qa, .ref kr, .ref k1, .ref k2, .ref k3, .ref k4, .ref k5, .ref k6, .ref km, .ref kp, .ref kD, .int (nI (ee)), .int (nI (gl)), .int (nI (wd)), .int (bI il)])), (kp, .inr (3, [.ref kk, .int (nI (pr))])), (kr, .inr (2, [.ref kw, .ref kt, .int tb])), (kw, .inr (0, [.ref qa, .int (nI (x9)), .int (nI (y9)), .int (bI m_2229)])), (kk, .inr (0, [.ref qa, .int (nI (y_2230)), .int (nI (y_2231)), .int (bI my_2232)])), (qa, .inl (cA, 1200, .inl (f)))] H := hP
  have hD : va_D A [(h0, .inr (4, [.ref qa, .ref kr, .ref k1, .ref k2, .ref k3, .ref k4, .ref k5, .ref k6, .ref km, .ref kp, .ref kD, .int (nI (ee)), .int (nI (gl)), .int (nI (wd)), .int (bI il)])), (kp, .inr (3, [.ref kk, .int (nI (pr))])), (kr, .inr (2, [.ref kw, .ref kt, .int tb])), (kw, .inr (0, [.ref qa, .int (nI (x9)), .int (nI (y9)), .int (bI m_2229)])), (kk, .inr (0, [.ref qa, .int (nI (y_2230)), .int (nI (y_2231)), .int (bI my_2232)])), (qa, .inl (cA, 1200, .inl (f)))] := hD
  have hK : va_K (dC, dI) cls_ [(cA, .int)] s := hK
  have hw_r2228 := hw
  obtain ⟨bb2234, rfl⟩ := hw_r2228
  refine lv_if_eq (tgt := 28) hx hb d_FO_kernIsRight_17 (by decide) (fun hc2235 => ?_) (fun hc2235 => ?_)
  · skip
    have hc2235b : bb2234 = false := bI_0 hc2235
    refine lv_aload_n hx hb d_FO_kernIsRight_28 rfl (lv_at hl 0 rfl) ?_
    refine va_get (D := (dC, dI)) (ci := 4) (v := .ref kp) (C := R_FO) (T := F_FO) (N := 15) hx hb hts in_FO hown hK hP 0 rfl rfl 9 (by decide) (hts _ (List.mem_cons_of_mem _ w_126)) (fun _ h9 => h9) rfl d_FO_kernIsRight_29 ?_
    have hPc := hP.sub (ws' := [(kp, .inr (3, [.ref kk, .int (nI (pr))]))]) [1] rfl
    have hDc := hD.sub (ws' := [(kp, .inr (3, [.ref kk, .int (nI (pr))]))]) [1] (by decide) rfl
    have hKc := hK.sub (tys' := []) [] rfl
    have hFc := va_free (wc := [(kp, .inr (3, [.ref kk, .int (nI (pr))]))]) hD hS hA [1] rfl
    refine va_callv (va_runV (As := []) (rest := []) ⟨hx, hb, hml, hown, hts⟩ (g_PA_haveNone l dC dI kp kk (nI (pr)) H.size) (cwV 0 hts (tw_inV w_462 w_463 w_464 w_6 w_465) rfl rfl rfl (by decide +kernel) ⟨Nat.le_of_ble_eq_true rfl, Nat.le_of_ble_eq_true rfl⟩) ⟨fun a U g mk q => by obtain ⟨q0, q1, qP, qK, qD⟩ := q; exact ⟨q0, q1, qP, va_K.moved (u := U) (U := U.calling g mk a) (Vm.Alike.refl U.vm) qK, qD⟩, va_recv (hK := hK) (hP := hP) (q0 := 1) (ci := 3) rfl rfl, fun U hU hW => ⟨rfl, by rw [hU], by rw [hU]; exact hPc, va_K.moved hW.alike hKc, hDc.weaken (fun _ _ _ _ => trivial)⟩⟩ rfl rfl hl.1 rfl (lv_room (Nat.le_of_ble_eq_true rfl)) d_FO_kernIsRight_32 ⟨Nat.le_of_ble_eq_true rfl, Nat.le_of_ble_eq_true rfl⟩) hS (fun q _ h => hFc q h) hFc (fun u t H1 locs ht hvm hw hB hz1 hk1 hS => ?_)
    obtain ⟨hP1, hK1, hD1⟩ := hB
    rw [ht] at hP1
    have hK1 := va_K.moved hvm.symm hK1
    obtain ⟨hP, hD⟩ := va_join (wr := [(h0, .inr (4, [.ref qa, .ref kr, .ref k1, .ref k2, .ref k3, .ref k4, .ref k5, .ref k6, .ref km, .ref kp, .ref kD, .int (nI (ee)), .int (nI (gl)), .int (nI (wd)), .int (bI il)])), (kr, .inr (2, [.ref kw, .ref kt, .int tb])), (kw, .inr (0, [.ref qa, .int (nI (x9)), .int (nI (y9)), .int (bI m_2229)])), (kk, .inr (0, [.ref qa, .int (nI (y_2230)), .int (nI (y_2231)), .int (bI my_2232)])), (qa, .inl (cA, 1200, .inl (f)))]) (w1 := [(kp, .inr (3, [.ref kk, .int 0]))]) hP hD [1] [0, 2, 3, 4, 5] rfl rfl (by decide) (by decide) hk1 hFc hP1 hD1
    have hK := (hK.sub (tys' := [(cA, .int)]) [0] rfl).app hK1
    generalize H1 = H at hP hS ⊢
    have hP : va_P (dC, dI) cls_ [(h0, .inr (4, [.ref qa, .ref kr, .ref k1, .ref k2, .ref k3, .ref k4, .ref k5, .ref k6, .ref km, .ref kp, .ref kD, .int (nI (ee)), .int (nI (gl)), .int (nI (wd)), .int (bI il)])), (kr, .inr (2, [.ref kw, .ref kt, .int tb])), (kw, .inr (0, [.ref qa, .int (nI (x9)), .int (nI (y9)), .int (bI m_2229)])), (kk, .inr (0, [.ref qa, .int (nI (y_2230)), .int (nI (y_2231)), .int (bI my_2232)])), (qa, .inl (cA, 1200, .inl (f))), (kp, .inr (3, [.ref kk, .int 0]))] H := hP
    have hD : va_D A [(h0, .inr (4, [.ref qa, .ref kr, .ref k1, .ref k2, .ref k3, .ref k4, .ref k5, .ref k6, .ref km, .ref kp, .ref kD, .int (nI (ee)), .int (nI (gl)), .int (nI (wd)), .int (bI il)])), (kr, .inr (2, [.ref kw, .ref kt, .int tb])), (kw, .inr (0, [.ref qa, .int (nI (x9)), .int (nI (y9)), .int (bI m_2229)])), (kk, .inr (0, [.ref qa, .int (nI (y_2230)), .int (nI (y_2231)), .int (bI my_2232)])), (qa, .inl (cA, 1200, .inl (f))), (kp, .inr (3, [.ref kk, .int 0]))] := hD
    have hK : va_K (dC, dI) cls_ [(cA, .int)] s := hK
    refine lv_iconst (v := 1) hx hb d_FO_kernIsRight_35 (by decide) ?_
    refine W.widen (k := 0) (n := 0) (Nat.le_of_ble_eq_true rfl) (Nat.le_of_ble_eq_true rfl) ?_
    have hP9 := hP.sub (ws' := [(h0, .inr (4, [.ref qa, .ref kr, .ref k1, .ref k2, .ref k3, .ref k4, .ref k5, .ref k6, .ref km, .ref kp, .ref kD, .int (nI (ee)), .int (nI (gl)), .int (nI (wd)), .int (bI il)])), (kr, .inr (2, [.ref kw, .ref kt, .int tb])), (kw, .inr (0, [.ref qa, .int (nI (x9)), .int (nI (y9)), .int (bI m_2229)])), (kp, .inr (3, [.ref kk, .int 0])), (kk, .inr (0, [.ref qa, .int (nI (y_2230)), .int (nI (y_2231)), .int (bI my_2232)])), (qa, .inl (cA, 1200, .inl (f)))]) [0, 1, 2, 5, 3, 4] rfl
    have hD9 := hD.sub (ws' := [(h0, .inr (4, [.ref qa, .ref kr, .ref k1, .ref k2, .ref k3, .ref k4, .ref k5, .ref k6, .ref km, .ref kp, .ref kD, .int (nI (ee)), .int (nI (gl)), .int (nI (wd)), .int (bI il)])), (kr, .inr (2, [.ref kw, .ref kt, .int tb])), (kw, .inr (0, [.ref qa, .int (nI (x9)), .int (nI (y9)), .int (bI m_2229)])), (kp, .inr (3, [.ref kk, .int 0])), (kk, .inr (0, [.ref qa, .int (nI (y_2230)), .int (nI (y_2231)), .int (bI my_2232)])), (qa, .inl (cA, 1200, .inl (f)))]) [0, 1, 2, 5, 3, 4] (by decide) rfl
    have hK9 := hK.sub (tys' := [(cA, .int)]) [0] rfl
    exact W.zret (v := 1) (ty := .boolean) hx hb hr (by decide +kernel) (fun t ht hW => ⟨⟨1, (), rfl, ⟨true, rfl⟩, m_2229, y_2230, y_2231, my_2232, 0, by omega, by omega, by rw [ht]; exact hP9, va_K.moved hW.alike hK9, hD9⟩, hS.F ht⟩) hS.2.2 d_FO_kernIsRight_36
  · skip
    have hc2235b : bb2234 = true := bI_1 hc2235
    refine lv_aload_n hx hb d_FO_kernIsRight_20 rfl (lv_at hl 0 rfl) ?_
    refine va_get (D := (dC, dI)) (ci := 4) (v := .ref kp) (C := R_FO) (T := F_FO) (N := 15) hx hb hts in_FO hown hK hP 0 rfl rfl 9 (by decide) (hts _ (List.mem_cons_of_mem _ w_126)) (fun _ h9 => h9) rfl d_FO_kernIsRight_21 ?_
    have hPc := hP.sub (ws' := [(kp, .inr (3, [.ref kk, .int (nI (pr))])), (kk, .inr (0, [.ref qa, .int (nI (y_2230)), .int (nI (y_2231)), .int (bI my_2232)])), (qa, .inl (cA, 1200, .inl (f)))]) [1, 4, 5] rfl
    have hDc := hD.sub (ws' := [(kp, .inr (3, [.ref kk, .int (nI (pr))])), (kk, .inr (0, [.ref qa, .int (nI (y_2230)), .int (nI (y_2231)), .int (bI my_2232)])), (qa, .inl (cA, 1200, .inl (f)))]) [1, 4, 5] (by decide) rfl
    have hKc := hK.sub (tys' := [(cA, .int)]) [0] rfl
    have hFc := va_free (wc := [(kp, .inr (3, [.ref kk, .int (nI (pr))])), (kk, .inr (0, [.ref qa, .int (nI (y_2230)), .int (nI (y_2231)), .int (bI my_2232)])), (qa, .inl (cA, 1200, .inl (f)))]) hD hS hA [1, 4, 5] rfl
    refine va_calli (va_runV (As := []) (rest := []) ⟨hx, hb, hml, hown, hts⟩ (g_PA_isRight l dC dI kp kk qa y_2230 y_2231 my_2232 cA f pr H.size (by omega) (by assumption)) (cwV 0 hts (tw_inV w_454 w_455 w_456 w_6 w_457) rfl rfl rfl (by decide +kernel) ⟨Nat.le_of_ble_eq_true rfl, Nat.le_of_ble_eq_true rfl⟩) ⟨fun a U g mk q => by obtain ⟨q0, q1, qP, qK, qD, qE0⟩ := q; exact ⟨q0, q1, qP, va_K.moved (u := U) (U := U.calling g mk a) (Vm.Alike.refl U.vm) qK, qD, nests.call qE0⟩, va_recv (hK := hK) (hP := hP) (q0 := 1) (ci := 3) rfl rfl, fun U hU hW => ⟨rfl, by rw [hU], by rw [hU]; exact hPc, va_K.moved hW.alike hKc, hDc.weaken (fun _ _ _ _ => trivial), nests.warm hW hNs⟩⟩ rfl rfl hl.1 rfl (lv_room (Nat.le_of_ble_eq_true rfl)) d_FO_kernIsRight_24 ⟨Nat.le_of_ble_eq_true rfl, Nat.le_of_ble_eq_true rfl⟩) hS (fun q _ h => hFc q h) hFc (fun r2236 u t H1 locs ht hvm hw hB hz1 hk1 hS => ?_)
    obtain ⟨m_2237, p_2238, hq_f2239_0, hP1, hK1, hD1⟩ := hB
    rw [ht] at hP1
    have hK1 := va_K.moved hvm.symm hK1
    obtain ⟨hP, hD⟩ := va_join (wr := [(h0, .inr (4, [.ref qa, .ref kr, .ref k1, .ref k2, .ref k3, .ref k4, .ref k5, .ref k6, .ref km, .ref kp, .ref kD, .int (nI (ee)), .int (nI (gl)), .int (nI (wd)), .int (bI il)])), (kr, .inr (2, [.ref kw, .ref kt, .int tb])), (kw, .inr (0, [.ref qa, .int (nI (x9)), .int (nI (y9)), .int (bI m_2229)]))]) (w1 := [(kp, .inr (3, [.ref kk, .int (nI (p_2238))])), (kk, .inr (0, [.ref qa, .int (nI (y_2230)), .int (nI (y_2231)), .int (bI m_2237)])), (qa, .inl (cA, 1200, .inl (f)))]) hP hD [1, 4, 5] [0, 2, 3] rfl rfl (by decide) (by decide) hk1 hFc hP1 hD1
    have hK := (hK.sub (tys' := []) [] rfl).app hK1
    generalize H1 = H at hP hS ⊢
    have hP : va_P (dC, dI) cls_ [(h0, .inr (4, [.ref qa, .ref kr, .ref k1, .ref k2, .ref k3, .ref k4, .ref k5, .ref k6, .ref km, .ref kp, .ref kD, .int (nI (ee)), .int (nI (gl)), .int (nI (wd)), .int (bI il)])), (kr, .inr (2, [.ref kw, .ref kt, .int tb])), (kw, .inr (0, [.ref qa, .int (nI (x9)), .int (nI (y9)), .int (bI m_2229)])), (kp, .inr (3, [.ref kk, .int (nI (p_2238))])), (kk, .inr (0, [.ref qa, .int (nI (y_2230)), .int (nI (y_2231)), .int (bI m_2237)])), (qa, .inl (cA, 1200, .inl (f)))] H := hP
    have hD : va_D A [(h0, .inr (4, [.ref qa, .ref kr, .ref k1, .ref k2, .ref k3, .ref k4, .ref k5, .ref k6, .ref km, .ref kp, .ref kD, .int (nI (ee)), .int (nI (gl)), .int (nI (wd)), .int (bI il)])), (kr, .inr (2, [.ref kw, .ref kt, .int tb])), (kw, .inr (0, [.ref qa, .int (nI (x9)), .int (nI (y9)), .int (bI m_2229)])), (kp, .inr (3, [.ref kk, .int (nI (p_2238))])), (kk, .inr (0, [.ref qa, .int (nI (y_2230)), .int (nI (y_2231)), .int (bI m_2237)])), (qa, .inl (cA, 1200, .inl (f)))] := hD
    have hK : va_K (dC, dI) cls_ [(cA, .int)] s := hK
    have hw_r2236 := hw
    obtain ⟨bb2240, rfl⟩ := hw_r2236
    refine W.widen (k := 0) (n := 0) (Nat.le_of_ble_eq_true rfl) (Nat.le_of_ble_eq_true rfl) ?_
    have hP9 := hP.sub (ws' := [(h0, .inr (4, [.ref qa, .ref kr, .ref k1, .ref k2, .ref k3, .ref k4, .ref k5, .ref k6, .ref km, .ref kp, .ref kD, .int (nI (ee)), .int (nI (gl)), .int (nI (wd)), .int (bI il)])), (kr, .inr (2, [.ref kw, .ref kt, .int tb])), (kw, .inr (0, [.ref qa, .int (nI (x9)), .int (nI (y9)), .int (bI m_2229)])), (kp, .inr (3, [.ref kk, .int (nI (p_2238))])), (kk, .inr (0, [.ref qa, .int (nI (y_2230)), .int (nI (y_2231)), .int (bI m_2237)])), (qa, .inl (cA, 1200, .inl (f)))]) [0, 1, 2, 3, 4, 5] rfl
    have hD9 := hD.sub (ws' := [(h0, .inr (4, [.ref qa, .ref kr, .ref k1, .ref k2, .ref k3, .ref k4, .ref k5, .ref k6, .ref km, .ref kp, .ref kD, .int (nI (ee)), .int (nI (gl)), .int (nI (wd)), .int (bI il)])), (kr, .inr (2, [.ref kw, .ref kt, .int tb])), (kw, .inr (0, [.ref qa, .int (nI (x9)), .int (nI (y9)), .int (bI m_2229)])), (kp, .inr (3, [.ref kk, .int (nI (p_2238))])), (kk, .inr (0, [.ref qa, .int (nI (y_2230)), .int (nI (y_2231)), .int (bI m_2237)])), (qa, .inl (cA, 1200, .inl (f)))]) [0, 1, 2, 3, 4, 5] (by decide) rfl
    have hK9 := hK.sub (tys' := [(cA, .int)]) [0] rfl
    exact W.zret (v := bI bb2240) (ty := .boolean) hx hb hr (bI_n _) (fun t ht hW => ⟨⟨bI bb2240, (), rfl, ⟨bb2240, rfl⟩, m_2229, y_2230, y_2231, m_2237, p_2238, by omega, by omega, by rw [ht]; exact hP9, va_K.moved hW.alike hK9, hD9⟩, hS.F ht⟩) hS.2.2 d_FO_kernIsRight_27
set_option maxHeartbeats 4000000 in
set_option maxRecDepth 100000 in
/-- GlyphLines$Font.formsAreRight -/
theorem g_FO_formsAreRight (l : Launch) (dC : Nat → ClassId) (dI : Nat → Nat → Nat) (h0 : Nat) (qa : Nat) (kr : Nat) (k1 : Nat) (k2 : Nat) (k3 : Nat) (k4 : Nat) (k5 : Nat) (k6 : Nat) (km : Nat) (kp : Nat) (kD : Nat) (ee : Nat) (gl : Nat) (wd : Nat) (il : Bool) (kw : Nat) (kt : Nat) (tb : Int32) (x9 : Nat) (y9 : Nat) (z9 : Bool) (kc : Nat) (pl : Int32) (rg : Int32) (x7 : Nat) (y7 : Nat) (z7 : Bool) (kk : Nat) (pr : Nat) (x8 : Nat) (y8 : Nat) (z8 : Bool) (x6 : Nat) (y6 : Nat) (z6 : Bool) (x1 : Nat) (y1 : Nat) (z1 : Bool) (x3 : Nat) (y3 : Nat) (z3 : Bool) (x4 : Nat) (y4 : Nat) (z4 : Bool) (x5 : Nat) (y5 : Nat) (z5 : Bool) (x2 : Nat) (y2 : Nat) (z2 : Bool) (cA : ClassId) (f : Nat → Int32) (sz : Nat) (hq0 : ee < 65536) (hq1 : gl < 65536) (hq2 : wd < 65536) (hq3 : pr < 65536) (hq4 : x1 + y1 ≤ 1200) (hq5 : x2 + y2 ≤ 1200) (hq6 : x3 + y3 ≤ 1200) (hq7 : x4 + y4 ≤ 1200) (hq8 : x5 + y5 ≤ 1200) (hq9 : x6 + y6 ≤ 1200) (hq10 : x7 + y7 ≤ 1200) (hq11 : x8 + y8 ≤ 1200) (hq12 : x9 + y9 ≤ 1200) (hq13 : isB f) : Met l y_FO_formsAreRight s_FO_formsAreRight ({ frames := 18, cells := 0, slots := 0, locals := 700 }) (va_Pc [.ref h0] (fun U => U.heap.size = sz ∧ va_P (dC, dI) cls_ [(h0, .inr (4, [.ref qa, .ref kr, .ref k1, .ref k2, .ref k3, .ref k4, .ref k5, .ref k6, .ref km, .ref kp, .ref kD, .int (nI (ee)), .int (nI (gl)), .int (nI (wd)), .int (bI il)])), (kr, .inr (2, [.ref kw, .ref kt, .int tb])), (kw, .inr (0, [.ref qa, .int (nI (x9)), .int (nI (y9)), .int (bI z9)])), (km, .inr (1, [.ref kc, .int pl, .int rg])), (kc, .inr (0, [.ref qa, .int (nI (x7)), .int (nI (y7)), .int (bI z7)])), (kp, .inr (3, [.ref kk, .int (nI (pr))])), (kk, .inr (0, [.ref qa, .int (nI (x8)), .int (nI (y8)), .int (bI z8)])), (k6, .inr (0, [.ref qa, .int (nI (x6)), .int (nI (y6)), .int (bI z6)])), (k1, .inr (0, [.ref qa, .int (nI (x1)), .int (nI (y1)), .int (bI z1)])), (k3, .inr (0, [.ref qa, .int (nI (x3)), .int (nI (y3)), .int (bI z3)])), (k4, .inr (0, [.ref qa, .int (nI (x4)), .int (nI (y4)), .int (bI z4)])), (k5, .inr (0, [.ref qa, .int (nI (x5)), .int (nI (y5)), .int (bI z5)])), (k2, .inr (0, [.ref qa, .int (nI (x2)), .int (nI (y2)), .int (bI z2)])), (qa, .inl (cA, 1200, .inl (f)))] U.heap ∧ va_K (dC, dI) cls_ [(cA, .int)] U ∧ va_D (fun _ => True) [(h0, .inr (4, [.ref qa, .ref kr, .ref k1, .ref k2, .ref k3, .ref k4, .ref k5, .ref k6, .ref km, .ref kp, .ref kD, .int (nI (ee)), .int (nI (gl)), .int (nI (wd)), .int (bI il)])), (kr, .inr (2, [.ref kw, .ref kt, .int tb])), (kw, .inr (0, [.ref qa, .int (nI (x9)), .int (nI (y9)), .int (bI z9)])), (km, .inr (1, [.ref kc, .int pl, .int rg])), (kc, .inr (0, [.ref qa, .int (nI (x7)), .int (nI (y7)), .int (bI z7)])), (kp, .inr (3, [.ref kk, .int (nI (pr))])), (kk, .inr (0, [.ref qa, .int (nI (x8)), .int (nI (y8)), .int (bI z8)])), (k6, .inr (0, [.ref qa, .int (nI (x6)), .int (nI (y6)), .int (bI z6)])), (k1, .inr (0, [.ref qa, .int (nI (x1)), .int (nI (y1)), .int (bI z1)])), (k3, .inr (0, [.ref qa, .int (nI (x3)), .int (nI (y3)), .int (bI z3)])), (k4, .inr (0, [.ref qa, .int (nI (x4)), .int (nI (y4)), .int (bI z4)])), (k5, .inr (0, [.ref qa, .int (nI (x5)), .int (nI (y5)), .int (bI z5)])), (k2, .inr (0, [.ref qa, .int (nI (x2)), .int (nI (y2)), .int (bI z2)])), (qa, .inl (cA, 1200, .inl (f)))] ∧ nests U)) (va_Qi (fun (r : Int32) (_ : Unit) => ∃ b9 : Bool, r = bI b9) (fun (_ : Unit) (t : State) => ∃ (ee_2 : Nat) (gl_2 : Nat) (wd_2 : Nat) (il_2 : Bool) (pr_2 : Nat) (pl_2 : Int32) (rg_2 : Int32) (z1_2 : Bool) (z2_2 : Bool) (z3_2 : Bool) (z5_2 : Bool) (z7_2 : Bool) (z9_2 : Bool) (x8_2 : Nat) (y8_2 : Nat) (z8_2 : Bool), ee_2 < 65536 ∧ gl_2 < 65536 ∧ wd_2 < 65536 ∧ pr_2 < 65536 ∧ x8_2 + y8_2 ≤ 1200 ∧ va_P (dC, dI) cls_ [(h0, .inr (4, [.ref qa, .ref kr, .ref k1, .ref k2, .ref k3, .ref k4, .ref k5, .ref k6, .ref km, .ref kp, .ref kD, .int (nI (ee_2)), .int (nI (gl_2)), .int (nI (wd_2)), .int (bI il_2)])), (kr, .inr (2, [.ref kw, .ref kt, .int tb])), (kw, .inr (0, [.ref qa, .int (nI (x9)), .int (nI (y9)), .int (bI z9_2)])), (km, .inr (1, [.ref kc, .int pl_2, .int rg_2])), (kc, .inr (0, [.ref qa, .int (nI (x7)), .int (nI (y7)), .int (bI z7_2)])), (kp, .inr (3, [.ref kk, .int (nI (pr_2))])), (kk, .inr (0, [.ref qa, .int (nI (x8_2)), .int (nI (y8_2)), .int (bI z8_2)])), (k6, .inr (0, [.ref qa, .int (nI (x6)), .int (nI (y6)), .int (bI z6)])), (k1, .inr (0, [.ref qa, .int (nI (x1)), .int (nI (y1)), .int (bI z1_2)])), (k3, .inr (0, [.ref qa, .int (nI (x3)), .int (nI (y3)), .int (bI z3_2)])), (k4, .inr (0, [.ref qa, .int (nI (x4)), .int (nI (y4)), .int (bI z4)])), (k5, .inr (0, [.ref qa, .int (nI (x5)), .int (nI (y5)), .int (bI z5_2)])), (k2, .inr (0, [.ref qa, .int (nI (x2)), .int (nI (y2)), .int (bI z2_2)])), (qa, .inl (cA, 1200, .inl (f)))] t.heap ∧ va_K (dC, dI) cls_ [(cA, .int)] t ∧ va_D (va_A [(h0, .inr (4, [.ref qa, .ref kr, .ref k1, .ref k2, .ref k3, .ref k4, .ref k5, .ref k6, .ref km, .ref kp, .ref kD, .int (nI (ee)), .int (nI (gl)), .int (nI (wd)), .int (bI il)])), (kr, .inr (2, [.ref kw, .ref kt, .int tb])), (kw, .inr (0, [.ref qa, .int (nI (x9)), .int (nI (y9)), .int (bI z9)])), (km, .inr (1, [.ref kc, .int pl, .int rg])), (kc, .inr (0, [.ref qa, .int (nI (x7)), .int (nI (y7)), .int (bI z7)])), (kp, .inr (3, [.ref kk, .int (nI (pr))])), (kk, .inr (0, [.ref qa, .int (nI (x8)), .int (nI (y8)), .int (bI z8)])), (k6, .inr (0, [.ref qa, .int (nI (x6)), .int (nI (y6)), .int (bI z6)])), (k1, .inr (0, [.ref qa, .int (nI (x1)), .int (nI (y1)), .int (bI z1)])), (k3, .inr (0, [.ref qa, .int (nI (x3)), .int (nI (y3)), .int (bI z3)])), (k4, .inr (0, [.ref qa, .int (nI (x4)), .int (nI (y4)), .int (bI z4)])), (k5, .inr (0, [.ref qa, .int (nI (x5)), .int (nI (y5)), .int (bI z5)])), (k2, .inr (0, [.ref qa, .int (nI (x2)), .int (nI (y2)), .int (bI z2)])), (qa, .inl (cA, 1200, .inl (f)))] sz) [(h0, .inr (4, [.ref qa, .ref kr, .ref k1, .ref k2, .ref k3, .ref k4, .ref k5, .ref k6, .ref km, .ref kp, .ref kD, .int (nI (ee_2)), .int (nI (gl_2)), .int (nI (wd_2)), .int (bI il_2)])), (kr, .inr (2, [.ref kw, .ref kt, .int tb])), (kw, .inr (0, [.ref qa, .int (nI (x9)), .int (nI (y9)), .int (bI z9_2)])), (km, .inr (1, [.ref kc, .int pl_2, .int rg_2])), (kc, .inr (0, [.ref qa, .int (nI (x7)), .int (nI (y7)), .int (bI z7_2)])), (kp, .inr (3, [.ref kk, .int (nI (pr_2))])), (kk, .inr (0, [.ref qa, .int (nI (x8_2)), .int (nI (y8_2)), .int (bI z8_2)])), (k6, .inr (0, [.ref qa, .int (nI (x6)), .int (nI (y6)), .int (bI z6)])), (k1, .inr (0, [.ref qa, .int (nI (x1)), .int (nI (y1)), .int (bI z1_2)])), (k3, .inr (0, [.ref qa, .int (nI (x3)), .int (nI (y3)), .int (bI z3_2)])), (k4, .inr (0, [.ref qa, .int (nI (x4)), .int (nI (y4)), .int (bI z4)])), (k5, .inr (0, [.ref qa, .int (nI (x5)), .int (nI (y5)), .int (bI z5_2)])), (k2, .inr (0, [.ref qa, .int (nI (x2)), .int (nI (y2)), .int (bI z2_2)])), (qa, .inl (cA, 1200, .inl (f)))]) (va_A [(h0, .inr (4, [.ref qa, .ref kr, .ref k1, .ref k2, .ref k3, .ref k4, .ref k5, .ref k6, .ref km, .ref kp, .ref kD, .int (nI (ee)), .int (nI (gl)), .int (nI (wd)), .int (bI il)])), (kr, .inr (2, [.ref kw, .ref kt, .int tb])), (kw, .inr (0, [.ref qa, .int (nI (x9)), .int (nI (y9)), .int (bI z9)])), (km, .inr (1, [.ref kc, .int pl, .int rg])), (kc, .inr (0, [.ref qa, .int (nI (x7)), .int (nI (y7)), .int (bI z7)])), (kp, .inr (3, [.ref kk, .int (nI (pr))])), (kk, .inr (0, [.ref qa, .int (nI (x8)), .int (nI (y8)), .int (bI z8)])), (k6, .inr (0, [.ref qa, .int (nI (x6)), .int (nI (y6)), .int (bI z6)])), (k1, .inr (0, [.ref qa, .int (nI (x1)), .int (nI (y1)), .int (bI z1)])), (k3, .inr (0, [.ref qa, .int (nI (x3)), .int (nI (y3)), .int (bI z3)])), (k4, .inr (0, [.ref qa, .int (nI (x4)), .int (nI (y4)), .int (bI z4)])), (k5, .inr (0, [.ref qa, .int (nI (x5)), .int (nI (y5)), .int (bI z5)])), (k2, .inr (0, [.ref qa, .int (nI (x2)), .int (nI (y2)), .int (bI z2)])), (qa, .inl (cA, 1200, .inl (f)))] sz)) 0 0 (va_A [(h0, .inr (4, [.ref qa, .ref kr, .ref k1, .ref k2, .ref k3, .ref k4, .ref k5, .ref k6, .ref km, .ref kp, .ref kD, .int (nI (ee)), .int (nI (gl)), .int (nI (wd)), .int (bI il)])), (kr, .inr (2, [.ref kw, .ref kt, .int tb])), (kw, .inr (0, [.ref qa, .int (nI (x9)), .int (nI (y9)), .int (bI z9)])), (km, .inr (1, [.ref kc, .int pl, .int rg])), (kc, .inr (0, [.ref qa, .int (nI (x7)), .int (nI (y7)), .int (bI z7)])), (kp, .inr (3, [.ref kk, .int (nI (pr))])), (kk, .inr (0, [.ref qa, .int (nI (x8)), .int (nI (y8)), .int (bI z8)])), (k6, .inr (0, [.ref qa, .int (nI (x6)), .int (nI (y6)), .int (bI z6)])), (k1, .inr (0, [.ref qa, .int (nI (x1)), .int (nI (y1)), .int (bI z1)])), (k3, .inr (0, [.ref qa, .int (nI (x3)), .int (nI (y3)), .int (bI z3)])), (k4, .inr (0, [.ref qa, .int (nI (x4)), .int (nI (y4)), .int (bI z4)])), (k5, .inr (0, [.ref qa, .int (nI (x5)), .int (nI (y5)), .int (bI z5)])), (k2, .inr (0, [.ref qa, .int (nI (x2)), .int (nI (y2)), .int (bI z2)])), (qa, .inl (cA, 1200, .inl (f)))] sz) := by
  refine Met.ofW (cc := b_FO_formsAreRight) (maxL := 1) (ret := (some .boolean)) (by decide) rfl ?_
  intro p e s m args below meth c s₁ B hml hv
  obtain ⟨rfl, hsz, hP, hK, hD0, hNs⟩ := hv
  have hx := B.exec
  have hb := B.bytes
  have hr := B.returns
  have hts := atoms_spec (ws := s_FO_formsAreRight) B.pre
  have hown : s.vm.findClass R_FO = some m.cls := findClass_of_methodNamed B.named
  have hlocks := B.notSynchronized
  subst hsz
  have hD := hD0.self (sz := s.heap.size)
  generalize hAe : va_A [(h0, .inr (4, [.ref qa, .ref kr, .ref k1, .ref k2, .ref k3, .ref k4, .ref k5, .ref k6, .ref km, .ref kp, .ref kD, .int (nI (ee)), .int (nI (gl)), .int (nI (wd)), .int (bI il)])), (kr, .inr (2, [.ref kw, .ref kt, .int tb])), (kw, .inr (0, [.ref qa, .int (nI (x9)), .int (nI (y9)), .int (bI z9)])), (km, .inr (1, [.ref kc, .int pl, .int rg])), (kc, .inr (0, [.ref qa, .int (nI (x7)), .int (nI (y7)), .int (bI z7)])), (kp, .inr (3, [.ref kk, .int (nI (pr))])), (kk, .inr (0, [.ref qa, .int (nI (x8)), .int (nI (y8)), .int (bI z8)])), (k6, .inr (0, [.ref qa, .int (nI (x6)), .int (nI (y6)), .int (bI z6)])), (k1, .inr (0, [.ref qa, .int (nI (x1)), .int (nI (y1)), .int (bI z1)])), (k3, .inr (0, [.ref qa, .int (nI (x3)), .int (nI (y3)), .int (bI z3)])), (k4, .inr (0, [.ref qa, .int (nI (x4)), .int (nI (y4)), .int (bI z4)])), (k5, .inr (0, [.ref qa, .int (nI (x5)), .int (nI (y5)), .int (bI z5)])), (k2, .inr (0, [.ref qa, .int (nI (x2)), .int (nI (y2)), .int (bI z2)])), (qa, .inl (cA, 1200, .inl (f)))] s.heap.size = A at hD ⊢
  have hA : ∀ q : Nat, s.heap.size ≤ q → A q := fun q h => by rw [← hAe]; exact Or.inr h
  have hS : va_S A s.heap s.heap [] := va_S.rf
  have hP : va_P (dC, dI) cls_ [(h0, .inr (4, [.ref qa, .ref kr, .ref k1, .ref k2, .ref k3, .ref k4, .ref k5, .ref k6, .ref km, .ref kp, .ref kD, .int (nI (ee)), .int (nI (gl)), .int (nI (wd)), .int (bI il)])), (kr, .inr (2, [.ref kw, .ref kt, .int tb])), (kw, .inr (0, [.ref qa, .int (nI (x9)), .int (nI (y9)), .int (bI z9)])), (km, .inr (1, [.ref kc, .int pl, .int rg])), (kc, .inr (0, [.ref qa, .int (nI (x7)), .int (nI (y7)), .int (bI z7)])), (kp, .inr (3, [.ref kk, .int (nI (pr))])), (kk, .inr (0, [.ref qa, .int (nI (x8)), .int (nI (y8)), .int (bI z8)])), (k6, .inr (0, [.ref qa, .int (nI (x6)), .int (nI (y6)), .int (bI z6)])), (k1, .inr (0, [.ref qa, .int (nI (x1)), .int (nI (y1)), .int (bI z1)])), (k3, .inr (0, [.ref qa, .int (nI (x3)), .int (nI (y3)), .int (bI z3)])), (k4, .inr (0, [.ref qa, .int (nI (x4)), .int (nI (y4)), .int (bI z4)])), (k5, .inr (0, [.ref qa, .int (nI (x5)), .int (nI (y5)), .int (bI z5)])), (k2, .inr (0, [.ref qa, .int (nI (x2)), .int (nI (y2)), .int (bI z2)])), (qa, .inl (cA, 1200, .inl (f)))] s.heap := hP
  have hl := lv_entry ([.ref h0]) (n := 1) (Nat.le_of_ble_eq_true rfl)
  rw [lg_entry_eq]
  generalize (lg_sl ([.ref h0]) ++ List.replicate (1 - (lg_sl ([.ref h0])).length) Slot.unset).toArray = ls at hl ⊢
  have hl : lv_has ls 1 [(0, .ref h0)] := hl
  refine lv_aload_n hx hb d_FO_formsAreRight_0 rfl (lv_at hl 0 rfl) ?_
  have hPc := hP.sub (ws' := [(h0, .inr (4, [.ref qa, .ref kr, .ref k1, .ref k2, .ref k3, .ref k4, .ref k5, .ref k6, .ref km, .ref kp, .ref kD, .int (nI (ee)), .int (nI (gl)), .int (nI (wd)), .int (bI il)])), (k1, .inr (0, [.ref qa, .int (nI (x1)), .int (nI (y1)), .int (bI z1)])), (qa, .inl (cA, 1200, .inl (f)))]) [0, 8, 13] rfl
  have hDc := hD.sub (ws' := [(h0, .inr (4, [.ref qa, .ref kr, .ref k1, .ref k2, .ref k3, .ref k4, .ref k5, .ref k6, .ref km, .ref kp, .ref kD, .int (nI (ee)), .int (nI (gl)), .int (nI (wd)), .int (bI il)])), (k1, .inr (0, [.ref qa, .int (nI (x1)), .int (nI (y1)), .int (bI z1)])), (qa, .inl (cA, 1200, .inl (f)))]) [0, 8, 13] (by decide) rfl
  have hKc := hK.sub (tys' := [(cA, .int)]) [0] rfl
  have hFc := va_free (wc := [(h0, .inr (4, [.ref qa, .ref kr, .ref k1, .ref k2, .ref k3, .ref k4, .ref k5, .ref k6, .ref km, .ref kp, .ref kD, .int (nI (ee)), .int (nI (gl)), .int (nI (wd)), .int (bI il)])), (k1, .inr (0, [.ref qa, .int (nI (x1)), .int (nI (y1)), .int (bI z1)])), (qa, .inl (cA, 1200, .inl (f)))]) hD hS hA [0, 8, 13] rfl
  refine va_calli (va_runV (As := []) (rest := []) ⟨hx, hb, hml, hown, hts⟩ (g_FO_headIsRight l dC dI h0 qa kr k1 k2 k3 k4 k5 k6 km kp kD ee gl wd il x1 y1 z1 cA f s.heap.size (by omega) (by omega) (by omega) (by omega) (by assumption)) (cwV 0 hts (tw_inV w_403 w_405 wp_4 w_2 w_406) rfl rfl rfl (by decide +kernel) ⟨Nat.le_of_ble_eq_true rfl, Nat.le_of_ble_eq_true rfl⟩) ⟨fun a U g mk q => by obtain ⟨q0, q1, qP, qK, qD, qE0⟩ := q; exact ⟨q0, q1, qP, va_K.moved (u := U) (U := U.calling g mk a) (Vm.Alike.refl U.vm) qK, qD, nests.call qE0⟩, va_recv (hK := hK) (hP := hP) (q0 := 0) (ci := 4) rfl rfl, fun U hU hW => ⟨rfl, by rw [hU], by rw [hU]; exact hPc, va_K.moved hW.alike hKc, hDc.weaken (fun _ _ _ _ => trivial), nests.warm hW hNs⟩⟩ rfl rfl hl.1 rfl (lv_room (Nat.le_of_ble_eq_true rfl)) d_FO_formsAreRight_1 ⟨Nat.le_of_ble_eq_true rfl, Nat.le_of_ble_eq_true rfl⟩) hS (fun q _ h => hFc q h) hFc (fun r2241 u t H1 locs ht hvm hw hB hz1 hk1 hS => ?_)
  obtain ⟨ee__2242, il__2243, z1__2244, hq_f2245_0, hP1, hK1, hD1⟩ := hB
  rw [ht] at hP1
  have hK1 := va_K.moved hvm.symm hK1
  obtain ⟨hP, hD⟩ := va_join (wr := [(kr, .inr (2, [.ref kw, .ref kt, .int tb])), (kw, .inr (0, [.ref qa, .int (nI (x9)), .int (nI (y9)), .int (bI z9)])), (km, .inr (1, [.ref kc, .int pl, .int rg])), (kc, .inr (0, [.ref qa, .int (nI (x7)), .int (nI (y7)), .int (bI z7)])), (kp, .inr (3, [.ref kk, .int (nI (pr))])), (kk, .inr (0, [.ref qa, .int (nI (x8)), .int (nI (y8)), .int (bI z8)])), (k6, .inr (0, [.ref qa, .int (nI (x6)), .int (nI (y6)), .int (bI z6)])), (k3, .inr (0, [.ref qa, .int (nI (x3)), .int (nI (y3)), .int (bI z3)])), (k4, .inr (0, [.ref qa, .int (nI (x4)), .int (nI (y4)), .int (bI z4)])), (k5, .inr (0, [.ref qa, .int (nI (x5)), .int (nI (y5)), .int (bI z5)])), (k2, .inr (0, [.ref qa, .int (nI (x2)), .int (nI (y2)), .int (bI z2)]))]) (w1 := [(h0, .inr (4, [.ref qa, .ref kr, .ref k1, .ref k2, .ref k3, .ref k4, .ref k5, .ref k6, .ref km, .ref kp, .ref kD, .int (nI (ee__2242)), .int (nI (gl)), .int (nI (wd)), .int (bI il__2243)])), (k1, .inr (0, [.ref qa, .int (nI (x1)), .int (nI (y1)), .int (bI z1__2244)])), (qa, .inl (cA, 1200, .inl (f)))]) hP hD [0, 8, 13] [1, 2, 3, 4, 5, 6, 7, 9, 10, 11, 12] rfl rfl (by decide) (by decide) hk1 hFc hP1 hD1
  have hK := (hK.sub (tys' := []) [] rfl).app hK1
  generalize H1 = H at hP hS ⊢
  have hP : va_P (dC, dI) cls_ [(kr, .inr (2, [.ref kw, .ref kt, .int tb])), (kw, .inr (0, [.ref qa, .int (nI (x9)), .int (nI (y9)), .int (bI z9)])), (km, .inr (1, [.ref kc, .int pl, .int rg])), (kc, .inr (0, [.ref qa, .int (nI (x7)), .int (nI (y7)), .int (bI z7)])), (kp, .inr (3, [.ref kk, .int (nI (pr))])), (kk, .inr (0, [.ref qa, .int (nI (x8)), .int (nI (y8)), .int (bI z8)])), (k6, .inr (0, [.ref qa, .int (nI (x6)), .int (nI (y6)), .int (bI z6)])), (k3, .inr (0, [.ref qa, .int (nI (x3)), .int (nI (y3)), .int (bI z3)])), (k4, .inr (0, [.ref qa, .int (nI (x4)), .int (nI (y4)), .int (bI z4)])), (k5, .inr (0, [.ref qa, .int (nI (x5)), .int (nI (y5)), .int (bI z5)])), (k2, .inr (0, [.ref qa, .int (nI (x2)), .int (nI (y2)), .int (bI z2)])), (h0, .inr (4, [.ref qa, .ref kr, .ref k1, .ref k2, .ref k3, .ref k4, .ref k5, .ref k6, .ref km, .ref kp, .ref kD, .int (nI (ee__2242)), .int (nI (gl)), .int (nI (wd)), .int (bI il__2243)])), (k1, .inr (0, [.ref qa, .int (nI (x1)), .int (nI (y1)), .int (bI z1__2244)])), (qa, .inl (cA, 1200, .inl (f)))] H := hP
  have hD : va_D A [(kr, .inr (2, [.ref kw, .ref kt, .int tb])), (kw, .inr (0, [.ref qa, .int (nI (x9)), .int (nI (y9)), .int (bI z9)])), (km, .inr (1, [.ref kc, .int pl, .int rg])), (kc, .inr (0, [.ref qa, .int (nI (x7)), .int (nI (y7)), .int (bI z7)])), (kp, .inr (3, [.ref kk, .int (nI (pr))])), (kk, .inr (0, [.ref qa, .int (nI (x8)), .int (nI (y8)), .int (bI z8)])), (k6, .inr (0, [.ref qa, .int (nI (x6)), .int (nI (y6)), .int (bI z6)])), (k3, .inr (0, [.ref qa, .int (nI (x3)), .int (nI (y3)), .int (bI z3)])), (k4, .inr (0, [.ref qa, .int (nI (x4)), .int (nI (y4)), .int (bI z4)])), (k5, .inr (0, [.ref qa, .int (nI (x5)), .int (nI (y5)), .int (bI z5)])), (k2, .inr (0, [.ref qa, .int (nI (x2)), .int (nI (y2)), .int (bI z2)])), (h0, .inr (4, [.ref qa, .ref kr, .ref k1, .ref k2, .ref k3, .ref k4, .ref k5, .ref k6, .ref km, .ref kp, .ref kD, .int (nI (ee__2242)), .int (nI (gl)), .int (nI (wd)), .int (bI il__2243)])), (k1, .inr (0, [.ref qa, .int (nI (x1)), .int (nI (y1)), .int (bI z1__2244)])), (qa, .inl (cA, 1200, .inl (f)))] := hD
  have hK : va_K (dC, dI) cls_ [(cA, .int)] s := hK
  have hw_r2241 := hw
  obtain ⟨bb2246, rfl⟩ := hw_r2241
  refine lv_if_eq (tgt := 42) hx hb d_FO_formsAreRight_4 (by decide) (fun hc2247 => ?_) (fun hc2247 => ?_)
  · skip
    have hc2247b : bb2246 = false := bI_0 hc2247
    refine lv_iconst (v := 0) hx hb d_FO_formsAreRight_42 (by decide) ?_
    refine W.widen (k := 0) (n := 0) (Nat.le_of_ble_eq_true rfl) (Nat.le_of_ble_eq_true rfl) ?_
    have hP9 := hP.sub (ws' := [(h0, .inr (4, [.ref qa, .ref kr, .ref k1, .ref k2, .ref k3, .ref k4, .ref k5, .ref k6, .ref km, .ref kp, .ref kD, .int (nI (ee__2242)), .int (nI (gl)), .int (nI (wd)), .int (bI il__2243)])), (kr, .inr (2, [.ref kw, .ref kt, .int tb])), (kw, .inr (0, [.ref qa, .int (nI (x9)), .int (nI (y9)), .int (bI z9)])), (km, .inr (1, [.ref kc, .int pl, .int rg])), (kc, .inr (0, [.ref qa, .int (nI (x7)), .int (nI (y7)), .int (bI z7)])), (kp, .inr (3, [.ref kk, .int (nI (pr))])), (kk, .inr (0, [.ref qa, .int (nI (x8)), .int (nI (y8)), .int (bI z8)])), (k6, .inr (0, [.ref qa, .int (nI (x6)), .int (nI (y6)), .int (bI z6)])), (k1, .inr (0, [.ref qa, .int (nI (x1)), .int (nI (y1)), .int (bI z1__2244)])), (k3, .inr (0, [.ref qa, .int (nI (x3)), .int (nI (y3)), .int (bI z3)])), (k4, .inr (0, [.ref qa, .int (nI (x4)), .int (nI (y4)), .int (bI z4)])), (k5, .inr (0, [.ref qa, .int (nI (x5)), .int (nI (y5)), .int (bI z5)])), (k2, .inr (0, [.ref qa, .int (nI (x2)), .int (nI (y2)), .int (bI z2)])), (qa, .inl (cA, 1200, .inl (f)))]) [11, 0, 1, 2, 3, 4, 5, 6, 12, 7, 8, 9, 10, 13] rfl
    have hD9 := hD.sub (ws' := [(h0, .inr (4, [.ref qa, .ref kr, .ref k1, .ref k2, .ref k3, .ref k4, .ref k5, .ref k6, .ref km, .ref kp, .ref kD, .int (nI (ee__2242)), .int (nI (gl)), .int (nI (wd)), .int (bI il__2243)])), (kr, .inr (2, [.ref kw, .ref kt, .int tb])), (kw, .inr (0, [.ref qa, .int (nI (x9)), .int (nI (y9)), .int (bI z9)])), (km, .inr (1, [.ref kc, .int pl, .int rg])), (kc, .inr (0, [.ref qa, .int (nI (x7)), .int (nI (y7)), .int (bI z7)])), (kp, .inr (3, [.ref kk, .int (nI (pr))])), (kk, .inr (0, [.ref qa, .int (nI (x8)), .int (nI (y8)), .int (bI z8)])), (k6, .inr (0, [.ref qa, .int (nI (x6)), .int (nI (y6)), .int (bI z6)])), (k1, .inr (0, [.ref qa, .int (nI (x1)), .int (nI (y1)), .int (bI z1__2244)])), (k3, .inr (0, [.ref qa, .int (nI (x3)), .int (nI (y3)), .int (bI z3)])), (k4, .inr (0, [.ref qa, .int (nI (x4)), .int (nI (y4)), .int (bI z4)])), (k5, .inr (0, [.ref qa, .int (nI (x5)), .int (nI (y5)), .int (bI z5)])), (k2, .inr (0, [.ref qa, .int (nI (x2)), .int (nI (y2)), .int (bI z2)])), (qa, .inl (cA, 1200, .inl (f)))]) [11, 0, 1, 2, 3, 4, 5, 6, 12, 7, 8, 9, 10, 13] (by decide) rfl
    have hK9 := hK.sub (tys' := [(cA, .int)]) [0] rfl
    exact W.zret (v := 0) (ty := .boolean) hx hb hr (by decide +kernel) (fun t ht hW => ⟨⟨0, (), rfl, ⟨false, rfl⟩, ee__2242, gl, wd, il__2243, pr, pl, rg, z1__2244, z2, z3, z5, z7, z9, x8, y8, z8, by omega, by omega, by omega, by omega, by omega, by rw [ht]; exact hP9, va_K.moved hW.alike hK9, hD9⟩, hS.F ht⟩) hS.2.2 d_FO_formsAreRight_43
  · skip
    have hc2247b : bb2246 = true := bI_1 hc2247
    refine lv_aload_n hx hb d_FO_formsAreRight_7 rfl (lv_at hl 0 rfl) ?_
    have hPc := hP.sub (ws' := [(h0, .inr (4, [.ref qa, .ref kr, .ref k1, .ref k2, .ref k3, .ref k4, .ref k5, .ref k6, .ref km, .ref kp, .ref kD, .int (nI (ee__2242)), .int (nI (gl)), .int (nI (wd)), .int (bI il__2243)])), (k2, .inr (0, [.ref qa, .int (nI (x2)), .int (nI (y2)), .int (bI z2)])), (k3, .inr (0, [.ref qa, .int (nI (x3)), .int (nI (y3)), .int (bI z3)])), (k4, .inr (0, [.ref qa, .int (nI (x4)), .int (nI (y4)), .int (bI z4)])), (qa, .inl (cA, 1200, .inl (f)))]) [11, 10, 7, 8, 13] rfl
    have hDc := hD.sub (ws' := [(h0, .inr (4, [.ref qa, .ref kr, .ref k1, .ref k2, .ref k3, .ref k4, .ref k5, .ref k6, .ref km, .ref kp, .ref kD, .int (nI (ee__2242)), .int (nI (gl)), .int (nI (wd)), .int (bI il__2243)])), (k2, .inr (0, [.ref qa, .int (nI (x2)), .int (nI (y2)), .int (bI z2)])), (k3, .inr (0, [.ref qa, .int (nI (x3)), .int (nI (y3)), .int (bI z3)])), (k4, .inr (0, [.ref qa, .int (nI (x4)), .int (nI (y4)), .int (bI z4)])), (qa, .inl (cA, 1200, .inl (f)))]) [11, 10, 7, 8, 13] (by decide) rfl
    have hKc := hK.sub (tys' := [(cA, .int)]) [0] rfl
    have hFc := va_free (wc := [(h0, .inr (4, [.ref qa, .ref kr, .ref k1, .ref k2, .ref k3, .ref k4, .ref k5, .ref k6, .ref km, .ref kp, .ref kD, .int (nI (ee__2242)), .int (nI (gl)), .int (nI (wd)), .int (bI il__2243)])), (k2, .inr (0, [.ref qa, .int (nI (x2)), .int (nI (y2)), .int (bI z2)])), (k3, .inr (0, [.ref qa, .int (nI (x3)), .int (nI (y3)), .int (bI z3)])), (k4, .inr (0, [.ref qa, .int (nI (x4)), .int (nI (y4)), .int (bI z4)])), (qa, .inl (cA, 1200, .inl (f)))]) hD hS hA [11, 10, 7, 8, 13] rfl
    refine va_calli (va_runV (As := []) (rest := []) ⟨hx, hb, hml, hown, hts⟩ (g_FO_countsAreRight l dC dI h0 qa kr k1 k2 k3 k4 k5 k6 km kp kD ee__2242 gl wd il__2243 x2 y2 z2 x3 y3 z3 x4 y4 z4 cA f H.size (by omega) (by omega) (by omega) (by omega) (by omega) (by omega) (by assumption)) (cwV 0 hts (tw_inV w_408 w_410 wp_5 w_2 w_411) rfl rfl rfl (by decide +kernel) ⟨Nat.le_of_ble_eq_true rfl, Nat.le_of_ble_eq_true rfl⟩) ⟨fun a U g mk q => by obtain ⟨q0, q1, qP, qK, qD, qE0⟩ := q; exact ⟨q0, q1, qP, va_K.moved (u := U) (U := U.calling g mk a) (Vm.Alike.refl U.vm) qK, qD, nests.call qE0⟩, va_recv (hK := hK) (hP := hP) (q0 := 11) (ci := 4) rfl rfl, fun U hU hW => ⟨rfl, by rw [hU], by rw [hU]; exact hPc, va_K.moved hW.alike hKc, hDc.weaken (fun _ _ _ _ => trivial), nests.warm hW hNs⟩⟩ rfl rfl hl.1 rfl (lv_room (Nat.le_of_ble_eq_true rfl)) d_FO_formsAreRight_8 ⟨Nat.le_of_ble_eq_true rfl, Nat.le_of_ble_eq_true rfl⟩) hS (fun q _ h => hFc q h) hFc (fun r2248 u t H1 locs ht hvm hw hB hz1 hk1 hS => ?_)
    obtain ⟨gl__2249, wd__2250, z2__2251, z3__2252, hq_f2253_0, hq_f2254_1, hP1, hK1, hD1⟩ := hB
    rw [ht] at hP1
    have hK1 := va_K.moved hvm.symm hK1
    obtain ⟨hP, hD⟩ := va_join (wr := [(kr, .inr (2, [.ref kw, .ref kt, .int tb])), (kw, .inr (0, [.ref qa, .int (nI (x9)), .int (nI (y9)), .int (bI z9)])), (km, .inr (1, [.ref kc, .int pl, .int rg])), (kc, .inr (0, [.ref qa, .int (nI (x7)), .int (nI (y7)), .int (bI z7)])), (kp, .inr (3, [.ref kk, .int (nI (pr))])), (kk, .inr (0, [.ref qa, .int (nI (x8)), .int (nI (y8)), .int (bI z8)])), (k6, .inr (0, [.ref qa, .int (nI (x6)), .int (nI (y6)), .int (bI z6)])), (k5, .inr (0, [.ref qa, .int (nI (x5)), .int (nI (y5)), .int (bI z5)])), (k1, .inr (0, [.ref qa, .int (nI (x1)), .int (nI (y1)), .int (bI z1__2244)]))]) (w1 := [(h0, .inr (4, [.ref qa, .ref kr, .ref k1, .ref k2, .ref k3, .ref k4, .ref k5, .ref k6, .ref km, .ref kp, .ref kD, .int (nI (ee__2242)), .int (nI (gl__2249)), .int (nI (wd__2250)), .int (bI il__2243)])), (k2, .inr (0, [.ref qa, .int (nI (x2)), .int (nI (y2)), .int (bI z2__2251)])), (k3, .inr (0, [.ref qa, .int (nI (x3)), .int (nI (y3)), .int (bI z3__2252)])), (k4, .inr (0, [.ref qa, .int (nI (x4)), .int (nI (y4)), .int (bI z4)])), (qa, .inl (cA, 1200, .inl (f)))]) hP hD [11, 10, 7, 8, 13] [0, 1, 2, 3, 4, 5, 6, 9, 12] rfl rfl (by decide) (by decide) hk1 hFc hP1 hD1
    have hK := (hK.sub (tys' := []) [] rfl).app hK1
    generalize H1 = H at hP hS ⊢
    have hP : va_P (dC, dI) cls_ [(kr, .inr (2, [.ref kw, .ref kt, .int tb])), (kw, .inr (0, [.ref qa, .int (nI (x9)), .int (nI (y9)), .int (bI z9)])), (km, .inr (1, [.ref kc, .int pl, .int rg])), (kc, .inr (0, [.ref qa, .int (nI (x7)), .int (nI (y7)), .int (bI z7)])), (kp, .inr (3, [.ref kk, .int (nI (pr))])), (kk, .inr (0, [.ref qa, .int (nI (x8)), .int (nI (y8)), .int (bI z8)])), (k6, .inr (0, [.ref qa, .int (nI (x6)), .int (nI (y6)), .int (bI z6)])), (k5, .inr (0, [.ref qa, .int (nI (x5)), .int (nI (y5)), .int (bI z5)])), (k1, .inr (0, [.ref qa, .int (nI (x1)), .int (nI (y1)), .int (bI z1__2244)])), (h0, .inr (4, [.ref qa, .ref kr, .ref k1, .ref k2, .ref k3, .ref k4, .ref k5, .ref k6, .ref km, .ref kp, .ref kD, .int (nI (ee__2242)), .int (nI (gl__2249)), .int (nI (wd__2250)), .int (bI il__2243)])), (k2, .inr (0, [.ref qa, .int (nI (x2)), .int (nI (y2)), .int (bI z2__2251)])), (k3, .inr (0, [.ref qa, .int (nI (x3)), .int (nI (y3)), .int (bI z3__2252)])), (k4, .inr (0, [.ref qa, .int (nI (x4)), .int (nI (y4)), .int (bI z4)])), (qa, .inl (cA, 1200, .inl (f)))] H := hP
    have hD : va_D A [(kr, .inr (2, [.ref kw, .ref kt, .int tb])), (kw, .inr (0, [.ref qa, .int (nI (x9)), .int (nI (y9)), .int (bI z9)])), (km, .inr (1, [.ref kc, .int pl, .int rg])), (kc, .inr (0, [.ref qa, .int (nI (x7)), .int (nI (y7)), .int (bI z7)])), (kp, .inr (3, [.ref kk, .int (nI (pr))])), (kk, .inr (0, [.ref qa, .int (nI (x8)), .int (nI (y8)), .int (bI z8)])), (k6, .inr (0, [.ref qa, .int (nI (x6)), .int (nI (y6)), .int (bI z6)])), (k5, .inr (0, [.ref qa, .int (nI (x5)), .int (nI (y5)), .int (bI z5)])), (k1, .inr (0, [.ref qa, .int (nI (x1)), .int (nI (y1)), .int (bI z1__2244)])), (h0, .inr (4, [.ref qa, .ref kr, .ref k1, .ref k2, .ref k3, .ref k4, .ref k5, .ref k6, .ref km, .ref kp, .ref kD, .int (nI (ee__2242)), .int (nI (gl__2249)), .int (nI (wd__2250)), .int (bI il__2243)])), (k2, .inr (0, [.ref qa, .int (nI (x2)), .int (nI (y2)), .int (bI z2__2251)])), (k3, .inr (0, [.ref qa, .int (nI (x3)), .int (nI (y3)), .int (bI z3__2252)])), (k4, .inr (0, [.ref qa, .int (nI (x4)), .int (nI (y4)), .int (bI z4)])), (qa, .inl (cA, 1200, .inl (f)))] := hD
    have hK : va_K (dC, dI) cls_ [(cA, .int)] s := hK
    have hw_r2248 := hw
    obtain ⟨bb2255, rfl⟩ := hw_r2248
    refine lv_if_eq (tgt := 42) hx hb d_FO_formsAreRight_11 (by decide) (fun hc2256 => ?_) (fun hc2256 => ?_)
    · skip
      have hc2256b : bb2255 = false := bI_0 hc2256
      refine lv_iconst (v := 0) hx hb d_FO_formsAreRight_42 (by decide) ?_
      refine W.widen (k := 0) (n := 0) (Nat.le_of_ble_eq_true rfl) (Nat.le_of_ble_eq_true rfl) ?_
      have hP9 := hP.sub (ws' := [(h0, .inr (4, [.ref qa, .ref kr, .ref k1, .ref k2, .ref k3, .ref k4, .ref k5, .ref k6, .ref km, .ref kp, .ref kD, .int (nI (ee__2242)), .int (nI (gl__2249)), .int (nI (wd__2250)), .int (bI il__2243)])), (kr, .inr (2, [.ref kw, .ref kt, .int tb])), (kw, .inr (0, [.ref qa, .int (nI (x9)), .int (nI (y9)), .int (bI z9)])), (km, .inr (1, [.ref kc, .int pl, .int rg])), (kc, .inr (0, [.ref qa, .int (nI (x7)), .int (nI (y7)), .int (bI z7)])), (kp, .inr (3, [.ref kk, .int (nI (pr))])), (kk, .inr (0, [.ref qa, .int (nI (x8)), .int (nI (y8)), .int (bI z8)])), (k6, .inr (0, [.ref qa, .int (nI (x6)), .int (nI (y6)), .int (bI z6)])), (k1, .inr (0, [.ref qa, .int (nI (x1)), .int (nI (y1)), .int (bI z1__2244)])), (k3, .inr (0, [.ref qa, .int (nI (x3)), .int (nI (y3)), .int (bI z3__2252)])), (k4, .inr (0, [.ref qa, .int (nI (x4)), .int (nI (y4)), .int (bI z4)])), (k5, .inr (0, [.ref qa, .int (nI (x5)), .int (nI (y5)), .int (bI z5)])), (k2, .inr (0, [.ref qa, .int (nI (x2)), .int (nI (y2)), .int (bI z2__2251)])), (qa, .inl (cA, 1200, .inl (f)))]) [9, 0, 1, 2, 3, 4, 5, 6, 8, 11, 12, 7, 10, 13] rfl
      have hD9 := hD.sub (ws' := [(h0, .inr (4, [.ref qa, .ref kr, .ref k1, .ref k2, .ref k3, .ref k4, .ref k5, .ref k6, .ref km, .ref kp, .ref kD, .int (nI (ee__2242)), .int (nI (gl__2249)), .int (nI (wd__2250)), .int (bI il__2243)])), (kr, .inr (2, [.ref kw, .ref kt, .int tb])), (kw, .inr (0, [.ref qa, .int (nI (x9)), .int (nI (y9)), .int (bI z9)])), (km, .inr (1, [.ref kc, .int pl, .int rg])), (kc, .inr (0, [.ref qa, .int (nI (x7)), .int (nI (y7)), .int (bI z7)])), (kp, .inr (3, [.ref kk, .int (nI (pr))])), (kk, .inr (0, [.ref qa, .int (nI (x8)), .int (nI (y8)), .int (bI z8)])), (k6, .inr (0, [.ref qa, .int (nI (x6)), .int (nI (y6)), .int (bI z6)])), (k1, .inr (0, [.ref qa, .int (nI (x1)), .int (nI (y1)), .int (bI z1__2244)])), (k3, .inr (0, [.ref qa, .int (nI (x3)), .int (nI (y3)), .int (bI z3__2252)])), (k4, .inr (0, [.ref qa, .int (nI (x4)), .int (nI (y4)), .int (bI z4)])), (k5, .inr (0, [.ref qa, .int (nI (x5)), .int (nI (y5)), .int (bI z5)])), (k2, .inr (0, [.ref qa, .int (nI (x2)), .int (nI (y2)), .int (bI z2__2251)])), (qa, .inl (cA, 1200, .inl (f)))]) [9, 0, 1, 2, 3, 4, 5, 6, 8, 11, 12, 7, 10, 13] (by decide) rfl
      have hK9 := hK.sub (tys' := [(cA, .int)]) [0] rfl
      exact W.zret (v := 0) (ty := .boolean) hx hb hr (by decide +kernel) (fun t ht hW => ⟨⟨0, (), rfl, ⟨false, rfl⟩, ee__2242, gl__2249, wd__2250, il__2243, pr, pl, rg, z1__2244, z2__2251, z3__2252, z5, z7, z9, x8, y8, z8, by omega, by omega, by omega, by omega, by omega, by rw [ht]; exact hP9, va_K.moved hW.alike hK9, hD9⟩, hS.F ht⟩) hS.2.2 d_FO_formsAreRight_43
    · skip
      have hc2256b : bb2255 = true := bI_1 hc2256
      refine lv_aload_n hx hb d_FO_formsAreRight_14 rfl (lv_at hl 0 rfl) ?_
      have hPc := hP.sub (ws' := [(h0, .inr (4, [.ref qa, .ref kr, .ref k1, .ref k2, .ref k3, .ref k4, .ref k5, .ref k6, .ref km, .ref kp, .ref kD, .int (nI (ee__2242)), .int (nI (gl__2249)), .int (nI (wd__2250)), .int (bI il__2243)])), (k5, .inr (0, [.ref qa, .int (nI (x5)), .int (nI (y5)), .int (bI z5)])), (k6, .inr (0, [.ref qa, .int (nI (x6)), .int (nI (y6)), .int (bI z6)])), (qa, .inl (cA, 1200, .inl (f)))]) [9, 7, 6, 13] rfl
      have hDc := hD.sub (ws' := [(h0, .inr (4, [.ref qa, .ref kr, .ref k1, .ref k2, .ref k3, .ref k4, .ref k5, .ref k6, .ref km, .ref kp, .ref kD, .int (nI (ee__2242)), .int (nI (gl__2249)), .int (nI (wd__2250)), .int (bI il__2243)])), (k5, .inr (0, [.ref qa, .int (nI (x5)), .int (nI (y5)), .int (bI z5)])), (k6, .inr (0, [.ref qa, .int (nI (x6)), .int (nI (y6)), .int (bI z6)])), (qa, .inl (cA, 1200, .inl (f)))]) [9, 7, 6, 13] (by decide) rfl
      have hKc := hK.sub (tys' := [(cA, .int)]) [0] rfl
      have hFc := va_free (wc := [(h0, .inr (4, [.ref qa, .ref kr, .ref k1, .ref k2, .ref k3, .ref k4, .ref k5, .ref k6, .ref km, .ref kp, .ref kD, .int (nI (ee__2242)), .int (nI (gl__2249)), .int (nI (wd__2250)), .int (bI il__2243)])), (k5, .inr (0, [.ref qa, .int (nI (x5)), .int (nI (y5)), .int (bI z5)])), (k6, .inr (0, [.ref qa, .int (nI (x6)), .int (nI (y6)), .int (bI z6)])), (qa, .inl (cA, 1200, .inl (f)))]) hD hS hA [9, 7, 6, 13] rfl
      refine va_calli (va_runV (As := []) (rest := []) ⟨hx, hb, hml, hown, hts⟩ (g_FO_placesAreRight l dC dI h0 qa kr k1 k2 k3 k4 k5 k6 km kp kD ee__2242 gl__2249 wd__2250 il__2243 x5 y5 z5 x6 y6 z6 cA f H.size (by omega) (by omega) (by omega) (by omega) (by omega) (by assumption)) (cwV 0 hts (tw_inV w_412 w_414 wp_6 w_2 w_415) rfl rfl rfl (by decide +kernel) ⟨Nat.le_of_ble_eq_true rfl, Nat.le_of_ble_eq_true rfl⟩) ⟨fun a U g mk q => by obtain ⟨q0, q1, qP, qK, qD, qE0⟩ := q; exact ⟨q0, q1, qP, va_K.moved (u := U) (U := U.calling g mk a) (Vm.Alike.refl U.vm) qK, qD, nests.call qE0⟩, va_recv (hK := hK) (hP := hP) (q0 := 9) (ci := 4) rfl rfl, fun U hU hW => ⟨rfl, by rw [hU], by rw [hU]; exact hPc, va_K.moved hW.alike hKc, hDc.weaken (fun _ _ _ _ => trivial), nests.warm hW hNs⟩⟩ rfl rfl hl.1 rfl (lv_room (Nat.le_of_ble_eq_true rfl)) d_FO_formsAreRight_15 ⟨Nat.le_of_ble_eq_true rfl, Nat.le_of_ble_eq_true rfl⟩) hS (fun q _ h => hFc q h) hFc (fun r2257 u t H1 locs ht hvm hw hB hz1 hk1 hS => ?_)
      obtain ⟨z5__2258, hP1, hK1, hD1⟩ := hB
      rw [ht] at hP1
      have hK1 := va_K.moved hvm.symm hK1
      obtain ⟨hP, hD⟩ := va_join (wr := [(kr, .inr (2, [.ref kw, .ref kt, .int tb])), (kw, .inr (0, [.ref qa, .int (nI (x9)), .int (nI (y9)), .int (bI z9)])), (km, .inr (1, [.ref kc, .int pl, .int rg])), (kc, .inr (0, [.ref qa, .int (nI (x7)), .int (nI (y7)), .int (bI z7)])), (kp, .inr (3, [.ref kk, .int (nI (pr))])), (kk, .inr (0, [.ref qa, .int (nI (x8)), .int (nI (y8)), .int (bI z8)])), (k1, .inr (0, [.ref qa, .int (nI (x1)), .int (nI (y1)), .int (bI z1__2244)])), (k2, .inr (0, [.ref qa, .int (nI (x2)), .int (nI (y2)), .int (bI z2__2251)])), (k3, .inr (0, [.ref qa, .int (nI (x3)), .int (nI (y3)), .int (bI z3__2252)])), (k4, .inr (0, [.ref qa, .int (nI (x4)), .int (nI (y4)), .int (bI z4)]))]) (w1 := [(h0, .inr (4, [.ref qa, .ref kr, .ref k1, .ref k2, .ref k3, .ref k4, .ref k5, .ref k6, .ref km, .ref kp, .ref kD, .int (nI (ee__2242)), .int (nI (gl__2249)), .int (nI (wd__2250)), .int (bI il__2243)])), (k5, .inr (0, [.ref qa, .int (nI (x5)), .int (nI (y5)), .int (bI z5__2258)])), (k6, .inr (0, [.ref qa, .int (nI (x6)), .int (nI (y6)), .int (bI z6)])), (qa, .inl (cA, 1200, .inl (f)))]) hP hD [9, 7, 6, 13] [0, 1, 2, 3, 4, 5, 8, 10, 11, 12] rfl rfl (by decide) (by decide) hk1 hFc hP1 hD1
      have hK := (hK.sub (tys' := []) [] rfl).app hK1
      generalize H1 = H at hP hS ⊢
      have hP : va_P (dC, dI) cls_ [(kr, .inr (2, [.ref kw, .ref kt, .int tb])), (kw, .inr (0, [.ref qa, .int (nI (x9)), .int (nI (y9)), .int (bI z9)])), (km, .inr (1, [.ref kc, .int pl, .int rg])), (kc, .inr (0, [.ref qa, .int (nI (x7)), .int (nI (y7)), .int (bI z7)])), (kp, .inr (3, [.ref kk, .int (nI (pr))])), (kk, .inr (0, [.ref qa, .int (nI (x8)), .int (nI (y8)), .int (bI z8)])), (k1, .inr (0, [.ref qa, .int (nI (x1)), .int (nI (y1)), .int (bI z1__2244)])), (k2, .inr (0, [.ref qa, .int (nI (x2)), .int (nI (y2)), .int (bI z2__2251)])), (k3, .inr (0, [.ref qa, .int (nI (x3)), .int (nI (y3)), .int (bI z3__2252)])), (k4, .inr (0, [.ref qa, .int (nI (x4)), .int (nI (y4)), .int (bI z4)])), (h0, .inr (4, [.ref qa, .ref kr, .ref k1, .ref k2, .ref k3, .ref k4, .ref k5, .ref k6, .ref km, .ref kp, .ref kD, .int (nI (ee__2242)), .int (nI (gl__2249)), .int (nI (wd__2250)), .int (bI il__2243)])), (k5, .inr (0, [.ref qa, .int (nI (x5)), .int (nI (y5)), .int (bI z5__2258)])), (k6, .inr (0, [.ref qa, .int (nI (x6)), .int (nI (y6)), .int (bI z6)])), (qa, .inl (cA, 1200, .inl (f)))] H := hP
      have hD : va_D A [(kr, .inr (2, [.ref kw, .ref kt, .int tb])), (kw, .inr (0, [.ref qa, .int (nI (x9)), .int (nI (y9)), .int (bI z9)])), (km, .inr (1, [.ref kc, .int pl, .int rg])), (kc, .inr (0, [.ref qa, .int (nI (x7)), .int (nI (y7)), .int (bI z7)])), (kp, .inr (3, [.ref kk, .int (nI (pr))])), (kk, .inr (0, [.ref qa, .int (nI (x8)), .int (nI (y8)), .int (bI z8)])), (k1, .inr (0, [.ref qa, .int (nI (x1)), .int (nI (y1)), .int (bI z1__2244)])), (k2, .inr (0, [.ref qa, .int (nI (x2)), .int (nI (y2)), .int (bI z2__2251)])), (k3, .inr (0, [.ref qa, .int (nI (x3)), .int (nI (y3)), .int (bI z3__2252)])), (k4, .inr (0, [.ref qa, .int (nI (x4)), .int (nI (y4)), .int (bI z4)])), (h0, .inr (4, [.ref qa, .ref kr, .ref k1, .ref k2, .ref k3, .ref k4, .ref k5, .ref k6, .ref km, .ref kp, .ref kD, .int (nI (ee__2242)), .int (nI (gl__2249)), .int (nI (wd__2250)), .int (bI il__2243)])), (k5, .inr (0, [.ref qa, .int (nI (x5)), .int (nI (y5)), .int (bI z5__2258)])), (k6, .inr (0, [.ref qa, .int (nI (x6)), .int (nI (y6)), .int (bI z6)])), (qa, .inl (cA, 1200, .inl (f)))] := hD
      have hK : va_K (dC, dI) cls_ [(cA, .int)] s := hK
      have hw_r2257 := hw
      obtain ⟨bb2259, rfl⟩ := hw_r2257
      refine lv_if_eq (tgt := 42) hx hb d_FO_formsAreRight_18 (by decide) (fun hc2260 => ?_) (fun hc2260 => ?_)
      · skip
        have hc2260b : bb2259 = false := bI_0 hc2260
        refine lv_iconst (v := 0) hx hb d_FO_formsAreRight_42 (by decide) ?_
        refine W.widen (k := 0) (n := 0) (Nat.le_of_ble_eq_true rfl) (Nat.le_of_ble_eq_true rfl) ?_
        have hP9 := hP.sub (ws' := [(h0, .inr (4, [.ref qa, .ref kr, .ref k1, .ref k2, .ref k3, .ref k4, .ref k5, .ref k6, .ref km, .ref kp, .ref kD, .int (nI (ee__2242)), .int (nI (gl__2249)), .int (nI (wd__2250)), .int (bI il__2243)])), (kr, .inr (2, [.ref kw, .ref kt, .int tb])), (kw, .inr (0, [.ref qa, .int (nI (x9)), .int (nI (y9)), .int (bI z9)])), (km, .inr (1, [.ref kc, .int pl, .int rg])), (kc, .inr (0, [.ref qa, .int (nI (x7)), .int (nI (y7)), .int (bI z7)])), (kp, .inr (3, [.ref kk, .int (nI (pr))])), (kk, .inr (0, [.ref qa, .int (nI (x8)), .int (nI (y8)), .int (bI z8)])), (k6, .inr (0, [.ref qa, .int (nI (x6)), .int (nI (y6)), .int (bI z6)])), (k1, .inr (0, [.ref qa, .int (nI (x1)), .int (nI (y1)), .int (bI z1__2244)])), (k3, .inr (0, [.ref qa, .int (nI (x3)), .int (nI (y3)), .int (bI z3__2252)])), (k4, .inr (0, [.ref qa, .int (nI (x4)), .int (nI (y4)), .int (bI z4)])), (k5, .inr (0, [.ref qa, .int (nI (x5)), .int (nI (y5)), .int (bI z5__2258)])), (k2, .inr (0, [.ref qa, .int (nI (x2)), .int (nI (y2)), .int (bI z2__2251)])), (qa, .inl (cA, 1200, .inl (f)))]) [10, 0, 1, 2, 3, 4, 5, 12, 6, 8, 9, 11, 7, 13] rfl
        have hD9 := hD.sub (ws' := [(h0, .inr (4, [.ref qa, .ref kr, .ref k1, .ref k2, .ref k3, .ref k4, .ref k5, .ref k6, .ref km, .ref kp, .ref kD, .int (nI (ee__2242)), .int (nI (gl__2249)), .int (nI (wd__2250)), .int (bI il__2243)])), (kr, .inr (2, [.ref kw, .ref kt, .int tb])), (kw, .inr (0, [.ref qa, .int (nI (x9)), .int (nI (y9)), .int (bI z9)])), (km, .inr (1, [.ref kc, .int pl, .int rg])), (kc, .inr (0, [.ref qa, .int (nI (x7)), .int (nI (y7)), .int (bI z7)])), (kp, .inr (3, [.ref kk, .int (nI (pr))])), (kk, .inr (0, [.ref qa, .int (nI (x8)), .int (nI (y8)), .int (bI z8)])), (k6, .inr (0, [.ref qa, .int (nI (x6)), .int (nI (y6)), .int (bI z6)])), (k1, .inr (0, [.ref qa, .int (nI (x1)), .int (nI (y1)), .int (bI z1__2244)])), (k3, .inr (0, [.ref qa, .int (nI (x3)), .int (nI (y3)), .int (bI z3__2252)])), (k4, .inr (0, [.ref qa, .int (nI (x4)), .int (nI (y4)), .int (bI z4)])), (k5, .inr (0, [.ref qa, .int (nI (x5)), .int (nI (y5)), .int (bI z5__2258)])), (k2, .inr (0, [.ref qa, .int (nI (x2)), .int (nI (y2)), .int (bI z2__2251)])), (qa, .inl (cA, 1200, .inl (f)))]) [10, 0, 1, 2, 3, 4, 5, 12, 6, 8, 9, 11, 7, 13] (by decide) rfl
        have hK9 := hK.sub (tys' := [(cA, .int)]) [0] rfl
        exact W.zret (v := 0) (ty := .boolean) hx hb hr (by decide +kernel) (fun t ht hW => ⟨⟨0, (), rfl, ⟨false, rfl⟩, ee__2242, gl__2249, wd__2250, il__2243, pr, pl, rg, z1__2244, z2__2251, z3__2252, z5__2258, z7, z9, x8, y8, z8, by omega, by omega, by omega, by omega, by omega, by rw [ht]; exact hP9, va_K.moved hW.alike hK9, hD9⟩, hS.F ht⟩) hS.2.2 d_FO_formsAreRight_43
      · skip
        have hc2260b : bb2259 = true := bI_1 hc2260
        refine lv_aload_n hx hb d_FO_formsAreRight_21 rfl (lv_at hl 0 rfl) ?_
        refine va_get (D := (dC, dI)) (ci := 4) (v := .ref km) (C := R_FO) (T := F_FO) (N := 15) hx hb hts in_FO hown hK hP 10 rfl rfl 8 (by decide) (hts _ (List.mem_cons_of_mem _ w_125)) (fun _ h9 => h9) rfl d_FO_formsAreRight_22 ?_
        have hPc := hP.sub (ws' := [(km, .inr (1, [.ref kc, .int pl, .int rg])), (kc, .inr (0, [.ref qa, .int (nI (x7)), .int (nI (y7)), .int (bI z7)])), (qa, .inl (cA, 1200, .inl (f)))]) [2, 3, 13] rfl
        have hDc := hD.sub (ws' := [(km, .inr (1, [.ref kc, .int pl, .int rg])), (kc, .inr (0, [.ref qa, .int (nI (x7)), .int (nI (y7)), .int (bI z7)])), (qa, .inl (cA, 1200, .inl (f)))]) [2, 3, 13] (by decide) rfl
        have hKc := hK.sub (tys' := [(cA, .int)]) [0] rfl
        have hFc := va_free (wc := [(km, .inr (1, [.ref kc, .int pl, .int rg])), (kc, .inr (0, [.ref qa, .int (nI (x7)), .int (nI (y7)), .int (bI z7)])), (qa, .inl (cA, 1200, .inl (f)))]) hD hS hA [2, 3, 13] rfl
        refine va_calli (va_runV (As := []) (rest := []) ⟨hx, hb, hml, hown, hts⟩ (g_CM_isRight l dC dI km kc qa x7 y7 z7 cA f pl rg H.size (by omega) (by assumption)) (cwV 0 hts (tw_inV w_422 w_423 w_424 w_5 w_425) rfl rfl rfl (by decide +kernel) ⟨Nat.le_of_ble_eq_true rfl, Nat.le_of_ble_eq_true rfl⟩) ⟨fun a U g mk q => by obtain ⟨q0, q1, qP, qK, qD⟩ := q; exact ⟨q0, q1, qP, va_K.moved (u := U) (U := U.calling g mk a) (Vm.Alike.refl U.vm) qK, qD⟩, va_recv (hK := hK) (hP := hP) (q0 := 2) (ci := 1) rfl rfl, fun U hU hW => ⟨rfl, by rw [hU], by rw [hU]; exact hPc, va_K.moved hW.alike hKc, hDc.weaken (fun _ _ _ _ => trivial)⟩⟩ rfl rfl hl.1 rfl (lv_room (Nat.le_of_ble_eq_true rfl)) d_FO_formsAreRight_25 ⟨Nat.le_of_ble_eq_true rfl, Nat.le_of_ble_eq_true rfl⟩) hS (fun q _ h => hFc q h) hFc (fun r2261 u t H1 locs ht hvm hw hB hz1 hk1 hS => ?_)
        obtain ⟨m_2262, pl_2263, rg_2264, hP1, hK1, hD1⟩ := hB
        rw [ht] at hP1
        have hK1 := va_K.moved hvm.symm hK1
        obtain ⟨hP, hD⟩ := va_join (wr := [(kr, .inr (2, [.ref kw, .ref kt, .int tb])), (kw, .inr (0, [.ref qa, .int (nI (x9)), .int (nI (y9)), .int (bI z9)])), (kp, .inr (3, [.ref kk, .int (nI (pr))])), (kk, .inr (0, [.ref qa, .int (nI (x8)), .int (nI (y8)), .int (bI z8)])), (k1, .inr (0, [.ref qa, .int (nI (x1)), .int (nI (y1)), .int (bI z1__2244)])), (k2, .inr (0, [.ref qa, .int (nI (x2)), .int (nI (y2)), .int (bI z2__2251)])), (k3, .inr (0, [.ref qa, .int (nI (x3)), .int (nI (y3)), .int (bI z3__2252)])), (k4, .inr (0, [.ref qa, .int (nI (x4)), .int (nI (y4)), .int (bI z4)])), (h0, .inr (4, [.ref qa, .ref kr, .ref k1, .ref k2, .ref k3, .ref k4, .ref k5, .ref k6, .ref km, .ref kp, .ref kD, .int (nI (ee__2242)), .int (nI (gl__2249)), .int (nI (wd__2250)), .int (bI il__2243)])), (k5, .inr (0, [.ref qa, .int (nI (x5)), .int (nI (y5)), .int (bI z5__2258)])), (k6, .inr (0, [.ref qa, .int (nI (x6)), .int (nI (y6)), .int (bI z6)]))]) (w1 := [(km, .inr (1, [.ref kc, .int pl_2263, .int rg_2264])), (kc, .inr (0, [.ref qa, .int (nI (x7)), .int (nI (y7)), .int (bI m_2262)])), (qa, .inl (cA, 1200, .inl (f)))]) hP hD [2, 3, 13] [0, 1, 4, 5, 6, 7, 8, 9, 10, 11, 12] rfl rfl (by decide) (by decide) hk1 hFc hP1 hD1
        have hK := (hK.sub (tys' := []) [] rfl).app hK1
        generalize H1 = H at hP hS ⊢
        have hP : va_P (dC, dI) cls_ [(kr, .inr (2, [.ref kw, .ref kt, .int tb])), (kw, .inr (0, [.ref qa, .int (nI (x9)), .int (nI (y9)), .int (bI z9)])), (kp, .inr (3, [.ref kk, .int (nI (pr))])), (kk, .inr (0, [.ref qa, .int (nI (x8)), .int (nI (y8)), .int (bI z8)])), (k1, .inr (0, [.ref qa, .int (nI (x1)), .int (nI (y1)), .int (bI z1__2244)])), (k2, .inr (0, [.ref qa, .int (nI (x2)), .int (nI (y2)), .int (bI z2__2251)])), (k3, .inr (0, [.ref qa, .int (nI (x3)), .int (nI (y3)), .int (bI z3__2252)])), (k4, .inr (0, [.ref qa, .int (nI (x4)), .int (nI (y4)), .int (bI z4)])), (h0, .inr (4, [.ref qa, .ref kr, .ref k1, .ref k2, .ref k3, .ref k4, .ref k5, .ref k6, .ref km, .ref kp, .ref kD, .int (nI (ee__2242)), .int (nI (gl__2249)), .int (nI (wd__2250)), .int (bI il__2243)])), (k5, .inr (0, [.ref qa, .int (nI (x5)), .int (nI (y5)), .int (bI z5__2258)])), (k6, .inr (0, [.ref qa, .int (nI (x6)), .int (nI (y6)), .int (bI z6)])), (km, .inr (1, [.ref kc, .int pl_2263, .int rg_2264])), (kc, .inr (0, [.ref qa, .int (nI (x7)), .int (nI (y7)), .int (bI m_2262)])), (qa, .inl (cA, 1200, .inl (f)))] H := hP
        have hD : va_D A [(kr, .inr (2, [.ref kw, .ref kt, .int tb])), (kw, .inr (0, [.ref qa, .int (nI (x9)), .int (nI (y9)), .int (bI z9)])), (kp, .inr (3, [.ref kk, .int (nI (pr))])), (kk, .inr (0, [.ref qa, .int (nI (x8)), .int (nI (y8)), .int (bI z8)])), (k1, .inr (0, [.ref qa, .int (nI (x1)), .int (nI (y1)), .int (bI z1__2244)])), (k2, .inr (0, [.ref qa, .int (nI (x2)), .int (nI (y2)), .int (bI z2__2251)])), (k3, .inr (0, [.ref qa, .int (nI (x3)), .int (nI (y3)), .int (bI z3__2252)])), (k4, .inr (0, [.ref qa, .int (nI (x4)), .int (nI (y4)), .int (bI z4)])), (h0, .inr (4, [.ref qa, .ref kr, .ref k1, .ref k2, .ref k3, .ref k4, .ref k5, .ref k6, .ref km, .ref kp, .ref kD, .int (nI (ee__2242)), .int (nI (gl__2249)), .int (nI (wd__2250)), .int (bI il__2243)])), (k5, .inr (0, [.ref qa, .int (nI (x5)), .int (nI (y5)), .int (bI z5__2258)])), (k6, .inr (0, [.ref qa, .int (nI (x6)), .int (nI (y6)), .int (bI z6)])), (km, .inr (1, [.ref kc, .int pl_2263, .int rg_2264])), (kc, .inr (0, [.ref qa, .int (nI (x7)), .int (nI (y7)), .int (bI m_2262)])), (qa, .inl (cA, 1200, .inl (f)))] := hD
        have hK : va_K (dC, dI) cls_ [(cA, .int)] s := hK
        have hw_r2261 := hw
        obtain ⟨bb2265, rfl⟩ := hw_r2261
        refine lv_if_eq (tgt := 42) hx hb d_FO_formsAreRight_28 (by decide) (fun hc2266 => ?_) (fun hc2266 => ?_)
        · skip
          have hc2266b : bb2265 = false := bI_0 hc2266
          refine lv_iconst (v := 0) hx hb d_FO_formsAreRight_42 (by decide) ?_
          refine W.widen (k := 0) (n := 0) (Nat.le_of_ble_eq_true rfl) (Nat.le_of_ble_eq_true rfl) ?_
          have hP9 := hP.sub (ws' := [(h0, .inr (4, [.ref qa, .ref kr, .ref k1, .ref k2, .ref k3, .ref k4, .ref k5, .ref k6, .ref km, .ref kp, .ref kD, .int (nI (ee__2242)), .int (nI (gl__2249)), .int (nI (wd__2250)), .int (bI il__2243)])), (kr, .inr (2, [.ref kw, .ref kt, .int tb])), (kw, .inr (0, [.ref qa, .int (nI (x9)), .int (nI (y9)), .int (bI z9)])), (km, .inr (1, [.ref kc, .int pl_2263, .int rg_2264])), (kc, .inr (0, [.ref qa, .int (nI (x7)), .int (nI (y7)), .int (bI m_2262)])), (kp, .inr (3, [.ref kk, .int (nI (pr))])), (kk, .inr (0, [.ref qa, .int (nI (x8)), .int (nI (y8)), .int (bI z8)])), (k6, .inr (0, [.ref qa, .int (nI (x6)), .int (nI (y6)), .int (bI z6)])), (k1, .inr (0, [.ref qa, .int (nI (x1)), .int (nI (y1)), .int (bI z1__2244)])), (k3, .inr (0, [.ref qa, .int (nI (x3)), .int (nI (y3)), .int (bI z3__2252)])), (k4, .inr (0, [.ref qa, .int (nI (x4)), .int (nI (y4)), .int (bI z4)])), (k5, .inr (0, [.ref qa, .int (nI (x5)), .int (nI (y5)), .int (bI z5__2258)])), (k2, .inr (0, [.ref qa, .int (nI (x2)), .int (nI (y2)), .int (bI z2__2251)])), (qa, .inl (cA, 1200, .inl (f)))]) [8, 0, 1, 11, 12, 2, 3, 10, 4, 6, 7, 9, 5, 13] rfl
          have hD9 := hD.sub (ws' := [(h0, .inr (4, [.ref qa, .ref kr, .ref k1, .ref k2, .ref k3, .ref k4, .ref k5, .ref k6, .ref km, .ref kp, .ref kD, .int (nI (ee__2242)), .int (nI (gl__2249)), .int (nI (wd__2250)), .int (bI il__2243)])), (kr, .inr (2, [.ref kw, .ref kt, .int tb])), (kw, .inr (0, [.ref qa, .int (nI (x9)), .int (nI (y9)), .int (bI z9)])), (km, .inr (1, [.ref kc, .int pl_2263, .int rg_2264])), (kc, .inr (0, [.ref qa, .int (nI (x7)), .int (nI (y7)), .int (bI m_2262)])), (kp, .inr (3, [.ref kk, .int (nI (pr))])), (kk, .inr (0, [.ref qa, .int (nI (x8)), .int (nI (y8)), .int (bI z8)])), (k6, .inr (0, [.ref qa, .int (nI (x6)), .int (nI (y6)), .int (bI z6)])), (k1, .inr (0, [.ref qa, .int (nI (x1)), .int (nI (y1)), .int (bI z1__2244)])), (k3, .inr (0, [.ref qa, .int (nI (x3)), .int (nI (y3)), .int (bI z3__2252)])), (k4, .inr (0, [.ref qa, .int (nI (x4)), .int (nI (y4)), .int (bI z4)])), (k5, .inr (0, [.ref qa, .int (nI (x5)), .int (nI (y5)), .int (bI z5__2258)])), (k2, .inr (0, [.ref qa, .int (nI (x2)), .int (nI (y2)), .int (bI z2__2251)])), (qa, .inl (cA, 1200, .inl (f)))]) [8, 0, 1, 11, 12, 2, 3, 10, 4, 6, 7, 9, 5, 13] (by decide) rfl
          have hK9 := hK.sub (tys' := [(cA, .int)]) [0] rfl
          exact W.zret (v := 0) (ty := .boolean) hx hb hr (by decide +kernel) (fun t ht hW => ⟨⟨0, (), rfl, ⟨false, rfl⟩, ee__2242, gl__2249, wd__2250, il__2243, pr, pl_2263, rg_2264, z1__2244, z2__2251, z3__2252, z5__2258, m_2262, z9, x8, y8, z8, by omega, by omega, by omega, by omega, by omega, by rw [ht]; exact hP9, va_K.moved hW.alike hK9, hD9⟩, hS.F ht⟩) hS.2.2 d_FO_formsAreRight_43
        · skip
          have hc2266b : bb2265 = true := bI_1 hc2266
          refine lv_aload_n hx hb d_FO_formsAreRight_31 rfl (lv_at hl 0 rfl) ?_
          have hPc := hP.sub (ws' := [(h0, .inr (4, [.ref qa, .ref kr, .ref k1, .ref k2, .ref k3, .ref k4, .ref k5, .ref k6, .ref km, .ref kp, .ref kD, .int (nI (ee__2242)), .int (nI (gl__2249)), .int (nI (wd__2250)), .int (bI il__2243)])), (kr, .inr (2, [.ref kw, .ref kt, .int tb])), (kw, .inr (0, [.ref qa, .int (nI (x9)), .int (nI (y9)), .int (bI z9)])), (kp, .inr (3, [.ref kk, .int (nI (pr))])), (kk, .inr (0, [.ref qa, .int (nI (x8)), .int (nI (y8)), .int (bI z8)])), (qa, .inl (cA, 1200, .inl (f)))]) [8, 0, 1, 2, 3, 13] rfl
          have hDc := hD.sub (ws' := [(h0, .inr (4, [.ref qa, .ref kr, .ref k1, .ref k2, .ref k3, .ref k4, .ref k5, .ref k6, .ref km, .ref kp, .ref kD, .int (nI (ee__2242)), .int (nI (gl__2249)), .int (nI (wd__2250)), .int (bI il__2243)])), (kr, .inr (2, [.ref kw, .ref kt, .int tb])), (kw, .inr (0, [.ref qa, .int (nI (x9)), .int (nI (y9)), .int (bI z9)])), (kp, .inr (3, [.ref kk, .int (nI (pr))])), (kk, .inr (0, [.ref qa, .int (nI (x8)), .int (nI (y8)), .int (bI z8)])), (qa, .inl (cA, 1200, .inl (f)))]) [8, 0, 1, 2, 3, 13] (by decide) rfl
          have hKc := hK.sub (tys' := [(cA, .int)]) [0] rfl
          have hFc := va_free (wc := [(h0, .inr (4, [.ref qa, .ref kr, .ref k1, .ref k2, .ref k3, .ref k4, .ref k5, .ref k6, .ref km, .ref kp, .ref kD, .int (nI (ee__2242)), .int (nI (gl__2249)), .int (nI (wd__2250)), .int (bI il__2243)])), (kr, .inr (2, [.ref kw, .ref kt, .int tb])), (kw, .inr (0, [.ref qa, .int (nI (x9)), .int (nI (y9)), .int (bI z9)])), (kp, .inr (3, [.ref kk, .int (nI (pr))])), (kk, .inr (0, [.ref qa, .int (nI (x8)), .int (nI (y8)), .int (bI z8)])), (qa, .inl (cA, 1200, .inl (f)))]) hD hS hA [8, 0, 1, 2, 3, 13] rfl
          refine va_calli (va_runV (As := []) (rest := []) ⟨hx, hb, hml, hown, hts⟩ (g_FO_kernIsRight l dC dI h0 qa kr k1 k2 k3 k4 k5 k6 km kp kD ee__2242 gl__2249 wd__2250 il__2243 kw kt tb x9 y9 z9 kk pr x8 y8 z8 cA f H.size (by omega) (by omega) (by omega) (by omega) (by omega) (by omega) (by assumption)) (cwV 0 hts (tw_inV w_449 w_451 wp_12 w_2 w_452) rfl rfl rfl (by decide +kernel) ⟨Nat.le_of_ble_eq_true rfl, Nat.le_of_ble_eq_true rfl⟩) ⟨fun a U g mk q => by obtain ⟨q0, q1, qP, qK, qD, qE0⟩ := q; exact ⟨q0, q1, qP, va_K.moved (u := U) (U := U.calling g mk a) (Vm.Alike.refl U.vm) qK, qD, nests.call qE0⟩, va_recv (hK := hK) (hP := hP) (q0 := 8) (ci := 4) rfl rfl, fun U hU hW => ⟨rfl, by rw [hU], by rw [hU]; exact hPc, va_K.moved hW.alike hKc, hDc.weaken (fun _ _ _ _ => trivial), nests.warm hW hNs⟩⟩ rfl rfl hl.1 rfl (lv_room (Nat.le_of_ble_eq_true rfl)) d_FO_formsAreRight_32 ⟨Nat.le_of_ble_eq_true rfl, Nat.le_of_ble_eq_true rfl⟩) hS (fun q _ h => hFc q h) hFc (fun r2267 u t H1 locs ht hvm hw hB hz1 hk1 hS => ?_)
          obtain ⟨z9__2268, x8__2269, y8__2270, z8__2271, pr__2272, hq_f2273_0, hq_f2274_1, hP1, hK1, hD1⟩ := hB
          rw [ht] at hP1
          have hK1 := va_K.moved hvm.symm hK1
          obtain ⟨hP, hD⟩ := va_join (wr := [(k1, .inr (0, [.ref qa, .int (nI (x1)), .int (nI (y1)), .int (bI z1__2244)])), (k2, .inr (0, [.ref qa, .int (nI (x2)), .int (nI (y2)), .int (bI z2__2251)])), (k3, .inr (0, [.ref qa, .int (nI (x3)), .int (nI (y3)), .int (bI z3__2252)])), (k4, .inr (0, [.ref qa, .int (nI (x4)), .int (nI (y4)), .int (bI z4)])), (k5, .inr (0, [.ref qa, .int (nI (x5)), .int (nI (y5)), .int (bI z5__2258)])), (k6, .inr (0, [.ref qa, .int (nI (x6)), .int (nI (y6)), .int (bI z6)])), (km, .inr (1, [.ref kc, .int pl_2263, .int rg_2264])), (kc, .inr (0, [.ref qa, .int (nI (x7)), .int (nI (y7)), .int (bI m_2262)]))]) (w1 := [(h0, .inr (4, [.ref qa, .ref kr, .ref k1, .ref k2, .ref k3, .ref k4, .ref k5, .ref k6, .ref km, .ref kp, .ref kD, .int (nI (ee__2242)), .int (nI (gl__2249)), .int (nI (wd__2250)), .int (bI il__2243)])), (kr, .inr (2, [.ref kw, .ref kt, .int tb])), (kw, .inr (0, [.ref qa, .int (nI (x9)), .int (nI (y9)), .int (bI z9__2268)])), (kp, .inr (3, [.ref kk, .int (nI (pr__2272))])), (kk, .inr (0, [.ref qa, .int (nI (x8__2269)), .int (nI (y8__2270)), .int (bI z8__2271)])), (qa, .inl (cA, 1200, .inl (f)))]) hP hD [8, 0, 1, 2, 3, 13] [4, 5, 6, 7, 9, 10, 11, 12] rfl rfl (by decide) (by decide) hk1 hFc hP1 hD1
          have hK := (hK.sub (tys' := []) [] rfl).app hK1
          generalize H1 = H at hP hS ⊢
          have hP : va_P (dC, dI) cls_ [(k1, .inr (0, [.ref qa, .int (nI (x1)), .int (nI (y1)), .int (bI z1__2244)])), (k2, .inr (0, [.ref qa, .int (nI (x2)), .int (nI (y2)), .int (bI z2__2251)])), (k3, .inr (0, [.ref qa, .int (nI (x3)), .int (nI (y3)), .int (bI z3__2252)])), (k4, .inr (0, [.ref qa, .int (nI (x4)), .int (nI (y4)), .int (bI z4)])), (k5, .inr (0, [.ref qa, .int (nI (x5)), .int (nI (y5)), .int (bI z5__2258)])), (k6, .inr (0, [.ref qa, .int (nI (x6)), .int (nI (y6)), .int (bI z6)])), (km, .inr (1, [.ref kc, .int pl_2263, .int rg_2264])), (kc, .inr (0, [.ref qa, .int (nI (x7)), .int (nI (y7)), .int (bI m_2262)])), (h0, .inr (4, [.ref qa, .ref kr, .ref k1, .ref k2, .ref k3, .ref k4, .ref k5, .ref k6, .ref km, .ref kp, .ref kD, .int (nI (ee__2242)), .int (nI (gl__2249)), .int (nI (wd__2250)), .int (bI il__2243)])), (kr, .inr (2, [.ref kw, .ref kt, .int tb])), (kw, .inr (0, [.ref qa, .int (nI (x9)), .int (nI (y9)), .int (bI z9__2268)])), (kp, .inr (3, [.ref kk, .int (nI (pr__2272))])), (kk, .inr (0, [.ref qa, .int (nI (x8__2269)), .int (nI (y8__2270)), .int (bI z8__2271)])), (qa, .inl (cA, 1200, .inl (f)))] H := hP
          have hD : va_D A [(k1, .inr (0, [.ref qa, .int (nI (x1)), .int (nI (y1)), .int (bI z1__2244)])), (k2, .inr (0, [.ref qa, .int (nI (x2)), .int (nI (y2)), .int (bI z2__2251)])), (k3, .inr (0, [.ref qa, .int (nI (x3)), .int (nI (y3)), .int (bI z3__2252)])), (k4, .inr (0, [.ref qa, .int (nI (x4)), .int (nI (y4)), .int (bI z4)])), (k5, .inr (0, [.ref qa, .int (nI (x5)), .int (nI (y5)), .int (bI z5__2258)])), (k6, .inr (0, [.ref qa, .int (nI (x6)), .int (nI (y6)), .int (bI z6)])), (km, .inr (1, [.ref kc, .int pl_2263, .int rg_2264])), (kc, .inr (0, [.ref qa, .int (nI (x7)), .int (nI (y7)), .int (bI m_2262)])), (h0, .inr (4, [.ref qa, .ref kr, .ref k1, .ref k2, .ref k3, .ref k4, .ref k5, .ref k6, .ref km, .ref kp, .ref kD, .int (nI (ee__2242)), .int (nI (gl__2249)), .int (nI (wd__2250)), .int (bI il__2243)])), (kr, .inr (2, [.ref kw, .ref kt, .int tb])), (kw, .inr (0, [.ref qa, .int (nI (x9)), .int (nI (y9)), .int (bI z9__2268)])), (kp, .inr (3, [.ref kk, .int (nI (pr__2272))])), (kk, .inr (0, [.ref qa, .int (nI (x8__2269)), .int (nI (y8__2270)), .int (bI z8__2271)])), (qa, .inl (cA, 1200, .inl (f)))] := hD
          have hK : va_K (dC, dI) cls_ [(cA, .int)] s := hK
          have hw_r2267 := hw
          obtain ⟨bb2275, rfl⟩ := hw_r2267
          refine lv_if_eq (tgt := 42) hx hb d_FO_formsAreRight_35 (by decide) (fun hc2276 => ?_) (fun hc2276 => ?_)
          · skip
            have hc2276b : bb2275 = false := bI_0 hc2276
            refine lv_iconst (v := 0) hx hb d_FO_formsAreRight_42 (by decide) ?_
            refine W.widen (k := 0) (n := 0) (Nat.le_of_ble_eq_true rfl) (Nat.le_of_ble_eq_true rfl) ?_
            have hP9 := hP.sub (ws' := [(h0, .inr (4, [.ref qa, .ref kr, .ref k1, .ref k2, .ref k3, .ref k4, .ref k5, .ref k6, .ref km, .ref kp, .ref kD, .int (nI (ee__2242)), .int (nI (gl__2249)), .int (nI (wd__2250)), .int (bI il__2243)])), (kr, .inr (2, [.ref kw, .ref kt, .int tb])), (kw, .inr (0, [.ref qa, .int (nI (x9)), .int (nI (y9)), .int (bI z9__2268)])), (km, .inr (1, [.ref kc, .int pl_2263, .int rg_2264])), (kc, .inr (0, [.ref qa, .int (nI (x7)), .int (nI (y7)), .int (bI m_2262)])), (kp, .inr (3, [.ref kk, .int (nI (pr__2272))])), (kk, .inr (0, [.ref qa, .int (nI (x8__2269)), .int (nI (y8__2270)), .int (bI z8__2271)])), (k6, .inr (0, [.ref qa, .int (nI (x6)), .int (nI (y6)), .int (bI z6)])), (k1, .inr (0, [.ref qa, .int (nI (x1)), .int (nI (y1)), .int (bI z1__2244)])), (k3, .inr (0, [.ref qa, .int (nI (x3)), .int (nI (y3)), .int (bI z3__2252)])), (k4, .inr (0, [.ref qa, .int (nI (x4)), .int (nI (y4)), .int (bI z4)])), (k5, .inr (0, [.ref qa, .int (nI (x5)), .int (nI (y5)), .int (bI z5__2258)])), (k2, .inr (0, [.ref qa, .int (nI (x2)), .int (nI (y2)), .int (bI z2__2251)])), (qa, .inl (cA, 1200, .inl (f)))]) [8, 9, 10, 6, 7, 11, 12, 5, 0, 2, 3, 4, 1, 13] rfl
            have hD9 := hD.sub (ws' := [(h0, .inr (4, [.ref qa, .ref kr, .ref k1, .ref k2, .ref k3, .ref k4, .ref k5, .ref k6, .ref km, .ref kp, .ref kD, .int (nI (ee__2242)), .int (nI (gl__2249)), .int (nI (wd__2250)), .int (bI il__2243)])), (kr, .inr (2, [.ref kw, .ref kt, .int tb])), (kw, .inr (0, [.ref qa, .int (nI (x9)), .int (nI (y9)), .int (bI z9__2268)])), (km, .inr (1, [.ref kc, .int pl_2263, .int rg_2264])), (kc, .inr (0, [.ref qa, .int (nI (x7)), .int (nI (y7)), .int (bI m_2262)])), (kp, .inr (3, [.ref kk, .int (nI (pr__2272))])), (kk, .inr (0, [.ref qa, .int (nI (x8__2269)), .int (nI (y8__2270)), .int (bI z8__2271)])), (k6, .inr (0, [.ref qa, .int (nI (x6)), .int (nI (y6)), .int (bI z6)])), (k1, .inr (0, [.ref qa, .int (nI (x1)), .int (nI (y1)), .int (bI z1__2244)])), (k3, .inr (0, [.ref qa, .int (nI (x3)), .int (nI (y3)), .int (bI z3__2252)])), (k4, .inr (0, [.ref qa, .int (nI (x4)), .int (nI (y4)), .int (bI z4)])), (k5, .inr (0, [.ref qa, .int (nI (x5)), .int (nI (y5)), .int (bI z5__2258)])), (k2, .inr (0, [.ref qa, .int (nI (x2)), .int (nI (y2)), .int (bI z2__2251)])), (qa, .inl (cA, 1200, .inl (f)))]) [8, 9, 10, 6, 7, 11, 12, 5, 0, 2, 3, 4, 1, 13] (by decide) rfl
            have hK9 := hK.sub (tys' := [(cA, .int)]) [0] rfl
            exact W.zret (v := 0) (ty := .boolean) hx hb hr (by decide +kernel) (fun t ht hW => ⟨⟨0, (), rfl, ⟨false, rfl⟩, ee__2242, gl__2249, wd__2250, il__2243, pr__2272, pl_2263, rg_2264, z1__2244, z2__2251, z3__2252, z5__2258, m_2262, z9__2268, x8__2269, y8__2270, z8__2271, by omega, by omega, by omega, by omega, by omega, by rw [ht]; exact hP9, va_K.moved hW.alike hK9, hD9⟩, hS.F ht⟩) hS.2.2 d_FO_formsAreRight_43
          · skip
            have hc2276b : bb2275 = true := bI_1 hc2276
            refine lv_iconst (v := 1) hx hb d_FO_formsAreRight_38 (by decide) ?_
            refine lv_goto (tgt := 43) hx hb d_FO_formsAreRight_39 (by decide) ?_
            refine W.widen (k := 0) (n := 0) (Nat.le_of_ble_eq_true rfl) (Nat.le_of_ble_eq_true rfl) ?_
            have hP9 := hP.sub (ws' := [(h0, .inr (4, [.ref qa, .ref kr, .ref k1, .ref k2, .ref k3, .ref k4, .ref k5, .ref k6, .ref km, .ref kp, .ref kD, .int (nI (ee__2242)), .int (nI (gl__2249)), .int (nI (wd__2250)), .int (bI il__2243)])), (kr, .inr (2, [.ref kw, .ref kt, .int tb])), (kw, .inr (0, [.ref qa, .int (nI (x9)), .int (nI (y9)), .int (bI z9__2268)])), (km, .inr (1, [.ref kc, .int pl_2263, .int rg_2264])), (kc, .inr (0, [.ref qa, .int (nI (x7)), .int (nI (y7)), .int (bI m_2262)])), (kp, .inr (3, [.ref kk, .int (nI (pr__2272))])), (kk, .inr (0, [.ref qa, .int (nI (x8__2269)), .int (nI (y8__2270)), .int (bI z8__2271)])), (k6, .inr (0, [.ref qa, .int (nI (x6)), .int (nI (y6)), .int (bI z6)])), (k1, .inr (0, [.ref qa, .int (nI (x1)), .int (nI (y1)), .int (bI z1__2244)])), (k3, .inr (0, [.ref qa, .int (nI (x3)), .int (nI (y3)), .int (bI z3__2252)])), (k4, .inr (0, [.ref qa, .int (nI (x4)), .int (nI (y4)), .int (bI z4)])), (k5, .inr (0, [.ref qa, .int (nI (x5)), .int (nI (y5)), .int (bI z5__2258)])), (k2, .inr (0, [.ref qa, .int (nI (x2)), .int (nI (y2)), .int (bI z2__2251)])), (qa, .inl (cA, 1200, .inl (f)))]) [8, 9, 10, 6, 7, 11, 12, 5, 0, 2, 3, 4, 1, 13] rfl
            have hD9 := hD.sub (ws' := [(h0, .inr (4, [.ref qa, .ref kr, .ref k1, .ref k2, .ref k3, .ref k4, .ref k5, .ref k6, .ref km, .ref kp, .ref kD, .int (nI (ee__2242)), .int (nI (gl__2249)), .int (nI (wd__2250)), .int (bI il__2243)])), (kr, .inr (2, [.ref kw, .ref kt, .int tb])), (kw, .inr (0, [.ref qa, .int (nI (x9)), .int (nI (y9)), .int (bI z9__2268)])), (km, .inr (1, [.ref kc, .int pl_2263, .int rg_2264])), (kc, .inr (0, [.ref qa, .int (nI (x7)), .int (nI (y7)), .int (bI m_2262)])), (kp, .inr (3, [.ref kk, .int (nI (pr__2272))])), (kk, .inr (0, [.ref qa, .int (nI (x8__2269)), .int (nI (y8__2270)), .int (bI z8__2271)])), (k6, .inr (0, [.ref qa, .int (nI (x6)), .int (nI (y6)), .int (bI z6)])), (k1, .inr (0, [.ref qa, .int (nI (x1)), .int (nI (y1)), .int (bI z1__2244)])), (k3, .inr (0, [.ref qa, .int (nI (x3)), .int (nI (y3)), .int (bI z3__2252)])), (k4, .inr (0, [.ref qa, .int (nI (x4)), .int (nI (y4)), .int (bI z4)])), (k5, .inr (0, [.ref qa, .int (nI (x5)), .int (nI (y5)), .int (bI z5__2258)])), (k2, .inr (0, [.ref qa, .int (nI (x2)), .int (nI (y2)), .int (bI z2__2251)])), (qa, .inl (cA, 1200, .inl (f)))]) [8, 9, 10, 6, 7, 11, 12, 5, 0, 2, 3, 4, 1, 13] (by decide) rfl
            have hK9 := hK.sub (tys' := [(cA, .int)]) [0] rfl
            exact W.zret (v := 1) (ty := .boolean) hx hb hr (by decide +kernel) (fun t ht hW => ⟨⟨1, (), rfl, ⟨true, rfl⟩, ee__2242, gl__2249, wd__2250, il__2243, pr__2272, pl_2263, rg_2264, z1__2244, z2__2251, z3__2252, z5__2258, m_2262, z9__2268, x8__2269, y8__2270, z8__2271, by omega, by omega, by omega, by omega, by omega, by rw [ht]; exact hP9, va_K.moved hW.alike hK9, hD9⟩, hS.F ht⟩) hS.2.2 d_FO_formsAreRight_43
set_option maxHeartbeats 4000000 in
set_option maxRecDepth 100000 in
/-- GlyphLines$Font.glyphOf -/
theorem g_FO_glyphOf (l : Launch) (dC : Nat → ClassId) (dI : Nat → Nat → Nat) (h0 : Nat) (qa : Nat) (kr : Nat) (k1 : Nat) (k2 : Nat) (k3 : Nat) (k4 : Nat) (k5 : Nat) (k6 : Nat) (km : Nat) (kp : Nat) (kD : Nat) (ee : Nat) (gl : Nat) (wd : Nat) (il : Bool) (kc : Nat) (pl : Int32) (rg : Int32) (x7 : Nat) (y7 : Nat) (z7 : Bool) (cA : ClassId) (f : Nat → Int32) (ch : Int32) (sz : Nat) (hq0 : ee < 65536) (hq1 : gl < 65536) (hq2 : wd < 65536) (hq3 : x7 + y7 ≤ 1200) (hq4 : isB f) : Met l y_FO_glyphOf s_FO_glyphOf ({ frames := 16, cells := 0, slots := 0, locals := 600 }) (va_Pc [.ref h0, .int ch] (fun U => U.heap.size = sz ∧ va_P (dC, dI) cls_ [(h0, .inr (4, [.ref qa, .ref kr, .ref k1, .ref k2, .ref k3, .ref k4, .ref k5, .ref k6, .ref km, .ref kp, .ref kD, .int (nI (ee)), .int (nI (gl)), .int (nI (wd)), .int (bI il)])), (km, .inr (1, [.ref kc, .int pl, .int rg])), (kc, .inr (0, [.ref qa, .int (nI (x7)), .int (nI (y7)), .int (bI z7)])), (qa, .inl (cA, 1200, .inl (f)))] U.heap ∧ va_K (dC, dI) cls_ [(cA, .int)] U ∧ va_D (fun _ => True) [(h0, .inr (4, [.ref qa, .ref kr, .ref k1, .ref k2, .ref k3, .ref k4, .ref k5, .ref k6, .ref km, .ref kp, .ref kD, .int (nI (ee)), .int (nI (gl)), .int (nI (wd)), .int (bI il)])), (km, .inr (1, [.ref kc, .int pl, .int rg])), (kc, .inr (0, [.ref qa, .int (nI (x7)), .int (nI (y7)), .int (bI z7)])), (qa, .inl (cA, 1200, .inl (f)))] ∧ nests U)) (va_Qi (fun (r : Int32) (_ : Unit) => True) (fun (_ : Unit) (t : State) => ∃ (z7_2 : Bool), va_P (dC, dI) cls_ [(h0, .inr (4, [.ref qa, .ref kr, .ref k1, .ref k2, .ref k3, .ref k4, .ref k5, .ref k6, .ref km, .ref kp, .ref kD, .int (nI (ee)), .int (nI (gl)), .int (nI (wd)), .int (bI il)])), (km, .inr (1, [.ref kc, .int pl, .int rg])), (kc, .inr (0, [.ref qa, .int (nI (x7)), .int (nI (y7)), .int (bI z7_2)])), (qa, .inl (cA, 1200, .inl (f)))] t.heap ∧ va_K (dC, dI) cls_ [(cA, .int)] t ∧ va_D (va_A [(h0, .inr (4, [.ref qa, .ref kr, .ref k1, .ref k2, .ref k3, .ref k4, .ref k5, .ref k6, .ref km, .ref kp, .ref kD, .int (nI (ee)), .int (nI (gl)), .int (nI (wd)), .int (bI il)])), (km, .inr (1, [.ref kc, .int pl, .int rg])), (kc, .inr (0, [.ref qa, .int (nI (x7)), .int (nI (y7)), .int (bI z7)])), (qa, .inl (cA, 1200, .inl (f)))] sz) [(h0, .inr (4, [.ref qa, .ref kr, .ref k1, .ref k2, .ref k3, .ref k4, .ref k5, .ref k6, .ref km, .ref kp, .ref kD, .int (nI (ee)), .int (nI (gl)), .int (nI (wd)), .int (bI il)])), (km, .inr (1, [.ref kc, .int pl, .int rg])), (kc, .inr (0, [.ref qa, .int (nI (x7)), .int (nI (y7)), .int (bI z7_2)])), (qa, .inl (cA, 1200, .inl (f)))]) (va_A [(h0, .inr (4, [.ref qa, .ref kr, .ref k1, .ref k2, .ref k3, .ref k4, .ref k5, .ref k6, .ref km, .ref kp, .ref kD, .int (nI (ee)), .int (nI (gl)), .int (nI (wd)), .int (bI il)])), (km, .inr (1, [.ref kc, .int pl, .int rg])), (kc, .inr (0, [.ref qa, .int (nI (x7)), .int (nI (y7)), .int (bI z7)])), (qa, .inl (cA, 1200, .inl (f)))] sz)) 0 0 (va_A [(h0, .inr (4, [.ref qa, .ref kr, .ref k1, .ref k2, .ref k3, .ref k4, .ref k5, .ref k6, .ref km, .ref kp, .ref kD, .int (nI (ee)), .int (nI (gl)), .int (nI (wd)), .int (bI il)])), (km, .inr (1, [.ref kc, .int pl, .int rg])), (kc, .inr (0, [.ref qa, .int (nI (x7)), .int (nI (y7)), .int (bI z7)])), (qa, .inl (cA, 1200, .inl (f)))] sz) := by
  refine Met.ofW (cc := b_FO_glyphOf) (maxL := 3) (ret := (some .int)) (by decide) rfl ?_
  intro p e s m args below meth c s₁ B hml hv
  obtain ⟨rfl, hsz, hP, hK, hD0, hNs⟩ := hv
  have hx := B.exec
  have hb := B.bytes
  have hr := B.returns
  have hts := atoms_spec (ws := s_FO_glyphOf) B.pre
  have hown : s.vm.findClass R_FO = some m.cls := findClass_of_methodNamed B.named
  have hlocks := B.notSynchronized
  subst hsz
  have hD := hD0.self (sz := s.heap.size)
  generalize hAe : va_A [(h0, .inr (4, [.ref qa, .ref kr, .ref k1, .ref k2, .ref k3, .ref k4, .ref k5, .ref k6, .ref km, .ref kp, .ref kD, .int (nI (ee)), .int (nI (gl)), .int (nI (wd)), .int (bI il)])), (km, .inr (1, [.ref kc, .int pl, .int rg])), (kc, .inr (0, [.ref qa, .int (nI (x7)), .int (nI (y7)), .int (bI z7)])), (qa, .inl (cA, 1200, .inl (f)))] s.heap.size = A at hD ⊢
  have hA : ∀ q : Nat, s.heap.size ≤ q → A q := fun q h => by rw [← hAe]; exact Or.inr h
  have hS : va_S A s.heap s.heap [] := va_S.rf
  have hP : va_P (dC, dI) cls_ [(h0, .inr (4, [.ref qa, .ref kr, .ref k1, .ref k2, .ref k3, .ref k4, .ref k5, .ref k6, .ref km, .ref kp, .ref kD, .int (nI (ee)), .int (nI (gl)), .int (nI (wd)), .int (bI il)])), (km, .inr (1, [.ref kc, .int pl, .int rg])), (kc, .inr (0, [.ref qa, .int (nI (x7)), .int (nI (y7)), .int (bI z7)])), (qa, .inl (cA, 1200, .inl (f)))] s.heap := hP
  have hl := lv_entry ([.ref h0, .int ch]) (n := 3) (Nat.le_of_ble_eq_true rfl)
  rw [lg_entry_eq]
  generalize (lg_sl ([.ref h0, .int ch]) ++ List.replicate (3 - (lg_sl ([.ref h0, .int ch])).length) Slot.unset).toArray = ls at hl ⊢
  have hl : lv_has ls 3 [(0, .ref h0), (1, .int ch)] := hl
  refine lv_aload_n hx hb d_FO_glyphOf_0 rfl (lv_at hl 0 rfl) ?_
  refine va_get (D := (dC, dI)) (ci := 4) (v := .ref km) (C := R_FO) (T := F_FO) (N := 15) hx hb hts in_FO hown hK hP 0 rfl rfl 8 (by decide) (hts _ (List.mem_cons_of_mem _ w_125)) (fun _ h9 => h9) rfl d_FO_glyphOf_1 ?_
  refine lv_iload_n hx hb d_FO_glyphOf_4 rfl (lv_at hl 1 rfl) ?_
  have hPc := hP.sub (ws' := [(km, .inr (1, [.ref kc, .int pl, .int rg])), (kc, .inr (0, [.ref qa, .int (nI (x7)), .int (nI (y7)), .int (bI z7)])), (qa, .inl (cA, 1200, .inl (f)))]) [1, 2, 3] rfl
  have hDc := hD.sub (ws' := [(km, .inr (1, [.ref kc, .int pl, .int rg])), (kc, .inr (0, [.ref qa, .int (nI (x7)), .int (nI (y7)), .int (bI z7)])), (qa, .inl (cA, 1200, .inl (f)))]) [1, 2, 3] (by decide) rfl
  have hKc := hK.sub (tys' := [(cA, .int)]) [0] rfl
  have hFc := va_free (wc := [(km, .inr (1, [.ref kc, .int pl, .int rg])), (kc, .inr (0, [.ref qa, .int (nI (x7)), .int (nI (y7)), .int (bI z7)])), (qa, .inl (cA, 1200, .inl (f)))]) hD hS hA [1, 2, 3] rfl
  refine va_calli (va_runV (As := [.int ch]) (rest := []) ⟨hx, hb, hml, hown, hts⟩ (g_CM_numberOf l dC dI km kc qa x7 y7 z7 cA f pl rg ch s.heap.size (by omega) (by assumption)) (cwV 1 hts (tw_inV w_683 w_684 w_685 w_5 w_686) rfl rfl rfl (by decide +kernel) ⟨Nat.le_of_ble_eq_true rfl, Nat.le_of_ble_eq_true rfl⟩) ⟨fun a U g mk q => by obtain ⟨q0, q1, qP, qK, qD⟩ := q; exact ⟨q0, q1, qP, va_K.moved (u := U) (U := U.calling g mk a) (Vm.Alike.refl U.vm) qK, qD⟩, va_recv (hK := hK) (hP := hP) (q0 := 1) (ci := 1) rfl rfl, fun U hU hW => ⟨rfl, by rw [hU], by rw [hU]; exact hPc, va_K.moved hW.alike hKc, hDc.weaken (fun _ _ _ _ => trivial)⟩⟩ rfl rfl hl.1 rfl (lv_room (Nat.le_of_ble_eq_true rfl)) d_FO_glyphOf_5 ⟨Nat.le_of_ble_eq_true rfl, Nat.le_of_ble_eq_true rfl⟩) hS (fun q _ h => hFc q h) hFc (fun r2277 u t H1 locs ht hvm hw hB hz1 hk1 hS => ?_)
  obtain ⟨m_2278, hP1, hK1, hD1⟩ := hB
  rw [ht] at hP1
  have hK1 := va_K.moved hvm.symm hK1
  obtain ⟨hP, hD⟩ := va_join (wr := [(h0, .inr (4, [.ref qa, .ref kr, .ref k1, .ref k2, .ref k3, .ref k4, .ref k5, .ref k6, .ref km, .ref kp, .ref kD, .int (nI (ee)), .int (nI (gl)), .int (nI (wd)), .int (bI il)]))]) (w1 := [(km, .inr (1, [.ref kc, .int pl, .int rg])), (kc, .inr (0, [.ref qa, .int (nI (x7)), .int (nI (y7)), .int (bI m_2278)])), (qa, .inl (cA, 1200, .inl (f)))]) hP hD [1, 2, 3] [0] rfl rfl (by decide) (by decide) hk1 hFc hP1 hD1
  have hK := (hK.sub (tys' := []) [] rfl).app hK1
  generalize H1 = H at hP hS ⊢
  have hP : va_P (dC, dI) cls_ [(h0, .inr (4, [.ref qa, .ref kr, .ref k1, .ref k2, .ref k3, .ref k4, .ref k5, .ref k6, .ref km, .ref kp, .ref kD, .int (nI (ee)), .int (nI (gl)), .int (nI (wd)), .int (bI il)])), (km, .inr (1, [.ref kc, .int pl, .int rg])), (kc, .inr (0, [.ref qa, .int (nI (x7)), .int (nI (y7)), .int (bI m_2278)])), (qa, .inl (cA, 1200, .inl (f)))] H := hP
  have hD : va_D A [(h0, .inr (4, [.ref qa, .ref kr, .ref k1, .ref k2, .ref k3, .ref k4, .ref k5, .ref k6, .ref km, .ref kp, .ref kD, .int (nI (ee)), .int (nI (gl)), .int (nI (wd)), .int (bI il)])), (km, .inr (1, [.ref kc, .int pl, .int rg])), (kc, .inr (0, [.ref qa, .int (nI (x7)), .int (nI (y7)), .int (bI m_2278)])), (qa, .inl (cA, 1200, .inl (f)))] := hD
  have hK : va_K (dC, dI) cls_ [(cA, .int)] s := hK
  have hw_r2277 := hw
  refine lv_istore_n (lv' := [(2, .int r2277), (0, .ref h0), (1, .int ch)]) hx hb d_FO_glyphOf_8 rfl hl (by decide) rfl (fun ls hl => ?_)
  refine lv_iload_n hx hb d_FO_glyphOf_9 rfl (lv_at hl 0 rfl) ?_
  refine lv_aload_n hx hb d_FO_glyphOf_10 rfl (lv_at hl 1 rfl) ?_
  refine va_get (D := (dC, dI)) (ci := 4) (v := .int (nI (gl))) (C := R_FO) (T := F_FO) (N := 15) hx hb hts in_FO hown hK hP 0 rfl rfl 12 (by decide) (hts _ (List.mem_cons_of_mem _ w_130)) (fun _ h9 => h9) rfl d_FO_glyphOf_11 ?_
  refine lv_icmp_ge (tgt := 21) hx hb d_FO_glyphOf_14 (by decide) (fun hc2279 => ?_) (fun hc2279 => ?_)
  · skip
    refine lv_iconst (v := 0) hx hb d_FO_glyphOf_21 (by decide) ?_
    refine W.widen (k := 0) (n := 0) (Nat.le_of_ble_eq_true rfl) (Nat.le_of_ble_eq_true rfl) ?_
    have hP9 := hP.sub (ws' := [(h0, .inr (4, [.ref qa, .ref kr, .ref k1, .ref k2, .ref k3, .ref k4, .ref k5, .ref k6, .ref km, .ref kp, .ref kD, .int (nI (ee)), .int (nI (gl)), .int (nI (wd)), .int (bI il)])), (km, .inr (1, [.ref kc, .int pl, .int rg])), (kc, .inr (0, [.ref qa, .int (nI (x7)), .int (nI (y7)), .int (bI m_2278)])), (qa, .inl (cA, 1200, .inl (f)))]) [0, 1, 2, 3] rfl
    have hD9 := hD.sub (ws' := [(h0, .inr (4, [.ref qa, .ref kr, .ref k1, .ref k2, .ref k3, .ref k4, .ref k5, .ref k6, .ref km, .ref kp, .ref kD, .int (nI (ee)), .int (nI (gl)), .int (nI (wd)), .int (bI il)])), (km, .inr (1, [.ref kc, .int pl, .int rg])), (kc, .inr (0, [.ref qa, .int (nI (x7)), .int (nI (y7)), .int (bI m_2278)])), (qa, .inl (cA, 1200, .inl (f)))]) [0, 1, 2, 3] (by decide) rfl
    have hK9 := hK.sub (tys' := [(cA, .int)]) [0] rfl
    exact W.iret (v := 0) hx hb hr (fun t ht hW => ⟨⟨0, (), rfl, trivial, m_2278, by rw [ht]; exact hP9, va_K.moved hW.alike hK9, hD9⟩, hS.F ht⟩) hS.2.2 d_FO_glyphOf_22
  · skip
    refine lv_iload_n hx hb d_FO_glyphOf_17 rfl (lv_at hl 0 rfl) ?_
    refine lv_goto (tgt := 22) hx hb d_FO_glyphOf_18 (by decide) ?_
    refine W.widen (k := 0) (n := 0) (Nat.le_of_ble_eq_true rfl) (Nat.le_of_ble_eq_true rfl) ?_
    have hP9 := hP.sub (ws' := [(h0, .inr (4, [.ref qa, .ref kr, .ref k1, .ref k2, .ref k3, .ref k4, .ref k5, .ref k6, .ref km, .ref kp, .ref kD, .int (nI (ee)), .int (nI (gl)), .int (nI (wd)), .int (bI il)])), (km, .inr (1, [.ref kc, .int pl, .int rg])), (kc, .inr (0, [.ref qa, .int (nI (x7)), .int (nI (y7)), .int (bI m_2278)])), (qa, .inl (cA, 1200, .inl (f)))]) [0, 1, 2, 3] rfl
    have hD9 := hD.sub (ws' := [(h0, .inr (4, [.ref qa, .ref kr, .ref k1, .ref k2, .ref k3, .ref k4, .ref k5, .ref k6, .ref km, .ref kp, .ref kD, .int (nI (ee)), .int (nI (gl)), .int (nI (wd)), .int (bI il)])), (km, .inr (1, [.ref kc, .int pl, .int rg])), (kc, .inr (0, [.ref qa, .int (nI (x7)), .int (nI (y7)), .int (bI m_2278)])), (qa, .inl (cA, 1200, .inl (f)))]) [0, 1, 2, 3] (by decide) rfl
    have hK9 := hK.sub (tys' := [(cA, .int)]) [0] rfl
    exact W.iret (v := r2277) hx hb hr (fun t ht hW => ⟨⟨r2277, (), rfl, trivial, m_2278, by rw [ht]; exact hP9, va_K.moved hW.alike hK9, hD9⟩, hS.F ht⟩) hS.2.2 d_FO_glyphOf_22
set_option maxHeartbeats 4000000 in
set_option maxRecDepth 100000 in
/-- GlyphLines$Font.widthOf -/
theorem g_FO_widthOf (l : Launch) (dC : Nat → ClassId) (dI : Nat → Nat → Nat) (h0 : Nat) (qa : Nat) (kr : Nat) (k1 : Nat) (k2 : Nat) (k3 : Nat) (k4 : Nat) (k5 : Nat) (k6 : Nat) (km : Nat) (kp : Nat) (kD : Nat) (ee : Nat) (gl : Nat) (wd : Nat) (il : Bool) (x4 : Nat) (y4 : Nat) (z4 : Bool) (cA : ClassId) (f : Nat → Int32) (g : Int32) (sz : Nat) (hq0 : ee < 65536) (hq1 : gl < 65536) (hq2 : wd < 65536) (hq3 : x4 + y4 ≤ 1200) (hq4 : isB f) : Met l y_FO_widthOf s_FO_widthOf ({ frames := 10, cells := 0, slots := 0, locals := 300 }) (va_Pc [.ref h0, .int g] (fun U => U.heap.size = sz ∧ va_P (dC, dI) cls_ [(h0, .inr (4, [.ref qa, .ref kr, .ref k1, .ref k2, .ref k3, .ref k4, .ref k5, .ref k6, .ref km, .ref kp, .ref kD, .int (nI (ee)), .int (nI (gl)), .int (nI (wd)), .int (bI il)])), (k4, .inr (0, [.ref qa, .int (nI (x4)), .int (nI (y4)), .int (bI z4)])), (qa, .inl (cA, 1200, .inl (f)))] U.heap ∧ va_K (dC, dI) cls_ [(cA, .int)] U ∧ va_D (fun _ => True) [(h0, .inr (4, [.ref qa, .ref kr, .ref k1, .ref k2, .ref k3, .ref k4, .ref k5, .ref k6, .ref km, .ref kp, .ref kD, .int (nI (ee)), .int (nI (gl)), .int (nI (wd)), .int (bI il)])), (k4, .inr (0, [.ref qa, .int (nI (x4)), .int (nI (y4)), .int (bI z4)])), (qa, .inl (cA, 1200, .inl (f)))] ∧ nests U)) (va_Qi (fun (r : Int32) (_ : Unit) => True) (fun (_ : Unit) (t : State) => ∃ (z4_2 : Bool), va_P (dC, dI) cls_ [(h0, .inr (4, [.ref qa, .ref kr, .ref k1, .ref k2, .ref k3, .ref k4, .ref k5, .ref k6, .ref km, .ref kp, .ref kD, .int (nI (ee)), .int (nI (gl)), .int (nI (wd)), .int (bI il)])), (k4, .inr (0, [.ref qa, .int (nI (x4)), .int (nI (y4)), .int (bI z4_2)])), (qa, .inl (cA, 1200, .inl (f)))] t.heap ∧ va_K (dC, dI) cls_ [(cA, .int)] t ∧ va_D (va_A [(h0, .inr (4, [.ref qa, .ref kr, .ref k1, .ref k2, .ref k3, .ref k4, .ref k5, .ref k6, .ref km, .ref kp, .ref kD, .int (nI (ee)), .int (nI (gl)), .int (nI (wd)), .int (bI il)])), (k4, .inr (0, [.ref qa, .int (nI (x4)), .int (nI (y4)), .int (bI z4)])), (qa, .inl (cA, 1200, .inl (f)))] sz) [(h0, .inr (4, [.ref qa, .ref kr, .ref k1, .ref k2, .ref k3, .ref k4, .ref k5, .ref k6, .ref km, .ref kp, .ref kD, .int (nI (ee)), .int (nI (gl)), .int (nI (wd)), .int (bI il)])), (k4, .inr (0, [.ref qa, .int (nI (x4)), .int (nI (y4)), .int (bI z4_2)])), (qa, .inl (cA, 1200, .inl (f)))]) (va_A [(h0, .inr (4, [.ref qa, .ref kr, .ref k1, .ref k2, .ref k3, .ref k4, .ref k5, .ref k6, .ref km, .ref kp, .ref kD, .int (nI (ee)), .int (nI (gl)), .int (nI (wd)), .int (bI il)])), (k4, .inr (0, [.ref qa, .int (nI (x4)), .int (nI (y4)), .int (bI z4)])), (qa, .inl (cA, 1200, .inl (f)))] sz)) 0 0 (va_A [(h0, .inr (4, [.ref qa, .ref kr, .ref k1, .ref k2, .ref k3, .ref k4, .ref k5, .ref k6, .ref km, .ref kp, .ref kD, .int (nI (ee)), .int (nI (gl)), .int (nI (wd)), .int (bI il)])), (k4, .inr (0, [.ref qa, .int (nI (x4)), .int (nI (y4)), .int (bI z4)])), (qa, .inl (cA, 1200, .inl (f)))] sz) := by
  refine Met.ofW (cc := b_FO_widthOf) (maxL := 2) (ret := (some .int)) (by decide) rfl ?_
  intro p e s m args below meth c s₁ B hml hv
  obtain ⟨rfl, hsz, hP, hK, hD0, hNs⟩ := hv
  have hx := B.exec
  have hb := B.bytes
  have hr := B.returns
  have hts := atoms_spec (ws := s_FO_widthOf) B.pre
  have hown : s.vm.findClass R_FO = some m.cls := findClass_of_methodNamed B.named
  have hlocks := B.notSynchronized
  subst hsz
  have hD := hD0.self (sz := s.heap.size)
  generalize hAe : va_A [(h0, .inr (4, [.ref qa, .ref kr, .ref k1, .ref k2, .ref k3, .ref k4, .ref k5, .ref k6, .ref km, .ref kp, .ref kD, .int (nI (ee)), .int (nI (gl)), .int (nI (wd)), .int (bI il)])), (k4, .inr (0, [.ref qa, .int (nI (x4)), .int (nI (y4)), .int (bI z4)])), (qa, .inl (cA, 1200, .inl (f)))] s.heap.size = A at hD ⊢
  have hA : ∀ q : Nat, s.heap.size ≤ q → A q := fun q h => by rw [← hAe]; exact Or.inr h
  have hS : va_S A s.heap s.heap [] := va_S.rf
  have hP : va_P (dC, dI) cls_ [(h0, .inr (4, [.ref qa, .ref kr, .ref k1, .ref k2, .ref k3, .ref k4, .ref k5, .ref k6, .ref km, .ref kp, .ref kD, .int (nI (ee)), .int (nI (gl)), .int (nI (wd)), .int (bI il)])), (k4, .inr (0, [.ref qa, .int (nI (x4)), .int (nI (y4)), .int (bI z4)])), (qa, .inl (cA, 1200, .inl (f)))] s.heap := hP
  have hl := lv_entry ([.ref h0, .int g]) (n := 2) (Nat.le_of_ble_eq_true rfl)
  rw [lg_entry_eq]
  generalize (lg_sl ([.ref h0, .int g]) ++ List.replicate (2 - (lg_sl ([.ref h0, .int g])).length) Slot.unset).toArray = ls at hl ⊢
  have hl : lv_has ls 2 [(0, .ref h0), (1, .int g)] := hl
  refine lv_aload_n hx hb d_FO_widthOf_0 rfl (lv_at hl 0 rfl) ?_
  refine va_get (D := (dC, dI)) (ci := 4) (v := .ref k4) (C := R_FO) (T := F_FO) (N := 15) hx hb hts in_FO hown hK hP 0 rfl rfl 5 (by decide) (hts _ (List.mem_cons_of_mem _ w_122)) (fun _ h9 => h9) rfl d_FO_widthOf_1 ?_
  refine lv_iconst (v := 4) hx hb d_FO_widthOf_4 (by decide) ?_
  refine lv_iload_n hx hb d_FO_widthOf_5 rfl (lv_at hl 1 rfl) ?_
  refine lv_aload_n hx hb d_FO_widthOf_6 rfl (lv_at hl 0 rfl) ?_
  refine va_get (D := (dC, dI)) (ci := 4) (v := .int (nI (wd))) (C := R_FO) (T := F_FO) (N := 15) hx hb hts in_FO hown hK hP 0 rfl rfl 13 (by decide) (hts _ (List.mem_cons_of_mem _ w_133)) (fun _ h9 => h9) rfl d_FO_widthOf_7 ?_
  refine lv_iconst (v := 1) hx hb d_FO_widthOf_10 (by decide) ?_
  refine lv_isub hx hb d_FO_widthOf_11 ?_
  refine lv_topi (fun v2280 ev2280 => ?_)
  refine va_mmin hx hb (by rw [hml]; exact hl.1.symm) hown (hts _ (List.mem_cons_of_mem _ w_334)) (hts _ (List.mem_cons_of_mem _ w_335)) (hts _ (List.mem_cons_of_mem _ w_17)) (hts _ (List.mem_cons_of_mem _ w_336)) (Nat.le_of_ble_eq_true rfl) (Nat.le_of_ble_eq_true rfl) (Nat.le_of_ble_eq_true rfl) (Nat.le_of_ble_eq_true rfl) d_FO_widthOf_12 ?_
  refine lv_topi (fun v2281 ev2281 => ?_)
  refine lv_imul hx hb d_FO_widthOf_15 ?_
  refine lv_topi (fun v2282 ev2282 => ?_)
  have hPc := hP.sub (ws' := [(k4, .inr (0, [.ref qa, .int (nI (x4)), .int (nI (y4)), .int (bI z4)])), (qa, .inl (cA, 1200, .inl (f)))]) [1, 2] rfl
  have hDc := hD.sub (ws' := [(k4, .inr (0, [.ref qa, .int (nI (x4)), .int (nI (y4)), .int (bI z4)])), (qa, .inl (cA, 1200, .inl (f)))]) [1, 2] (by decide) rfl
  have hKc := hK.sub (tys' := [(cA, .int)]) [0] rfl
  have hFc := va_free (wc := [(k4, .inr (0, [.ref qa, .int (nI (x4)), .int (nI (y4)), .int (bI z4)])), (qa, .inl (cA, 1200, .inl (f)))]) hD hS hA [1, 2] rfl
  refine va_calli (va_runV (As := [.int v2282]) (rest := []) ⟨hx, hb, hml, hown, hts⟩ (g_SP_u16 l dC dI k4 qa x4 y4 z4 cA f v2282 s.heap.size (by omega) (by assumption)) (cwV 1 hts (tw_inV w_407 w_353 w_354 w_4 w_355) rfl rfl rfl (by decide +kernel) ⟨Nat.le_of_ble_eq_true rfl, Nat.le_of_ble_eq_true rfl⟩) ⟨fun a U g mk q => by obtain ⟨q0, q1, qP, qK, qD⟩ := q; exact ⟨q0, q1, qP, va_K.moved (u := U) (U := U.calling g mk a) (Vm.Alike.refl U.vm) qK, qD⟩, va_recv (hK := hK) (hP := hP) (q0 := 1) (ci := 0) rfl rfl, fun U hU hW => ⟨rfl, by rw [hU], by rw [hU]; exact hPc, va_K.moved hW.alike hKc, hDc.weaken (fun _ _ _ _ => trivial)⟩⟩ rfl rfl hl.1 rfl (lv_room (Nat.le_of_ble_eq_true rfl)) d_FO_widthOf_16 ⟨Nat.le_of_ble_eq_true rfl, Nat.le_of_ble_eq_true rfl⟩) hS (fun q _ h => hFc q h) hFc (fun r2283 u t H1 locs ht hvm hw hB hz1 hk1 hS => ?_)
  obtain ⟨m_2284, hP1, hK1, hD1⟩ := hB
  rw [ht] at hP1
  have hK1 := va_K.moved hvm.symm hK1
  obtain ⟨hP, hD⟩ := va_join (wr := [(h0, .inr (4, [.ref qa, .ref kr, .ref k1, .ref k2, .ref k3, .ref k4, .ref k5, .ref k6, .ref km, .ref kp, .ref kD, .int (nI (ee)), .int (nI (gl)), .int (nI (wd)), .int (bI il)]))]) (w1 := [(k4, .inr (0, [.ref qa, .int (nI (x4)), .int (nI (y4)), .int (bI m_2284)])), (qa, .inl (cA, 1200, .inl (f)))]) hP hD [1, 2] [0] rfl rfl (by decide) (by decide) hk1 hFc hP1 hD1
  have hK := (hK.sub (tys' := []) [] rfl).app hK1
  generalize H1 = H at hP hS ⊢
  have hP : va_P (dC, dI) cls_ [(h0, .inr (4, [.ref qa, .ref kr, .ref k1, .ref k2, .ref k3, .ref k4, .ref k5, .ref k6, .ref km, .ref kp, .ref kD, .int (nI (ee)), .int (nI (gl)), .int (nI (wd)), .int (bI il)])), (k4, .inr (0, [.ref qa, .int (nI (x4)), .int (nI (y4)), .int (bI m_2284)])), (qa, .inl (cA, 1200, .inl (f)))] H := hP
  have hD : va_D A [(h0, .inr (4, [.ref qa, .ref kr, .ref k1, .ref k2, .ref k3, .ref k4, .ref k5, .ref k6, .ref km, .ref kp, .ref kD, .int (nI (ee)), .int (nI (gl)), .int (nI (wd)), .int (bI il)])), (k4, .inr (0, [.ref qa, .int (nI (x4)), .int (nI (y4)), .int (bI m_2284)])), (qa, .inl (cA, 1200, .inl (f)))] := hD
  have hK : va_K (dC, dI) cls_ [(cA, .int)] s := hK
  have hw_r2283 := hw
  obtain ⟨kn2285, hb_kn2285, rfl⟩ := hw_r2283
  refine W.widen (k := 0) (n := 0) (Nat.le_of_ble_eq_true rfl) (Nat.le_of_ble_eq_true rfl) ?_
  have hP9 := hP.sub (ws' := [(h0, .inr (4, [.ref qa, .ref kr, .ref k1, .ref k2, .ref k3, .ref k4, .ref k5, .ref k6, .ref km, .ref kp, .ref kD, .int (nI (ee)), .int (nI (gl)), .int (nI (wd)), .int (bI il)])), (k4, .inr (0, [.ref qa, .int (nI (x4)), .int (nI (y4)), .int (bI m_2284)])), (qa, .inl (cA, 1200, .inl (f)))]) [0, 1, 2] rfl
  have hD9 := hD.sub (ws' := [(h0, .inr (4, [.ref qa, .ref kr, .ref k1, .ref k2, .ref k3, .ref k4, .ref k5, .ref k6, .ref km, .ref kp, .ref kD, .int (nI (ee)), .int (nI (gl)), .int (nI (wd)), .int (bI il)])), (k4, .inr (0, [.ref qa, .int (nI (x4)), .int (nI (y4)), .int (bI m_2284)])), (qa, .inl (cA, 1200, .inl (f)))]) [0, 1, 2] (by decide) rfl
  have hK9 := hK.sub (tys' := [(cA, .int)]) [0] rfl
  exact W.iret (v := nI (kn2285)) hx hb hr (fun t ht hW => ⟨⟨nI (kn2285), (), rfl, trivial, m_2284, by rw [ht]; exact hP9, va_K.moved hW.alike hK9, hD9⟩, hS.F ht⟩) hS.2.2 d_FO_widthOf_19
set_option maxHeartbeats 4000000 in
set_option maxRecDepth 100000 in
/-- GlyphLines$Font.kerningOf -/
theorem g_FO_kerningOf (l : Launch) (dC : Nat → ClassId) (dI : Nat → Nat → Nat) (h0 : Nat) (qa : Nat) (kr : Nat) (k1 : Nat) (k2 : Nat) (k3 : Nat) (k4 : Nat) (k5 : Nat) (k6 : Nat) (km : Nat) (kp : Nat) (kD : Nat) (ee : Nat) (gl : Nat) (wd : Nat) (il : Bool) (kk : Nat) (pr : Nat) (x8 : Nat) (y8 : Nat) (z8 : Bool) (cA : ClassId) (f : Nat → Int32) (le : Int32) (ri : Int32) (sz : Nat) (hq0 : ee < 65536) (hq1 : gl < 65536) (hq2 : wd < 65536) (hq3 : pr < 65536) (hq4 : x8 + y8 ≤ 1200) (hq5 : isB f) : Met l y_FO_kerningOf s_FO_kerningOf ({ frames := 12, cells := 0, slots := 0, locals := 400 }) (va_Pc [.ref h0, .int le, .int ri] (fun U => U.heap.size = sz ∧ va_P (dC, dI) cls_ [(h0, .inr (4, [.ref qa, .ref kr, .ref k1, .ref k2, .ref k3, .ref k4, .ref k5, .ref k6, .ref km, .ref kp, .ref kD, .int (nI (ee)), .int (nI (gl)), .int (nI (wd)), .int (bI il)])), (kp, .inr (3, [.ref kk, .int (nI (pr))])), (kk, .inr (0, [.ref qa, .int (nI (x8)), .int (nI (y8)), .int (bI z8)])), (qa, .inl (cA, 1200, .inl (f)))] U.heap ∧ va_K (dC, dI) cls_ [(cA, .int)] U ∧ va_D (fun _ => True) [(h0, .inr (4, [.ref qa, .ref kr, .ref k1, .ref k2, .ref k3, .ref k4, .ref k5, .ref k6, .ref km, .ref kp, .ref kD, .int (nI (ee)), .int (nI (gl)), .int (nI (wd)), .int (bI il)])), (kp, .inr (3, [.ref kk, .int (nI (pr))])), (kk, .inr (0, [.ref qa, .int (nI (x8)), .int (nI (y8)), .int (bI z8)])), (qa, .inl (cA, 1200, .inl (f)))] ∧ nests U)) (va_Qi (fun (r : Int32) (_ : Unit) => True) (fun (_ : Unit) (t : State) => ∃ (z8_2 : Bool), va_P (dC, dI) cls_ [(h0, .inr (4, [.ref qa, .ref kr, .ref k1, .ref k2, .ref k3, .ref k4, .ref k5, .ref k6, .ref km, .ref kp, .ref kD, .int (nI (ee)), .int (nI (gl)), .int (nI (wd)), .int (bI il)])), (kp, .inr (3, [.ref kk, .int (nI (pr))])), (kk, .inr (0, [.ref qa, .int (nI (x8)), .int (nI (y8)), .int (bI z8_2)])), (qa, .inl (cA, 1200, .inl (f)))] t.heap ∧ va_K (dC, dI) cls_ [(cA, .int)] t ∧ va_D (va_A [(h0, .inr (4, [.ref qa, .ref kr, .ref k1, .ref k2, .ref k3, .ref k4, .ref k5, .ref k6, .ref km, .ref kp, .ref kD, .int (nI (ee)), .int (nI (gl)), .int (nI (wd)), .int (bI il)])), (kp, .inr (3, [.ref kk, .int (nI (pr))])), (kk, .inr (0, [.ref qa, .int (nI (x8)), .int (nI (y8)), .int (bI z8)])), (qa, .inl (cA, 1200, .inl (f)))] sz) [(h0, .inr (4, [.ref qa, .ref kr, .ref k1, .ref k2, .ref k3, .ref k4, .ref k5, .ref k6, .ref km, .ref kp, .ref kD, .int (nI (ee)), .int (nI (gl)), .int (nI (wd)), .int (bI il)])), (kp, .inr (3, [.ref kk, .int (nI (pr))])), (kk, .inr (0, [.ref qa, .int (nI (x8)), .int (nI (y8)), .int (bI z8_2)])), (qa, .inl (cA, 1200, .inl (f)))]) (va_A [(h0, .inr (4, [.ref qa, .ref kr, .ref k1, .ref k2, .ref k3, .ref k4, .ref k5, .ref k6, .ref km, .ref kp, .ref kD, .int (nI (ee)), .int (nI (gl)), .int (nI (wd)), .int (bI il)])), (kp, .inr (3, [.ref kk, .int (nI (pr))])), (kk, .inr (0, [.ref qa, .int (nI (x8)), .int (nI (y8)), .int (bI z8)])), (qa, .inl (cA, 1200, .inl (f)))] sz)) 0 0 (va_A [(h0, .inr (4, [.ref qa, .ref kr, .ref k1, .ref k2, .ref k3, .ref k4, .ref k5, .ref k6, .ref km, .ref kp, .ref kD, .int (nI (ee)), .int (nI (gl)), .int (nI (wd)), .int (bI il)])), (kp, .inr (3, [.ref kk, .int (nI (pr))])), (kk, .inr (0, [.ref qa, .int (nI (x8)), .int (nI (y8)), .int (bI z8)])), (qa, .inl (cA, 1200, .inl (f)))] sz) := by
  refine Met.ofW (cc := b_FO_kerningOf) (maxL := 3) (ret := (some .int)) (by decide) rfl ?_
  intro p e s m args below meth c s₁ B hml hv
  obtain ⟨rfl, hsz, hP, hK, hD0, hNs⟩ := hv
  have hx := B.exec
  have hb := B.bytes
  have hr := B.returns
  have hts := atoms_spec (ws := s_FO_kerningOf) B.pre
  have hown : s.vm.findClass R_FO = some m.cls := findClass_of_methodNamed B.named
  have hlocks := B.notSynchronized
  subst hsz
  have hD := hD0.self (sz := s.heap.size)
  generalize hAe : va_A [(h0, .inr (4, [.ref qa, .ref kr, .ref k1, .ref k2, .ref k3, .ref k4, .ref k5, .ref k6, .ref km, .ref kp, .ref kD, .int (nI (ee)), .int (nI (gl)), .int (nI (wd)), .int (bI il)])), (kp, .inr (3, [.ref kk, .int (nI (pr))])), (kk, .inr (0, [.ref qa, .int (nI (x8)), .int (nI (y8)), .int (bI z8)])), (qa, .inl (cA, 1200, .inl (f)))] s.heap.size = A at hD ⊢
  have hA : ∀ q : Nat, s.heap.size ≤ q → A q := fun q h => by rw [← hAe]; exact Or.inr h
  have hS : va_S A s.heap s.heap [] := va_S.rf
  have hP : va_P (dC, dI) cls_ [(h0, .inr (4, [.ref qa, .ref kr, .ref k1, .ref k2, .ref k3, .ref k4, .ref k5, .ref k6, .ref km, .ref kp, .ref kD, .int (nI (ee)), .int (nI (gl)), .int (nI (wd)), .int (bI il)])), (kp, .inr (3, [.ref kk, .int (nI (pr))])), (kk, .inr (0, [.ref qa, .int (nI (x8)), .int (nI (y8)), .int (bI z8)])), (qa, .inl (cA, 1200, .inl (f)))] s.heap := hP
  have hl := lv_entry ([.ref h0, .int le, .int ri]) (n := 3) (Nat.le_of_ble_eq_true rfl)
  rw [lg_entry_eq]
  generalize (lg_sl ([.ref h0, .int le, .int ri]) ++ List.replicate (3 - (lg_sl ([.ref h0, .int le, .int ri])).length) Slot.unset).toArray = ls at hl ⊢
  have hl : lv_has ls 3 [(0, .ref h0), (1, .int le), (2, .int ri)] := hl
  refine lv_aload_n hx hb d_FO_kerningOf_0 rfl (lv_at hl 0 rfl) ?_
  refine va_get (D := (dC, dI)) (ci := 4) (v := .ref kp) (C := R_FO) (T := F_FO) (N := 15) hx hb hts in_FO hown hK hP 0 rfl rfl 9 (by decide) (hts _ (List.mem_cons_of_mem _ w_126)) (fun _ h9 => h9) rfl d_FO_kerningOf_1 ?_
  refine lv_iload_n hx hb d_FO_kerningOf_4 rfl (lv_at hl 1 rfl) ?_
  refine lv_iload_n hx hb d_FO_kerningOf_5 rfl (lv_at hl 2 rfl) ?_
  have hPc := hP.sub (ws' := [(kp, .inr (3, [.ref kk, .int (nI (pr))])), (kk, .inr (0, [.ref qa, .int (nI (x8)), .int (nI (y8)), .int (bI z8)])), (qa, .inl (cA, 1200, .inl (f)))]) [1, 2, 3] rfl
  have hDc := hD.sub (ws' := [(kp, .inr (3, [.ref kk, .int (nI (pr))])), (kk, .inr (0, [.ref qa, .int (nI (x8)), .int (nI (y8)), .int (bI z8)])), (qa, .inl (cA, 1200, .inl (f)))]) [1, 2, 3] (by decide) rfl
  have hKc := hK.sub (tys' := [(cA, .int)]) [0] rfl
  have hFc := va_free (wc := [(kp, .inr (3, [.ref kk, .int (nI (pr))])), (kk, .inr (0, [.ref qa, .int (nI (x8)), .int (nI (y8)), .int (bI z8)])), (qa, .inl (cA, 1200, .inl (f)))]) hD hS hA [1, 2, 3] rfl
  refine va_calli (va_runV (As := [.int le, .int ri]) (rest := []) ⟨hx, hb, hml, hown, hts⟩ (g_PA_between l dC dI kp kk qa x8 y8 z8 cA f pr le ri s.heap.size (by omega) (by assumption) (by omega)) (cwV 2 hts (tw_inV w_730 w_731 w_732 w_6 w_733) rfl rfl rfl (by decide +kernel) ⟨Nat.le_of_ble_eq_true rfl, Nat.le_of_ble_eq_true rfl⟩) ⟨fun a U g mk q => by obtain ⟨q0, q1, qP, qK, qD⟩ := q; exact ⟨q0, q1, qP, va_K.moved (u := U) (U := U.calling g mk a) (Vm.Alike.refl U.vm) qK, qD⟩, va_recv (hK := hK) (hP := hP) (q0 := 1) (ci := 3) rfl rfl, fun U hU hW => ⟨rfl, by rw [hU], by rw [hU]; exact hPc, va_K.moved hW.alike hKc, hDc.weaken (fun _ _ _ _ => trivial)⟩⟩ rfl rfl hl.1 rfl (lv_room (Nat.le_of_ble_eq_true rfl)) d_FO_kerningOf_6 ⟨Nat.le_of_ble_eq_true rfl, Nat.le_of_ble_eq_true rfl⟩) hS (fun q _ h => hFc q h) hFc (fun r2286 u t H1 locs ht hvm hw hB hz1 hk1 hS => ?_)
  obtain ⟨m_2287, hP1, hK1, hD1⟩ := hB
  rw [ht] at hP1
  have hK1 := va_K.moved hvm.symm hK1
  obtain ⟨hP, hD⟩ := va_join (wr := [(h0, .inr (4, [.ref qa, .ref kr, .ref k1, .ref k2, .ref k3, .ref k4, .ref k5, .ref k6, .ref km, .ref kp, .ref kD, .int (nI (ee)), .int (nI (gl)), .int (nI (wd)), .int (bI il)]))]) (w1 := [(kp, .inr (3, [.ref kk, .int (nI (pr))])), (kk, .inr (0, [.ref qa, .int (nI (x8)), .int (nI (y8)), .int (bI m_2287)])), (qa, .inl (cA, 1200, .inl (f)))]) hP hD [1, 2, 3] [0] rfl rfl (by decide) (by decide) hk1 hFc hP1 hD1
  have hK := (hK.sub (tys' := []) [] rfl).app hK1
  generalize H1 = H at hP hS ⊢
  have hP : va_P (dC, dI) cls_ [(h0, .inr (4, [.ref qa, .ref kr, .ref k1, .ref k2, .ref k3, .ref k4, .ref k5, .ref k6, .ref km, .ref kp, .ref kD, .int (nI (ee)), .int (nI (gl)), .int (nI (wd)), .int (bI il)])), (kp, .inr (3, [.ref kk, .int (nI (pr))])), (kk, .inr (0, [.ref qa, .int (nI (x8)), .int (nI (y8)), .int (bI m_2287)])), (qa, .inl (cA, 1200, .inl (f)))] H := hP
  have hD : va_D A [(h0, .inr (4, [.ref qa, .ref kr, .ref k1, .ref k2, .ref k3, .ref k4, .ref k5, .ref k6, .ref km, .ref kp, .ref kD, .int (nI (ee)), .int (nI (gl)), .int (nI (wd)), .int (bI il)])), (kp, .inr (3, [.ref kk, .int (nI (pr))])), (kk, .inr (0, [.ref qa, .int (nI (x8)), .int (nI (y8)), .int (bI m_2287)])), (qa, .inl (cA, 1200, .inl (f)))] := hD
  have hK : va_K (dC, dI) cls_ [(cA, .int)] s := hK
  have hw_r2286 := hw
  refine W.widen (k := 0) (n := 0) (Nat.le_of_ble_eq_true rfl) (Nat.le_of_ble_eq_true rfl) ?_
  have hP9 := hP.sub (ws' := [(h0, .inr (4, [.ref qa, .ref kr, .ref k1, .ref k2, .ref k3, .ref k4, .ref k5, .ref k6, .ref km, .ref kp, .ref kD, .int (nI (ee)), .int (nI (gl)), .int (nI (wd)), .int (bI il)])), (kp, .inr (3, [.ref kk, .int (nI (pr))])), (kk, .inr (0, [.ref qa, .int (nI (x8)), .int (nI (y8)), .int (bI m_2287)])), (qa, .inl (cA, 1200, .inl (f)))]) [0, 1, 2, 3] rfl
  have hD9 := hD.sub (ws' := [(h0, .inr (4, [.ref qa, .ref kr, .ref k1, .ref k2, .ref k3, .ref k4, .ref k5, .ref k6, .ref km, .ref kp, .ref kD, .int (nI (ee)), .int (nI (gl)), .int (nI (wd)), .int (bI il)])), (kp, .inr (3, [.ref kk, .int (nI (pr))])), (kk, .inr (0, [.ref qa, .int (nI (x8)), .int (nI (y8)), .int (bI m_2287)])), (qa, .inl (cA, 1200, .inl (f)))]) [0, 1, 2, 3] (by decide) rfl
  have hK9 := hK.sub (tys' := [(cA, .int)]) [0] rfl
  exact W.iret (v := r2286) hx hb hr (fun t ht hW => ⟨⟨r2286, (), rfl, trivial, m_2287, by rw [ht]; exact hP9, va_K.moved hW.alike hK9, hD9⟩, hS.F ht⟩) hS.2.2 d_FO_kerningOf_9
