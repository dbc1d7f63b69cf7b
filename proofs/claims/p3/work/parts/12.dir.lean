abbrev b_DI_entry : ByteArray := prog_4_method_7_code
def y_DI_entry : MethodName := ⟨R_DI, "entry", "(I)I"⟩
def s_DI_entry : List Cond := .code y_DI_entry b_DI_entry 1 (some .int) :: tw_T
abbrev b_DI_nameOf : ByteArray := prog_4_method_6_code
def y_DI_nameOf : MethodName := ⟨R_DI, "nameOf", "(I)J"⟩
def s_DI_nameOf : List Cond := .code y_DI_nameOf b_DI_nameOf 2 (some .long) :: tw_T
abbrev b_DI_layTable : ByteArray := prog_4_method_5_code
def y_DI_layTable : MethodName := ⟨R_DI, "layTable", "(ILGlyphLines$Span;)V"⟩
def s_DI_layTable : List Cond := .code y_DI_layTable b_DI_layTable 3 none :: tw_T
abbrev b_DI_find : ByteArray := prog_4_method_4_code
def y_DI_find : MethodName := ⟨R_DI, "find", "(JLGlyphLines$Span;)Z"⟩
def s_DI_find : List Cond := .code y_DI_find b_DI_find 5 (some .boolean) :: tw_T
abbrev b_DI_isRight : ByteArray := prog_4_method_2_code
def y_DI_isRight : MethodName := ⟨R_DI, "isRight", "(I)Z"⟩
def s_DI_isRight : List Cond := .code y_DI_isRight b_DI_isRight 7 (some .boolean) :: tw_T
abbrev b_DI_sumsAgree : ByteArray := prog_4_method_3_code
def y_DI_sumsAgree : MethodName := ⟨R_DI, "sumsAgree", "()Z"⟩
def s_DI_sumsAgree : List Cond := .code y_DI_sumsAgree b_DI_sumsAgree 5 (some .boolean) :: tw_T
theorem w_3 : (Jvm.Cond.initialized "GlyphLines$Directory") ∈ tw_T := tw_of 3 (by decide +kernel) (by decide +kernel)
theorem w_4 : (Jvm.Cond.initialized "GlyphLines$Span") ∈ tw_T := tw_of 4 (by decide +kernel) (by decide +kernel)
theorem w_69 : (Jvm.Cond.fieldLink "GlyphLines$Directory" (18 : Nat) "GlyphLines$Directory" "whole" "LGlyphLines$Span;") ∈ tw_T := tw_of 69 (by decide +kernel) (by decide +kernel)
theorem w_70 : (Jvm.Cond.fieldLink "GlyphLines$Directory" (22 : Nat) "GlyphLines$Directory" "table" "LGlyphLines$Span;") ∈ tw_T := tw_of 70 (by decide +kernel) (by decide +kernel)
theorem w_71 : (Jvm.Cond.fieldLink "GlyphLines$Directory" (7 : Nat) "GlyphLines$Directory" "tables" "I") ∈ tw_T := tw_of 71 (by decide +kernel) (by decide +kernel)
theorem w_344 : (Jvm.Cond.methodLink "GlyphLines$Directory" (25 : Nat) ({ cls := "GlyphLines$Span", name := "lay", desc := "(II)V" } : Jvm.MethodName)) ∈ tw_T := tw_of 344 (by decide +kernel) (by decide +kernel)
theorem w_345 : (Jvm.Cond.instanceMethod ({ cls := "GlyphLines$Span", name := "lay", desc := "(II)V" } : Jvm.MethodName)) ∈ tw_T := tw_of 345 (by decide +kernel) (by decide +kernel)
theorem w_346 : (Jvm.Cond.selects "GlyphLines$Span" ({ cls := "GlyphLines$Span", name := "lay", desc := "(II)V" } : Jvm.MethodName) ({ cls := "GlyphLines$Span", name := "lay", desc := "(II)V" } : Jvm.MethodName)) ∈ tw_T := tw_of 346 (by decide +kernel) (by decide +kernel)
theorem w_347 : (Jvm.Cond.code ({ cls := "GlyphLines$Span", name := "lay", desc := "(II)V" } : Jvm.MethodName) prog_10_method_2_code (3 : Nat) (Option.none : Option Jvm.ClassFile.FieldType)) ∈ tw_T := tw_of 347 (by decide +kernel) (by decide +kernel)
theorem w_352 : (Jvm.Cond.methodLink "GlyphLines$Directory" (29 : Nat) ({ cls := "GlyphLines$Span", name := "u16", desc := "(I)I" } : Jvm.MethodName)) ∈ tw_T := tw_of 352 (by decide +kernel) (by decide +kernel)
theorem w_353 : (Jvm.Cond.instanceMethod ({ cls := "GlyphLines$Span", name := "u16", desc := "(I)I" } : Jvm.MethodName)) ∈ tw_T := tw_of 353 (by decide +kernel) (by decide +kernel)
theorem w_354 : (Jvm.Cond.selects "GlyphLines$Span" ({ cls := "GlyphLines$Span", name := "u16", desc := "(I)I" } : Jvm.MethodName) ({ cls := "GlyphLines$Span", name := "u16", desc := "(I)I" } : Jvm.MethodName)) ∈ tw_T := tw_of 354 (by decide +kernel) (by decide +kernel)
theorem w_355 : (Jvm.Cond.code ({ cls := "GlyphLines$Span", name := "u16", desc := "(I)I" } : Jvm.MethodName) prog_10_method_5_code (2 : Nat) (Option.some Jvm.ClassFile.FieldType.int)) ∈ tw_T := tw_of 355 (by decide +kernel) (by decide +kernel)
theorem w_356 : (Jvm.Cond.methodLink "GlyphLines$Directory" (33 : Nat) ({ cls := "GlyphLines$Span", name := "u32", desc := "(I)J" } : Jvm.MethodName)) ∈ tw_T := tw_of 356 (by decide +kernel) (by decide +kernel)
theorem w_357 : (Jvm.Cond.instanceMethod ({ cls := "GlyphLines$Span", name := "u32", desc := "(I)J" } : Jvm.MethodName)) ∈ tw_T := tw_of 357 (by decide +kernel) (by decide +kernel)
theorem w_358 : (Jvm.Cond.selects "GlyphLines$Span" ({ cls := "GlyphLines$Span", name := "u32", desc := "(I)J" } : Jvm.MethodName) ({ cls := "GlyphLines$Span", name := "u32", desc := "(I)J" } : Jvm.MethodName)) ∈ tw_T := tw_of 358 (by decide +kernel) (by decide +kernel)
theorem w_359 : (Jvm.Cond.code ({ cls := "GlyphLines$Span", name := "u32", desc := "(I)J" } : Jvm.MethodName) prog_10_method_6_code (6 : Nat) (Option.some Jvm.ClassFile.FieldType.long)) ∈ tw_T := tw_of 359 (by decide +kernel) (by decide +kernel)
theorem w_360 : (Jvm.Cond.constantLong "GlyphLines$Directory" (37 : Nat) (65536 : Int64)) ∈ tw_T := tw_of 360 (by decide +kernel) (by decide +kernel)
theorem w_361 : (Jvm.Cond.constantLong "GlyphLines$Directory" (39 : Nat) (12 : Int64)) ∈ tw_T := tw_of 361 (by decide +kernel) (by decide +kernel)
theorem w_362 : (Jvm.Cond.constantLong "GlyphLines$Directory" (41 : Nat) (16 : Int64)) ∈ tw_T := tw_of 362 (by decide +kernel) (by decide +kernel)
theorem w_363 : (Jvm.Cond.methodLink "GlyphLines$Directory" (43 : Nat) ({ cls := "GlyphLines$Span", name := "holds", desc := "(JJ)Z" } : Jvm.MethodName)) ∈ tw_T := tw_of 363 (by decide +kernel) (by decide +kernel)
theorem w_364 : (Jvm.Cond.instanceMethod ({ cls := "GlyphLines$Span", name := "holds", desc := "(JJ)Z" } : Jvm.MethodName)) ∈ tw_T := tw_of 364 (by decide +kernel) (by decide +kernel)
theorem w_365 : (Jvm.Cond.selects "GlyphLines$Span" ({ cls := "GlyphLines$Span", name := "holds", desc := "(JJ)Z" } : Jvm.MethodName) ({ cls := "GlyphLines$Span", name := "holds", desc := "(JJ)Z" } : Jvm.MethodName)) ∈ tw_T := tw_of 365 (by decide +kernel) (by decide +kernel)
theorem w_366 : (Jvm.Cond.code ({ cls := "GlyphLines$Span", name := "holds", desc := "(JJ)Z" } : Jvm.MethodName) prog_10_method_3_code (5 : Nat) (Option.some Jvm.ClassFile.FieldType.boolean)) ∈ tw_T := tw_of 366 (by decide +kernel) (by decide +kernel)
theorem w_367 : (Jvm.Cond.constantLong "GlyphLines$Directory" (47 : Nat) (-1 : Int64)) ∈ tw_T := tw_of 367 (by decide +kernel) (by decide +kernel)
theorem w_368 : (Jvm.Cond.methodLink "GlyphLines$Directory" (49 : Nat) ({ cls := "GlyphLines$Directory", name := "nameOf", desc := "(I)J" } : Jvm.MethodName)) ∈ tw_T := tw_of 368 (by decide +kernel) (by decide +kernel)
theorem w_370 : (Jvm.Cond.instanceMethod ({ cls := "GlyphLines$Directory", name := "nameOf", desc := "(I)J" } : Jvm.MethodName)) ∈ tw_T := tw_of 370 (by decide +kernel) (by decide +kernel)
theorem w_371 : (Jvm.Cond.code ({ cls := "GlyphLines$Directory", name := "nameOf", desc := "(I)J" } : Jvm.MethodName) prog_4_method_6_code (2 : Nat) (Option.some Jvm.ClassFile.FieldType.long)) ∈ tw_T := tw_of 371 (by decide +kernel) (by decide +kernel)
theorem w_372 : (Jvm.Cond.methodLink "GlyphLines$Directory" (52 : Nat) ({ cls := "GlyphLines$Directory", name := "entry", desc := "(I)I" } : Jvm.MethodName)) ∈ tw_T := tw_of 372 (by decide +kernel) (by decide +kernel)
theorem w_373 : (Jvm.Cond.static ({ cls := "GlyphLines$Directory", name := "entry", desc := "(I)I" } : Jvm.MethodName)) ∈ tw_T := tw_of 373 (by decide +kernel) (by decide +kernel)
theorem w_374 : (Jvm.Cond.code ({ cls := "GlyphLines$Directory", name := "entry", desc := "(I)I" } : Jvm.MethodName) prog_4_method_7_code (1 : Nat) (Option.some Jvm.ClassFile.FieldType.int)) ∈ tw_T := tw_of 374 (by decide +kernel) (by decide +kernel)
theorem w_379 : (Jvm.Cond.methodLink "GlyphLines$Directory" (55 : Nat) ({ cls := "GlyphLines$Directory", name := "layTable", desc := "(ILGlyphLines$Span;)V" } : Jvm.MethodName)) ∈ tw_T := tw_of 379 (by decide +kernel) (by decide +kernel)
theorem w_381 : (Jvm.Cond.instanceMethod ({ cls := "GlyphLines$Directory", name := "layTable", desc := "(ILGlyphLines$Span;)V" } : Jvm.MethodName)) ∈ tw_T := tw_of 381 (by decide +kernel) (by decide +kernel)
theorem w_382 : (Jvm.Cond.code ({ cls := "GlyphLines$Directory", name := "layTable", desc := "(ILGlyphLines$Span;)V" } : Jvm.MethodName) prog_4_method_5_code (3 : Nat) (Option.none : Option Jvm.ClassFile.FieldType)) ∈ tw_T := tw_of 382 (by decide +kernel) (by decide +kernel)
theorem w_383 : (Jvm.Cond.constantLong "GlyphLines$Directory" (62 : Nat) (4294967295 : Int64)) ∈ tw_T := tw_of 383 (by decide +kernel) (by decide +kernel)
theorem wp_0 : Cond.selects "GlyphLines$Directory" ({ cls := "GlyphLines$Directory", name := "nameOf", desc := "(I)J" } : Jvm.MethodName) ({ cls := "GlyphLines$Directory", name := "nameOf", desc := "(I)J" } : Jvm.MethodName) ∈ tw_T := tw_priv 0 (({ cls := "GlyphLines$Directory", name := "nameOf", desc := "(I)J" } : Jvm.MethodName), 3) (by decide +kernel) (by decide +kernel)
theorem wp_1 : Cond.selects "GlyphLines$Directory" ({ cls := "GlyphLines$Directory", name := "layTable", desc := "(ILGlyphLines$Span;)V" } : Jvm.MethodName) ({ cls := "GlyphLines$Directory", name := "layTable", desc := "(ILGlyphLines$Span;)V" } : Jvm.MethodName) ∈ tw_T := tw_priv 1 (({ cls := "GlyphLines$Directory", name := "layTable", desc := "(ILGlyphLines$Span;)V" } : Jvm.MethodName), 3) (by decide +kernel) (by decide +kernel)
theorem d_DI_entry_0 : decode b_DI_entry 0 = .ok (.bipush 12, 2) := by decide +kernel
theorem d_DI_entry_2 : decode b_DI_entry 2 = .ok (.bipush 16, 2) := by decide +kernel
theorem d_DI_entry_4 : decode b_DI_entry 4 = .ok (.iload_n 0, 1) := by decide +kernel
theorem d_DI_entry_5 : decode b_DI_entry 5 = .ok (.imul, 1) := by decide +kernel
theorem d_DI_entry_6 : decode b_DI_entry 6 = .ok (.iadd, 1) := by decide +kernel
theorem d_DI_entry_7 : decode b_DI_entry 7 = .ok (.ireturn, 1) := by decide +kernel
theorem d_DI_find_0 : decode b_DI_find 0 = .ok (.iconst 0, 1) := by decide +kernel
theorem d_DI_find_1 : decode b_DI_find 1 = .ok (.istore 4, 2) := by decide +kernel
theorem d_DI_find_12 : decode b_DI_find 12 = .ok (.aload_n 0, 1) := by decide +kernel
theorem d_DI_find_13 : decode b_DI_find 13 = .ok (.iload 4, 2) := by decide +kernel
theorem d_DI_find_15 : decode b_DI_find 15 = .ok (.invokevirtual 49, 3) := by decide +kernel
theorem d_DI_find_18 : decode b_DI_find 18 = .ok (.lload_n 1, 1) := by decide +kernel
theorem d_DI_find_19 : decode b_DI_find 19 = .ok (.lcmp, 1) := by decide +kernel
theorem d_DI_find_20 : decode b_DI_find 20 = .ok (.ifCond .ne (12), 3) := by decide +kernel
theorem d_DI_find_23 : decode b_DI_find 23 = .ok (.aload_n 0, 1) := by decide +kernel
theorem d_DI_find_24 : decode b_DI_find 24 = .ok (.iload 4, 2) := by decide +kernel
theorem d_DI_find_26 : decode b_DI_find 26 = .ok (.aload_n 3, 1) := by decide +kernel
theorem d_DI_find_27 : decode b_DI_find 27 = .ok (.invokevirtual 55, 3) := by decide +kernel
theorem d_DI_find_3 : decode b_DI_find 3 = .ok (.iload 4, 2) := by decide +kernel
theorem d_DI_find_30 : decode b_DI_find 30 = .ok (.iconst 1, 1) := by decide +kernel
theorem d_DI_find_31 : decode b_DI_find 31 = .ok (.ireturn, 1) := by decide +kernel
theorem d_DI_find_32 : decode b_DI_find 32 = .ok (.iinc 4 (1), 3) := by decide +kernel
theorem d_DI_find_35 : decode b_DI_find 35 = .ok (.goto (-32), 3) := by decide +kernel
theorem d_DI_find_38 : decode b_DI_find 38 = .ok (.iconst 0, 1) := by decide +kernel
theorem d_DI_find_39 : decode b_DI_find 39 = .ok (.ireturn, 1) := by decide +kernel
theorem d_DI_find_5 : decode b_DI_find 5 = .ok (.aload_n 0, 1) := by decide +kernel
theorem d_DI_find_6 : decode b_DI_find 6 = .ok (.getfield 7, 3) := by decide +kernel
theorem d_DI_find_9 : decode b_DI_find 9 = .ok (.if_icmp .ge (29), 3) := by decide +kernel
theorem d_DI_isRight_0 : decode b_DI_isRight 0 = .ok (.aload_n 0, 1) := by decide +kernel
theorem d_DI_isRight_1 : decode b_DI_isRight 1 = .ok (.getfield 18, 3) := by decide +kernel
theorem d_DI_isRight_10 : decode b_DI_isRight 10 = .ok (.aload_n 0, 1) := by decide +kernel
theorem d_DI_isRight_101 : decode b_DI_isRight 101 = .ok (.lload 5, 2) := by decide +kernel
theorem d_DI_isRight_103 : decode b_DI_isRight 103 = .ok (.lload_n 2, 1) := by decide +kernel
theorem d_DI_isRight_104 : decode b_DI_isRight 104 = .ok (.lcmp, 1) := by decide +kernel
theorem d_DI_isRight_105 : decode b_DI_isRight 105 = .ok (.ifCond .le (43), 3) := by decide +kernel
theorem d_DI_isRight_108 : decode b_DI_isRight 108 = .ok (.aload_n 0, 1) := by decide +kernel
theorem d_DI_isRight_109 : decode b_DI_isRight 109 = .ok (.getfield 18, 3) := by decide +kernel
theorem d_DI_isRight_11 : decode b_DI_isRight 11 = .ok (.getfield 18, 3) := by decide +kernel
theorem d_DI_isRight_112 : decode b_DI_isRight 112 = .ok (.aload_n 0, 1) := by decide +kernel
theorem d_DI_isRight_113 : decode b_DI_isRight 113 = .ok (.getfield 18, 3) := by decide +kernel
theorem d_DI_isRight_116 : decode b_DI_isRight 116 = .ok (.iload 4, 2) := by decide +kernel
theorem d_DI_isRight_118 : decode b_DI_isRight 118 = .ok (.invokestatic 52, 3) := by decide +kernel
theorem d_DI_isRight_121 : decode b_DI_isRight 121 = .ok (.bipush 8, 2) := by decide +kernel
theorem d_DI_isRight_123 : decode b_DI_isRight 123 = .ok (.iadd, 1) := by decide +kernel
theorem d_DI_isRight_124 : decode b_DI_isRight 124 = .ok (.invokevirtual 33, 3) := by decide +kernel
theorem d_DI_isRight_127 : decode b_DI_isRight 127 = .ok (.aload_n 0, 1) := by decide +kernel
theorem d_DI_isRight_128 : decode b_DI_isRight 128 = .ok (.getfield 18, 3) := by decide +kernel
theorem d_DI_isRight_131 : decode b_DI_isRight 131 = .ok (.iload 4, 2) := by decide +kernel
theorem d_DI_isRight_133 : decode b_DI_isRight 133 = .ok (.invokestatic 52, 3) := by decide +kernel
theorem d_DI_isRight_136 : decode b_DI_isRight 136 = .ok (.bipush 12, 2) := by decide +kernel
theorem d_DI_isRight_138 : decode b_DI_isRight 138 = .ok (.iadd, 1) := by decide +kernel
theorem d_DI_isRight_139 : decode b_DI_isRight 139 = .ok (.invokevirtual 33, 3) := by decide +kernel
theorem d_DI_isRight_14 : decode b_DI_isRight 14 = .ok (.iconst 4, 1) := by decide +kernel
theorem d_DI_isRight_142 : decode b_DI_isRight 142 = .ok (.invokevirtual 43, 3) := by decide +kernel
theorem d_DI_isRight_145 : decode b_DI_isRight 145 = .ok (.ifCond .ne (5), 3) := by decide +kernel
theorem d_DI_isRight_148 : decode b_DI_isRight 148 = .ok (.iconst 0, 1) := by decide +kernel
theorem d_DI_isRight_149 : decode b_DI_isRight 149 = .ok (.ireturn, 1) := by decide +kernel
theorem d_DI_isRight_15 : decode b_DI_isRight 15 = .ok (.invokevirtual 29, 3) := by decide +kernel
theorem d_DI_isRight_150 : decode b_DI_isRight 150 = .ok (.lload 5, 2) := by decide +kernel
theorem d_DI_isRight_152 : decode b_DI_isRight 152 = .ok (.lstore_n 2, 1) := by decide +kernel
theorem d_DI_isRight_153 : decode b_DI_isRight 153 = .ok (.iinc 4 (1), 3) := by decide +kernel
theorem d_DI_isRight_156 : decode b_DI_isRight 156 = .ok (.goto (-72), 3) := by decide +kernel
theorem d_DI_isRight_159 : decode b_DI_isRight 159 = .ok (.iconst 1, 1) := by decide +kernel
theorem d_DI_isRight_160 : decode b_DI_isRight 160 = .ok (.ireturn, 1) := by decide +kernel
theorem d_DI_isRight_18 : decode b_DI_isRight 18 = .ok (.putfield 7, 3) := by decide +kernel
theorem d_DI_isRight_21 : decode b_DI_isRight 21 = .ok (.aload_n 0, 1) := by decide +kernel
theorem d_DI_isRight_22 : decode b_DI_isRight 22 = .ok (.getfield 18, 3) := by decide +kernel
theorem d_DI_isRight_25 : decode b_DI_isRight 25 = .ok (.iconst 0, 1) := by decide +kernel
theorem d_DI_isRight_26 : decode b_DI_isRight 26 = .ok (.invokevirtual 33, 3) := by decide +kernel
theorem d_DI_isRight_29 : decode b_DI_isRight 29 = .ok (.ldc2_w 37, 3) := by decide +kernel
theorem d_DI_isRight_32 : decode b_DI_isRight 32 = .ok (.lcmp, 1) := by decide +kernel
theorem d_DI_isRight_33 : decode b_DI_isRight 33 = .ok (.ifCond .ne (42), 3) := by decide +kernel
theorem d_DI_isRight_36 : decode b_DI_isRight 36 = .ok (.aload_n 0, 1) := by decide +kernel
theorem d_DI_isRight_37 : decode b_DI_isRight 37 = .ok (.getfield 7, 3) := by decide +kernel
theorem d_DI_isRight_4 : decode b_DI_isRight 4 = .ok (.iconst 0, 1) := by decide +kernel
theorem d_DI_isRight_40 : decode b_DI_isRight 40 = .ok (.iconst 1, 1) := by decide +kernel
theorem d_DI_isRight_41 : decode b_DI_isRight 41 = .ok (.if_icmp .lt (34), 3) := by decide +kernel
theorem d_DI_isRight_44 : decode b_DI_isRight 44 = .ok (.aload_n 0, 1) := by decide +kernel
theorem d_DI_isRight_45 : decode b_DI_isRight 45 = .ok (.getfield 7, 3) := by decide +kernel
theorem d_DI_isRight_48 : decode b_DI_isRight 48 = .ok (.bipush 16, 2) := by decide +kernel
theorem d_DI_isRight_5 : decode b_DI_isRight 5 = .ok (.iload_n 1, 1) := by decide +kernel
theorem d_DI_isRight_50 : decode b_DI_isRight 50 = .ok (.if_icmp .gt (25), 3) := by decide +kernel
theorem d_DI_isRight_53 : decode b_DI_isRight 53 = .ok (.aload_n 0, 1) := by decide +kernel
theorem d_DI_isRight_54 : decode b_DI_isRight 54 = .ok (.getfield 18, 3) := by decide +kernel
theorem d_DI_isRight_57 : decode b_DI_isRight 57 = .ok (.ldc2_w 39, 3) := by decide +kernel
theorem d_DI_isRight_6 : decode b_DI_isRight 6 = .ok (.invokevirtual 25, 3) := by decide +kernel
theorem d_DI_isRight_60 : decode b_DI_isRight 60 = .ok (.ldc2_w 41, 3) := by decide +kernel
theorem d_DI_isRight_63 : decode b_DI_isRight 63 = .ok (.aload_n 0, 1) := by decide +kernel
theorem d_DI_isRight_64 : decode b_DI_isRight 64 = .ok (.getfield 7, 3) := by decide +kernel
theorem d_DI_isRight_67 : decode b_DI_isRight 67 = .ok (.i2l, 1) := by decide +kernel
theorem d_DI_isRight_68 : decode b_DI_isRight 68 = .ok (.lmul, 1) := by decide +kernel
theorem d_DI_isRight_69 : decode b_DI_isRight 69 = .ok (.invokevirtual 43, 3) := by decide +kernel
theorem d_DI_isRight_72 : decode b_DI_isRight 72 = .ok (.ifCond .ne (5), 3) := by decide +kernel
theorem d_DI_isRight_75 : decode b_DI_isRight 75 = .ok (.iconst 0, 1) := by decide +kernel
theorem d_DI_isRight_76 : decode b_DI_isRight 76 = .ok (.ireturn, 1) := by decide +kernel
theorem d_DI_isRight_77 : decode b_DI_isRight 77 = .ok (.ldc2_w 47, 3) := by decide +kernel
theorem d_DI_isRight_80 : decode b_DI_isRight 80 = .ok (.lstore_n 2, 1) := by decide +kernel
theorem d_DI_isRight_81 : decode b_DI_isRight 81 = .ok (.iconst 0, 1) := by decide +kernel
theorem d_DI_isRight_82 : decode b_DI_isRight 82 = .ok (.istore 4, 2) := by decide +kernel
theorem d_DI_isRight_84 : decode b_DI_isRight 84 = .ok (.iload 4, 2) := by decide +kernel
theorem d_DI_isRight_86 : decode b_DI_isRight 86 = .ok (.aload_n 0, 1) := by decide +kernel
theorem d_DI_isRight_87 : decode b_DI_isRight 87 = .ok (.getfield 7, 3) := by decide +kernel
theorem d_DI_isRight_9 : decode b_DI_isRight 9 = .ok (.aload_n 0, 1) := by decide +kernel
theorem d_DI_isRight_90 : decode b_DI_isRight 90 = .ok (.if_icmp .ge (69), 3) := by decide +kernel
theorem d_DI_isRight_93 : decode b_DI_isRight 93 = .ok (.aload_n 0, 1) := by decide +kernel
theorem d_DI_isRight_94 : decode b_DI_isRight 94 = .ok (.iload 4, 2) := by decide +kernel
theorem d_DI_isRight_96 : decode b_DI_isRight 96 = .ok (.invokevirtual 49, 3) := by decide +kernel
theorem d_DI_isRight_99 : decode b_DI_isRight 99 = .ok (.lstore 5, 2) := by decide +kernel
theorem d_DI_layTable_0 : decode b_DI_layTable 0 = .ok (.aload_n 2, 1) := by decide +kernel
theorem d_DI_layTable_1 : decode b_DI_layTable 1 = .ok (.aload_n 0, 1) := by decide +kernel
theorem d_DI_layTable_11 : decode b_DI_layTable 11 = .ok (.iadd, 1) := by decide +kernel
theorem d_DI_layTable_12 : decode b_DI_layTable 12 = .ok (.invokevirtual 33, 3) := by decide +kernel
theorem d_DI_layTable_15 : decode b_DI_layTable 15 = .ok (.l2i, 1) := by decide +kernel
theorem d_DI_layTable_16 : decode b_DI_layTable 16 = .ok (.aload_n 0, 1) := by decide +kernel
theorem d_DI_layTable_17 : decode b_DI_layTable 17 = .ok (.getfield 18, 3) := by decide +kernel
theorem d_DI_layTable_2 : decode b_DI_layTable 2 = .ok (.getfield 18, 3) := by decide +kernel
theorem d_DI_layTable_20 : decode b_DI_layTable 20 = .ok (.iload_n 1, 1) := by decide +kernel
theorem d_DI_layTable_21 : decode b_DI_layTable 21 = .ok (.invokestatic 52, 3) := by decide +kernel
theorem d_DI_layTable_24 : decode b_DI_layTable 24 = .ok (.bipush 12, 2) := by decide +kernel
theorem d_DI_layTable_26 : decode b_DI_layTable 26 = .ok (.iadd, 1) := by decide +kernel
theorem d_DI_layTable_27 : decode b_DI_layTable 27 = .ok (.invokevirtual 33, 3) := by decide +kernel
theorem d_DI_layTable_30 : decode b_DI_layTable 30 = .ok (.l2i, 1) := by decide +kernel
theorem d_DI_layTable_31 : decode b_DI_layTable 31 = .ok (.invokevirtual 25, 3) := by decide +kernel
theorem d_DI_layTable_34 : decode b_DI_layTable 34 = .ok (.return_, 1) := by decide +kernel
theorem d_DI_layTable_5 : decode b_DI_layTable 5 = .ok (.iload_n 1, 1) := by decide +kernel
theorem d_DI_layTable_6 : decode b_DI_layTable 6 = .ok (.invokestatic 52, 3) := by decide +kernel
theorem d_DI_layTable_9 : decode b_DI_layTable 9 = .ok (.bipush 8, 2) := by decide +kernel
theorem d_DI_nameOf_0 : decode b_DI_nameOf 0 = .ok (.aload_n 0, 1) := by decide +kernel
theorem d_DI_nameOf_1 : decode b_DI_nameOf 1 = .ok (.getfield 18, 3) := by decide +kernel
theorem d_DI_nameOf_11 : decode b_DI_nameOf 11 = .ok (.lreturn, 1) := by decide +kernel
theorem d_DI_nameOf_4 : decode b_DI_nameOf 4 = .ok (.iload_n 1, 1) := by decide +kernel
theorem d_DI_nameOf_5 : decode b_DI_nameOf 5 = .ok (.invokestatic 52, 3) := by decide +kernel
theorem d_DI_nameOf_8 : decode b_DI_nameOf 8 = .ok (.invokevirtual 33, 3) := by decide +kernel
theorem d_DI_sumsAgree_0 : decode b_DI_sumsAgree 0 = .ok (.iconst 0, 1) := by decide +kernel
theorem d_DI_sumsAgree_1 : decode b_DI_sumsAgree 1 = .ok (.istore_n 1, 1) := by decide +kernel
theorem d_DI_sumsAgree_10 : decode b_DI_sumsAgree 10 = .ok (.aload_n 0, 1) := by decide +kernel
theorem d_DI_sumsAgree_11 : decode b_DI_sumsAgree 11 = .ok (.iload_n 1, 1) := by decide +kernel
theorem d_DI_sumsAgree_12 : decode b_DI_sumsAgree 12 = .ok (.aload_n 0, 1) := by decide +kernel
theorem d_DI_sumsAgree_13 : decode b_DI_sumsAgree 13 = .ok (.getfield 22, 3) := by decide +kernel
theorem d_DI_sumsAgree_16 : decode b_DI_sumsAgree 16 = .ok (.invokevirtual 55, 3) := by decide +kernel
theorem d_DI_sumsAgree_19 : decode b_DI_sumsAgree 19 = .ok (.lconst 0, 1) := by decide +kernel
theorem d_DI_sumsAgree_2 : decode b_DI_sumsAgree 2 = .ok (.iload_n 1, 1) := by decide +kernel
theorem d_DI_sumsAgree_20 : decode b_DI_sumsAgree 20 = .ok (.lstore_n 2, 1) := by decide +kernel
theorem d_DI_sumsAgree_21 : decode b_DI_sumsAgree 21 = .ok (.iconst 0, 1) := by decide +kernel
theorem d_DI_sumsAgree_22 : decode b_DI_sumsAgree 22 = .ok (.istore 4, 2) := by decide +kernel
theorem d_DI_sumsAgree_24 : decode b_DI_sumsAgree 24 = .ok (.iload 4, 2) := by decide +kernel
theorem d_DI_sumsAgree_26 : decode b_DI_sumsAgree 26 = .ok (.aload_n 0, 1) := by decide +kernel
theorem d_DI_sumsAgree_27 : decode b_DI_sumsAgree 27 = .ok (.getfield 22, 3) := by decide +kernel
theorem d_DI_sumsAgree_3 : decode b_DI_sumsAgree 3 = .ok (.aload_n 0, 1) := by decide +kernel
theorem d_DI_sumsAgree_30 : decode b_DI_sumsAgree 30 = .ok (.getfield 59, 3) := by decide +kernel
theorem d_DI_sumsAgree_33 : decode b_DI_sumsAgree 33 = .ok (.if_icmp .ge (21), 3) := by decide +kernel
theorem d_DI_sumsAgree_36 : decode b_DI_sumsAgree 36 = .ok (.lload_n 2, 1) := by decide +kernel
theorem d_DI_sumsAgree_37 : decode b_DI_sumsAgree 37 = .ok (.aload_n 0, 1) := by decide +kernel
theorem d_DI_sumsAgree_38 : decode b_DI_sumsAgree 38 = .ok (.getfield 22, 3) := by decide +kernel
theorem d_DI_sumsAgree_4 : decode b_DI_sumsAgree 4 = .ok (.getfield 7, 3) := by decide +kernel
theorem d_DI_sumsAgree_41 : decode b_DI_sumsAgree 41 = .ok (.iload 4, 2) := by decide +kernel
theorem d_DI_sumsAgree_43 : decode b_DI_sumsAgree 43 = .ok (.invokevirtual 33, 3) := by decide +kernel
theorem d_DI_sumsAgree_46 : decode b_DI_sumsAgree 46 = .ok (.ladd, 1) := by decide +kernel
theorem d_DI_sumsAgree_47 : decode b_DI_sumsAgree 47 = .ok (.lstore_n 2, 1) := by decide +kernel
theorem d_DI_sumsAgree_48 : decode b_DI_sumsAgree 48 = .ok (.iinc 4 (4), 3) := by decide +kernel
theorem d_DI_sumsAgree_51 : decode b_DI_sumsAgree 51 = .ok (.goto (-27), 3) := by decide +kernel
theorem d_DI_sumsAgree_54 : decode b_DI_sumsAgree 54 = .ok (.lload_n 2, 1) := by decide +kernel
theorem d_DI_sumsAgree_55 : decode b_DI_sumsAgree 55 = .ok (.ldc2_w 62, 3) := by decide +kernel
theorem d_DI_sumsAgree_58 : decode b_DI_sumsAgree 58 = .ok (.land, 1) := by decide +kernel
theorem d_DI_sumsAgree_59 : decode b_DI_sumsAgree 59 = .ok (.aload_n 0, 1) := by decide +kernel
theorem d_DI_sumsAgree_60 : decode b_DI_sumsAgree 60 = .ok (.getfield 18, 3) := by decide +kernel
theorem d_DI_sumsAgree_63 : decode b_DI_sumsAgree 63 = .ok (.iload_n 1, 1) := by decide +kernel
theorem d_DI_sumsAgree_64 : decode b_DI_sumsAgree 64 = .ok (.invokestatic 52, 3) := by decide +kernel
theorem d_DI_sumsAgree_67 : decode b_DI_sumsAgree 67 = .ok (.iconst 4, 1) := by decide +kernel
theorem d_DI_sumsAgree_68 : decode b_DI_sumsAgree 68 = .ok (.iadd, 1) := by decide +kernel
theorem d_DI_sumsAgree_69 : decode b_DI_sumsAgree 69 = .ok (.invokevirtual 33, 3) := by decide +kernel
theorem d_DI_sumsAgree_7 : decode b_DI_sumsAgree 7 = .ok (.if_icmp .ge (77), 3) := by decide +kernel
theorem d_DI_sumsAgree_72 : decode b_DI_sumsAgree 72 = .ok (.lcmp, 1) := by decide +kernel
theorem d_DI_sumsAgree_73 : decode b_DI_sumsAgree 73 = .ok (.ifCond .eq (5), 3) := by decide +kernel
theorem d_DI_sumsAgree_76 : decode b_DI_sumsAgree 76 = .ok (.iconst 0, 1) := by decide +kernel
theorem d_DI_sumsAgree_77 : decode b_DI_sumsAgree 77 = .ok (.ireturn, 1) := by decide +kernel
theorem d_DI_sumsAgree_78 : decode b_DI_sumsAgree 78 = .ok (.iinc 1 (1), 3) := by decide +kernel
theorem d_DI_sumsAgree_81 : decode b_DI_sumsAgree 81 = .ok (.goto (-79), 3) := by decide +kernel
theorem d_DI_sumsAgree_84 : decode b_DI_sumsAgree 84 = .ok (.iconst 1, 1) := by decide +kernel
theorem d_DI_sumsAgree_85 : decode b_DI_sumsAgree 85 = .ok (.ireturn, 1) := by decide +kernel
set_option maxHeartbeats 4000000 in
set_option maxRecDepth 100000 in
/-- GlyphLines$Directory.entry -/
theorem g_DI_entry (l : Launch) (dC : Nat → ClassId) (dI : Nat → Nat → Nat) (ti : Int32) (sz : Nat) : Met l y_DI_entry s_DI_entry ({ frames := 8, cells := 0, slots := 0, locals := 200 }) (va_Pc [.int ti] (fun U => U.heap.size = sz ∧ va_P (dC, dI) cls_ [] U.heap ∧ va_K (dC, dI) cls_ [] U ∧ va_D (fun _ => True) [])) (va_Qi (fun (r : Int32) (_ : Unit) => True) (fun (_ : Unit) (t : State) => True) (va_A [] sz)) 0 0 (va_A [] sz) := by
  refine Met.ofW (cc := b_DI_entry) (maxL := 1) (ret := (some .int)) (by decide) rfl ?_
  intro p e s m args below meth c s₁ B hml hv
  obtain ⟨rfl, hsz, hP, hK, hD0⟩ := hv
  have hx := B.exec
  have hb := B.bytes
  have hr := B.returns
  have hts := atoms_spec (ws := s_DI_entry) B.pre
  have hown : s.vm.findClass R_DI = some m.cls := findClass_of_methodNamed B.named
  have hlocks := B.notSynchronized
  subst hsz
  have hD := hD0.self (sz := s.heap.size)
  generalize hAe : va_A [] s.heap.size = A at hD ⊢
  have hA : ∀ q : Nat, s.heap.size ≤ q → A q := fun q h => by rw [← hAe]; exact Or.inr h
  have hS : va_S A s.heap s.heap [] := va_S.rf
  have hP : va_P (dC, dI) cls_ [] s.heap := hP
  have hl := lv_entry ([.int ti]) (n := 1) (Nat.le_of_ble_eq_true rfl)
  rw [lg_entry_eq]
  generalize (lg_sl ([.int ti]) ++ List.replicate (1 - (lg_sl ([.int ti])).length) Slot.unset).toArray = ls at hl ⊢
  have hl : lv_has ls 1 [(0, .int ti)] := hl
  refine lv_bipush (v := 12) hx hb d_DI_entry_0 (by decide) ?_
  refine lv_bipush (v := 16) hx hb d_DI_entry_2 (by decide) ?_
  refine lv_iload_n hx hb d_DI_entry_4 rfl (lv_at hl 0 rfl) ?_
  refine lv_imul hx hb d_DI_entry_5 ?_
  refine lv_topi (fun v29 ev29 => ?_)
  refine lv_iadd hx hb d_DI_entry_6 ?_
  refine lv_topi (fun v30 ev30 => ?_)
  refine W.widen (k := 0) (n := 0) (Nat.le_of_ble_eq_true rfl) (Nat.le_of_ble_eq_true rfl) ?_
  exact W.iret (v := v30) hx hb hr (fun t ht hW => ⟨⟨v30, (), rfl, trivial, trivial⟩, hS.F ht⟩) hS.2.2 d_DI_entry_7
set_option maxHeartbeats 4000000 in
set_option maxRecDepth 100000 in
/-- GlyphLines$Directory.nameOf -/
theorem g_DI_nameOf (l : Launch) (dC : Nat → ClassId) (dI : Nat → Nat → Nat) (h0 : Nat) (qw : Nat) (qt : Nat) (qa : Nat) (a : Nat) (n : Nat) (mi : Bool) (cA : ClassId) (f : Nat → Int32) (tb : Int32) (ti : Int32) (sz : Nat) (hq0 : a + n ≤ 1200) (hq1 : isB f) : Met l y_DI_nameOf s_DI_nameOf ({ frames := 10, cells := 0, slots := 0, locals := 300 }) (va_Pc [.ref h0, .int ti] (fun U => U.heap.size = sz ∧ va_P (dC, dI) cls_ [(h0, .inr (2, [.ref qw, .ref qt, .int tb])), (qw, .inr (0, [.ref qa, .int (nI (a)), .int (nI (n)), .int (bI mi)])), (qa, .inl (cA, 1200, .inl (f)))] U.heap ∧ va_K (dC, dI) cls_ [(cA, .int)] U ∧ va_D (fun _ => True) [(h0, .inr (2, [.ref qw, .ref qt, .int tb])), (qw, .inr (0, [.ref qa, .int (nI (a)), .int (nI (n)), .int (bI mi)])), (qa, .inl (cA, 1200, .inl (f)))])) (va_Ql (fun (r : Int64) (_ : Unit) => True) (fun (_ : Unit) (t : State) => ∃ (m2 : Bool), va_P (dC, dI) cls_ [(h0, .inr (2, [.ref qw, .ref qt, .int tb])), (qw, .inr (0, [.ref qa, .int (nI (a)), .int (nI (n)), .int (bI m2)])), (qa, .inl (cA, 1200, .inl (f)))] t.heap ∧ va_K (dC, dI) cls_ [(cA, .int)] t ∧ va_D (va_A [(h0, .inr (2, [.ref qw, .ref qt, .int tb])), (qw, .inr (0, [.ref qa, .int (nI (a)), .int (nI (n)), .int (bI mi)])), (qa, .inl (cA, 1200, .inl (f)))] sz) [(h0, .inr (2, [.ref qw, .ref qt, .int tb])), (qw, .inr (0, [.ref qa, .int (nI (a)), .int (nI (n)), .int (bI m2)])), (qa, .inl (cA, 1200, .inl (f)))]) (va_A [(h0, .inr (2, [.ref qw, .ref qt, .int tb])), (qw, .inr (0, [.ref qa, .int (nI (a)), .int (nI (n)), .int (bI mi)])), (qa, .inl (cA, 1200, .inl (f)))] sz)) 0 0 (va_A [(h0, .inr (2, [.ref qw, .ref qt, .int tb])), (qw, .inr (0, [.ref qa, .int (nI (a)), .int (nI (n)), .int (bI mi)])), (qa, .inl (cA, 1200, .inl (f)))] sz) := by
  refine Met.ofW (cc := b_DI_nameOf) (maxL := 2) (ret := (some .long)) (by decide) rfl ?_
  intro p e s m args below meth c s₁ B hml hv
  obtain ⟨rfl, hsz, hP, hK, hD0⟩ := hv
  have hx := B.exec
  have hb := B.bytes
  have hr := B.returns
  have hts := atoms_spec (ws := s_DI_nameOf) B.pre
  have hown : s.vm.findClass R_DI = some m.cls := findClass_of_methodNamed B.named
  have hlocks := B.notSynchronized
  subst hsz
  have hD := hD0.self (sz := s.heap.size)
  generalize hAe : va_A [(h0, .inr (2, [.ref qw, .ref qt, .int tb])), (qw, .inr (0, [.ref qa, .int (nI (a)), .int (nI (n)), .int (bI mi)])), (qa, .inl (cA, 1200, .inl (f)))] s.heap.size = A at hD ⊢
  have hA : ∀ q : Nat, s.heap.size ≤ q → A q := fun q h => by rw [← hAe]; exact Or.inr h
  have hS : va_S A s.heap s.heap [] := va_S.rf
  have hP : va_P (dC, dI) cls_ [(h0, .inr (2, [.ref qw, .ref qt, .int tb])), (qw, .inr (0, [.ref qa, .int (nI (a)), .int (nI (n)), .int (bI mi)])), (qa, .inl (cA, 1200, .inl (f)))] s.heap := hP
  have hl := lv_entry ([.ref h0, .int ti]) (n := 2) (Nat.le_of_ble_eq_true rfl)
  rw [lg_entry_eq]
  generalize (lg_sl ([.ref h0, .int ti]) ++ List.replicate (2 - (lg_sl ([.ref h0, .int ti])).length) Slot.unset).toArray = ls at hl ⊢
  have hl : lv_has ls 2 [(0, .ref h0), (1, .int ti)] := hl
  refine lv_aload_n hx hb d_DI_nameOf_0 rfl (lv_at hl 0 rfl) ?_
  refine va_get (D := (dC, dI)) (ci := 2) (v := .ref qw) (C := R_DI) (T := F_DI) (N := 3) hx hb hts in_DI hown hK hP 0 rfl rfl 0 (by decide) (hts _ (List.mem_cons_of_mem _ w_69)) (fun _ h9 => h9) rfl d_DI_nameOf_1 ?_
  refine lv_iload_n hx hb d_DI_nameOf_4 rfl (lv_at hl 1 rfl) ?_
  have hPc := hP.sub (ws' := []) [] rfl
  have hDc := hD.sub (ws' := []) [] (by decide) rfl
  have hKc := hK.sub (tys' := []) [] rfl
  have hFc := va_free (wc := []) hD hS hA [] rfl
  refine va_calli (va_runS (As := [.int ti]) (rest := [.ref qw]) ⟨hx, hb, hml, hown, hts⟩ (g_DI_entry l dC dI ti s.heap.size) (cwS 1 hts (tw_inS w_372 w_373 w_3 w_374) rfl rfl rfl (by decide +kernel) ⟨Nat.le_of_ble_eq_true rfl, Nat.le_of_ble_eq_true rfl⟩) ⟨fun a U g mk q => by obtain ⟨q0, q1, qP, qK, qD⟩ := q; exact ⟨q0, q1, qP, va_K.moved (u := U) (U := U.calling g mk a) (Vm.Alike.refl U.vm) qK, qD⟩, fun U hU hW => ⟨rfl, by rw [hU], by rw [hU]; exact hPc, va_K.moved hW.alike hKc, hDc.weaken (fun _ _ _ _ => trivial)⟩⟩ rfl rfl hl.1 rfl (lv_room (Nat.le_of_ble_eq_true rfl)) d_DI_nameOf_5 ⟨Nat.le_of_ble_eq_true rfl, Nat.le_of_ble_eq_true rfl⟩) hS (fun q _ h => hFc q h) hFc (fun r31 u t H1 locs ht hvm hw hB hz1 hk1 hS => ?_)
  have hP1 : va_P (dC, dI) cls_ [] H1 := fun k q h => by simp at h
  have hD1 : va_D (va_A [] s.heap.size) [] := ⟨fun i j p q h => by simp at h, fun k q h => by simp at h⟩
  obtain ⟨hP, hD⟩ := va_join (wr := [(h0, .inr (2, [.ref qw, .ref qt, .int tb])), (qw, .inr (0, [.ref qa, .int (nI (a)), .int (nI (n)), .int (bI mi)])), (qa, .inl (cA, 1200, .inl (f)))]) (w1 := []) hP hD [] [0, 1, 2] rfl rfl (by decide) (by decide) hk1 hFc hP1 hD1
  generalize H1 = H at hP hS ⊢
  have hP : va_P (dC, dI) cls_ [(h0, .inr (2, [.ref qw, .ref qt, .int tb])), (qw, .inr (0, [.ref qa, .int (nI (a)), .int (nI (n)), .int (bI mi)])), (qa, .inl (cA, 1200, .inl (f)))] H := hP
  have hD : va_D A [(h0, .inr (2, [.ref qw, .ref qt, .int tb])), (qw, .inr (0, [.ref qa, .int (nI (a)), .int (nI (n)), .int (bI mi)])), (qa, .inl (cA, 1200, .inl (f)))] := hD
  have hw_r31 := hw
  have hPc := hP.sub (ws' := [(qw, .inr (0, [.ref qa, .int (nI (a)), .int (nI (n)), .int (bI mi)])), (qa, .inl (cA, 1200, .inl (f)))]) [1, 2] rfl
  have hDc := hD.sub (ws' := [(qw, .inr (0, [.ref qa, .int (nI (a)), .int (nI (n)), .int (bI mi)])), (qa, .inl (cA, 1200, .inl (f)))]) [1, 2] (by decide) rfl
  have hKc := hK.sub (tys' := [(cA, .int)]) [0] rfl
  have hFc := va_free (wc := [(qw, .inr (0, [.ref qa, .int (nI (a)), .int (nI (n)), .int (bI mi)])), (qa, .inl (cA, 1200, .inl (f)))]) hD hS hA [1, 2] rfl
  refine va_calll (va_runV (As := [.int r31]) (rest := []) ⟨hx, hb, hml, hown, hts⟩ (g_SP_u32 l dC dI qw qa a n mi cA f r31 H.size (by omega) (by assumption)) (cwV 1 hts (tw_inV w_356 w_357 w_358 w_4 w_359) rfl rfl rfl (by decide +kernel) ⟨Nat.le_of_ble_eq_true rfl, Nat.le_of_ble_eq_true rfl⟩) ⟨fun a U g mk q => by obtain ⟨q0, q1, qP, qK, qD⟩ := q; exact ⟨q0, q1, qP, va_K.moved (u := U) (U := U.calling g mk a) (Vm.Alike.refl U.vm) qK, qD⟩, va_recv (hK := hK) (hP := hP) (q0 := 1) (ci := 0) rfl rfl, fun U hU hW => ⟨rfl, by rw [hU], by rw [hU]; exact hPc, va_K.moved hW.alike hKc, hDc.weaken (fun _ _ _ _ => trivial)⟩⟩ rfl rfl hl.1 rfl (lv_room (Nat.le_of_ble_eq_true rfl)) d_DI_nameOf_8 ⟨Nat.le_of_ble_eq_true rfl, Nat.le_of_ble_eq_true rfl⟩) hS (fun q _ h => hFc q h) hFc (fun r32 u t H1 locs ht hvm hw hB hz1 hk1 hS => ?_)
  obtain ⟨m_33, hP1, hK1, hD1⟩ := hB
  rw [ht] at hP1
  have hK1 := va_K.moved hvm.symm hK1
  obtain ⟨hP, hD⟩ := va_join (wr := [(h0, .inr (2, [.ref qw, .ref qt, .int tb]))]) (w1 := [(qw, .inr (0, [.ref qa, .int (nI (a)), .int (nI (n)), .int (bI m_33)])), (qa, .inl (cA, 1200, .inl (f)))]) hP hD [1, 2] [0] rfl rfl (by decide) (by decide) hk1 hFc hP1 hD1
  have hK := (hK.sub (tys' := []) [] rfl).app hK1
  generalize H1 = H at hP hS ⊢
  have hP : va_P (dC, dI) cls_ [(h0, .inr (2, [.ref qw, .ref qt, .int tb])), (qw, .inr (0, [.ref qa, .int (nI (a)), .int (nI (n)), .int (bI m_33)])), (qa, .inl (cA, 1200, .inl (f)))] H := hP
  have hD : va_D A [(h0, .inr (2, [.ref qw, .ref qt, .int tb])), (qw, .inr (0, [.ref qa, .int (nI (a)), .int (nI (n)), .int (bI m_33)])), (qa, .inl (cA, 1200, .inl (f)))] := hD
  have hK : va_K (dC, dI) cls_ [(cA, .int)] s := hK
  have hw_r32 := hw
  refine W.widen (k := 0) (n := 0) (Nat.le_of_ble_eq_true rfl) (Nat.le_of_ble_eq_true rfl) ?_
  have hP9 := hP.sub (ws' := [(h0, .inr (2, [.ref qw, .ref qt, .int tb])), (qw, .inr (0, [.ref qa, .int (nI (a)), .int (nI (n)), .int (bI m_33)])), (qa, .inl (cA, 1200, .inl (f)))]) [0, 1, 2] rfl
  have hD9 := hD.sub (ws' := [(h0, .inr (2, [.ref qw, .ref qt, .int tb])), (qw, .inr (0, [.ref qa, .int (nI (a)), .int (nI (n)), .int (bI m_33)])), (qa, .inl (cA, 1200, .inl (f)))]) [0, 1, 2] (by decide) rfl
  have hK9 := hK.sub (tys' := [(cA, .int)]) [0] rfl
  exact W.lret (v := r32) hx hb hr (fun t ht hW => ⟨⟨r32, (), rfl, trivial, m_33, by rw [ht]; exact hP9, va_K.moved hW.alike hK9, hD9⟩, hS.F ht⟩) hS.2.2 d_DI_nameOf_11
set_option maxHeartbeats 4000000 in
set_option maxRecDepth 100000 in
/-- GlyphLines$Directory.layTable -/
theorem g_DI_layTable (l : Launch) (dC : Nat → ClassId) (dI : Nat → Nat → Nat) (h0 : Nat) (qw : Nat) (qt : Nat) (qa : Nat) (a : Nat) (n : Nat) (mi : Bool) (cA : ClassId) (f : Nat → Int32) (tb : Int32) (qz : Nat) (z1 : Int32) (z2 : Int32) (mz : Bool) (ti : Int32) (sz : Nat) (hq0 : a + n ≤ 1200) (hq1 : isB f) : Met l y_DI_layTable s_DI_layTable ({ frames := 10, cells := 0, slots := 0, locals := 300 }) (va_Pc [.ref h0, .int ti, .ref qz] (fun U => U.heap.size = sz ∧ va_P (dC, dI) cls_ [(h0, .inr (2, [.ref qw, .ref qt, .int tb])), (qw, .inr (0, [.ref qa, .int (nI (a)), .int (nI (n)), .int (bI mi)])), (qz, .inr (0, [.ref qa, .int z1, .int z2, .int (bI mz)])), (qa, .inl (cA, 1200, .inl (f)))] U.heap ∧ va_K (dC, dI) cls_ [(cA, .int)] U ∧ va_D (fun _ => True) [(h0, .inr (2, [.ref qw, .ref qt, .int tb])), (qw, .inr (0, [.ref qa, .int (nI (a)), .int (nI (n)), .int (bI mi)])), (qz, .inr (0, [.ref qa, .int z1, .int z2, .int (bI mz)])), (qa, .inl (cA, 1200, .inl (f)))])) (va_Qv (fun _ : Unit => True) (fun (_ : Unit) (t : State) => ∃ (m2 : Bool) (b1 : Nat) (b2 : Nat), b1 + b2 ≤ 1200 ∧ va_P (dC, dI) cls_ [(h0, .inr (2, [.ref qw, .ref qt, .int tb])), (qw, .inr (0, [.ref qa, .int (nI (a)), .int (nI (n)), .int (bI m2)])), (qz, .inr (0, [.ref qa, .int (nI (b1)), .int (nI (b2)), .int 0])), (qa, .inl (cA, 1200, .inl (f)))] t.heap ∧ va_K (dC, dI) cls_ [(cA, .int)] t ∧ va_D (va_A [(h0, .inr (2, [.ref qw, .ref qt, .int tb])), (qw, .inr (0, [.ref qa, .int (nI (a)), .int (nI (n)), .int (bI mi)])), (qz, .inr (0, [.ref qa, .int z1, .int z2, .int (bI mz)])), (qa, .inl (cA, 1200, .inl (f)))] sz) [(h0, .inr (2, [.ref qw, .ref qt, .int tb])), (qw, .inr (0, [.ref qa, .int (nI (a)), .int (nI (n)), .int (bI m2)])), (qz, .inr (0, [.ref qa, .int (nI (b1)), .int (nI (b2)), .int 0])), (qa, .inl (cA, 1200, .inl (f)))]) (va_A [(h0, .inr (2, [.ref qw, .ref qt, .int tb])), (qw, .inr (0, [.ref qa, .int (nI (a)), .int (nI (n)), .int (bI mi)])), (qz, .inr (0, [.ref qa, .int z1, .int z2, .int (bI mz)])), (qa, .inl (cA, 1200, .inl (f)))] sz)) 0 0 (va_A [(h0, .inr (2, [.ref qw, .ref qt, .int tb])), (qw, .inr (0, [.ref qa, .int (nI (a)), .int (nI (n)), .int (bI mi)])), (qz, .inr (0, [.ref qa, .int z1, .int z2, .int (bI mz)])), (qa, .inl (cA, 1200, .inl (f)))] sz) := by
  refine Met.ofW (cc := b_DI_layTable) (maxL := 3) (ret := none) (by decide) rfl ?_
  intro p e s m args below meth c s₁ B hml hv
  obtain ⟨rfl, hsz, hP, hK, hD0⟩ := hv
  have hx := B.exec
  have hb := B.bytes
  have hr := B.returns
  have hts := atoms_spec (ws := s_DI_layTable) B.pre
  have hown : s.vm.findClass R_DI = some m.cls := findClass_of_methodNamed B.named
  have hlocks := B.notSynchronized
  subst hsz
  have hD := hD0.self (sz := s.heap.size)
  generalize hAe : va_A [(h0, .inr (2, [.ref qw, .ref qt, .int tb])), (qw, .inr (0, [.ref qa, .int (nI (a)), .int (nI (n)), .int (bI mi)])), (qz, .inr (0, [.ref qa, .int z1, .int z2, .int (bI mz)])), (qa, .inl (cA, 1200, .inl (f)))] s.heap.size = A at hD ⊢
  have hA : ∀ q : Nat, s.heap.size ≤ q → A q := fun q h => by rw [← hAe]; exact Or.inr h
  have hS : va_S A s.heap s.heap [] := va_S.rf
  have hP : va_P (dC, dI) cls_ [(h0, .inr (2, [.ref qw, .ref qt, .int tb])), (qw, .inr (0, [.ref qa, .int (nI (a)), .int (nI (n)), .int (bI mi)])), (qz, .inr (0, [.ref qa, .int z1, .int z2, .int (bI mz)])), (qa, .inl (cA, 1200, .inl (f)))] s.heap := hP
  have hl := lv_entry ([.ref h0, .int ti, .ref qz]) (n := 3) (Nat.le_of_ble_eq_true rfl)
  rw [lg_entry_eq]
  generalize (lg_sl ([.ref h0, .int ti, .ref qz]) ++ List.replicate (3 - (lg_sl ([.ref h0, .int ti, .ref qz])).length) Slot.unset).toArray = ls at hl ⊢
  have hl : lv_has ls 3 [(0, .ref h0), (1, .int ti), (2, .ref qz)] := hl
  refine lv_aload_n hx hb d_DI_layTable_0 rfl (lv_at hl 2 rfl) ?_
  refine lv_aload_n hx hb d_DI_layTable_1 rfl (lv_at hl 0 rfl) ?_
  refine va_get (D := (dC, dI)) (ci := 2) (v := .ref qw) (C := R_DI) (T := F_DI) (N := 3) hx hb hts in_DI hown hK hP 0 rfl rfl 0 (by decide) (hts _ (List.mem_cons_of_mem _ w_69)) (fun _ h9 => h9) rfl d_DI_layTable_2 ?_
  refine lv_iload_n hx hb d_DI_layTable_5 rfl (lv_at hl 1 rfl) ?_
  have hPc := hP.sub (ws' := []) [] rfl
  have hDc := hD.sub (ws' := []) [] (by decide) rfl
  have hKc := hK.sub (tys' := []) [] rfl
  have hFc := va_free (wc := []) hD hS hA [] rfl
  refine va_calli (va_runS (As := [.int ti]) (rest := [.ref qw, .ref qz]) ⟨hx, hb, hml, hown, hts⟩ (g_DI_entry l dC dI ti s.heap.size) (cwS 1 hts (tw_inS w_372 w_373 w_3 w_374) rfl rfl rfl (by decide +kernel) ⟨Nat.le_of_ble_eq_true rfl, Nat.le_of_ble_eq_true rfl⟩) ⟨fun a U g mk q => by obtain ⟨q0, q1, qP, qK, qD⟩ := q; exact ⟨q0, q1, qP, va_K.moved (u := U) (U := U.calling g mk a) (Vm.Alike.refl U.vm) qK, qD⟩, fun U hU hW => ⟨rfl, by rw [hU], by rw [hU]; exact hPc, va_K.moved hW.alike hKc, hDc.weaken (fun _ _ _ _ => trivial)⟩⟩ rfl rfl hl.1 rfl (lv_room (Nat.le_of_ble_eq_true rfl)) d_DI_layTable_6 ⟨Nat.le_of_ble_eq_true rfl, Nat.le_of_ble_eq_true rfl⟩) hS (fun q _ h => hFc q h) hFc (fun r34 u t H1 locs ht hvm hw hB hz1 hk1 hS => ?_)
  have hP1 : va_P (dC, dI) cls_ [] H1 := fun k q h => by simp at h
  have hD1 : va_D (va_A [] s.heap.size) [] := ⟨fun i j p q h => by simp at h, fun k q h => by simp at h⟩
  obtain ⟨hP, hD⟩ := va_join (wr := [(h0, .inr (2, [.ref qw, .ref qt, .int tb])), (qw, .inr (0, [.ref qa, .int (nI (a)), .int (nI (n)), .int (bI mi)])), (qz, .inr (0, [.ref qa, .int z1, .int z2, .int (bI mz)])), (qa, .inl (cA, 1200, .inl (f)))]) (w1 := []) hP hD [] [0, 1, 2, 3] rfl rfl (by decide) (by decide) hk1 hFc hP1 hD1
  generalize H1 = H at hP hS ⊢
  have hP : va_P (dC, dI) cls_ [(h0, .inr (2, [.ref qw, .ref qt, .int tb])), (qw, .inr (0, [.ref qa, .int (nI (a)), .int (nI (n)), .int (bI mi)])), (qz, .inr (0, [.ref qa, .int z1, .int z2, .int (bI mz)])), (qa, .inl (cA, 1200, .inl (f)))] H := hP
  have hD : va_D A [(h0, .inr (2, [.ref qw, .ref qt, .int tb])), (qw, .inr (0, [.ref qa, .int (nI (a)), .int (nI (n)), .int (bI mi)])), (qz, .inr (0, [.ref qa, .int z1, .int z2, .int (bI mz)])), (qa, .inl (cA, 1200, .inl (f)))] := hD
  have hw_r34 := hw
  refine lv_bipush (v := 8) hx hb d_DI_layTable_9 (by decide) ?_
  refine lv_iadd hx hb d_DI_layTable_11 ?_
  refine lv_topi (fun v35 ev35 => ?_)
  have hPc := hP.sub (ws' := [(qw, .inr (0, [.ref qa, .int (nI (a)), .int (nI (n)), .int (bI mi)])), (qa, .inl (cA, 1200, .inl (f)))]) [1, 3] rfl
  have hDc := hD.sub (ws' := [(qw, .inr (0, [.ref qa, .int (nI (a)), .int (nI (n)), .int (bI mi)])), (qa, .inl (cA, 1200, .inl (f)))]) [1, 3] (by decide) rfl
  have hKc := hK.sub (tys' := [(cA, .int)]) [0] rfl
  have hFc := va_free (wc := [(qw, .inr (0, [.ref qa, .int (nI (a)), .int (nI (n)), .int (bI mi)])), (qa, .inl (cA, 1200, .inl (f)))]) hD hS hA [1, 3] rfl
  refine va_calll (va_runV (As := [.int v35]) (rest := [.ref qz]) ⟨hx, hb, hml, hown, hts⟩ (g_SP_u32 l dC dI qw qa a n mi cA f v35 H.size (by omega) (by assumption)) (cwV 1 hts (tw_inV w_356 w_357 w_358 w_4 w_359) rfl rfl rfl (by decide +kernel) ⟨Nat.le_of_ble_eq_true rfl, Nat.le_of_ble_eq_true rfl⟩) ⟨fun a U g mk q => by obtain ⟨q0, q1, qP, qK, qD⟩ := q; exact ⟨q0, q1, qP, va_K.moved (u := U) (U := U.calling g mk a) (Vm.Alike.refl U.vm) qK, qD⟩, va_recv (hK := hK) (hP := hP) (q0 := 1) (ci := 0) rfl rfl, fun U hU hW => ⟨rfl, by rw [hU], by rw [hU]; exact hPc, va_K.moved hW.alike hKc, hDc.weaken (fun _ _ _ _ => trivial)⟩⟩ rfl rfl hl.1 rfl (lv_room (Nat.le_of_ble_eq_true rfl)) d_DI_layTable_12 ⟨Nat.le_of_ble_eq_true rfl, Nat.le_of_ble_eq_true rfl⟩) hS (fun q _ h => hFc q h) hFc (fun r36 u t H1 locs ht hvm hw hB hz1 hk1 hS => ?_)
  obtain ⟨m_37, hP1, hK1, hD1⟩ := hB
  rw [ht] at hP1
  have hK1 := va_K.moved hvm.symm hK1
  obtain ⟨hP, hD⟩ := va_join (wr := [(h0, .inr (2, [.ref qw, .ref qt, .int tb])), (qz, .inr (0, [.ref qa, .int z1, .int z2, .int (bI mz)]))]) (w1 := [(qw, .inr (0, [.ref qa, .int (nI (a)), .int (nI (n)), .int (bI m_37)])), (qa, .inl (cA, 1200, .inl (f)))]) hP hD [1, 3] [0, 2] rfl rfl (by decide) (by decide) hk1 hFc hP1 hD1
  have hK := (hK.sub (tys' := []) [] rfl).app hK1
  generalize H1 = H at hP hS ⊢
  have hP : va_P (dC, dI) cls_ [(h0, .inr (2, [.ref qw, .ref qt, .int tb])), (qz, .inr (0, [.ref qa, .int z1, .int z2, .int (bI mz)])), (qw, .inr (0, [.ref qa, .int (nI (a)), .int (nI (n)), .int (bI m_37)])), (qa, .inl (cA, 1200, .inl (f)))] H := hP
  have hD : va_D A [(h0, .inr (2, [.ref qw, .ref qt, .int tb])), (qz, .inr (0, [.ref qa, .int z1, .int z2, .int (bI mz)])), (qw, .inr (0, [.ref qa, .int (nI (a)), .int (nI (n)), .int (bI m_37)])), (qa, .inl (cA, 1200, .inl (f)))] := hD
  have hK : va_K (dC, dI) cls_ [(cA, .int)] s := hK
  have hw_r36 := hw
  refine lv_l2i (v := r36.toInt32) hx hb d_DI_layTable_15 rfl ?_
  refine lv_topi (fun v38 ev38 => ?_)
  refine lv_aload_n hx hb d_DI_layTable_16 rfl (lv_at hl 0 rfl) ?_
  refine va_get (D := (dC, dI)) (ci := 2) (v := .ref qw) (C := R_DI) (T := F_DI) (N := 3) hx hb hts in_DI hown hK hP 0 rfl rfl 0 (by decide) (hts _ (List.mem_cons_of_mem _ w_69)) (fun _ h9 => h9) rfl d_DI_layTable_17 ?_
  refine lv_iload_n hx hb d_DI_layTable_20 rfl (lv_at hl 1 rfl) ?_
  have hPc := hP.sub (ws' := []) [] rfl
  have hDc := hD.sub (ws' := []) [] (by decide) rfl
  have hKc := hK.sub (tys' := []) [] rfl
  have hFc := va_free (wc := []) hD hS hA [] rfl
  refine va_calli (va_runS (As := [.int ti]) (rest := [.ref qw, .int v38, .ref qz]) ⟨hx, hb, hml, hown, hts⟩ (g_DI_entry l dC dI ti H.size) (cwS 1 hts (tw_inS w_372 w_373 w_3 w_374) rfl rfl rfl (by decide +kernel) ⟨Nat.le_of_ble_eq_true rfl, Nat.le_of_ble_eq_true rfl⟩) ⟨fun a U g mk q => by obtain ⟨q0, q1, qP, qK, qD⟩ := q; exact ⟨q0, q1, qP, va_K.moved (u := U) (U := U.calling g mk a) (Vm.Alike.refl U.vm) qK, qD⟩, fun U hU hW => ⟨rfl, by rw [hU], by rw [hU]; exact hPc, va_K.moved hW.alike hKc, hDc.weaken (fun _ _ _ _ => trivial)⟩⟩ rfl rfl hl.1 rfl (lv_room (Nat.le_of_ble_eq_true rfl)) d_DI_layTable_21 ⟨Nat.le_of_ble_eq_true rfl, Nat.le_of_ble_eq_true rfl⟩) hS (fun q _ h => hFc q h) hFc (fun r39 u t H1 locs ht hvm hw hB hz1 hk1 hS => ?_)
  have hP1 : va_P (dC, dI) cls_ [] H1 := fun k q h => by simp at h
  have hD1 : va_D (va_A [] H.size) [] := ⟨fun i j p q h => by simp at h, fun k q h => by simp at h⟩
  obtain ⟨hP, hD⟩ := va_join (wr := [(h0, .inr (2, [.ref qw, .ref qt, .int tb])), (qz, .inr (0, [.ref qa, .int z1, .int z2, .int (bI mz)])), (qw, .inr (0, [.ref qa, .int (nI (a)), .int (nI (n)), .int (bI m_37)])), (qa, .inl (cA, 1200, .inl (f)))]) (w1 := []) hP hD [] [0, 1, 2, 3] rfl rfl (by decide) (by decide) hk1 hFc hP1 hD1
  generalize H1 = H at hP hS ⊢
  have hP : va_P (dC, dI) cls_ [(h0, .inr (2, [.ref qw, .ref qt, .int tb])), (qz, .inr (0, [.ref qa, .int z1, .int z2, .int (bI mz)])), (qw, .inr (0, [.ref qa, .int (nI (a)), .int (nI (n)), .int (bI m_37)])), (qa, .inl (cA, 1200, .inl (f)))] H := hP
  have hD : va_D A [(h0, .inr (2, [.ref qw, .ref qt, .int tb])), (qz, .inr (0, [.ref qa, .int z1, .int z2, .int (bI mz)])), (qw, .inr (0, [.ref qa, .int (nI (a)), .int (nI (n)), .int (bI m_37)])), (qa, .inl (cA, 1200, .inl (f)))] := hD
  have hw_r39 := hw
  refine lv_bipush (v := 12) hx hb d_DI_layTable_24 (by decide) ?_
  refine lv_iadd hx hb d_DI_layTable_26 ?_
  refine lv_topi (fun v40 ev40 => ?_)
  have hPc := hP.sub (ws' := [(qw, .inr (0, [.ref qa, .int (nI (a)), .int (nI (n)), .int (bI m_37)])), (qa, .inl (cA, 1200, .inl (f)))]) [2, 3] rfl
  have hDc := hD.sub (ws' := [(qw, .inr (0, [.ref qa, .int (nI (a)), .int (nI (n)), .int (bI m_37)])), (qa, .inl (cA, 1200, .inl (f)))]) [2, 3] (by decide) rfl
  have hKc := hK.sub (tys' := [(cA, .int)]) [0] rfl
  have hFc := va_free (wc := [(qw, .inr (0, [.ref qa, .int (nI (a)), .int (nI (n)), .int (bI m_37)])), (qa, .inl (cA, 1200, .inl (f)))]) hD hS hA [2, 3] rfl
  refine va_calll (va_runV (As := [.int v40]) (rest := [.int v38, .ref qz]) ⟨hx, hb, hml, hown, hts⟩ (g_SP_u32 l dC dI qw qa a n m_37 cA f v40 H.size (by omega) (by assumption)) (cwV 1 hts (tw_inV w_356 w_357 w_358 w_4 w_359) rfl rfl rfl (by decide +kernel) ⟨Nat.le_of_ble_eq_true rfl, Nat.le_of_ble_eq_true rfl⟩) ⟨fun a U g mk q => by obtain ⟨q0, q1, qP, qK, qD⟩ := q; exact ⟨q0, q1, qP, va_K.moved (u := U) (U := U.calling g mk a) (Vm.Alike.refl U.vm) qK, qD⟩, va_recv (hK := hK) (hP := hP) (q0 := 2) (ci := 0) rfl rfl, fun U hU hW => ⟨rfl, by rw [hU], by rw [hU]; exact hPc, va_K.moved hW.alike hKc, hDc.weaken (fun _ _ _ _ => trivial)⟩⟩ rfl rfl hl.1 rfl (lv_room (Nat.le_of_ble_eq_true rfl)) d_DI_layTable_27 ⟨Nat.le_of_ble_eq_true rfl, Nat.le_of_ble_eq_true rfl⟩) hS (fun q _ h => hFc q h) hFc (fun r41 u t H1 locs ht hvm hw hB hz1 hk1 hS => ?_)
  obtain ⟨m_42, hP1, hK1, hD1⟩ := hB
  rw [ht] at hP1
  have hK1 := va_K.moved hvm.symm hK1
  obtain ⟨hP, hD⟩ := va_join (wr := [(h0, .inr (2, [.ref qw, .ref qt, .int tb])), (qz, .inr (0, [.ref qa, .int z1, .int z2, .int (bI mz)]))]) (w1 := [(qw, .inr (0, [.ref qa, .int (nI (a)), .int (nI (n)), .int (bI m_42)])), (qa, .inl (cA, 1200, .inl (f)))]) hP hD [2, 3] [0, 1] rfl rfl (by decide) (by decide) hk1 hFc hP1 hD1
  have hK := (hK.sub (tys' := []) [] rfl).app hK1
  generalize H1 = H at hP hS ⊢
  have hP : va_P (dC, dI) cls_ [(h0, .inr (2, [.ref qw, .ref qt, .int tb])), (qz, .inr (0, [.ref qa, .int z1, .int z2, .int (bI mz)])), (qw, .inr (0, [.ref qa, .int (nI (a)), .int (nI (n)), .int (bI m_42)])), (qa, .inl (cA, 1200, .inl (f)))] H := hP
  have hD : va_D A [(h0, .inr (2, [.ref qw, .ref qt, .int tb])), (qz, .inr (0, [.ref qa, .int z1, .int z2, .int (bI mz)])), (qw, .inr (0, [.ref qa, .int (nI (a)), .int (nI (n)), .int (bI m_42)])), (qa, .inl (cA, 1200, .inl (f)))] := hD
  have hK : va_K (dC, dI) cls_ [(cA, .int)] s := hK
  have hw_r41 := hw
  refine lv_l2i (v := r41.toInt32) hx hb d_DI_layTable_30 rfl ?_
  refine lv_topi (fun v43 ev43 => ?_)
  have hPc := hP.sub (ws' := [(qz, .inr (0, [.ref qa, .int z1, .int z2, .int (bI mz)])), (qa, .inl (cA, 1200, .inl (f)))]) [1, 3] rfl
  have hDc := hD.sub (ws' := [(qz, .inr (0, [.ref qa, .int z1, .int z2, .int (bI mz)])), (qa, .inl (cA, 1200, .inl (f)))]) [1, 3] (by decide) rfl
  have hKc := hK.sub (tys' := [(cA, .int)]) [0] rfl
  have hFc := va_free (wc := [(qz, .inr (0, [.ref qa, .int z1, .int z2, .int (bI mz)])), (qa, .inl (cA, 1200, .inl (f)))]) hD hS hA [1, 3] rfl
  refine va_callv (va_runV (As := [.int v38, .int v43]) (rest := []) ⟨hx, hb, hml, hown, hts⟩ (g_SP_lay l dC dI qz qa z1 z2 mz cA f v38 v43 H.size) (cwV 2 hts (tw_inV w_344 w_345 w_346 w_4 w_347) rfl rfl rfl (by decide +kernel) ⟨Nat.le_of_ble_eq_true rfl, Nat.le_of_ble_eq_true rfl⟩) ⟨fun a U g mk q => by obtain ⟨q0, q1, qP, qK, qD⟩ := q; exact ⟨q0, q1, qP, va_K.moved (u := U) (U := U.calling g mk a) (Vm.Alike.refl U.vm) qK, qD⟩, va_recv (hK := hK) (hP := hP) (q0 := 1) (ci := 0) rfl rfl, fun U hU hW => ⟨rfl, by rw [hU], by rw [hU]; exact hPc, va_K.moved hW.alike hKc, hDc.weaken (fun _ _ _ _ => trivial)⟩⟩ rfl rfl hl.1 rfl (lv_room (Nat.le_of_ble_eq_true rfl)) d_DI_layTable_31 ⟨Nat.le_of_ble_eq_true rfl, Nat.le_of_ble_eq_true rfl⟩) hS (fun q _ h => hFc q h) hFc (fun u t H1 locs ht hvm hw hB hz1 hk1 hS => ?_)
  obtain ⟨a_44, n_45, hq_f46_0, hP1, hK1, hD1⟩ := hB
  rw [ht] at hP1
  have hK1 := va_K.moved hvm.symm hK1
  obtain ⟨hP, hD⟩ := va_join (wr := [(h0, .inr (2, [.ref qw, .ref qt, .int tb])), (qw, .inr (0, [.ref qa, .int (nI (a)), .int (nI (n)), .int (bI m_42)]))]) (w1 := [(qz, .inr (0, [.ref qa, .int (nI (a_44)), .int (nI (n_45)), .int 0])), (qa, .inl (cA, 1200, .inl (f)))]) hP hD [1, 3] [0, 2] rfl rfl (by decide) (by decide) hk1 hFc hP1 hD1
  have hK := (hK.sub (tys' := []) [] rfl).app hK1
  generalize H1 = H at hP hS ⊢
  have hP : va_P (dC, dI) cls_ [(h0, .inr (2, [.ref qw, .ref qt, .int tb])), (qw, .inr (0, [.ref qa, .int (nI (a)), .int (nI (n)), .int (bI m_42)])), (qz, .inr (0, [.ref qa, .int (nI (a_44)), .int (nI (n_45)), .int 0])), (qa, .inl (cA, 1200, .inl (f)))] H := hP
  have hD : va_D A [(h0, .inr (2, [.ref qw, .ref qt, .int tb])), (qw, .inr (0, [.ref qa, .int (nI (a)), .int (nI (n)), .int (bI m_42)])), (qz, .inr (0, [.ref qa, .int (nI (a_44)), .int (nI (n_45)), .int 0])), (qa, .inl (cA, 1200, .inl (f)))] := hD
  have hK : va_K (dC, dI) cls_ [(cA, .int)] s := hK
  refine W.widen (k := 0) (n := 0) (Nat.le_of_ble_eq_true rfl) (Nat.le_of_ble_eq_true rfl) ?_
  have hP9 := hP.sub (ws' := [(h0, .inr (2, [.ref qw, .ref qt, .int tb])), (qw, .inr (0, [.ref qa, .int (nI (a)), .int (nI (n)), .int (bI m_42)])), (qz, .inr (0, [.ref qa, .int (nI (a_44)), .int (nI (n_45)), .int 0])), (qa, .inl (cA, 1200, .inl (f)))]) [0, 1, 2, 3] rfl
  have hD9 := hD.sub (ws' := [(h0, .inr (2, [.ref qw, .ref qt, .int tb])), (qw, .inr (0, [.ref qa, .int (nI (a)), .int (nI (n)), .int (bI m_42)])), (qz, .inr (0, [.ref qa, .int (nI (a_44)), .int (nI (n_45)), .int 0])), (qa, .inl (cA, 1200, .inl (f)))]) [0, 1, 2, 3] (by decide) rfl
  have hK9 := hK.sub (tys' := [(cA, .int)]) [0] rfl
  exact W.vret hx hb hr (fun t ht hW => ⟨⟨(), rfl, trivial, m_42, a_44, n_45, by omega, by rw [ht]; exact hP9, va_K.moved hW.alike hK9, hD9⟩, hS.F ht⟩) hS.2.2 d_DI_layTable_34
set_option maxHeartbeats 8000000 in
set_option maxRecDepth 100000 in
/-- a loop of GlyphLines$Directory.find -/
theorem di_find_loop {p : Program} {l : Launch} {e : Env} {s : State} {m : MethodId} {args : Array Value} {below : List Frame} {meth : Method} {c : Code} {Q : State → Prop} {A : Nat → Prop} (hx : p.tables.exec = Jvm.exec) (hb : c.code = b_DI_find) (hml : c.maxLocals = 5) (hts : ∀ w ∈ s_DI_find, w.before args s = true) (hown : s.vm.findClass R_DI = some m.cls) (hA : ∀ q : Nat, s.heap.size ≤ q → A q) (dC : Nat → ClassId) (dI : Nat → Nat → Nat) (h0 : Nat) (qw : Nat) (qt : Nat) (qa : Nat) (a : Nat) (n : Nat) (mi : Bool) (cA : ClassId) (f : Nat → Int32) (tb : Int32) (qz : Nat) (z1 : Nat) (z2 : Nat) (mz : Bool) (nm : Int64) (hq0 : a + n ≤ 1200) (hq1 : isB f) (hq2 : z1 + z2 ≤ 1200) (hK : va_K (dC, dI) cls_ [(cA, .int)] s)
    (kx23 : ∀ (k : Nat) (m3 : Bool), (k ≤ tb.toNatClampNeg) → ∀ (H : Heap) (locs : List Loc) (ls : Array Slot), va_P (dC, dI) cls_ [(h0, .inr (2, [.ref qw, .ref qt, .int tb])), (qw, .inr (0, [.ref qa, .int (nI (a)), .int (nI (n)), .int (bI m3)])), (qz, .inr (0, [.ref qa, .int (nI (z1)), .int (nI (z2)), .int (bI mz)])), (qa, .inl (cA, 1200, .inl (f)))] H → va_D A [(h0, .inr (2, [.ref qw, .ref qt, .int tb])), (qw, .inr (0, [.ref qa, .int (nI (a)), .int (nI (n)), .int (bI m3)])), (qz, .inr (0, [.ref qa, .int (nI (z1)), .int (nI (z2)), .int (bI mz)])), (qa, .inl (cA, 1200, .inl (f)))] → va_S A s.heap H locs → lv_has ls 5 [(4, .int (nI (k))), (0, .ref h0), (1, .long nm), (3, .ref qz)] → W p l e (headSpec s_DI_find ({ frames := 12, cells := 0, slots := 0, locals := 400 })).room s m args below meth c H locs 0 0 Q (F0 m 23 ls []))
    (kx38 : ∀ (k : Nat) (m3 : Bool), (k ≤ tb.toNatClampNeg) → ∀ (H : Heap) (locs : List Loc) (ls : Array Slot), va_P (dC, dI) cls_ [(h0, .inr (2, [.ref qw, .ref qt, .int tb])), (qw, .inr (0, [.ref qa, .int (nI (a)), .int (nI (n)), .int (bI m3)])), (qz, .inr (0, [.ref qa, .int (nI (z1)), .int (nI (z2)), .int (bI mz)])), (qa, .inl (cA, 1200, .inl (f)))] H → va_D A [(h0, .inr (2, [.ref qw, .ref qt, .int tb])), (qw, .inr (0, [.ref qa, .int (nI (a)), .int (nI (n)), .int (bI m3)])), (qz, .inr (0, [.ref qa, .int (nI (z1)), .int (nI (z2)), .int (bI mz)])), (qa, .inl (cA, 1200, .inl (f)))] → va_S A s.heap H locs → lv_has ls 5 [(4, .int (nI (k))), (0, .ref h0), (1, .long nm), (3, .ref qz)] → W p l e (headSpec s_DI_find ({ frames := 12, cells := 0, slots := 0, locals := 400 })).room s m args below meth c H locs 0 0 Q (F0 m 38 ls []))
    : ∀ (fu : Nat) (k : Nat) (m3 : Bool), (k ≤ tb.toNatClampNeg) → tb.toNatClampNeg - k < fu → ∀ (H : Heap) (locs : List Loc) (ls : Array Slot), va_P (dC, dI) cls_ [(h0, .inr (2, [.ref qw, .ref qt, .int tb])), (qw, .inr (0, [.ref qa, .int (nI (a)), .int (nI (n)), .int (bI m3)])), (qz, .inr (0, [.ref qa, .int (nI (z1)), .int (nI (z2)), .int (bI mz)])), (qa, .inl (cA, 1200, .inl (f)))] H → va_D A [(h0, .inr (2, [.ref qw, .ref qt, .int tb])), (qw, .inr (0, [.ref qa, .int (nI (a)), .int (nI (n)), .int (bI m3)])), (qz, .inr (0, [.ref qa, .int (nI (z1)), .int (nI (z2)), .int (bI mz)])), (qa, .inl (cA, 1200, .inl (f)))] → va_S A s.heap H locs → lv_has ls 5 [(4, .int (nI (k))), (0, .ref h0), (1, .long nm), (3, .ref qz)] → W p l e (headSpec s_DI_find ({ frames := 12, cells := 0, slots := 0, locals := 400 })).room s m args below meth c H locs 0 0 Q (F0 m 3 ls []) := by
  intro fu
  induction fu with
  | zero => intro k m3 hf0 hm; exact absurd hm (Nat.not_lt_zero _)
  | succ fu ih =>
    intro k m3 hf0 hm H locs ls hP hD hS hl
    have hB0 := cl_lt (tb)
    refine lv_iload hx hb d_DI_find_3 (lv_at hl 0 rfl) ?_
    refine lv_aload_n hx hb d_DI_find_5 rfl (lv_at hl 1 rfl) ?_
    refine va_get (D := (dC, dI)) (ci := 2) (v := .int tb) (C := R_DI) (T := F_DI) (N := 3) hx hb hts in_DI hown hK hP 0 rfl rfl 2 (by decide) (hts _ (List.mem_cons_of_mem _ w_71)) (fun _ h9 => h9) rfl d_DI_find_6 ?_
    refine lv_icmp_ge (tgt := 38) hx hb d_DI_find_9 (by decide) (fun hc47 => ?_) (fun hc47 => ?_)
    · skip
      have hP8 := hP.sub (ws' := [(h0, .inr (2, [.ref qw, .ref qt, .int tb])), (qw, .inr (0, [.ref qa, .int (nI (a)), .int (nI (n)), .int (bI m3)])), (qz, .inr (0, [.ref qa, .int (nI (z1)), .int (nI (z2)), .int (bI mz)])), (qa, .inl (cA, 1200, .inl (f)))]) [0, 1, 2, 3] rfl
      have hD8 := hD.sub (ws' := [(h0, .inr (2, [.ref qw, .ref qt, .int tb])), (qw, .inr (0, [.ref qa, .int (nI (a)), .int (nI (n)), .int (bI m3)])), (qz, .inr (0, [.ref qa, .int (nI (z1)), .int (nI (z2)), .int (bI mz)])), (qa, .inl (cA, 1200, .inl (f)))]) [0, 1, 2, 3] (by decide) rfl
      exact kx38 k m3 (by omega) H locs ls hP8 hD8 hS (lv_sub hl [0, 1, 2, 3] rfl)
    · skip
      have hc47B := cl_lt (tb)
      have hc47n : k < (tb).toNatClampNeg := cl_of (k := k) (by omega) hc47
      refine lv_aload_n hx hb d_DI_find_12 rfl (lv_at hl 1 rfl) ?_
      refine lv_iload hx hb d_DI_find_13 (lv_at hl 0 rfl) ?_
      have hPc := hP.sub (ws' := [(h0, .inr (2, [.ref qw, .ref qt, .int tb])), (qw, .inr (0, [.ref qa, .int (nI (a)), .int (nI (n)), .int (bI m3)])), (qa, .inl (cA, 1200, .inl (f)))]) [0, 1, 3] rfl
      have hDc := hD.sub (ws' := [(h0, .inr (2, [.ref qw, .ref qt, .int tb])), (qw, .inr (0, [.ref qa, .int (nI (a)), .int (nI (n)), .int (bI m3)])), (qa, .inl (cA, 1200, .inl (f)))]) [0, 1, 3] (by decide) rfl
      have hKc := hK.sub (tys' := [(cA, .int)]) [0] rfl
      have hFc := va_free (wc := [(h0, .inr (2, [.ref qw, .ref qt, .int tb])), (qw, .inr (0, [.ref qa, .int (nI (a)), .int (nI (n)), .int (bI m3)])), (qa, .inl (cA, 1200, .inl (f)))]) hD hS hA [0, 1, 3] rfl
      refine va_calll (va_runV (As := [.int (nI (k))]) (rest := []) ⟨hx, hb, hml, hown, hts⟩ (g_DI_nameOf l dC dI h0 qw qt qa a n m3 cA f tb (nI (k)) H.size (by omega) (by assumption)) (cwV 1 hts (tw_inV w_368 w_370 wp_0 w_3 w_371) rfl rfl rfl (by decide +kernel) ⟨Nat.le_of_ble_eq_true rfl, Nat.le_of_ble_eq_true rfl⟩) ⟨fun a U g mk q => by obtain ⟨q0, q1, qP, qK, qD⟩ := q; exact ⟨q0, q1, qP, va_K.moved (u := U) (U := U.calling g mk a) (Vm.Alike.refl U.vm) qK, qD⟩, va_recv (hK := hK) (hP := hP) (q0 := 0) (ci := 2) rfl rfl, fun U hU hW => ⟨rfl, by rw [hU], by rw [hU]; exact hPc, va_K.moved hW.alike hKc, hDc.weaken (fun _ _ _ _ => trivial)⟩⟩ rfl rfl hl.1 rfl (lv_room (Nat.le_of_ble_eq_true rfl)) d_DI_find_15 ⟨Nat.le_of_ble_eq_true rfl, Nat.le_of_ble_eq_true rfl⟩) hS (fun q _ h => hFc q h) hFc (fun r48 u t H1 locs ht hvm hw hB hz1 hk1 hS => ?_)
      obtain ⟨m_49, hP1, hK1, hD1⟩ := hB
      rw [ht] at hP1
      have hK1 := va_K.moved hvm.symm hK1
      obtain ⟨hP, hD⟩ := va_join (wr := [(qz, .inr (0, [.ref qa, .int (nI (z1)), .int (nI (z2)), .int (bI mz)]))]) (w1 := [(h0, .inr (2, [.ref qw, .ref qt, .int tb])), (qw, .inr (0, [.ref qa, .int (nI (a)), .int (nI (n)), .int (bI m_49)])), (qa, .inl (cA, 1200, .inl (f)))]) hP hD [0, 1, 3] [2] rfl rfl (by decide) (by decide) hk1 hFc hP1 hD1
      have hK := (hK.sub (tys' := []) [] rfl).app hK1
      generalize H1 = H at hP hS ⊢
      have hP : va_P (dC, dI) cls_ [(qz, .inr (0, [.ref qa, .int (nI (z1)), .int (nI (z2)), .int (bI mz)])), (h0, .inr (2, [.ref qw, .ref qt, .int tb])), (qw, .inr (0, [.ref qa, .int (nI (a)), .int (nI (n)), .int (bI m_49)])), (qa, .inl (cA, 1200, .inl (f)))] H := hP
      have hD : va_D A [(qz, .inr (0, [.ref qa, .int (nI (z1)), .int (nI (z2)), .int (bI mz)])), (h0, .inr (2, [.ref qw, .ref qt, .int tb])), (qw, .inr (0, [.ref qa, .int (nI (a)), .int (nI (n)), .int (bI m_49)])), (qa, .inl (cA, 1200, .inl (f)))] := hD
      have hK : va_K (dC, dI) cls_ [(cA, .int)] s := hK
      have hw_r48 := hw
      refine lv_lload_n hx hb d_DI_find_18 rfl (lv_at hl 2 rfl) ?_
      refine W.lcmp hx hb d_DI_find_19 ?_
      refine lv_topi (fun v50 ev50 => ?_)
      refine lv_if_ne (tgt := 32) hx hb d_DI_find_20 (by decide) (fun hc51 => ?_) (fun hc51 => ?_)
      · skip
        refine lv_iinc (k := 0) (v := nI (k + 1)) (lv' := [(4, .int (nI (k + 1))), (0, .ref h0), (1, .long nm), (3, .ref qz)]) hx hb d_DI_find_32 hl rfl (nI_add (k) 1) (by decide) rfl (fun ls hl => ?_)
        refine lv_goto (tgt := 3) hx hb d_DI_find_35 (by decide) ?_
        have hP8 := hP.sub (ws' := [(h0, .inr (2, [.ref qw, .ref qt, .int tb])), (qw, .inr (0, [.ref qa, .int (nI (a)), .int (nI (n)), .int (bI m_49)])), (qz, .inr (0, [.ref qa, .int (nI (z1)), .int (nI (z2)), .int (bI mz)])), (qa, .inl (cA, 1200, .inl (f)))]) [1, 2, 0, 3] rfl
        have hD8 := hD.sub (ws' := [(h0, .inr (2, [.ref qw, .ref qt, .int tb])), (qw, .inr (0, [.ref qa, .int (nI (a)), .int (nI (n)), .int (bI m_49)])), (qz, .inr (0, [.ref qa, .int (nI (z1)), .int (nI (z2)), .int (bI mz)])), (qa, .inl (cA, 1200, .inl (f)))]) [1, 2, 0, 3] (by decide) rfl
        exact ih (k + 1) m_49 (by omega) (by omega) H locs ls hP8 hD8 hS (lv_sub hl [0, 1, 2, 3] rfl)
      · skip
        have hP8 := hP.sub (ws' := [(h0, .inr (2, [.ref qw, .ref qt, .int tb])), (qw, .inr (0, [.ref qa, .int (nI (a)), .int (nI (n)), .int (bI m_49)])), (qz, .inr (0, [.ref qa, .int (nI (z1)), .int (nI (z2)), .int (bI mz)])), (qa, .inl (cA, 1200, .inl (f)))]) [1, 2, 0, 3] rfl
        have hD8 := hD.sub (ws' := [(h0, .inr (2, [.ref qw, .ref qt, .int tb])), (qw, .inr (0, [.ref qa, .int (nI (a)), .int (nI (n)), .int (bI m_49)])), (qz, .inr (0, [.ref qa, .int (nI (z1)), .int (nI (z2)), .int (bI mz)])), (qa, .inl (cA, 1200, .inl (f)))]) [1, 2, 0, 3] (by decide) rfl
        exact kx23 k m_49 (by omega) H locs ls hP8 hD8 hS (lv_sub hl [0, 1, 2, 3] rfl)
set_option maxHeartbeats 4000000 in
set_option maxRecDepth 100000 in
/-- GlyphLines$Directory.find -/
theorem g_DI_find (l : Launch) (dC : Nat → ClassId) (dI : Nat → Nat → Nat) (h0 : Nat) (qw : Nat) (qt : Nat) (qa : Nat) (a : Nat) (n : Nat) (mi : Bool) (cA : ClassId) (f : Nat → Int32) (tb : Int32) (qz : Nat) (z1 : Nat) (z2 : Nat) (mz : Bool) (nm : Int64) (sz : Nat) (hq0 : a + n ≤ 1200) (hq1 : isB f) (hq2 : z1 + z2 ≤ 1200) : Met l y_DI_find s_DI_find ({ frames := 12, cells := 0, slots := 0, locals := 400 }) (va_Pc [.ref h0, .long nm, .ref qz] (fun U => U.heap.size = sz ∧ va_P (dC, dI) cls_ [(h0, .inr (2, [.ref qw, .ref qt, .int tb])), (qw, .inr (0, [.ref qa, .int (nI (a)), .int (nI (n)), .int (bI mi)])), (qz, .inr (0, [.ref qa, .int (nI (z1)), .int (nI (z2)), .int (bI mz)])), (qa, .inl (cA, 1200, .inl (f)))] U.heap ∧ va_K (dC, dI) cls_ [(cA, .int)] U ∧ va_D (fun _ => True) [(h0, .inr (2, [.ref qw, .ref qt, .int tb])), (qw, .inr (0, [.ref qa, .int (nI (a)), .int (nI (n)), .int (bI mi)])), (qz, .inr (0, [.ref qa, .int (nI (z1)), .int (nI (z2)), .int (bI mz)])), (qa, .inl (cA, 1200, .inl (f)))])) (va_Qi (fun (r : Int32) (_ : Unit) => ∃ b9 : Bool, r = bI b9) (fun (_ : Unit) (t : State) => ∃ (m2 : Bool) (y1 : Nat) (y2 : Nat) (my : Bool), y1 + y2 ≤ 1200 ∧ va_P (dC, dI) cls_ [(h0, .inr (2, [.ref qw, .ref qt, .int tb])), (qw, .inr (0, [.ref qa, .int (nI (a)), .int (nI (n)), .int (bI m2)])), (qz, .inr (0, [.ref qa, .int (nI (y1)), .int (nI (y2)), .int (bI my)])), (qa, .inl (cA, 1200, .inl (f)))] t.heap ∧ va_K (dC, dI) cls_ [(cA, .int)] t ∧ va_D (va_A [(h0, .inr (2, [.ref qw, .ref qt, .int tb])), (qw, .inr (0, [.ref qa, .int (nI (a)), .int (nI (n)), .int (bI mi)])), (qz, .inr (0, [.ref qa, .int (nI (z1)), .int (nI (z2)), .int (bI mz)])), (qa, .inl (cA, 1200, .inl (f)))] sz) [(h0, .inr (2, [.ref qw, .ref qt, .int tb])), (qw, .inr (0, [.ref qa, .int (nI (a)), .int (nI (n)), .int (bI m2)])), (qz, .inr (0, [.ref qa, .int (nI (y1)), .int (nI (y2)), .int (bI my)])), (qa, .inl (cA, 1200, .inl (f)))]) (va_A [(h0, .inr (2, [.ref qw, .ref qt, .int tb])), (qw, .inr (0, [.ref qa, .int (nI (a)), .int (nI (n)), .int (bI mi)])), (qz, .inr (0, [.ref qa, .int (nI (z1)), .int (nI (z2)), .int (bI mz)])), (qa, .inl (cA, 1200, .inl (f)))] sz)) 0 0 (va_A [(h0, .inr (2, [.ref qw, .ref qt, .int tb])), (qw, .inr (0, [.ref qa, .int (nI (a)), .int (nI (n)), .int (bI mi)])), (qz, .inr (0, [.ref qa, .int (nI (z1)), .int (nI (z2)), .int (bI mz)])), (qa, .inl (cA, 1200, .inl (f)))] sz) := by
  refine Met.ofW (cc := b_DI_find) (maxL := 5) (ret := (some .boolean)) (by decide) rfl ?_
  intro p e s m args below meth c s₁ B hml hv
  obtain ⟨rfl, hsz, hP, hK, hD0⟩ := hv
  have hx := B.exec
  have hb := B.bytes
  have hr := B.returns
  have hts := atoms_spec (ws := s_DI_find) B.pre
  have hown : s.vm.findClass R_DI = some m.cls := findClass_of_methodNamed B.named
  have hlocks := B.notSynchronized
  subst hsz
  have hD := hD0.self (sz := s.heap.size)
  generalize hAe : va_A [(h0, .inr (2, [.ref qw, .ref qt, .int tb])), (qw, .inr (0, [.ref qa, .int (nI (a)), .int (nI (n)), .int (bI mi)])), (qz, .inr (0, [.ref qa, .int (nI (z1)), .int (nI (z2)), .int (bI mz)])), (qa, .inl (cA, 1200, .inl (f)))] s.heap.size = A at hD ⊢
  have hA : ∀ q : Nat, s.heap.size ≤ q → A q := fun q h => by rw [← hAe]; exact Or.inr h
  have hS : va_S A s.heap s.heap [] := va_S.rf
  have hP : va_P (dC, dI) cls_ [(h0, .inr (2, [.ref qw, .ref qt, .int tb])), (qw, .inr (0, [.ref qa, .int (nI (a)), .int (nI (n)), .int (bI mi)])), (qz, .inr (0, [.ref qa, .int (nI (z1)), .int (nI (z2)), .int (bI mz)])), (qa, .inl (cA, 1200, .inl (f)))] s.heap := hP
  have hl := lv_entry ([.ref h0, .long nm, .ref qz]) (n := 5) (Nat.le_of_ble_eq_true rfl)
  rw [lg_entry_eq]
  generalize (lg_sl ([.ref h0, .long nm, .ref qz]) ++ List.replicate (5 - (lg_sl ([.ref h0, .long nm, .ref qz])).length) Slot.unset).toArray = ls at hl ⊢
  have hl : lv_has ls 5 [(0, .ref h0), (1, .long nm), (3, .ref qz)] := hl
  refine lv_iconst (v := 0) hx hb d_DI_find_0 (by decide) ?_
  refine lv_istore (lv' := [(4, .int 0), (0, .ref h0), (1, .long nm), (3, .ref qz)]) hx hb d_DI_find_1 hl (by decide) rfl (fun ls hl => ?_)
  have hP8 := hP.sub (ws' := [(h0, .inr (2, [.ref qw, .ref qt, .int tb])), (qw, .inr (0, [.ref qa, .int (nI (a)), .int (nI (n)), .int (bI mi)])), (qz, .inr (0, [.ref qa, .int (nI (z1)), .int (nI (z2)), .int (bI mz)])), (qa, .inl (cA, 1200, .inl (f)))]) [0, 1, 2, 3] rfl
  have hD8 := hD.sub (ws' := [(h0, .inr (2, [.ref qw, .ref qt, .int tb])), (qw, .inr (0, [.ref qa, .int (nI (a)), .int (nI (n)), .int (bI mi)])), (qz, .inr (0, [.ref qa, .int (nI (z1)), .int (nI (z2)), .int (bI mz)])), (qa, .inl (cA, 1200, .inl (f)))]) [0, 1, 2, 3] (by decide) rfl
  have hBe0 := cl_lt (tb)
  have hK9 := hK.sub (tys' := [(cA, .int)]) [0] rfl
  refine di_find_loop hx hb hml hts hown hA dC dI h0 qw qt qa a n mi cA f tb qz z1 z2 mz nm (by omega) (by assumption) (by omega) hK9 (fun k_52 m_53 hf_54 H locs ls hP hD hS hl => ?_) (fun k_55 m_56 hf_57 H locs ls hP hD hS hl => ?_) (tb.toNatClampNeg - 0 + 1) 0 mi (by omega) (by omega) s.heap _ ls hP8 hD8 hS (lv_sub hl [0, 1, 2, 3] rfl)
  · skip
    have hBx0 := cl_lt (tb)
    have hK := hK9
    have hP : va_P (dC, dI) cls_ [(h0, .inr (2, [.ref qw, .ref qt, .int tb])), (qw, .inr (0, [.ref qa, .int (nI (a)), .int (nI (n)), .int (bI m_53)])), (qz, .inr (0, [.ref qa, .int (nI (z1)), .int (nI (z2)), .int (bI mz)])), (qa, .inl (cA, 1200, .inl (f)))] H := hP
    have hD : va_D A [(h0, .inr (2, [.ref qw, .ref qt, .int tb])), (qw, .inr (0, [.ref qa, .int (nI (a)), .int (nI (n)), .int (bI m_53)])), (qz, .inr (0, [.ref qa, .int (nI (z1)), .int (nI (z2)), .int (bI mz)])), (qa, .inl (cA, 1200, .inl (f)))] := hD
    have hK : va_K (dC, dI) cls_ [(cA, .int)] s := hK
    refine lv_aload_n hx hb d_DI_find_23 rfl (lv_at hl 1 rfl) ?_
    refine lv_iload hx hb d_DI_find_24 (lv_at hl 0 rfl) ?_
    refine lv_aload_n hx hb d_DI_find_26 rfl (lv_at hl 3 rfl) ?_
    have hPc := hP.sub (ws' := [(h0, .inr (2, [.ref qw, .ref qt, .int tb])), (qw, .inr (0, [.ref qa, .int (nI (a)), .int (nI (n)), .int (bI m_53)])), (qz, .inr (0, [.ref qa, .int (nI (z1)), .int (nI (z2)), .int (bI mz)])), (qa, .inl (cA, 1200, .inl (f)))]) [0, 1, 2, 3] rfl
    have hDc := hD.sub (ws' := [(h0, .inr (2, [.ref qw, .ref qt, .int tb])), (qw, .inr (0, [.ref qa, .int (nI (a)), .int (nI (n)), .int (bI m_53)])), (qz, .inr (0, [.ref qa, .int (nI (z1)), .int (nI (z2)), .int (bI mz)])), (qa, .inl (cA, 1200, .inl (f)))]) [0, 1, 2, 3] (by decide) rfl
    have hKc := hK.sub (tys' := [(cA, .int)]) [0] rfl
    have hFc := va_free (wc := [(h0, .inr (2, [.ref qw, .ref qt, .int tb])), (qw, .inr (0, [.ref qa, .int (nI (a)), .int (nI (n)), .int (bI m_53)])), (qz, .inr (0, [.ref qa, .int (nI (z1)), .int (nI (z2)), .int (bI mz)])), (qa, .inl (cA, 1200, .inl (f)))]) hD hS hA [0, 1, 2, 3] rfl
    refine va_callv (va_runV (As := [.int (nI (k_52)), .ref qz]) (rest := []) ⟨hx, hb, hml, hown, hts⟩ (g_DI_layTable l dC dI h0 qw qt qa a n m_53 cA f tb qz (nI (z1)) (nI (z2)) mz (nI (k_52)) H.size (by omega) (by assumption)) (cwV 2 hts (tw_inV w_379 w_381 wp_1 w_3 w_382) rfl rfl rfl (by decide +kernel) ⟨Nat.le_of_ble_eq_true rfl, Nat.le_of_ble_eq_true rfl⟩) ⟨fun a U g mk q => by obtain ⟨q0, q1, qP, qK, qD⟩ := q; exact ⟨q0, q1, qP, va_K.moved (u := U) (U := U.calling g mk a) (Vm.Alike.refl U.vm) qK, qD⟩, va_recv (hK := hK) (hP := hP) (q0 := 0) (ci := 2) rfl rfl, fun U hU hW => ⟨rfl, by rw [hU], by rw [hU]; exact hPc, va_K.moved hW.alike hKc, hDc.weaken (fun _ _ _ _ => trivial)⟩⟩ rfl rfl hl.1 rfl (lv_room (Nat.le_of_ble_eq_true rfl)) d_DI_find_27 ⟨Nat.le_of_ble_eq_true rfl, Nat.le_of_ble_eq_true rfl⟩) hS (fun q _ h => hFc q h) hFc (fun u t H1 locs ht hvm hw hB hz1 hk1 hS => ?_)
    obtain ⟨m_58, b_59, b_60, hq_f61_0, hP1, hK1, hD1⟩ := hB
    rw [ht] at hP1
    have hK1 := va_K.moved hvm.symm hK1
    obtain ⟨hP, hD⟩ := va_join (wr := []) (w1 := [(h0, .inr (2, [.ref qw, .ref qt, .int tb])), (qw, .inr (0, [.ref qa, .int (nI (a)), .int (nI (n)), .int (bI m_58)])), (qz, .inr (0, [.ref qa, .int (nI (b_59)), .int (nI (b_60)), .int 0])), (qa, .inl (cA, 1200, .inl (f)))]) hP hD [0, 1, 2, 3] [] rfl rfl (by decide) (by decide) hk1 hFc hP1 hD1
    have hK := (hK.sub (tys' := []) [] rfl).app hK1
    generalize H1 = H at hP hS ⊢
    have hP : va_P (dC, dI) cls_ [(h0, .inr (2, [.ref qw, .ref qt, .int tb])), (qw, .inr (0, [.ref qa, .int (nI (a)), .int (nI (n)), .int (bI m_58)])), (qz, .inr (0, [.ref qa, .int (nI (b_59)), .int (nI (b_60)), .int 0])), (qa, .inl (cA, 1200, .inl (f)))] H := hP
    have hD : va_D A [(h0, .inr (2, [.ref qw, .ref qt, .int tb])), (qw, .inr (0, [.ref qa, .int (nI (a)), .int (nI (n)), .int (bI m_58)])), (qz, .inr (0, [.ref qa, .int (nI (b_59)), .int (nI (b_60)), .int 0])), (qa, .inl (cA, 1200, .inl (f)))] := hD
    have hK : va_K (dC, dI) cls_ [(cA, .int)] s := hK
    refine lv_iconst (v := 1) hx hb d_DI_find_30 (by decide) ?_
    refine W.widen (k := 0) (n := 0) (Nat.le_of_ble_eq_true rfl) (Nat.le_of_ble_eq_true rfl) ?_
    have hP9 := hP.sub (ws' := [(h0, .inr (2, [.ref qw, .ref qt, .int tb])), (qw, .inr (0, [.ref qa, .int (nI (a)), .int (nI (n)), .int (bI m_58)])), (qz, .inr (0, [.ref qa, .int (nI (b_59)), .int (nI (b_60)), .int 0])), (qa, .inl (cA, 1200, .inl (f)))]) [0, 1, 2, 3] rfl
    have hD9 := hD.sub (ws' := [(h0, .inr (2, [.ref qw, .ref qt, .int tb])), (qw, .inr (0, [.ref qa, .int (nI (a)), .int (nI (n)), .int (bI m_58)])), (qz, .inr (0, [.ref qa, .int (nI (b_59)), .int (nI (b_60)), .int 0])), (qa, .inl (cA, 1200, .inl (f)))]) [0, 1, 2, 3] (by decide) rfl
    have hK9 := hK.sub (tys' := [(cA, .int)]) [0] rfl
    exact W.zret (v := 1) (ty := .boolean) hx hb hr (by decide +kernel) (fun t ht hW => ⟨⟨1, (), rfl, ⟨true, rfl⟩, m_58, b_59, b_60, false, by omega, by rw [ht]; exact hP9, va_K.moved hW.alike hK9, hD9⟩, hS.F ht⟩) hS.2.2 d_DI_find_31
  · skip
    have hBx0 := cl_lt (tb)
    have hK := hK9
    have hP : va_P (dC, dI) cls_ [(h0, .inr (2, [.ref qw, .ref qt, .int tb])), (qw, .inr (0, [.ref qa, .int (nI (a)), .int (nI (n)), .int (bI m_56)])), (qz, .inr (0, [.ref qa, .int (nI (z1)), .int (nI (z2)), .int (bI mz)])), (qa, .inl (cA, 1200, .inl (f)))] H := hP
    have hD : va_D A [(h0, .inr (2, [.ref qw, .ref qt, .int tb])), (qw, .inr (0, [.ref qa, .int (nI (a)), .int (nI (n)), .int (bI m_56)])), (qz, .inr (0, [.ref qa, .int (nI (z1)), .int (nI (z2)), .int (bI mz)])), (qa, .inl (cA, 1200, .inl (f)))] := hD
    have hK : va_K (dC, dI) cls_ [(cA, .int)] s := hK
    refine lv_iconst (v := 0) hx hb d_DI_find_38 (by decide) ?_
    refine W.widen (k := 0) (n := 0) (Nat.le_of_ble_eq_true rfl) (Nat.le_of_ble_eq_true rfl) ?_
    have hP9 := hP.sub (ws' := [(h0, .inr (2, [.ref qw, .ref qt, .int tb])), (qw, .inr (0, [.ref qa, .int (nI (a)), .int (nI (n)), .int (bI m_56)])), (qz, .inr (0, [.ref qa, .int (nI (z1)), .int (nI (z2)), .int (bI mz)])), (qa, .inl (cA, 1200, .inl (f)))]) [0, 1, 2, 3] rfl
    have hD9 := hD.sub (ws' := [(h0, .inr (2, [.ref qw, .ref qt, .int tb])), (qw, .inr (0, [.ref qa, .int (nI (a)), .int (nI (n)), .int (bI m_56)])), (qz, .inr (0, [.ref qa, .int (nI (z1)), .int (nI (z2)), .int (bI mz)])), (qa, .inl (cA, 1200, .inl (f)))]) [0, 1, 2, 3] (by decide) rfl
    have hK9 := hK.sub (tys' := [(cA, .int)]) [0] rfl
    exact W.zret (v := 0) (ty := .boolean) hx hb hr (by decide +kernel) (fun t ht hW => ⟨⟨0, (), rfl, ⟨false, rfl⟩, m_56, z1, z2, mz, by omega, by rw [ht]; exact hP9, va_K.moved hW.alike hK9, hD9⟩, hS.F ht⟩) hS.2.2 d_DI_find_39
set_option maxHeartbeats 8000000 in
set_option maxRecDepth 100000 in
/-- a loop of GlyphLines$Directory.isRight -/
theorem di_right_loop {p : Program} {l : Launch} {e : Env} {s : State} {m : MethodId} {args : Array Value} {below : List Frame} {meth : Method} {c : Code} {Q : State → Prop} {A : Nat → Prop} (hx : p.tables.exec = Jvm.exec) (hb : c.code = b_DI_isRight) (hml : c.maxLocals = 7) (hts : ∀ w ∈ s_DI_isRight, w.before args s = true) (hown : s.vm.findClass R_DI = some m.cls) (hA : ∀ q : Nat, s.heap.size ≤ q → A q) (dC : Nat → ClassId) (dI : Nat → Nat → Nat) (h0 : Nat) (qw : Nat) (qt : Nat) (qa : Nat) (st : Int32) (si : Int32) (mi : Bool) (cA : ClassId) (f : Nat → Int32) (tb0 : Int32) (fs : Int32) (hq0 : isB f) (hK : va_K (dC, dI) cls_ [(cA, .int)] s)
    (kx148 : ∀ (k : Nat) (bf : Int64) (m3 : Bool) (a : Nat) (n : Nat) (tb : Int32), (k ≤ tb.toNatClampNeg) → (a + n ≤ 1200) → ∀ (H : Heap) (locs : List Loc) (ls : Array Slot), va_P (dC, dI) cls_ [(h0, .inr (2, [.ref qw, .ref qt, .int tb])), (qw, .inr (0, [.ref qa, .int (nI (a)), .int (nI (n)), .int (bI m3)])), (qa, .inl (cA, 1200, .inl (f)))] H → va_D A [(h0, .inr (2, [.ref qw, .ref qt, .int tb])), (qw, .inr (0, [.ref qa, .int (nI (a)), .int (nI (n)), .int (bI m3)])), (qa, .inl (cA, 1200, .inl (f)))] → va_S A s.heap H locs → lv_has ls 7 [(4, .int (nI (k))), (2, .long bf), (0, .ref h0), (1, .int fs)] → W p l e (headSpec s_DI_isRight ({ frames := 12, cells := 0, slots := 0, locals := 400 })).room s m args below meth c H locs 0 0 Q (F0 m 148 ls []))
    (kx159 : ∀ (k : Nat) (bf : Int64) (m3 : Bool) (a : Nat) (n : Nat) (tb : Int32), (k ≤ tb.toNatClampNeg) → (a + n ≤ 1200) → ∀ (H : Heap) (locs : List Loc) (ls : Array Slot), va_P (dC, dI) cls_ [(h0, .inr (2, [.ref qw, .ref qt, .int tb])), (qw, .inr (0, [.ref qa, .int (nI (a)), .int (nI (n)), .int (bI m3)])), (qa, .inl (cA, 1200, .inl (f)))] H → va_D A [(h0, .inr (2, [.ref qw, .ref qt, .int tb])), (qw, .inr (0, [.ref qa, .int (nI (a)), .int (nI (n)), .int (bI m3)])), (qa, .inl (cA, 1200, .inl (f)))] → va_S A s.heap H locs → lv_has ls 7 [(4, .int (nI (k))), (2, .long bf), (0, .ref h0), (1, .int fs)] → W p l e (headSpec s_DI_isRight ({ frames := 12, cells := 0, slots := 0, locals := 400 })).room s m args below meth c H locs 0 0 Q (F0 m 159 ls []))
    : ∀ (fu : Nat) (k : Nat) (bf : Int64) (m3 : Bool) (a : Nat) (n : Nat) (tb : Int32), (k ≤ tb.toNatClampNeg) → (a + n ≤ 1200) → tb.toNatClampNeg - k < fu → ∀ (H : Heap) (locs : List Loc) (ls : Array Slot), va_P (dC, dI) cls_ [(h0, .inr (2, [.ref qw, .ref qt, .int tb])), (qw, .inr (0, [.ref qa, .int (nI (a)), .int (nI (n)), .int (bI m3)])), (qa, .inl (cA, 1200, .inl (f)))] H → va_D A [(h0, .inr (2, [.ref qw, .ref qt, .int tb])), (qw, .inr (0, [.ref qa, .int (nI (a)), .int (nI (n)), .int (bI m3)])), (qa, .inl (cA, 1200, .inl (f)))] → va_S A s.heap H locs → lv_has ls 7 [(4, .int (nI (k))), (2, .long bf), (0, .ref h0), (1, .int fs)] → W p l e (headSpec s_DI_isRight ({ frames := 12, cells := 0, slots := 0, locals := 400 })).room s m args below meth c H locs 0 0 Q (F0 m 84 ls []) := by
  intro fu
  induction fu with
  | zero => intro k bf m3 a n tb hf0 hf1 hm; exact absurd hm (Nat.not_lt_zero _)
  | succ fu ih =>
    intro k bf m3 a n tb hf0 hf1 hm H locs ls hP hD hS hl
    have hB0 := cl_lt (tb)
    refine lv_iload hx hb d_DI_isRight_84 (lv_at hl 0 rfl) ?_
    refine lv_aload_n hx hb d_DI_isRight_86 rfl (lv_at hl 2 rfl) ?_
    refine va_get (D := (dC, dI)) (ci := 2) (v := .int tb) (C := R_DI) (T := F_DI) (N := 3) hx hb hts in_DI hown hK hP 0 rfl rfl 2 (by decide) (hts _ (List.mem_cons_of_mem _ w_71)) (fun _ h9 => h9) rfl d_DI_isRight_87 ?_
    refine lv_icmp_ge (tgt := 159) hx hb d_DI_isRight_90 (by decide) (fun hc62 => ?_) (fun hc62 => ?_)
    · skip
      have hP8 := hP.sub (ws' := [(h0, .inr (2, [.ref qw, .ref qt, .int tb])), (qw, .inr (0, [.ref qa, .int (nI (a)), .int (nI (n)), .int (bI m3)])), (qa, .inl (cA, 1200, .inl (f)))]) [0, 1, 2] rfl
      have hD8 := hD.sub (ws' := [(h0, .inr (2, [.ref qw, .ref qt, .int tb])), (qw, .inr (0, [.ref qa, .int (nI (a)), .int (nI (n)), .int (bI m3)])), (qa, .inl (cA, 1200, .inl (f)))]) [0, 1, 2] (by decide) rfl
      exact kx159 k bf m3 a n tb (by omega) (by omega) H locs ls hP8 hD8 hS (lv_sub hl [0, 1, 2, 3] rfl)
    · skip
      have hc62B := cl_lt (tb)
      have hc62n : k < (tb).toNatClampNeg := cl_of (k := k) (by omega) hc62
      refine lv_aload_n hx hb d_DI_isRight_93 rfl (lv_at hl 2 rfl) ?_
      refine lv_iload hx hb d_DI_isRight_94 (lv_at hl 0 rfl) ?_
      have hPc := hP.sub (ws' := [(h0, .inr (2, [.ref qw, .ref qt, .int tb])), (qw, .inr (0, [.ref qa, .int (nI (a)), .int (nI (n)), .int (bI m3)])), (qa, .inl (cA, 1200, .inl (f)))]) [0, 1, 2] rfl
      have hDc := hD.sub (ws' := [(h0, .inr (2, [.ref qw, .ref qt, .int tb])), (qw, .inr (0, [.ref qa, .int (nI (a)), .int (nI (n)), .int (bI m3)])), (qa, .inl (cA, 1200, .inl (f)))]) [0, 1, 2] (by decide) rfl
      have hKc := hK.sub (tys' := [(cA, .int)]) [0] rfl
      have hFc := va_free (wc := [(h0, .inr (2, [.ref qw, .ref qt, .int tb])), (qw, .inr (0, [.ref qa, .int (nI (a)), .int (nI (n)), .int (bI m3)])), (qa, .inl (cA, 1200, .inl (f)))]) hD hS hA [0, 1, 2] rfl
      refine va_calll (va_runV (As := [.int (nI (k))]) (rest := []) ⟨hx, hb, hml, hown, hts⟩ (g_DI_nameOf l dC dI h0 qw qt qa a n m3 cA f tb (nI (k)) H.size (by omega) (by assumption)) (cwV 1 hts (tw_inV w_368 w_370 wp_0 w_3 w_371) rfl rfl rfl (by decide +kernel) ⟨Nat.le_of_ble_eq_true rfl, Nat.le_of_ble_eq_true rfl⟩) ⟨fun a U g mk q => by obtain ⟨q0, q1, qP, qK, qD⟩ := q; exact ⟨q0, q1, qP, va_K.moved (u := U) (U := U.calling g mk a) (Vm.Alike.refl U.vm) qK, qD⟩, va_recv (hK := hK) (hP := hP) (q0 := 0) (ci := 2) rfl rfl, fun U hU hW => ⟨rfl, by rw [hU], by rw [hU]; exact hPc, va_K.moved hW.alike hKc, hDc.weaken (fun _ _ _ _ => trivial)⟩⟩ rfl rfl hl.1 rfl (lv_room (Nat.le_of_ble_eq_true rfl)) d_DI_isRight_96 ⟨Nat.le_of_ble_eq_true rfl, Nat.le_of_ble_eq_true rfl⟩) hS (fun q _ h => hFc q h) hFc (fun r63 u t H1 locs ht hvm hw hB hz1 hk1 hS => ?_)
      obtain ⟨m_64, hP1, hK1, hD1⟩ := hB
      rw [ht] at hP1
      have hK1 := va_K.moved hvm.symm hK1
      obtain ⟨hP, hD⟩ := va_join (wr := []) (w1 := [(h0, .inr (2, [.ref qw, .ref qt, .int tb])), (qw, .inr (0, [.ref qa, .int (nI (a)), .int (nI (n)), .int (bI m_64)])), (qa, .inl (cA, 1200, .inl (f)))]) hP hD [0, 1, 2] [] rfl rfl (by decide) (by decide) hk1 hFc hP1 hD1
      have hK := (hK.sub (tys' := []) [] rfl).app hK1
      generalize H1 = H at hP hS ⊢
      have hP : va_P (dC, dI) cls_ [(h0, .inr (2, [.ref qw, .ref qt, .int tb])), (qw, .inr (0, [.ref qa, .int (nI (a)), .int (nI (n)), .int (bI m_64)])), (qa, .inl (cA, 1200, .inl (f)))] H := hP
      have hD : va_D A [(h0, .inr (2, [.ref qw, .ref qt, .int tb])), (qw, .inr (0, [.ref qa, .int (nI (a)), .int (nI (n)), .int (bI m_64)])), (qa, .inl (cA, 1200, .inl (f)))] := hD
      have hK : va_K (dC, dI) cls_ [(cA, .int)] s := hK
      have hw_r63 := hw
      refine lv_lstore (lv' := [(5, .long r63), (4, .int (nI (k))), (2, .long bf), (0, .ref h0), (1, .int fs)]) hx hb d_DI_isRight_99 hl (by decide) rfl (fun ls hl => ?_)
      refine lv_lload hx hb d_DI_isRight_101 (lv_at hl 0 rfl) ?_
      refine lv_lload_n hx hb d_DI_isRight_103 rfl (lv_at hl 2 rfl) ?_
      refine W.lcmp hx hb d_DI_isRight_104 ?_
      refine lv_topi (fun v65 ev65 => ?_)
      refine lv_if_le (tgt := 148) hx hb d_DI_isRight_105 (by decide) (fun hc66 => ?_) (fun hc66 => ?_)
      · skip
        have hP8 := hP.sub (ws' := [(h0, .inr (2, [.ref qw, .ref qt, .int tb])), (qw, .inr (0, [.ref qa, .int (nI (a)), .int (nI (n)), .int (bI m_64)])), (qa, .inl (cA, 1200, .inl (f)))]) [0, 1, 2] rfl
        have hD8 := hD.sub (ws' := [(h0, .inr (2, [.ref qw, .ref qt, .int tb])), (qw, .inr (0, [.ref qa, .int (nI (a)), .int (nI (n)), .int (bI m_64)])), (qa, .inl (cA, 1200, .inl (f)))]) [0, 1, 2] (by decide) rfl
        exact kx148 k bf m_64 a n tb (by omega) (by omega) H locs ls hP8 hD8 hS (lv_sub hl [1, 2, 3, 4] rfl)
      · skip
        refine lv_aload_n hx hb d_DI_isRight_108 rfl (lv_at hl 3 rfl) ?_
        refine va_get (D := (dC, dI)) (ci := 2) (v := .ref qw) (C := R_DI) (T := F_DI) (N := 3) hx hb hts in_DI hown hK hP 0 rfl rfl 0 (by decide) (hts _ (List.mem_cons_of_mem _ w_69)) (fun _ h9 => h9) rfl d_DI_isRight_109 ?_
        refine lv_aload_n hx hb d_DI_isRight_112 rfl (lv_at hl 3 rfl) ?_
        refine va_get (D := (dC, dI)) (ci := 2) (v := .ref qw) (C := R_DI) (T := F_DI) (N := 3) hx hb hts in_DI hown hK hP 0 rfl rfl 0 (by decide) (hts _ (List.mem_cons_of_mem _ w_69)) (fun _ h9 => h9) rfl d_DI_isRight_113 ?_
        refine lv_iload hx hb d_DI_isRight_116 (lv_at hl 1 rfl) ?_
        have hPc := hP.sub (ws' := []) [] rfl
        have hDc := hD.sub (ws' := []) [] (by decide) rfl
        have hKc := hK.sub (tys' := []) [] rfl
        have hFc := va_free (wc := []) hD hS hA [] rfl
        refine va_calli (va_runS (As := [.int (nI (k))]) (rest := [.ref qw, .ref qw]) ⟨hx, hb, hml, hown, hts⟩ (g_DI_entry l dC dI (nI (k)) H.size) (cwS 1 hts (tw_inS w_372 w_373 w_3 w_374) rfl rfl rfl (by decide +kernel) ⟨Nat.le_of_ble_eq_true rfl, Nat.le_of_ble_eq_true rfl⟩) ⟨fun a U g mk q => by obtain ⟨q0, q1, qP, qK, qD⟩ := q; exact ⟨q0, q1, qP, va_K.moved (u := U) (U := U.calling g mk a) (Vm.Alike.refl U.vm) qK, qD⟩, fun U hU hW => ⟨rfl, by rw [hU], by rw [hU]; exact hPc, va_K.moved hW.alike hKc, hDc.weaken (fun _ _ _ _ => trivial)⟩⟩ rfl rfl hl.1 rfl (lv_room (Nat.le_of_ble_eq_true rfl)) d_DI_isRight_118 ⟨Nat.le_of_ble_eq_true rfl, Nat.le_of_ble_eq_true rfl⟩) hS (fun q _ h => hFc q h) hFc (fun r67 u t H1 locs ht hvm hw hB hz1 hk1 hS => ?_)
        have hP1 : va_P (dC, dI) cls_ [] H1 := fun k q h => by simp at h
        have hD1 : va_D (va_A [] H.size) [] := ⟨fun i j p q h => by simp at h, fun k q h => by simp at h⟩
        obtain ⟨hP, hD⟩ := va_join (wr := [(h0, .inr (2, [.ref qw, .ref qt, .int tb])), (qw, .inr (0, [.ref qa, .int (nI (a)), .int (nI (n)), .int (bI m_64)])), (qa, .inl (cA, 1200, .inl (f)))]) (w1 := []) hP hD [] [0, 1, 2] rfl rfl (by decide) (by decide) hk1 hFc hP1 hD1
        generalize H1 = H at hP hS ⊢
        have hP : va_P (dC, dI) cls_ [(h0, .inr (2, [.ref qw, .ref qt, .int tb])), (qw, .inr (0, [.ref qa, .int (nI (a)), .int (nI (n)), .int (bI m_64)])), (qa, .inl (cA, 1200, .inl (f)))] H := hP
        have hD : va_D A [(h0, .inr (2, [.ref qw, .ref qt, .int tb])), (qw, .inr (0, [.ref qa, .int (nI (a)), .int (nI (n)), .int (bI m_64)])), (qa, .inl (cA, 1200, .inl (f)))] := hD
        have hw_r67 := hw
        refine lv_bipush (v := 8) hx hb d_DI_isRight_121 (by decide) ?_
        refine lv_iadd hx hb d_DI_isRight_123 ?_
        refine lv_topi (fun v68 ev68 => ?_)
        have hPc := hP.sub (ws' := [(qw, .inr (0, [.ref qa, .int (nI (a)), .int (nI (n)), .int (bI m_64)])), (qa, .inl (cA, 1200, .inl (f)))]) [1, 2] rfl
        have hDc := hD.sub (ws' := [(qw, .inr (0, [.ref qa, .int (nI (a)), .int (nI (n)), .int (bI m_64)])), (qa, .inl (cA, 1200, .inl (f)))]) [1, 2] (by decide) rfl
        have hKc := hK.sub (tys' := [(cA, .int)]) [0] rfl
        have hFc := va_free (wc := [(qw, .inr (0, [.ref qa, .int (nI (a)), .int (nI (n)), .int (bI m_64)])), (qa, .inl (cA, 1200, .inl (f)))]) hD hS hA [1, 2] rfl
        refine va_calll (va_runV (As := [.int v68]) (rest := [.ref qw]) ⟨hx, hb, hml, hown, hts⟩ (g_SP_u32 l dC dI qw qa a n m_64 cA f v68 H.size (by omega) (by assumption)) (cwV 1 hts (tw_inV w_356 w_357 w_358 w_4 w_359) rfl rfl rfl (by decide +kernel) ⟨Nat.le_of_ble_eq_true rfl, Nat.le_of_ble_eq_true rfl⟩) ⟨fun a U g mk q => by obtain ⟨q0, q1, qP, qK, qD⟩ := q; exact ⟨q0, q1, qP, va_K.moved (u := U) (U := U.calling g mk a) (Vm.Alike.refl U.vm) qK, qD⟩, va_recv (hK := hK) (hP := hP) (q0 := 1) (ci := 0) rfl rfl, fun U hU hW => ⟨rfl, by rw [hU], by rw [hU]; exact hPc, va_K.moved hW.alike hKc, hDc.weaken (fun _ _ _ _ => trivial)⟩⟩ rfl rfl hl.1 rfl (lv_room (Nat.le_of_ble_eq_true rfl)) d_DI_isRight_124 ⟨Nat.le_of_ble_eq_true rfl, Nat.le_of_ble_eq_true rfl⟩) hS (fun q _ h => hFc q h) hFc (fun r69 u t H1 locs ht hvm hw hB hz1 hk1 hS => ?_)
        obtain ⟨m_70, hP1, hK1, hD1⟩ := hB
        rw [ht] at hP1
        have hK1 := va_K.moved hvm.symm hK1
        obtain ⟨hP, hD⟩ := va_join (wr := [(h0, .inr (2, [.ref qw, .ref qt, .int tb]))]) (w1 := [(qw, .inr (0, [.ref qa, .int (nI (a)), .int (nI (n)), .int (bI m_70)])), (qa, .inl (cA, 1200, .inl (f)))]) hP hD [1, 2] [0] rfl rfl (by decide) (by decide) hk1 hFc hP1 hD1
        have hK := (hK.sub (tys' := []) [] rfl).app hK1
        generalize H1 = H at hP hS ⊢
        have hP : va_P (dC, dI) cls_ [(h0, .inr (2, [.ref qw, .ref qt, .int tb])), (qw, .inr (0, [.ref qa, .int (nI (a)), .int (nI (n)), .int (bI m_70)])), (qa, .inl (cA, 1200, .inl (f)))] H := hP
        have hD : va_D A [(h0, .inr (2, [.ref qw, .ref qt, .int tb])), (qw, .inr (0, [.ref qa, .int (nI (a)), .int (nI (n)), .int (bI m_70)])), (qa, .inl (cA, 1200, .inl (f)))] := hD
        have hK : va_K (dC, dI) cls_ [(cA, .int)] s := hK
        have hw_r69 := hw
        refine lv_aload_n hx hb d_DI_isRight_127 rfl (lv_at hl 3 rfl) ?_
        refine va_get (D := (dC, dI)) (ci := 2) (v := .ref qw) (C := R_DI) (T := F_DI) (N := 3) hx hb hts in_DI hown hK hP 0 rfl rfl 0 (by decide) (hts _ (List.mem_cons_of_mem _ w_69)) (fun _ h9 => h9) rfl d_DI_isRight_128 ?_
        refine lv_iload hx hb d_DI_isRight_131 (lv_at hl 1 rfl) ?_
        have hPc := hP.sub (ws' := []) [] rfl
        have hDc := hD.sub (ws' := []) [] (by decide) rfl
        have hKc := hK.sub (tys' := []) [] rfl
        have hFc := va_free (wc := []) hD hS hA [] rfl
        refine va_calli (va_runS (As := [.int (nI (k))]) (rest := [.ref qw, .long r69, .ref qw]) ⟨hx, hb, hml, hown, hts⟩ (g_DI_entry l dC dI (nI (k)) H.size) (cwS 1 hts (tw_inS w_372 w_373 w_3 w_374) rfl rfl rfl (by decide +kernel) ⟨Nat.le_of_ble_eq_true rfl, Nat.le_of_ble_eq_true rfl⟩) ⟨fun a U g mk q => by obtain ⟨q0, q1, qP, qK, qD⟩ := q; exact ⟨q0, q1, qP, va_K.moved (u := U) (U := U.calling g mk a) (Vm.Alike.refl U.vm) qK, qD⟩, fun U hU hW => ⟨rfl, by rw [hU], by rw [hU]; exact hPc, va_K.moved hW.alike hKc, hDc.weaken (fun _ _ _ _ => trivial)⟩⟩ rfl rfl hl.1 rfl (lv_room (Nat.le_of_ble_eq_true rfl)) d_DI_isRight_133 ⟨Nat.le_of_ble_eq_true rfl, Nat.le_of_ble_eq_true rfl⟩) hS (fun q _ h => hFc q h) hFc (fun r71 u t H1 locs ht hvm hw hB hz1 hk1 hS => ?_)
        have hP1 : va_P (dC, dI) cls_ [] H1 := fun k q h => by simp at h
        have hD1 : va_D (va_A [] H.size) [] := ⟨fun i j p q h => by simp at h, fun k q h => by simp at h⟩
        obtain ⟨hP, hD⟩ := va_join (wr := [(h0, .inr (2, [.ref qw, .ref qt, .int tb])), (qw, .inr (0, [.ref qa, .int (nI (a)), .int (nI (n)), .int (bI m_70)])), (qa, .inl (cA, 1200, .inl (f)))]) (w1 := []) hP hD [] [0, 1, 2] rfl rfl (by decide) (by decide) hk1 hFc hP1 hD1
        generalize H1 = H at hP hS ⊢
        have hP : va_P (dC, dI) cls_ [(h0, .inr (2, [.ref qw, .ref qt, .int tb])), (qw, .inr (0, [.ref qa, .int (nI (a)), .int (nI (n)), .int (bI m_70)])), (qa, .inl (cA, 1200, .inl (f)))] H := hP
        have hD : va_D A [(h0, .inr (2, [.ref qw, .ref qt, .int tb])), (qw, .inr (0, [.ref qa, .int (nI (a)), .int (nI (n)), .int (bI m_70)])), (qa, .inl (cA, 1200, .inl (f)))] := hD
        have hw_r71 := hw
        refine lv_bipush (v := 12) hx hb d_DI_isRight_136 (by decide) ?_
        refine lv_iadd hx hb d_DI_isRight_138 ?_
        refine lv_topi (fun v72 ev72 => ?_)
        have hPc := hP.sub (ws' := [(qw, .inr (0, [.ref qa, .int (nI (a)), .int (nI (n)), .int (bI m_70)])), (qa, .inl (cA, 1200, .inl (f)))]) [1, 2] rfl
        have hDc := hD.sub (ws' := [(qw, .inr (0, [.ref qa, .int (nI (a)), .int (nI (n)), .int (bI m_70)])), (qa, .inl (cA, 1200, .inl (f)))]) [1, 2] (by decide) rfl
        have hKc := hK.sub (tys' := [(cA, .int)]) [0] rfl
        have hFc := va_free (wc := [(qw, .inr (0, [.ref qa, .int (nI (a)), .int (nI (n)), .int (bI m_70)])), (qa, .inl (cA, 1200, .inl (f)))]) hD hS hA [1, 2] rfl
        refine va_calll (va_runV (As := [.int v72]) (rest := [.long r69, .ref qw]) ⟨hx, hb, hml, hown, hts⟩ (g_SP_u32 l dC dI qw qa a n m_70 cA f v72 H.size (by omega) (by assumption)) (cwV 1 hts (tw_inV w_356 w_357 w_358 w_4 w_359) rfl rfl rfl (by decide +kernel) ⟨Nat.le_of_ble_eq_true rfl, Nat.le_of_ble_eq_true rfl⟩) ⟨fun a U g mk q => by obtain ⟨q0, q1, qP, qK, qD⟩ := q; exact ⟨q0, q1, qP, va_K.moved (u := U) (U := U.calling g mk a) (Vm.Alike.refl U.vm) qK, qD⟩, va_recv (hK := hK) (hP := hP) (q0 := 1) (ci := 0) rfl rfl, fun U hU hW => ⟨rfl, by rw [hU], by rw [hU]; exact hPc, va_K.moved hW.alike hKc, hDc.weaken (fun _ _ _ _ => trivial)⟩⟩ rfl rfl hl.1 rfl (lv_room (Nat.le_of_ble_eq_true rfl)) d_DI_isRight_139 ⟨Nat.le_of_ble_eq_true rfl, Nat.le_of_ble_eq_true rfl⟩) hS (fun q _ h => hFc q h) hFc (fun r73 u t H1 locs ht hvm hw hB hz1 hk1 hS => ?_)
        obtain ⟨m_74, hP1, hK1, hD1⟩ := hB
        rw [ht] at hP1
        have hK1 := va_K.moved hvm.symm hK1
        obtain ⟨hP, hD⟩ := va_join (wr := [(h0, .inr (2, [.ref qw, .ref qt, .int tb]))]) (w1 := [(qw, .inr (0, [.ref qa, .int (nI (a)), .int (nI (n)), .int (bI m_74)])), (qa, .inl (cA, 1200, .inl (f)))]) hP hD [1, 2] [0] rfl rfl (by decide) (by decide) hk1 hFc hP1 hD1
        have hK := (hK.sub (tys' := []) [] rfl).app hK1
        generalize H1 = H at hP hS ⊢
        have hP : va_P (dC, dI) cls_ [(h0, .inr (2, [.ref qw, .ref qt, .int tb])), (qw, .inr (0, [.ref qa, .int (nI (a)), .int (nI (n)), .int (bI m_74)])), (qa, .inl (cA, 1200, .inl (f)))] H := hP
        have hD : va_D A [(h0, .inr (2, [.ref qw, .ref qt, .int tb])), (qw, .inr (0, [.ref qa, .int (nI (a)), .int (nI (n)), .int (bI m_74)])), (qa, .inl (cA, 1200, .inl (f)))] := hD
        have hK : va_K (dC, dI) cls_ [(cA, .int)] s := hK
        have hw_r73 := hw
        have hPc := hP.sub (ws' := [(qw, .inr (0, [.ref qa, .int (nI (a)), .int (nI (n)), .int (bI m_74)]))]) [1] rfl
        have hDc := hD.sub (ws' := [(qw, .inr (0, [.ref qa, .int (nI (a)), .int (nI (n)), .int (bI m_74)]))]) [1] (by decide) rfl
        have hKc := hK.sub (tys' := []) [] rfl
        have hFc := va_free (wc := [(qw, .inr (0, [.ref qa, .int (nI (a)), .int (nI (n)), .int (bI m_74)]))]) hD hS hA [1] rfl
        refine va_calli (va_runV (As := [.long r69, .long r73]) (rest := []) ⟨hx, hb, hml, hown, hts⟩ (g_SP_holds l dC dI qw qa (nI (a)) (nI (n)) m_74 r69 r73 H.size) (cwV 2 hts (tw_inV w_363 w_364 w_365 w_4 w_366) rfl rfl rfl (by decide +kernel) ⟨Nat.le_of_ble_eq_true rfl, Nat.le_of_ble_eq_true rfl⟩) ⟨fun a U g mk q => by obtain ⟨q0, q1, qP, qK, qD⟩ := q; exact ⟨q0, q1, qP, va_K.moved (u := U) (U := U.calling g mk a) (Vm.Alike.refl U.vm) qK, qD⟩, va_recv (hK := hK) (hP := hP) (q0 := 1) (ci := 0) rfl rfl, fun U hU hW => ⟨rfl, by rw [hU], by rw [hU]; exact hPc, va_K.moved hW.alike hKc, hDc.weaken (fun _ _ _ _ => trivial)⟩⟩ rfl rfl hl.1 rfl (lv_room (Nat.le_of_ble_eq_true rfl)) d_DI_isRight_142 ⟨Nat.le_of_ble_eq_true rfl, Nat.le_of_ble_eq_true rfl⟩) hS (fun q _ h => hFc q h) hFc (fun r75 u t H1 locs ht hvm hw hB hz1 hk1 hS => ?_)
        obtain ⟨hP1, hK1, hD1⟩ := hB
        rw [ht] at hP1
        have hK1 := va_K.moved hvm.symm hK1
        obtain ⟨hP, hD⟩ := va_join (wr := [(h0, .inr (2, [.ref qw, .ref qt, .int tb])), (qa, .inl (cA, 1200, .inl (f)))]) (w1 := [(qw, .inr (0, [.ref qa, .int (nI (a)), .int (nI (n)), .int (bI m_74)]))]) hP hD [1] [0, 2] rfl rfl (by decide) (by decide) hk1 hFc hP1 hD1
        have hK := (hK.sub (tys' := [(cA, .int)]) [0] rfl).app hK1
        generalize H1 = H at hP hS ⊢
        have hP : va_P (dC, dI) cls_ [(h0, .inr (2, [.ref qw, .ref qt, .int tb])), (qa, .inl (cA, 1200, .inl (f))), (qw, .inr (0, [.ref qa, .int (nI (a)), .int (nI (n)), .int (bI m_74)]))] H := hP
        have hD : va_D A [(h0, .inr (2, [.ref qw, .ref qt, .int tb])), (qa, .inl (cA, 1200, .inl (f))), (qw, .inr (0, [.ref qa, .int (nI (a)), .int (nI (n)), .int (bI m_74)]))] := hD
        have hK : va_K (dC, dI) cls_ [(cA, .int)] s := hK
        have hw_r75 := hw
        obtain ⟨bb76, rfl⟩ := hw_r75
        refine lv_if_ne (tgt := 150) hx hb d_DI_isRight_145 (by decide) (fun hc77 => ?_) (fun hc77 => ?_)
        · skip
          have hc77b : bb76 = true := bI_1 hc77
          refine lv_lload hx hb d_DI_isRight_150 (lv_at hl 0 rfl) ?_
          refine lv_lstore_n (lv' := [(2, .long r63), (5, .long r63), (4, .int (nI (k))), (0, .ref h0), (1, .int fs)]) hx hb d_DI_isRight_152 rfl hl (by decide) rfl (fun ls hl => ?_)
          refine lv_iinc (k := 2) (v := nI (k + 1)) (lv' := [(4, .int (nI (k + 1))), (2, .long r63), (5, .long r63), (0, .ref h0), (1, .int fs)]) hx hb d_DI_isRight_153 hl rfl (nI_add (k) 1) (by decide) rfl (fun ls hl => ?_)
          refine lv_goto (tgt := 84) hx hb d_DI_isRight_156 (by decide) ?_
          have hP8 := hP.sub (ws' := [(h0, .inr (2, [.ref qw, .ref qt, .int tb])), (qw, .inr (0, [.ref qa, .int (nI (a)), .int (nI (n)), .int (bI m_74)])), (qa, .inl (cA, 1200, .inl (f)))]) [0, 2, 1] rfl
          have hD8 := hD.sub (ws' := [(h0, .inr (2, [.ref qw, .ref qt, .int tb])), (qw, .inr (0, [.ref qa, .int (nI (a)), .int (nI (n)), .int (bI m_74)])), (qa, .inl (cA, 1200, .inl (f)))]) [0, 2, 1] (by decide) rfl
          exact ih (k + 1) r63 m_74 a n tb (by omega) (by omega) (by omega) H locs ls hP8 hD8 hS (lv_sub hl [0, 1, 3, 4] rfl)
        · skip
          have hc77b : bb76 = false := bI_0 hc77
          have hP8 := hP.sub (ws' := [(h0, .inr (2, [.ref qw, .ref qt, .int tb])), (qw, .inr (0, [.ref qa, .int (nI (a)), .int (nI (n)), .int (bI m_74)])), (qa, .inl (cA, 1200, .inl (f)))]) [0, 2, 1] rfl
          have hD8 := hD.sub (ws' := [(h0, .inr (2, [.ref qw, .ref qt, .int tb])), (qw, .inr (0, [.ref qa, .int (nI (a)), .int (nI (n)), .int (bI m_74)])), (qa, .inl (cA, 1200, .inl (f)))]) [0, 2, 1] (by decide) rfl
          exact kx148 k bf m_74 a n tb (by omega) (by omega) H locs ls hP8 hD8 hS (lv_sub hl [1, 2, 3, 4] rfl)
set_option maxHeartbeats 4000000 in
set_option maxRecDepth 100000 in
/-- GlyphLines$Directory.isRight -/
theorem g_DI_isRight (l : Launch) (dC : Nat → ClassId) (dI : Nat → Nat → Nat) (h0 : Nat) (qw : Nat) (qt : Nat) (qa : Nat) (st : Int32) (si : Int32) (mi : Bool) (cA : ClassId) (f : Nat → Int32) (tb0 : Int32) (fs : Int32) (sz : Nat) (hq0 : isB f) : Met l y_DI_isRight s_DI_isRight ({ frames := 12, cells := 0, slots := 0, locals := 400 }) (va_Pc [.ref h0, .int fs] (fun U => U.heap.size = sz ∧ va_P (dC, dI) cls_ [(h0, .inr (2, [.ref qw, .ref qt, .int tb0])), (qw, .inr (0, [.ref qa, .int st, .int si, .int (bI mi)])), (qa, .inl (cA, 1200, .inl (f)))] U.heap ∧ va_K (dC, dI) cls_ [(cA, .int)] U ∧ va_D (fun _ => True) [(h0, .inr (2, [.ref qw, .ref qt, .int tb0])), (qw, .inr (0, [.ref qa, .int st, .int si, .int (bI mi)])), (qa, .inl (cA, 1200, .inl (f)))])) (va_Qi (fun (r : Int32) (_ : Unit) => ∃ b9 : Bool, r = bI b9) (fun (_ : Unit) (t : State) => ∃ (m2 : Bool) (a : Nat) (n : Nat) (tb : Int32), a + n ≤ 1200 ∧ va_P (dC, dI) cls_ [(h0, .inr (2, [.ref qw, .ref qt, .int tb])), (qw, .inr (0, [.ref qa, .int (nI (a)), .int (nI (n)), .int (bI m2)])), (qa, .inl (cA, 1200, .inl (f)))] t.heap ∧ va_K (dC, dI) cls_ [(cA, .int)] t ∧ va_D (va_A [(h0, .inr (2, [.ref qw, .ref qt, .int tb0])), (qw, .inr (0, [.ref qa, .int st, .int si, .int (bI mi)])), (qa, .inl (cA, 1200, .inl (f)))] sz) [(h0, .inr (2, [.ref qw, .ref qt, .int tb])), (qw, .inr (0, [.ref qa, .int (nI (a)), .int (nI (n)), .int (bI m2)])), (qa, .inl (cA, 1200, .inl (f)))]) (va_A [(h0, .inr (2, [.ref qw, .ref qt, .int tb0])), (qw, .inr (0, [.ref qa, .int st, .int si, .int (bI mi)])), (qa, .inl (cA, 1200, .inl (f)))] sz)) 0 0 (va_A [(h0, .inr (2, [.ref qw, .ref qt, .int tb0])), (qw, .inr (0, [.ref qa, .int st, .int si, .int (bI mi)])), (qa, .inl (cA, 1200, .inl (f)))] sz) := by
  refine Met.ofW (cc := b_DI_isRight) (maxL := 7) (ret := (some .boolean)) (by decide) rfl ?_
  intro p e s m args below meth c s₁ B hml hv
  obtain ⟨rfl, hsz, hP, hK, hD0⟩ := hv
  have hx := B.exec
  have hb := B.bytes
  have hr := B.returns
  have hts := atoms_spec (ws := s_DI_isRight) B.pre
  have hown : s.vm.findClass R_DI = some m.cls := findClass_of_methodNamed B.named
  have hlocks := B.notSynchronized
  subst hsz
  have hD := hD0.self (sz := s.heap.size)
  generalize hAe : va_A [(h0, .inr (2, [.ref qw, .ref qt, .int tb0])), (qw, .inr (0, [.ref qa, .int st, .int si, .int (bI mi)])), (qa, .inl (cA, 1200, .inl (f)))] s.heap.size = A at hD ⊢
  have hA : ∀ q : Nat, s.heap.size ≤ q → A q := fun q h => by rw [← hAe]; exact Or.inr h
  have hS : va_S A s.heap s.heap [] := va_S.rf
  have hP : va_P (dC, dI) cls_ [(h0, .inr (2, [.ref qw, .ref qt, .int tb0])), (qw, .inr (0, [.ref qa, .int st, .int si, .int (bI mi)])), (qa, .inl (cA, 1200, .inl (f)))] s.heap := hP
  have hl := lv_entry ([.ref h0, .int fs]) (n := 7) (Nat.le_of_ble_eq_true rfl)
  rw [lg_entry_eq]
  generalize (lg_sl ([.ref h0, .int fs]) ++ List.replicate (7 - (lg_sl ([.ref h0, .int fs])).length) Slot.unset).toArray = ls at hl ⊢
  have hl : lv_has ls 7 [(0, .ref h0), (1, .int fs)] := hl
  refine lv_aload_n hx hb d_DI_isRight_0 rfl (lv_at hl 0 rfl) ?_
  refine va_get (D := (dC, dI)) (ci := 2) (v := .ref qw) (C := R_DI) (T := F_DI) (N := 3) hx hb hts in_DI hown hK hP 0 rfl rfl 0 (by decide) (hts _ (List.mem_cons_of_mem _ w_69)) (fun _ h9 => h9) rfl d_DI_isRight_1 ?_
  refine lv_iconst (v := 0) hx hb d_DI_isRight_4 (by decide) ?_
  refine lv_iload_n hx hb d_DI_isRight_5 rfl (lv_at hl 1 rfl) ?_
  have hPc := hP.sub (ws' := [(qw, .inr (0, [.ref qa, .int st, .int si, .int (bI mi)])), (qa, .inl (cA, 1200, .inl (f)))]) [1, 2] rfl
  have hDc := hD.sub (ws' := [(qw, .inr (0, [.ref qa, .int st, .int si, .int (bI mi)])), (qa, .inl (cA, 1200, .inl (f)))]) [1, 2] (by decide) rfl
  have hKc := hK.sub (tys' := [(cA, .int)]) [0] rfl
  have hFc := va_free (wc := [(qw, .inr (0, [.ref qa, .int st, .int si, .int (bI mi)])), (qa, .inl (cA, 1200, .inl (f)))]) hD hS hA [1, 2] rfl
  refine va_callv (va_runV (As := [.int 0, .int fs]) (rest := []) ⟨hx, hb, hml, hown, hts⟩ (g_SP_lay l dC dI qw qa st si mi cA f 0 fs s.heap.size) (cwV 2 hts (tw_inV w_344 w_345 w_346 w_4 w_347) rfl rfl rfl (by decide +kernel) ⟨Nat.le_of_ble_eq_true rfl, Nat.le_of_ble_eq_true rfl⟩) ⟨fun a U g mk q => by obtain ⟨q0, q1, qP, qK, qD⟩ := q; exact ⟨q0, q1, qP, va_K.moved (u := U) (U := U.calling g mk a) (Vm.Alike.refl U.vm) qK, qD⟩, va_recv (hK := hK) (hP := hP) (q0 := 1) (ci := 0) rfl rfl, fun U hU hW => ⟨rfl, by rw [hU], by rw [hU]; exact hPc, va_K.moved hW.alike hKc, hDc.weaken (fun _ _ _ _ => trivial)⟩⟩ rfl rfl hl.1 rfl (lv_room (Nat.le_of_ble_eq_true rfl)) d_DI_isRight_6 ⟨Nat.le_of_ble_eq_true rfl, Nat.le_of_ble_eq_true rfl⟩) hS (fun q _ h => hFc q h) hFc (fun u t H1 locs ht hvm hw hB hz1 hk1 hS => ?_)
  obtain ⟨a_78, n_79, hq_f80_0, hP1, hK1, hD1⟩ := hB
  rw [ht] at hP1
  have hK1 := va_K.moved hvm.symm hK1
  obtain ⟨hP, hD⟩ := va_join (wr := [(h0, .inr (2, [.ref qw, .ref qt, .int tb0]))]) (w1 := [(qw, .inr (0, [.ref qa, .int (nI (a_78)), .int (nI (n_79)), .int 0])), (qa, .inl (cA, 1200, .inl (f)))]) hP hD [1, 2] [0] rfl rfl (by decide) (by decide) hk1 hFc hP1 hD1
  have hK := (hK.sub (tys' := []) [] rfl).app hK1
  generalize H1 = H at hP hS ⊢
  have hP : va_P (dC, dI) cls_ [(h0, .inr (2, [.ref qw, .ref qt, .int tb0])), (qw, .inr (0, [.ref qa, .int (nI (a_78)), .int (nI (n_79)), .int 0])), (qa, .inl (cA, 1200, .inl (f)))] H := hP
  have hD : va_D A [(h0, .inr (2, [.ref qw, .ref qt, .int tb0])), (qw, .inr (0, [.ref qa, .int (nI (a_78)), .int (nI (n_79)), .int 0])), (qa, .inl (cA, 1200, .inl (f)))] := hD
  have hK : va_K (dC, dI) cls_ [(cA, .int)] s := hK
  refine lv_aload_n hx hb d_DI_isRight_9 rfl (lv_at hl 0 rfl) ?_
  refine lv_aload_n hx hb d_DI_isRight_10 rfl (lv_at hl 0 rfl) ?_
  refine va_get (D := (dC, dI)) (ci := 2) (v := .ref qw) (C := R_DI) (T := F_DI) (N := 3) hx hb hts in_DI hown hK hP 0 rfl rfl 0 (by decide) (hts _ (List.mem_cons_of_mem _ w_69)) (fun _ h9 => h9) rfl d_DI_isRight_11 ?_
  refine lv_iconst (v := 4) hx hb d_DI_isRight_14 (by decide) ?_
  have hPc := hP.sub (ws' := [(qw, .inr (0, [.ref qa, .int (nI (a_78)), .int (nI (n_79)), .int 0])), (qa, .inl (cA, 1200, .inl (f)))]) [1, 2] rfl
  have hDc := hD.sub (ws' := [(qw, .inr (0, [.ref qa, .int (nI (a_78)), .int (nI (n_79)), .int 0])), (qa, .inl (cA, 1200, .inl (f)))]) [1, 2] (by decide) rfl
  have hKc := hK.sub (tys' := [(cA, .int)]) [0] rfl
  have hFc := va_free (wc := [(qw, .inr (0, [.ref qa, .int (nI (a_78)), .int (nI (n_79)), .int 0])), (qa, .inl (cA, 1200, .inl (f)))]) hD hS hA [1, 2] rfl
  refine va_calli (va_runV (As := [.int 4]) (rest := [.ref h0]) ⟨hx, hb, hml, hown, hts⟩ (g_SP_u16 l dC dI qw qa a_78 n_79 false cA f 4 H.size (by omega) (by assumption)) (cwV 1 hts (tw_inV w_352 w_353 w_354 w_4 w_355) rfl rfl rfl (by decide +kernel) ⟨Nat.le_of_ble_eq_true rfl, Nat.le_of_ble_eq_true rfl⟩) ⟨fun a U g mk q => by obtain ⟨q0, q1, qP, qK, qD⟩ := q; exact ⟨q0, q1, qP, va_K.moved (u := U) (U := U.calling g mk a) (Vm.Alike.refl U.vm) qK, qD⟩, va_recv (hK := hK) (hP := hP) (q0 := 1) (ci := 0) rfl rfl, fun U hU hW => ⟨rfl, by rw [hU], by rw [hU]; exact hPc, va_K.moved hW.alike hKc, hDc.weaken (fun _ _ _ _ => trivial)⟩⟩ rfl rfl hl.1 rfl (lv_room (Nat.le_of_ble_eq_true rfl)) d_DI_isRight_15 ⟨Nat.le_of_ble_eq_true rfl, Nat.le_of_ble_eq_true rfl⟩) hS (fun q _ h => hFc q h) hFc (fun r81 u t H1 locs ht hvm hw hB hz1 hk1 hS => ?_)
  obtain ⟨m_82, hP1, hK1, hD1⟩ := hB
  rw [ht] at hP1
  have hK1 := va_K.moved hvm.symm hK1
  obtain ⟨hP, hD⟩ := va_join (wr := [(h0, .inr (2, [.ref qw, .ref qt, .int tb0]))]) (w1 := [(qw, .inr (0, [.ref qa, .int (nI (a_78)), .int (nI (n_79)), .int (bI m_82)])), (qa, .inl (cA, 1200, .inl (f)))]) hP hD [1, 2] [0] rfl rfl (by decide) (by decide) hk1 hFc hP1 hD1
  have hK := (hK.sub (tys' := []) [] rfl).app hK1
  generalize H1 = H at hP hS ⊢
  have hP : va_P (dC, dI) cls_ [(h0, .inr (2, [.ref qw, .ref qt, .int tb0])), (qw, .inr (0, [.ref qa, .int (nI (a_78)), .int (nI (n_79)), .int (bI m_82)])), (qa, .inl (cA, 1200, .inl (f)))] H := hP
  have hD : va_D A [(h0, .inr (2, [.ref qw, .ref qt, .int tb0])), (qw, .inr (0, [.ref qa, .int (nI (a_78)), .int (nI (n_79)), .int (bI m_82)])), (qa, .inl (cA, 1200, .inl (f)))] := hD
  have hK : va_K (dC, dI) cls_ [(cA, .int)] s := hK
  have hw_r81 := hw
  obtain ⟨kn83, hb_kn83, rfl⟩ := hw_r81
  refine va_put (D := (dC, dI)) (ci := 2) (v := .int (nI (kn83))) (ty := .int) (C := R_DI) (T := F_DI) (N := 3) hx hb hts in_DI t_DI t_DI_ok n_DI hown hK hP hD hS 0 rfl rfl 2 (by decide) (hts _ (List.mem_cons_of_mem _ w_71)) (fun _ h9 => h9) rfl  (by decide +kernel) rfl rfl (Nat.le_of_ble_eq_true rfl) d_DI_isRight_18 (fun H locs hP hD hS => ?_)
  have hP : va_P (dC, dI) cls_ [(h0, .inr (2, [.ref qw, .ref qt, .int (nI (kn83))])), (qw, .inr (0, [.ref qa, .int (nI (a_78)), .int (nI (n_79)), .int (bI m_82)])), (qa, .inl (cA, 1200, .inl (f)))] H := hP
  have hD : va_D A [(h0, .inr (2, [.ref qw, .ref qt, .int (nI (kn83))])), (qw, .inr (0, [.ref qa, .int (nI (a_78)), .int (nI (n_79)), .int (bI m_82)])), (qa, .inl (cA, 1200, .inl (f)))] := hD
  refine lv_aload_n hx hb d_DI_isRight_21 rfl (lv_at hl 0 rfl) ?_
  refine va_get (D := (dC, dI)) (ci := 2) (v := .ref qw) (C := R_DI) (T := F_DI) (N := 3) hx hb hts in_DI hown hK hP 0 rfl rfl 0 (by decide) (hts _ (List.mem_cons_of_mem _ w_69)) (fun _ h9 => h9) rfl d_DI_isRight_22 ?_
  refine lv_iconst (v := 0) hx hb d_DI_isRight_25 (by decide) ?_
  have hPc := hP.sub (ws' := [(qw, .inr (0, [.ref qa, .int (nI (a_78)), .int (nI (n_79)), .int (bI m_82)])), (qa, .inl (cA, 1200, .inl (f)))]) [1, 2] rfl
  have hDc := hD.sub (ws' := [(qw, .inr (0, [.ref qa, .int (nI (a_78)), .int (nI (n_79)), .int (bI m_82)])), (qa, .inl (cA, 1200, .inl (f)))]) [1, 2] (by decide) rfl
  have hKc := hK.sub (tys' := [(cA, .int)]) [0] rfl
  have hFc := va_free (wc := [(qw, .inr (0, [.ref qa, .int (nI (a_78)), .int (nI (n_79)), .int (bI m_82)])), (qa, .inl (cA, 1200, .inl (f)))]) hD hS hA [1, 2] rfl
  refine va_calll (va_runV (As := [.int 0]) (rest := []) ⟨hx, hb, hml, hown, hts⟩ (g_SP_u32 l dC dI qw qa a_78 n_79 m_82 cA f 0 H.size (by omega) (by assumption)) (cwV 1 hts (tw_inV w_356 w_357 w_358 w_4 w_359) rfl rfl rfl (by decide +kernel) ⟨Nat.le_of_ble_eq_true rfl, Nat.le_of_ble_eq_true rfl⟩) ⟨fun a U g mk q => by obtain ⟨q0, q1, qP, qK, qD⟩ := q; exact ⟨q0, q1, qP, va_K.moved (u := U) (U := U.calling g mk a) (Vm.Alike.refl U.vm) qK, qD⟩, va_recv (hK := hK) (hP := hP) (q0 := 1) (ci := 0) rfl rfl, fun U hU hW => ⟨rfl, by rw [hU], by rw [hU]; exact hPc, va_K.moved hW.alike hKc, hDc.weaken (fun _ _ _ _ => trivial)⟩⟩ rfl rfl hl.1 rfl (lv_room (Nat.le_of_ble_eq_true rfl)) d_DI_isRight_26 ⟨Nat.le_of_ble_eq_true rfl, Nat.le_of_ble_eq_true rfl⟩) hS (fun q _ h => hFc q h) hFc (fun r84 u t H1 locs ht hvm hw hB hz1 hk1 hS => ?_)
  obtain ⟨m_85, hP1, hK1, hD1⟩ := hB
  rw [ht] at hP1
  have hK1 := va_K.moved hvm.symm hK1
  obtain ⟨hP, hD⟩ := va_join (wr := [(h0, .inr (2, [.ref qw, .ref qt, .int (nI (kn83))]))]) (w1 := [(qw, .inr (0, [.ref qa, .int (nI (a_78)), .int (nI (n_79)), .int (bI m_85)])), (qa, .inl (cA, 1200, .inl (f)))]) hP hD [1, 2] [0] rfl rfl (by decide) (by decide) hk1 hFc hP1 hD1
  have hK := (hK.sub (tys' := []) [] rfl).app hK1
  generalize H1 = H at hP hS ⊢
  have hP : va_P (dC, dI) cls_ [(h0, .inr (2, [.ref qw, .ref qt, .int (nI (kn83))])), (qw, .inr (0, [.ref qa, .int (nI (a_78)), .int (nI (n_79)), .int (bI m_85)])), (qa, .inl (cA, 1200, .inl (f)))] H := hP
  have hD : va_D A [(h0, .inr (2, [.ref qw, .ref qt, .int (nI (kn83))])), (qw, .inr (0, [.ref qa, .int (nI (a_78)), .int (nI (n_79)), .int (bI m_85)])), (qa, .inl (cA, 1200, .inl (f)))] := hD
  have hK : va_K (dC, dI) cls_ [(cA, .int)] s := hK
  have hw_r84 := hw
  refine lv_ldc2 (v := 65536) hx hb hown (hts _ (List.mem_cons_of_mem _ w_360)) d_DI_isRight_29 ?_
  refine W.lcmp hx hb d_DI_isRight_32 ?_
  refine lv_topi (fun v86 ev86 => ?_)
  refine lv_if_ne (tgt := 75) hx hb d_DI_isRight_33 (by decide) (fun hc87 => ?_) (fun hc87 => ?_)
  · skip
    refine lv_iconst (v := 0) hx hb d_DI_isRight_75 (by decide) ?_
    refine W.widen (k := 0) (n := 0) (Nat.le_of_ble_eq_true rfl) (Nat.le_of_ble_eq_true rfl) ?_
    have hP9 := hP.sub (ws' := [(h0, .inr (2, [.ref qw, .ref qt, .int (nI (kn83))])), (qw, .inr (0, [.ref qa, .int (nI (a_78)), .int (nI (n_79)), .int (bI m_85)])), (qa, .inl (cA, 1200, .inl (f)))]) [0, 1, 2] rfl
    have hD9 := hD.sub (ws' := [(h0, .inr (2, [.ref qw, .ref qt, .int (nI (kn83))])), (qw, .inr (0, [.ref qa, .int (nI (a_78)), .int (nI (n_79)), .int (bI m_85)])), (qa, .inl (cA, 1200, .inl (f)))]) [0, 1, 2] (by decide) rfl
    have hK9 := hK.sub (tys' := [(cA, .int)]) [0] rfl
    exact W.zret (v := 0) (ty := .boolean) hx hb hr (by decide +kernel) (fun t ht hW => ⟨⟨0, (), rfl, ⟨false, rfl⟩, m_85, a_78, n_79, (nI (kn83)), by omega, by rw [ht]; exact hP9, va_K.moved hW.alike hK9, hD9⟩, hS.F ht⟩) hS.2.2 d_DI_isRight_76
  · skip
    refine lv_aload_n hx hb d_DI_isRight_36 rfl (lv_at hl 0 rfl) ?_
    refine va_get (D := (dC, dI)) (ci := 2) (v := .int (nI (kn83))) (C := R_DI) (T := F_DI) (N := 3) hx hb hts in_DI hown hK hP 0 rfl rfl 2 (by decide) (hts _ (List.mem_cons_of_mem _ w_71)) (fun _ h9 => h9) rfl d_DI_isRight_37 ?_
    refine lv_iconst (v := 1) hx hb d_DI_isRight_40 (by decide) ?_
    refine lv_icmp_lt (tgt := 75) hx hb d_DI_isRight_41 (by decide) (fun hc88 => ?_) (fun hc88 => ?_)
    · skip
      have hc88n : kn83 < 1 := (nI_ltI (a := kn83) (b := 1) (by omega) (by omega)).mp hc88
      refine lv_iconst (v := 0) hx hb d_DI_isRight_75 (by decide) ?_
      refine W.widen (k := 0) (n := 0) (Nat.le_of_ble_eq_true rfl) (Nat.le_of_ble_eq_true rfl) ?_
      have hP9 := hP.sub (ws' := [(h0, .inr (2, [.ref qw, .ref qt, .int (nI (kn83))])), (qw, .inr (0, [.ref qa, .int (nI (a_78)), .int (nI (n_79)), .int (bI m_85)])), (qa, .inl (cA, 1200, .inl (f)))]) [0, 1, 2] rfl
      have hD9 := hD.sub (ws' := [(h0, .inr (2, [.ref qw, .ref qt, .int (nI (kn83))])), (qw, .inr (0, [.ref qa, .int (nI (a_78)), .int (nI (n_79)), .int (bI m_85)])), (qa, .inl (cA, 1200, .inl (f)))]) [0, 1, 2] (by decide) rfl
      have hK9 := hK.sub (tys' := [(cA, .int)]) [0] rfl
      exact W.zret (v := 0) (ty := .boolean) hx hb hr (by decide +kernel) (fun t ht hW => ⟨⟨0, (), rfl, ⟨false, rfl⟩, m_85, a_78, n_79, (nI (kn83)), by omega, by rw [ht]; exact hP9, va_K.moved hW.alike hK9, hD9⟩, hS.F ht⟩) hS.2.2 d_DI_isRight_76
    · skip
      have hc88n : ¬ (kn83 < 1) := fun z => hc88 ((nI_ltI (a := kn83) (b := 1) (by omega) (by omega)).mpr z)
      refine lv_aload_n hx hb d_DI_isRight_44 rfl (lv_at hl 0 rfl) ?_
      refine va_get (D := (dC, dI)) (ci := 2) (v := .int (nI (kn83))) (C := R_DI) (T := F_DI) (N := 3) hx hb hts in_DI hown hK hP 0 rfl rfl 2 (by decide) (hts _ (List.mem_cons_of_mem _ w_71)) (fun _ h9 => h9) rfl d_DI_isRight_45 ?_
      refine lv_bipush (v := 16) hx hb d_DI_isRight_48 (by decide) ?_
      refine lv_icmp_gt (tgt := 75) hx hb d_DI_isRight_50 (by decide) (fun hc89 => ?_) (fun hc89 => ?_)
      · skip
        have hc89n : 16 < kn83 := (nI_ltI (a := 16) (b := kn83) (by omega) (by omega)).mp hc89
        refine lv_iconst (v := 0) hx hb d_DI_isRight_75 (by decide) ?_
        refine W.widen (k := 0) (n := 0) (Nat.le_of_ble_eq_true rfl) (Nat.le_of_ble_eq_true rfl) ?_
        have hP9 := hP.sub (ws' := [(h0, .inr (2, [.ref qw, .ref qt, .int (nI (kn83))])), (qw, .inr (0, [.ref qa, .int (nI (a_78)), .int (nI (n_79)), .int (bI m_85)])), (qa, .inl (cA, 1200, .inl (f)))]) [0, 1, 2] rfl
        have hD9 := hD.sub (ws' := [(h0, .inr (2, [.ref qw, .ref qt, .int (nI (kn83))])), (qw, .inr (0, [.ref qa, .int (nI (a_78)), .int (nI (n_79)), .int (bI m_85)])), (qa, .inl (cA, 1200, .inl (f)))]) [0, 1, 2] (by decide) rfl
        have hK9 := hK.sub (tys' := [(cA, .int)]) [0] rfl
        exact W.zret (v := 0) (ty := .boolean) hx hb hr (by decide +kernel) (fun t ht hW => ⟨⟨0, (), rfl, ⟨false, rfl⟩, m_85, a_78, n_79, (nI (kn83)), by omega, by rw [ht]; exact hP9, va_K.moved hW.alike hK9, hD9⟩, hS.F ht⟩) hS.2.2 d_DI_isRight_76
      · skip
        have hc89n : ¬ (16 < kn83) := fun z => hc89 ((nI_ltI (a := 16) (b := kn83) (by omega) (by omega)).mpr z)
        refine lv_aload_n hx hb d_DI_isRight_53 rfl (lv_at hl 0 rfl) ?_
        refine va_get (D := (dC, dI)) (ci := 2) (v := .ref qw) (C := R_DI) (T := F_DI) (N := 3) hx hb hts in_DI hown hK hP 0 rfl rfl 0 (by decide) (hts _ (List.mem_cons_of_mem _ w_69)) (fun _ h9 => h9) rfl d_DI_isRight_54 ?_
        refine lv_ldc2 (v := 12) hx hb hown (hts _ (List.mem_cons_of_mem _ w_361)) d_DI_isRight_57 ?_
        refine lv_ldc2 (v := 16) hx hb hown (hts _ (List.mem_cons_of_mem _ w_362)) d_DI_isRight_60 ?_
        refine lv_aload_n hx hb d_DI_isRight_63 rfl (lv_at hl 0 rfl) ?_
        refine va_get (D := (dC, dI)) (ci := 2) (v := .int (nI (kn83))) (C := R_DI) (T := F_DI) (N := 3) hx hb hts in_DI hown hK hP 0 rfl rfl 2 (by decide) (hts _ (List.mem_cons_of_mem _ w_71)) (fun _ h9 => h9) rfl d_DI_isRight_64 ?_
        refine lv_i2l (v := (nI (kn83)).toInt64) hx hb d_DI_isRight_67 (by first | rfl | decide +kernel) ?_
        refine lv_lmul hx hb d_DI_isRight_68 ?_
        refine lv_topl (fun v90 ev90 => ?_)
        have hPc := hP.sub (ws' := [(qw, .inr (0, [.ref qa, .int (nI (a_78)), .int (nI (n_79)), .int (bI m_85)]))]) [1] rfl
        have hDc := hD.sub (ws' := [(qw, .inr (0, [.ref qa, .int (nI (a_78)), .int (nI (n_79)), .int (bI m_85)]))]) [1] (by decide) rfl
        have hKc := hK.sub (tys' := []) [] rfl
        have hFc := va_free (wc := [(qw, .inr (0, [.ref qa, .int (nI (a_78)), .int (nI (n_79)), .int (bI m_85)]))]) hD hS hA [1] rfl
        refine va_calli (va_runV (As := [.long 12, .long v90]) (rest := []) ⟨hx, hb, hml, hown, hts⟩ (g_SP_holds l dC dI qw qa (nI (a_78)) (nI (n_79)) m_85 12 v90 H.size) (cwV 2 hts (tw_inV w_363 w_364 w_365 w_4 w_366) rfl rfl rfl (by decide +kernel) ⟨Nat.le_of_ble_eq_true rfl, Nat.le_of_ble_eq_true rfl⟩) ⟨fun a U g mk q => by obtain ⟨q0, q1, qP, qK, qD⟩ := q; exact ⟨q0, q1, qP, va_K.moved (u := U) (U := U.calling g mk a) (Vm.Alike.refl U.vm) qK, qD⟩, va_recv (hK := hK) (hP := hP) (q0 := 1) (ci := 0) rfl rfl, fun U hU hW => ⟨rfl, by rw [hU], by rw [hU]; exact hPc, va_K.moved hW.alike hKc, hDc.weaken (fun _ _ _ _ => trivial)⟩⟩ rfl rfl hl.1 rfl (lv_room (Nat.le_of_ble_eq_true rfl)) d_DI_isRight_69 ⟨Nat.le_of_ble_eq_true rfl, Nat.le_of_ble_eq_true rfl⟩) hS (fun q _ h => hFc q h) hFc (fun r91 u t H1 locs ht hvm hw hB hz1 hk1 hS => ?_)
        obtain ⟨hP1, hK1, hD1⟩ := hB
        rw [ht] at hP1
        have hK1 := va_K.moved hvm.symm hK1
        obtain ⟨hP, hD⟩ := va_join (wr := [(h0, .inr (2, [.ref qw, .ref qt, .int (nI (kn83))])), (qa, .inl (cA, 1200, .inl (f)))]) (w1 := [(qw, .inr (0, [.ref qa, .int (nI (a_78)), .int (nI (n_79)), .int (bI m_85)]))]) hP hD [1] [0, 2] rfl rfl (by decide) (by decide) hk1 hFc hP1 hD1
        have hK := (hK.sub (tys' := [(cA, .int)]) [0] rfl).app hK1
        generalize H1 = H at hP hS ⊢
        have hP : va_P (dC, dI) cls_ [(h0, .inr (2, [.ref qw, .ref qt, .int (nI (kn83))])), (qa, .inl (cA, 1200, .inl (f))), (qw, .inr (0, [.ref qa, .int (nI (a_78)), .int (nI (n_79)), .int (bI m_85)]))] H := hP
        have hD : va_D A [(h0, .inr (2, [.ref qw, .ref qt, .int (nI (kn83))])), (qa, .inl (cA, 1200, .inl (f))), (qw, .inr (0, [.ref qa, .int (nI (a_78)), .int (nI (n_79)), .int (bI m_85)]))] := hD
        have hK : va_K (dC, dI) cls_ [(cA, .int)] s := hK
        have hw_r91 := hw
        obtain ⟨bb92, rfl⟩ := hw_r91
        refine lv_if_ne (tgt := 77) hx hb d_DI_isRight_72 (by decide) (fun hc93 => ?_) (fun hc93 => ?_)
        · skip
          have hc93b : bb92 = true := bI_1 hc93
          refine lv_ldc2 (v := (-1)) hx hb hown (hts _ (List.mem_cons_of_mem _ w_367)) d_DI_isRight_77 ?_
          refine lv_lstore_n (lv' := [(2, .long ((-1))), (0, .ref h0), (1, .int fs)]) hx hb d_DI_isRight_80 rfl hl (by decide) rfl (fun ls hl => ?_)
          refine lv_iconst (v := 0) hx hb d_DI_isRight_81 (by decide) ?_
          refine lv_istore (lv' := [(4, .int 0), (2, .long ((-1))), (0, .ref h0), (1, .int fs)]) hx hb d_DI_isRight_82 hl (by decide) rfl (fun ls hl => ?_)
          have hP8 := hP.sub (ws' := [(h0, .inr (2, [.ref qw, .ref qt, .int (nI (kn83))])), (qw, .inr (0, [.ref qa, .int (nI (a_78)), .int (nI (n_79)), .int (bI m_85)])), (qa, .inl (cA, 1200, .inl (f)))]) [0, 2, 1] rfl
          have hD8 := hD.sub (ws' := [(h0, .inr (2, [.ref qw, .ref qt, .int (nI (kn83))])), (qw, .inr (0, [.ref qa, .int (nI (a_78)), .int (nI (n_79)), .int (bI m_85)])), (qa, .inl (cA, 1200, .inl (f)))]) [0, 2, 1] (by decide) rfl
          have hBe0 := cl_lt ((nI (kn83)))
          have hK9 := hK.sub (tys' := [(cA, .int)]) [0] rfl
          refine di_right_loop hx hb hml hts hown hA dC dI h0 qw qt qa st si mi cA f tb0 fs (by assumption) hK9 (fun k_94 bf_95 m_96 a_97 n_98 tb_99 hf_100 hf_101 H locs ls hP hD hS hl => ?_) (fun k_102 bf_103 m_104 a_105 n_106 tb_107 hf_108 hf_109 H locs ls hP hD hS hl => ?_) ((nI (kn83)).toNatClampNeg - 0 + 1) 0 ((-1)) m_85 a_78 n_79 (nI (kn83)) (by omega) (by omega) (by omega) H locs ls hP8 hD8 hS (lv_sub hl [0, 1, 2, 3] rfl)
          · skip
            have hBx0 := cl_lt (tb_99)
            have hK := hK9
            have hP : va_P (dC, dI) cls_ [(h0, .inr (2, [.ref qw, .ref qt, .int tb_99])), (qw, .inr (0, [.ref qa, .int (nI (a_97)), .int (nI (n_98)), .int (bI m_96)])), (qa, .inl (cA, 1200, .inl (f)))] H := hP
            have hD : va_D A [(h0, .inr (2, [.ref qw, .ref qt, .int tb_99])), (qw, .inr (0, [.ref qa, .int (nI (a_97)), .int (nI (n_98)), .int (bI m_96)])), (qa, .inl (cA, 1200, .inl (f)))] := hD
            have hK : va_K (dC, dI) cls_ [(cA, .int)] s := hK
            refine lv_iconst (v := 0) hx hb d_DI_isRight_148 (by decide) ?_
            refine W.widen (k := 0) (n := 0) (Nat.le_of_ble_eq_true rfl) (Nat.le_of_ble_eq_true rfl) ?_
            have hP9 := hP.sub (ws' := [(h0, .inr (2, [.ref qw, .ref qt, .int tb_99])), (qw, .inr (0, [.ref qa, .int (nI (a_97)), .int (nI (n_98)), .int (bI m_96)])), (qa, .inl (cA, 1200, .inl (f)))]) [0, 1, 2] rfl
            have hD9 := hD.sub (ws' := [(h0, .inr (2, [.ref qw, .ref qt, .int tb_99])), (qw, .inr (0, [.ref qa, .int (nI (a_97)), .int (nI (n_98)), .int (bI m_96)])), (qa, .inl (cA, 1200, .inl (f)))]) [0, 1, 2] (by decide) rfl
            have hK9 := hK.sub (tys' := [(cA, .int)]) [0] rfl
            exact W.zret (v := 0) (ty := .boolean) hx hb hr (by decide +kernel) (fun t ht hW => ⟨⟨0, (), rfl, ⟨false, rfl⟩, m_96, a_97, n_98, tb_99, by omega, by rw [ht]; exact hP9, va_K.moved hW.alike hK9, hD9⟩, hS.F ht⟩) hS.2.2 d_DI_isRight_149
          · skip
            have hBx0 := cl_lt (tb_107)
            have hK := hK9
            have hP : va_P (dC, dI) cls_ [(h0, .inr (2, [.ref qw, .ref qt, .int tb_107])), (qw, .inr (0, [.ref qa, .int (nI (a_105)), .int (nI (n_106)), .int (bI m_104)])), (qa, .inl (cA, 1200, .inl (f)))] H := hP
            have hD : va_D A [(h0, .inr (2, [.ref qw, .ref qt, .int tb_107])), (qw, .inr (0, [.ref qa, .int (nI (a_105)), .int (nI (n_106)), .int (bI m_104)])), (qa, .inl (cA, 1200, .inl (f)))] := hD
            have hK : va_K (dC, dI) cls_ [(cA, .int)] s := hK
            refine lv_iconst (v := 1) hx hb d_DI_isRight_159 (by decide) ?_
            refine W.widen (k := 0) (n := 0) (Nat.le_of_ble_eq_true rfl) (Nat.le_of_ble_eq_true rfl) ?_
            have hP9 := hP.sub (ws' := [(h0, .inr (2, [.ref qw, .ref qt, .int tb_107])), (qw, .inr (0, [.ref qa, .int (nI (a_105)), .int (nI (n_106)), .int (bI m_104)])), (qa, .inl (cA, 1200, .inl (f)))]) [0, 1, 2] rfl
            have hD9 := hD.sub (ws' := [(h0, .inr (2, [.ref qw, .ref qt, .int tb_107])), (qw, .inr (0, [.ref qa, .int (nI (a_105)), .int (nI (n_106)), .int (bI m_104)])), (qa, .inl (cA, 1200, .inl (f)))]) [0, 1, 2] (by decide) rfl
            have hK9 := hK.sub (tys' := [(cA, .int)]) [0] rfl
            exact W.zret (v := 1) (ty := .boolean) hx hb hr (by decide +kernel) (fun t ht hW => ⟨⟨1, (), rfl, ⟨true, rfl⟩, m_104, a_105, n_106, tb_107, by omega, by rw [ht]; exact hP9, va_K.moved hW.alike hK9, hD9⟩, hS.F ht⟩) hS.2.2 d_DI_isRight_160
        · skip
          have hc93b : bb92 = false := bI_0 hc93
          refine lv_iconst (v := 0) hx hb d_DI_isRight_75 (by decide) ?_
          refine W.widen (k := 0) (n := 0) (Nat.le_of_ble_eq_true rfl) (Nat.le_of_ble_eq_true rfl) ?_
          have hP9 := hP.sub (ws' := [(h0, .inr (2, [.ref qw, .ref qt, .int (nI (kn83))])), (qw, .inr (0, [.ref qa, .int (nI (a_78)), .int (nI (n_79)), .int (bI m_85)])), (qa, .inl (cA, 1200, .inl (f)))]) [0, 2, 1] rfl
          have hD9 := hD.sub (ws' := [(h0, .inr (2, [.ref qw, .ref qt, .int (nI (kn83))])), (qw, .inr (0, [.ref qa, .int (nI (a_78)), .int (nI (n_79)), .int (bI m_85)])), (qa, .inl (cA, 1200, .inl (f)))]) [0, 2, 1] (by decide) rfl
          have hK9 := hK.sub (tys' := [(cA, .int)]) [0] rfl
          exact W.zret (v := 0) (ty := .boolean) hx hb hr (by decide +kernel) (fun t ht hW => ⟨⟨0, (), rfl, ⟨false, rfl⟩, m_85, a_78, n_79, (nI (kn83)), by omega, by rw [ht]; exact hP9, va_K.moved hW.alike hK9, hD9⟩, hS.F ht⟩) hS.2.2 d_DI_isRight_76
set_option maxHeartbeats 8000000 in
set_option maxRecDepth 100000 in
/-- a loop of GlyphLines$Directory.sumsAgree -/
theorem di_sum_in {p : Program} {l : Launch} {e : Env} {s : State} {m : MethodId} {args : Array Value} {below : List Frame} {meth : Method} {c : Code} {Q : State → Prop} {A : Nat → Prop} (hx : p.tables.exec = Jvm.exec) (hb : c.code = b_DI_sumsAgree) (hml : c.maxLocals = 5) (hts : ∀ w ∈ s_DI_sumsAgree, w.before args s = true) (hown : s.vm.findClass R_DI = some m.cls) (hA : ∀ q : Nat, s.heap.size ≤ q → A q) (dC : Nat → ClassId) (dI : Nat → Nat → Nat) (h0 : Nat) (qw : Nat) (qt : Nat) (qa : Nat) (a : Nat) (n : Nat) (mi : Bool) (cA : ClassId) (f : Nat → Int32) (tb : Int32) (z1 : Int32) (z2 : Int32) (mz : Bool) (hq0 : a + n ≤ 1200) (hq1 : isB f) (k : Nat) (m3 : Bool) (b1 : Nat) (b2 : Nat) (hg0 : b1 + b2 ≤ 1200) (hNs : nests s) (hK : va_K (dC, dI) cls_ [(cA, .int)] s)
    (kx54 : ∀ (x : Nat) (sm : Int64) (m4 : Bool), (x ≤ b2 + 3) → ∀ (H : Heap) (locs : List Loc) (ls : Array Slot), va_P (dC, dI) cls_ [(h0, .inr (2, [.ref qw, .ref qt, .int tb])), (qw, .inr (0, [.ref qa, .int (nI (a)), .int (nI (n)), .int (bI m3)])), (qt, .inr (0, [.ref qa, .int (nI (b1)), .int (nI (b2)), .int (bI m4)])), (qa, .inl (cA, 1200, .inl (f)))] H → va_D A [(h0, .inr (2, [.ref qw, .ref qt, .int tb])), (qw, .inr (0, [.ref qa, .int (nI (a)), .int (nI (n)), .int (bI m3)])), (qt, .inr (0, [.ref qa, .int (nI (b1)), .int (nI (b2)), .int (bI m4)])), (qa, .inl (cA, 1200, .inl (f)))] → va_S A s.heap H locs → lv_has ls 5 [(4, .int (nI (x))), (2, .long sm), (1, .int (nI (k))), (0, .ref h0)] → W p l e (headSpec s_DI_sumsAgree ({ frames := 12, cells := 0, slots := 0, locals := 400 })).room s m args below meth c H locs 0 0 Q (F0 m 54 ls []))
    : ∀ (fu : Nat) (x : Nat) (sm : Int64) (m4 : Bool), (x ≤ b2 + 3) → b2 + 4 - x < fu → ∀ (H : Heap) (locs : List Loc) (ls : Array Slot), va_P (dC, dI) cls_ [(h0, .inr (2, [.ref qw, .ref qt, .int tb])), (qw, .inr (0, [.ref qa, .int (nI (a)), .int (nI (n)), .int (bI m3)])), (qt, .inr (0, [.ref qa, .int (nI (b1)), .int (nI (b2)), .int (bI m4)])), (qa, .inl (cA, 1200, .inl (f)))] H → va_D A [(h0, .inr (2, [.ref qw, .ref qt, .int tb])), (qw, .inr (0, [.ref qa, .int (nI (a)), .int (nI (n)), .int (bI m3)])), (qt, .inr (0, [.ref qa, .int (nI (b1)), .int (nI (b2)), .int (bI m4)])), (qa, .inl (cA, 1200, .inl (f)))] → va_S A s.heap H locs → lv_has ls 5 [(4, .int (nI (x))), (2, .long sm), (1, .int (nI (k))), (0, .ref h0)] → W p l e (headSpec s_DI_sumsAgree ({ frames := 12, cells := 0, slots := 0, locals := 400 })).room s m args below meth c H locs 0 0 Q (F0 m 24 ls []) := by
  intro fu
  induction fu with
  | zero => intro x sm m4 hf0 hm; exact absurd hm (Nat.not_lt_zero _)
  | succ fu ih =>
    intro x sm m4 hf0 hm H locs ls hP hD hS hl
    refine lv_iload hx hb d_DI_sumsAgree_24 (lv_at hl 0 rfl) ?_
    refine lv_aload_n hx hb d_DI_sumsAgree_26 rfl (lv_at hl 3 rfl) ?_
    refine va_get (D := (dC, dI)) (ci := 2) (v := .ref qt) (C := R_DI) (T := F_DI) (N := 3) hx hb hts in_DI hown hK hP 0 rfl rfl 1 (by decide) (hts _ (List.mem_cons_of_mem _ w_70)) (fun _ h9 => h9) rfl d_DI_sumsAgree_27 ?_
    refine va_getN (D := (dC, dI)) (ci := 0) (v := .int (nI (b2))) (C := R_SP) (T := F_SP) (N := 4) (host := "GlyphLines") hx hb hts in_SP hown hK hP 2 rfl rfl 2 (by decide) (va_Nw.use rfl (nest_2 hNs)) (fun _ h9 => h9) rfl d_DI_sumsAgree_30 ?_
    refine lv_icmp_ge (tgt := 54) hx hb d_DI_sumsAgree_33 (by decide) (fun hc110 => ?_) (fun hc110 => ?_)
    · skip
      have hc110n : b2 ≤ x := (nI_leI (a := b2) (b := x) (by omega) (by omega)).mp hc110
      have hP8 := hP.sub (ws' := [(h0, .inr (2, [.ref qw, .ref qt, .int tb])), (qw, .inr (0, [.ref qa, .int (nI (a)), .int (nI (n)), .int (bI m3)])), (qt, .inr (0, [.ref qa, .int (nI (b1)), .int (nI (b2)), .int (bI m4)])), (qa, .inl (cA, 1200, .inl (f)))]) [0, 1, 2, 3] rfl
      have hD8 := hD.sub (ws' := [(h0, .inr (2, [.ref qw, .ref qt, .int tb])), (qw, .inr (0, [.ref qa, .int (nI (a)), .int (nI (n)), .int (bI m3)])), (qt, .inr (0, [.ref qa, .int (nI (b1)), .int (nI (b2)), .int (bI m4)])), (qa, .inl (cA, 1200, .inl (f)))]) [0, 1, 2, 3] (by decide) rfl
      exact kx54 x sm m4 (by omega) H locs ls hP8 hD8 hS (lv_sub hl [0, 1, 2, 3] rfl)
    · skip
      have hc110n : ¬ (b2 ≤ x) := fun z => hc110 ((nI_leI (a := b2) (b := x) (by omega) (by omega)).mpr z)
      refine lv_lload_n hx hb d_DI_sumsAgree_36 rfl (lv_at hl 1 rfl) ?_
      refine lv_aload_n hx hb d_DI_sumsAgree_37 rfl (lv_at hl 3 rfl) ?_
      refine va_get (D := (dC, dI)) (ci := 2) (v := .ref qt) (C := R_DI) (T := F_DI) (N := 3) hx hb hts in_DI hown hK hP 0 rfl rfl 1 (by decide) (hts _ (List.mem_cons_of_mem _ w_70)) (fun _ h9 => h9) rfl d_DI_sumsAgree_38 ?_
      refine lv_iload hx hb d_DI_sumsAgree_41 (lv_at hl 0 rfl) ?_
      have hPc := hP.sub (ws' := [(qt, .inr (0, [.ref qa, .int (nI (b1)), .int (nI (b2)), .int (bI m4)])), (qa, .inl (cA, 1200, .inl (f)))]) [2, 3] rfl
      have hDc := hD.sub (ws' := [(qt, .inr (0, [.ref qa, .int (nI (b1)), .int (nI (b2)), .int (bI m4)])), (qa, .inl (cA, 1200, .inl (f)))]) [2, 3] (by decide) rfl
      have hKc := hK.sub (tys' := [(cA, .int)]) [0] rfl
      have hFc := va_free (wc := [(qt, .inr (0, [.ref qa, .int (nI (b1)), .int (nI (b2)), .int (bI m4)])), (qa, .inl (cA, 1200, .inl (f)))]) hD hS hA [2, 3] rfl
      refine va_calll (va_runV (As := [.int (nI (x))]) (rest := [.long sm]) ⟨hx, hb, hml, hown, hts⟩ (g_SP_u32 l dC dI qt qa b1 b2 m4 cA f (nI (x)) H.size (by omega) (by assumption)) (cwV 1 hts (tw_inV w_356 w_357 w_358 w_4 w_359) rfl rfl rfl (by decide +kernel) ⟨Nat.le_of_ble_eq_true rfl, Nat.le_of_ble_eq_true rfl⟩) ⟨fun a U g mk q => by obtain ⟨q0, q1, qP, qK, qD⟩ := q; exact ⟨q0, q1, qP, va_K.moved (u := U) (U := U.calling g mk a) (Vm.Alike.refl U.vm) qK, qD⟩, va_recv (hK := hK) (hP := hP) (q0 := 2) (ci := 0) rfl rfl, fun U hU hW => ⟨rfl, by rw [hU], by rw [hU]; exact hPc, va_K.moved hW.alike hKc, hDc.weaken (fun _ _ _ _ => trivial)⟩⟩ rfl rfl hl.1 rfl (lv_room (Nat.le_of_ble_eq_true rfl)) d_DI_sumsAgree_43 ⟨Nat.le_of_ble_eq_true rfl, Nat.le_of_ble_eq_true rfl⟩) hS (fun q _ h => hFc q h) hFc (fun r111 u t H1 locs ht hvm hw hB hz1 hk1 hS => ?_)
      obtain ⟨m_112, hP1, hK1, hD1⟩ := hB
      rw [ht] at hP1
      have hK1 := va_K.moved hvm.symm hK1
      obtain ⟨hP, hD⟩ := va_join (wr := [(h0, .inr (2, [.ref qw, .ref qt, .int tb])), (qw, .inr (0, [.ref qa, .int (nI (a)), .int (nI (n)), .int (bI m3)]))]) (w1 := [(qt, .inr (0, [.ref qa, .int (nI (b1)), .int (nI (b2)), .int (bI m_112)])), (qa, .inl (cA, 1200, .inl (f)))]) hP hD [2, 3] [0, 1] rfl rfl (by decide) (by decide) hk1 hFc hP1 hD1
      have hK := (hK.sub (tys' := []) [] rfl).app hK1
      generalize H1 = H at hP hS ⊢
      have hP : va_P (dC, dI) cls_ [(h0, .inr (2, [.ref qw, .ref qt, .int tb])), (qw, .inr (0, [.ref qa, .int (nI (a)), .int (nI (n)), .int (bI m3)])), (qt, .inr (0, [.ref qa, .int (nI (b1)), .int (nI (b2)), .int (bI m_112)])), (qa, .inl (cA, 1200, .inl (f)))] H := hP
      have hD : va_D A [(h0, .inr (2, [.ref qw, .ref qt, .int tb])), (qw, .inr (0, [.ref qa, .int (nI (a)), .int (nI (n)), .int (bI m3)])), (qt, .inr (0, [.ref qa, .int (nI (b1)), .int (nI (b2)), .int (bI m_112)])), (qa, .inl (cA, 1200, .inl (f)))] := hD
      have hK : va_K (dC, dI) cls_ [(cA, .int)] s := hK
      have hw_r111 := hw
      refine lv_ladd hx hb d_DI_sumsAgree_46 ?_
      refine lv_topl (fun v113 ev113 => ?_)
      refine lv_lstore_n (lv' := [(2, .long v113), (4, .int (nI (x))), (1, .int (nI (k))), (0, .ref h0)]) hx hb d_DI_sumsAgree_47 rfl hl (by decide) rfl (fun ls hl => ?_)
      refine lv_iinc (k := 1) (v := nI (x + 4)) (lv' := [(4, .int (nI (x + 4))), (2, .long v113), (1, .int (nI (k))), (0, .ref h0)]) hx hb d_DI_sumsAgree_48 hl rfl (nI_add (x) 4) (by decide) rfl (fun ls hl => ?_)
      refine lv_goto (tgt := 24) hx hb d_DI_sumsAgree_51 (by decide) ?_
      have hP8 := hP.sub (ws' := [(h0, .inr (2, [.ref qw, .ref qt, .int tb])), (qw, .inr (0, [.ref qa, .int (nI (a)), .int (nI (n)), .int (bI m3)])), (qt, .inr (0, [.ref qa, .int (nI (b1)), .int (nI (b2)), .int (bI m_112)])), (qa, .inl (cA, 1200, .inl (f)))]) [0, 1, 2, 3] rfl
      have hD8 := hD.sub (ws' := [(h0, .inr (2, [.ref qw, .ref qt, .int tb])), (qw, .inr (0, [.ref qa, .int (nI (a)), .int (nI (n)), .int (bI m3)])), (qt, .inr (0, [.ref qa, .int (nI (b1)), .int (nI (b2)), .int (bI m_112)])), (qa, .inl (cA, 1200, .inl (f)))]) [0, 1, 2, 3] (by decide) rfl
      exact ih (x + 4) v113 m_112 (by omega) (by omega) H locs ls hP8 hD8 hS (lv_sub hl [0, 1, 2, 3] rfl)
set_option maxHeartbeats 8000000 in
set_option maxRecDepth 100000 in
/-- a loop of GlyphLines$Directory.sumsAgree -/
theorem di_sum_out {p : Program} {l : Launch} {e : Env} {s : State} {m : MethodId} {args : Array Value} {below : List Frame} {meth : Method} {c : Code} {Q : State → Prop} {A : Nat → Prop} (hx : p.tables.exec = Jvm.exec) (hb : c.code = b_DI_sumsAgree) (hml : c.maxLocals = 5) (hts : ∀ w ∈ s_DI_sumsAgree, w.before args s = true) (hown : s.vm.findClass R_DI = some m.cls) (hA : ∀ q : Nat, s.heap.size ≤ q → A q) (dC : Nat → ClassId) (dI : Nat → Nat → Nat) (h0 : Nat) (qw : Nat) (qt : Nat) (qa : Nat) (a : Nat) (n : Nat) (mi : Bool) (cA : ClassId) (f : Nat → Int32) (tb : Int32) (z1 : Int32) (z2 : Int32) (mz : Bool) (hq0 : a + n ≤ 1200) (hq1 : isB f) (hNs : nests s) (hK : va_K (dC, dI) cls_ [(cA, .int)] s)
    (kx76 : ∀ (k : Nat) (m3 : Bool) (z1 : Int32) (z2 : Int32) (mz : Bool), (k ≤ tb.toNatClampNeg) → ∀ (H : Heap) (locs : List Loc) (ls : Array Slot), va_P (dC, dI) cls_ [(h0, .inr (2, [.ref qw, .ref qt, .int tb])), (qw, .inr (0, [.ref qa, .int (nI (a)), .int (nI (n)), .int (bI m3)])), (qt, .inr (0, [.ref qa, .int z1, .int z2, .int (bI mz)])), (qa, .inl (cA, 1200, .inl (f)))] H → va_D A [(h0, .inr (2, [.ref qw, .ref qt, .int tb])), (qw, .inr (0, [.ref qa, .int (nI (a)), .int (nI (n)), .int (bI m3)])), (qt, .inr (0, [.ref qa, .int z1, .int z2, .int (bI mz)])), (qa, .inl (cA, 1200, .inl (f)))] → va_S A s.heap H locs → lv_has ls 5 [(1, .int (nI (k))), (0, .ref h0)] → W p l e (headSpec s_DI_sumsAgree ({ frames := 12, cells := 0, slots := 0, locals := 400 })).room s m args below meth c H locs 0 0 Q (F0 m 76 ls []))
    (kx84 : ∀ (k : Nat) (m3 : Bool) (z1 : Int32) (z2 : Int32) (mz : Bool), (k ≤ tb.toNatClampNeg) → ∀ (H : Heap) (locs : List Loc) (ls : Array Slot), va_P (dC, dI) cls_ [(h0, .inr (2, [.ref qw, .ref qt, .int tb])), (qw, .inr (0, [.ref qa, .int (nI (a)), .int (nI (n)), .int (bI m3)])), (qt, .inr (0, [.ref qa, .int z1, .int z2, .int (bI mz)])), (qa, .inl (cA, 1200, .inl (f)))] H → va_D A [(h0, .inr (2, [.ref qw, .ref qt, .int tb])), (qw, .inr (0, [.ref qa, .int (nI (a)), .int (nI (n)), .int (bI m3)])), (qt, .inr (0, [.ref qa, .int z1, .int z2, .int (bI mz)])), (qa, .inl (cA, 1200, .inl (f)))] → va_S A s.heap H locs → lv_has ls 5 [(1, .int (nI (k))), (0, .ref h0)] → W p l e (headSpec s_DI_sumsAgree ({ frames := 12, cells := 0, slots := 0, locals := 400 })).room s m args below meth c H locs 0 0 Q (F0 m 84 ls []))
    : ∀ (fu : Nat) (k : Nat) (m3 : Bool) (z1 : Int32) (z2 : Int32) (mz : Bool), (k ≤ tb.toNatClampNeg) → tb.toNatClampNeg - k < fu → ∀ (H : Heap) (locs : List Loc) (ls : Array Slot), va_P (dC, dI) cls_ [(h0, .inr (2, [.ref qw, .ref qt, .int tb])), (qw, .inr (0, [.ref qa, .int (nI (a)), .int (nI (n)), .int (bI m3)])), (qt, .inr (0, [.ref qa, .int z1, .int z2, .int (bI mz)])), (qa, .inl (cA, 1200, .inl (f)))] H → va_D A [(h0, .inr (2, [.ref qw, .ref qt, .int tb])), (qw, .inr (0, [.ref qa, .int (nI (a)), .int (nI (n)), .int (bI m3)])), (qt, .inr (0, [.ref qa, .int z1, .int z2, .int (bI mz)])), (qa, .inl (cA, 1200, .inl (f)))] → va_S A s.heap H locs → lv_has ls 5 [(1, .int (nI (k))), (0, .ref h0)] → W p l e (headSpec s_DI_sumsAgree ({ frames := 12, cells := 0, slots := 0, locals := 400 })).room s m args below meth c H locs 0 0 Q (F0 m 2 ls []) := by
  intro fu
  induction fu with
  | zero => intro k m3 z1 z2 mz hf0 hm; exact absurd hm (Nat.not_lt_zero _)
  | succ fu ih =>
    intro k m3 z1 z2 mz hf0 hm H locs ls hP hD hS hl
    have hB0 := cl_lt (tb)
    refine lv_iload_n hx hb d_DI_sumsAgree_2 rfl (lv_at hl 0 rfl) ?_
    refine lv_aload_n hx hb d_DI_sumsAgree_3 rfl (lv_at hl 1 rfl) ?_
    refine va_get (D := (dC, dI)) (ci := 2) (v := .int tb) (C := R_DI) (T := F_DI) (N := 3) hx hb hts in_DI hown hK hP 0 rfl rfl 2 (by decide) (hts _ (List.mem_cons_of_mem _ w_71)) (fun _ h9 => h9) rfl d_DI_sumsAgree_4 ?_
    refine lv_icmp_ge (tgt := 84) hx hb d_DI_sumsAgree_7 (by decide) (fun hc114 => ?_) (fun hc114 => ?_)
    · skip
      have hP8 := hP.sub (ws' := [(h0, .inr (2, [.ref qw, .ref qt, .int tb])), (qw, .inr (0, [.ref qa, .int (nI (a)), .int (nI (n)), .int (bI m3)])), (qt, .inr (0, [.ref qa, .int z1, .int z2, .int (bI mz)])), (qa, .inl (cA, 1200, .inl (f)))]) [0, 1, 2, 3] rfl
      have hD8 := hD.sub (ws' := [(h0, .inr (2, [.ref qw, .ref qt, .int tb])), (qw, .inr (0, [.ref qa, .int (nI (a)), .int (nI (n)), .int (bI m3)])), (qt, .inr (0, [.ref qa, .int z1, .int z2, .int (bI mz)])), (qa, .inl (cA, 1200, .inl (f)))]) [0, 1, 2, 3] (by decide) rfl
      exact kx84 k m3 z1 z2 mz (by omega) H locs ls hP8 hD8 hS (lv_sub hl [0, 1] rfl)
    · skip
      have hc114B := cl_lt (tb)
      have hc114n : k < (tb).toNatClampNeg := cl_of (k := k) (by omega) hc114
      refine lv_aload_n hx hb d_DI_sumsAgree_10 rfl (lv_at hl 1 rfl) ?_
      refine lv_iload_n hx hb d_DI_sumsAgree_11 rfl (lv_at hl 0 rfl) ?_
      refine lv_aload_n hx hb d_DI_sumsAgree_12 rfl (lv_at hl 1 rfl) ?_
      refine va_get (D := (dC, dI)) (ci := 2) (v := .ref qt) (C := R_DI) (T := F_DI) (N := 3) hx hb hts in_DI hown hK hP 0 rfl rfl 1 (by decide) (hts _ (List.mem_cons_of_mem _ w_70)) (fun _ h9 => h9) rfl d_DI_sumsAgree_13 ?_
      have hPc := hP.sub (ws' := [(h0, .inr (2, [.ref qw, .ref qt, .int tb])), (qw, .inr (0, [.ref qa, .int (nI (a)), .int (nI (n)), .int (bI m3)])), (qt, .inr (0, [.ref qa, .int z1, .int z2, .int (bI mz)])), (qa, .inl (cA, 1200, .inl (f)))]) [0, 1, 2, 3] rfl
      have hDc := hD.sub (ws' := [(h0, .inr (2, [.ref qw, .ref qt, .int tb])), (qw, .inr (0, [.ref qa, .int (nI (a)), .int (nI (n)), .int (bI m3)])), (qt, .inr (0, [.ref qa, .int z1, .int z2, .int (bI mz)])), (qa, .inl (cA, 1200, .inl (f)))]) [0, 1, 2, 3] (by decide) rfl
      have hKc := hK.sub (tys' := [(cA, .int)]) [0] rfl
      have hFc := va_free (wc := [(h0, .inr (2, [.ref qw, .ref qt, .int tb])), (qw, .inr (0, [.ref qa, .int (nI (a)), .int (nI (n)), .int (bI m3)])), (qt, .inr (0, [.ref qa, .int z1, .int z2, .int (bI mz)])), (qa, .inl (cA, 1200, .inl (f)))]) hD hS hA [0, 1, 2, 3] rfl
      refine va_callv (va_runV (As := [.int (nI (k)), .ref qt]) (rest := []) ⟨hx, hb, hml, hown, hts⟩ (g_DI_layTable l dC dI h0 qw qt qa a n m3 cA f tb qt z1 z2 mz (nI (k)) H.size (by omega) (by assumption)) (cwV 2 hts (tw_inV w_379 w_381 wp_1 w_3 w_382) rfl rfl rfl (by decide +kernel) ⟨Nat.le_of_ble_eq_true rfl, Nat.le_of_ble_eq_true rfl⟩) ⟨fun a U g mk q => by obtain ⟨q0, q1, qP, qK, qD⟩ := q; exact ⟨q0, q1, qP, va_K.moved (u := U) (U := U.calling g mk a) (Vm.Alike.refl U.vm) qK, qD⟩, va_recv (hK := hK) (hP := hP) (q0 := 0) (ci := 2) rfl rfl, fun U hU hW => ⟨rfl, by rw [hU], by rw [hU]; exact hPc, va_K.moved hW.alike hKc, hDc.weaken (fun _ _ _ _ => trivial)⟩⟩ rfl rfl hl.1 rfl (lv_room (Nat.le_of_ble_eq_true rfl)) d_DI_sumsAgree_16 ⟨Nat.le_of_ble_eq_true rfl, Nat.le_of_ble_eq_true rfl⟩) hS (fun q _ h => hFc q h) hFc (fun u t H1 locs ht hvm hw hB hz1 hk1 hS => ?_)
      obtain ⟨m_115, b_116, b_117, hq_f118_0, hP1, hK1, hD1⟩ := hB
      rw [ht] at hP1
      have hK1 := va_K.moved hvm.symm hK1
      obtain ⟨hP, hD⟩ := va_join (wr := []) (w1 := [(h0, .inr (2, [.ref qw, .ref qt, .int tb])), (qw, .inr (0, [.ref qa, .int (nI (a)), .int (nI (n)), .int (bI m_115)])), (qt, .inr (0, [.ref qa, .int (nI (b_116)), .int (nI (b_117)), .int 0])), (qa, .inl (cA, 1200, .inl (f)))]) hP hD [0, 1, 2, 3] [] rfl rfl (by decide) (by decide) hk1 hFc hP1 hD1
      have hK := (hK.sub (tys' := []) [] rfl).app hK1
      generalize H1 = H at hP hS ⊢
      have hP : va_P (dC, dI) cls_ [(h0, .inr (2, [.ref qw, .ref qt, .int tb])), (qw, .inr (0, [.ref qa, .int (nI (a)), .int (nI (n)), .int (bI m_115)])), (qt, .inr (0, [.ref qa, .int (nI (b_116)), .int (nI (b_117)), .int 0])), (qa, .inl (cA, 1200, .inl (f)))] H := hP
      have hD : va_D A [(h0, .inr (2, [.ref qw, .ref qt, .int tb])), (qw, .inr (0, [.ref qa, .int (nI (a)), .int (nI (n)), .int (bI m_115)])), (qt, .inr (0, [.ref qa, .int (nI (b_116)), .int (nI (b_117)), .int 0])), (qa, .inl (cA, 1200, .inl (f)))] := hD
      have hK : va_K (dC, dI) cls_ [(cA, .int)] s := hK
      refine lv_lconst (v := 0) hx hb d_DI_sumsAgree_19 (by decide) ?_
      refine lv_lstore_n (lv' := [(2, .long 0), (1, .int (nI (k))), (0, .ref h0)]) hx hb d_DI_sumsAgree_20 rfl hl (by decide) rfl (fun ls hl => ?_)
      refine lv_iconst (v := 0) hx hb d_DI_sumsAgree_21 (by decide) ?_
      refine lv_istore (lv' := [(4, .int 0), (2, .long 0), (1, .int (nI (k))), (0, .ref h0)]) hx hb d_DI_sumsAgree_22 hl (by decide) rfl (fun ls hl => ?_)
      have hP8 := hP.sub (ws' := [(h0, .inr (2, [.ref qw, .ref qt, .int tb])), (qw, .inr (0, [.ref qa, .int (nI (a)), .int (nI (n)), .int (bI m_115)])), (qt, .inr (0, [.ref qa, .int (nI (b_116)), .int (nI (b_117)), .int 0])), (qa, .inl (cA, 1200, .inl (f)))]) [0, 1, 2, 3] rfl
      have hD8 := hD.sub (ws' := [(h0, .inr (2, [.ref qw, .ref qt, .int tb])), (qw, .inr (0, [.ref qa, .int (nI (a)), .int (nI (n)), .int (bI m_115)])), (qt, .inr (0, [.ref qa, .int (nI (b_116)), .int (nI (b_117)), .int 0])), (qa, .inl (cA, 1200, .inl (f)))]) [0, 1, 2, 3] (by decide) rfl
      have hK9 := hK.sub (tys' := [(cA, .int)]) [0] rfl
      refine di_sum_in hx hb hml hts hown hA dC dI h0 qw qt qa a n mi cA f tb z1 z2 mz (by omega) (by assumption) k m_115 b_116 b_117 (by omega) hNs hK9 (fun x_119 sm_120 m_121 hf_122 H locs ls hP hD hS hl => ?_) (b_117 + 4 - 0 + 1) 0 0 false (by omega) (by omega) H locs ls hP8 hD8 hS (lv_sub hl [0, 1, 2, 3] rfl)
      · skip
        have hK := hK9
        have hP : va_P (dC, dI) cls_ [(h0, .inr (2, [.ref qw, .ref qt, .int tb])), (qw, .inr (0, [.ref qa, .int (nI (a)), .int (nI (n)), .int (bI m_115)])), (qt, .inr (0, [.ref qa, .int (nI (b_116)), .int (nI (b_117)), .int (bI m_121)])), (qa, .inl (cA, 1200, .inl (f)))] H := hP
        have hD : va_D A [(h0, .inr (2, [.ref qw, .ref qt, .int tb])), (qw, .inr (0, [.ref qa, .int (nI (a)), .int (nI (n)), .int (bI m_115)])), (qt, .inr (0, [.ref qa, .int (nI (b_116)), .int (nI (b_117)), .int (bI m_121)])), (qa, .inl (cA, 1200, .inl (f)))] := hD
        have hK : va_K (dC, dI) cls_ [(cA, .int)] s := hK
        refine lv_lload_n hx hb d_DI_sumsAgree_54 rfl (lv_at hl 1 rfl) ?_
        refine lv_ldc2 (v := 4294967295) hx hb hown (hts _ (List.mem_cons_of_mem _ w_383)) d_DI_sumsAgree_55 ?_
        refine lv_land hx hb d_DI_sumsAgree_58 ?_
        refine lv_topl (fun v123 ev123 => ?_)
        refine lv_aload_n hx hb d_DI_sumsAgree_59 rfl (lv_at hl 3 rfl) ?_
        refine va_get (D := (dC, dI)) (ci := 2) (v := .ref qw) (C := R_DI) (T := F_DI) (N := 3) hx hb hts in_DI hown hK hP 0 rfl rfl 0 (by decide) (hts _ (List.mem_cons_of_mem _ w_69)) (fun _ h9 => h9) rfl d_DI_sumsAgree_60 ?_
        refine lv_iload_n hx hb d_DI_sumsAgree_63 rfl (lv_at hl 2 rfl) ?_
        have hPc := hP.sub (ws' := []) [] rfl
        have hDc := hD.sub (ws' := []) [] (by decide) rfl
        have hKc := hK.sub (tys' := []) [] rfl
        have hFc := va_free (wc := []) hD hS hA [] rfl
        refine va_calli (va_runS (As := [.int (nI (k))]) (rest := [.ref qw, .long v123]) ⟨hx, hb, hml, hown, hts⟩ (g_DI_entry l dC dI (nI (k)) H.size) (cwS 1 hts (tw_inS w_372 w_373 w_3 w_374) rfl rfl rfl (by decide +kernel) ⟨Nat.le_of_ble_eq_true rfl, Nat.le_of_ble_eq_true rfl⟩) ⟨fun a U g mk q => by obtain ⟨q0, q1, qP, qK, qD⟩ := q; exact ⟨q0, q1, qP, va_K.moved (u := U) (U := U.calling g mk a) (Vm.Alike.refl U.vm) qK, qD⟩, fun U hU hW => ⟨rfl, by rw [hU], by rw [hU]; exact hPc, va_K.moved hW.alike hKc, hDc.weaken (fun _ _ _ _ => trivial)⟩⟩ rfl rfl hl.1 rfl (lv_room (Nat.le_of_ble_eq_true rfl)) d_DI_sumsAgree_64 ⟨Nat.le_of_ble_eq_true rfl, Nat.le_of_ble_eq_true rfl⟩) hS (fun q _ h => hFc q h) hFc (fun r124 u t H1 locs ht hvm hw hB hz1 hk1 hS => ?_)
        have hP1 : va_P (dC, dI) cls_ [] H1 := fun k q h => by simp at h
        have hD1 : va_D (va_A [] H.size) [] := ⟨fun i j p q h => by simp at h, fun k q h => by simp at h⟩
        obtain ⟨hP, hD⟩ := va_join (wr := [(h0, .inr (2, [.ref qw, .ref qt, .int tb])), (qw, .inr (0, [.ref qa, .int (nI (a)), .int (nI (n)), .int (bI m_115)])), (qt, .inr (0, [.ref qa, .int (nI (b_116)), .int (nI (b_117)), .int (bI m_121)])), (qa, .inl (cA, 1200, .inl (f)))]) (w1 := []) hP hD [] [0, 1, 2, 3] rfl rfl (by decide) (by decide) hk1 hFc hP1 hD1
        generalize H1 = H at hP hS ⊢
        have hP : va_P (dC, dI) cls_ [(h0, .inr (2, [.ref qw, .ref qt, .int tb])), (qw, .inr (0, [.ref qa, .int (nI (a)), .int (nI (n)), .int (bI m_115)])), (qt, .inr (0, [.ref qa, .int (nI (b_116)), .int (nI (b_117)), .int (bI m_121)])), (qa, .inl (cA, 1200, .inl (f)))] H := hP
        have hD : va_D A [(h0, .inr (2, [.ref qw, .ref qt, .int tb])), (qw, .inr (0, [.ref qa, .int (nI (a)), .int (nI (n)), .int (bI m_115)])), (qt, .inr (0, [.ref qa, .int (nI (b_116)), .int (nI (b_117)), .int (bI m_121)])), (qa, .inl (cA, 1200, .inl (f)))] := hD
        have hw_r124 := hw
        refine lv_iconst (v := 4) hx hb d_DI_sumsAgree_67 (by decide) ?_
        refine lv_iadd hx hb d_DI_sumsAgree_68 ?_
        refine lv_topi (fun v125 ev125 => ?_)
        have hPc := hP.sub (ws' := [(qw, .inr (0, [.ref qa, .int (nI (a)), .int (nI (n)), .int (bI m_115)])), (qa, .inl (cA, 1200, .inl (f)))]) [1, 3] rfl
        have hDc := hD.sub (ws' := [(qw, .inr (0, [.ref qa, .int (nI (a)), .int (nI (n)), .int (bI m_115)])), (qa, .inl (cA, 1200, .inl (f)))]) [1, 3] (by decide) rfl
        have hKc := hK.sub (tys' := [(cA, .int)]) [0] rfl
        have hFc := va_free (wc := [(qw, .inr (0, [.ref qa, .int (nI (a)), .int (nI (n)), .int (bI m_115)])), (qa, .inl (cA, 1200, .inl (f)))]) hD hS hA [1, 3] rfl
        refine va_calll (va_runV (As := [.int v125]) (rest := [.long v123]) ⟨hx, hb, hml, hown, hts⟩ (g_SP_u32 l dC dI qw qa a n m_115 cA f v125 H.size (by omega) (by assumption)) (cwV 1 hts (tw_inV w_356 w_357 w_358 w_4 w_359) rfl rfl rfl (by decide +kernel) ⟨Nat.le_of_ble_eq_true rfl, Nat.le_of_ble_eq_true rfl⟩) ⟨fun a U g mk q => by obtain ⟨q0, q1, qP, qK, qD⟩ := q; exact ⟨q0, q1, qP, va_K.moved (u := U) (U := U.calling g mk a) (Vm.Alike.refl U.vm) qK, qD⟩, va_recv (hK := hK) (hP := hP) (q0 := 1) (ci := 0) rfl rfl, fun U hU hW => ⟨rfl, by rw [hU], by rw [hU]; exact hPc, va_K.moved hW.alike hKc, hDc.weaken (fun _ _ _ _ => trivial)⟩⟩ rfl rfl hl.1 rfl (lv_room (Nat.le_of_ble_eq_true rfl)) d_DI_sumsAgree_69 ⟨Nat.le_of_ble_eq_true rfl, Nat.le_of_ble_eq_true rfl⟩) hS (fun q _ h => hFc q h) hFc (fun r126 u t H1 locs ht hvm hw hB hz1 hk1 hS => ?_)
        obtain ⟨m_127, hP1, hK1, hD1⟩ := hB
        rw [ht] at hP1
        have hK1 := va_K.moved hvm.symm hK1
        obtain ⟨hP, hD⟩ := va_join (wr := [(h0, .inr (2, [.ref qw, .ref qt, .int tb])), (qt, .inr (0, [.ref qa, .int (nI (b_116)), .int (nI (b_117)), .int (bI m_121)]))]) (w1 := [(qw, .inr (0, [.ref qa, .int (nI (a)), .int (nI (n)), .int (bI m_127)])), (qa, .inl (cA, 1200, .inl (f)))]) hP hD [1, 3] [0, 2] rfl rfl (by decide) (by decide) hk1 hFc hP1 hD1
        have hK := (hK.sub (tys' := []) [] rfl).app hK1
        generalize H1 = H at hP hS ⊢
        have hP : va_P (dC, dI) cls_ [(h0, .inr (2, [.ref qw, .ref qt, .int tb])), (qt, .inr (0, [.ref qa, .int (nI (b_116)), .int (nI (b_117)), .int (bI m_121)])), (qw, .inr (0, [.ref qa, .int (nI (a)), .int (nI (n)), .int (bI m_127)])), (qa, .inl (cA, 1200, .inl (f)))] H := hP
        have hD : va_D A [(h0, .inr (2, [.ref qw, .ref qt, .int tb])), (qt, .inr (0, [.ref qa, .int (nI (b_116)), .int (nI (b_117)), .int (bI m_121)])), (qw, .inr (0, [.ref qa, .int (nI (a)), .int (nI (n)), .int (bI m_127)])), (qa, .inl (cA, 1200, .inl (f)))] := hD
        have hK : va_K (dC, dI) cls_ [(cA, .int)] s := hK
        have hw_r126 := hw
        refine W.lcmp hx hb d_DI_sumsAgree_72 ?_
        refine lv_topi (fun v128 ev128 => ?_)
        refine lv_if_eq (tgt := 78) hx hb d_DI_sumsAgree_73 (by decide) (fun hc129 => ?_) (fun hc129 => ?_)
        · skip
          refine lv_iinc (k := 2) (v := nI (k + 1)) (lv' := [(1, .int (nI (k + 1))), (4, .int (nI (x_119))), (2, .long sm_120), (0, .ref h0)]) hx hb d_DI_sumsAgree_78 hl rfl (nI_add (k) 1) (by decide) rfl (fun ls hl => ?_)
          refine lv_goto (tgt := 2) hx hb d_DI_sumsAgree_81 (by decide) ?_
          have hP8 := hP.sub (ws' := [(h0, .inr (2, [.ref qw, .ref qt, .int tb])), (qw, .inr (0, [.ref qa, .int (nI (a)), .int (nI (n)), .int (bI m_127)])), (qt, .inr (0, [.ref qa, .int (nI (b_116)), .int (nI (b_117)), .int (bI m_121)])), (qa, .inl (cA, 1200, .inl (f)))]) [0, 2, 1, 3] rfl
          have hD8 := hD.sub (ws' := [(h0, .inr (2, [.ref qw, .ref qt, .int tb])), (qw, .inr (0, [.ref qa, .int (nI (a)), .int (nI (n)), .int (bI m_127)])), (qt, .inr (0, [.ref qa, .int (nI (b_116)), .int (nI (b_117)), .int (bI m_121)])), (qa, .inl (cA, 1200, .inl (f)))]) [0, 2, 1, 3] (by decide) rfl
          exact ih (k + 1) m_127 (nI (b_116)) (nI (b_117)) m_121 (by omega) (by omega) H locs ls hP8 hD8 hS (lv_sub hl [0, 3] rfl)
        · skip
          have hP8 := hP.sub (ws' := [(h0, .inr (2, [.ref qw, .ref qt, .int tb])), (qw, .inr (0, [.ref qa, .int (nI (a)), .int (nI (n)), .int (bI m_127)])), (qt, .inr (0, [.ref qa, .int (nI (b_116)), .int (nI (b_117)), .int (bI m_121)])), (qa, .inl (cA, 1200, .inl (f)))]) [0, 2, 1, 3] rfl
          have hD8 := hD.sub (ws' := [(h0, .inr (2, [.ref qw, .ref qt, .int tb])), (qw, .inr (0, [.ref qa, .int (nI (a)), .int (nI (n)), .int (bI m_127)])), (qt, .inr (0, [.ref qa, .int (nI (b_116)), .int (nI (b_117)), .int (bI m_121)])), (qa, .inl (cA, 1200, .inl (f)))]) [0, 2, 1, 3] (by decide) rfl
          exact kx76 k m_127 (nI (b_116)) (nI (b_117)) m_121 (by omega) H locs ls hP8 hD8 hS (lv_sub hl [2, 3] rfl)
set_option maxHeartbeats 4000000 in
set_option maxRecDepth 100000 in
/-- GlyphLines$Directory.sumsAgree -/
theorem g_DI_sumsAgree (l : Launch) (dC : Nat → ClassId) (dI : Nat → Nat → Nat) (h0 : Nat) (qw : Nat) (qt : Nat) (qa : Nat) (a : Nat) (n : Nat) (mi : Bool) (cA : ClassId) (f : Nat → Int32) (tb : Int32) (z1 : Int32) (z2 : Int32) (mz : Bool) (sz : Nat) (hq0 : a + n ≤ 1200) (hq1 : isB f) : Met l y_DI_sumsAgree s_DI_sumsAgree ({ frames := 12, cells := 0, slots := 0, locals := 400 }) (va_Pc [.ref h0] (fun U => U.heap.size = sz ∧ va_P (dC, dI) cls_ [(h0, .inr (2, [.ref qw, .ref qt, .int tb])), (qw, .inr (0, [.ref qa, .int (nI (a)), .int (nI (n)), .int (bI mi)])), (qt, .inr (0, [.ref qa, .int z1, .int z2, .int (bI mz)])), (qa, .inl (cA, 1200, .inl (f)))] U.heap ∧ va_K (dC, dI) cls_ [(cA, .int)] U ∧ va_D (fun _ => True) [(h0, .inr (2, [.ref qw, .ref qt, .int tb])), (qw, .inr (0, [.ref qa, .int (nI (a)), .int (nI (n)), .int (bI mi)])), (qt, .inr (0, [.ref qa, .int z1, .int z2, .int (bI mz)])), (qa, .inl (cA, 1200, .inl (f)))] ∧ nests U)) (va_Qi (fun (r : Int32) (_ : Unit) => ∃ b9 : Bool, r = bI b9) (fun (_ : Unit) (t : State) => ∃ (m2 : Bool) (y1 : Int32) (y2 : Int32) (my : Bool), va_P (dC, dI) cls_ [(h0, .inr (2, [.ref qw, .ref qt, .int tb])), (qw, .inr (0, [.ref qa, .int (nI (a)), .int (nI (n)), .int (bI m2)])), (qt, .inr (0, [.ref qa, .int y1, .int y2, .int (bI my)])), (qa, .inl (cA, 1200, .inl (f)))] t.heap ∧ va_K (dC, dI) cls_ [(cA, .int)] t ∧ va_D (va_A [(h0, .inr (2, [.ref qw, .ref qt, .int tb])), (qw, .inr (0, [.ref qa, .int (nI (a)), .int (nI (n)), .int (bI mi)])), (qt, .inr (0, [.ref qa, .int z1, .int z2, .int (bI mz)])), (qa, .inl (cA, 1200, .inl (f)))] sz) [(h0, .inr (2, [.ref qw, .ref qt, .int tb])), (qw, .inr (0, [.ref qa, .int (nI (a)), .int (nI (n)), .int (bI m2)])), (qt, .inr (0, [.ref qa, .int y1, .int y2, .int (bI my)])), (qa, .inl (cA, 1200, .inl (f)))]) (va_A [(h0, .inr (2, [.ref qw, .ref qt, .int tb])), (qw, .inr (0, [.ref qa, .int (nI (a)), .int (nI (n)), .int (bI mi)])), (qt, .inr (0, [.ref qa, .int z1, .int z2, .int (bI mz)])), (qa, .inl (cA, 1200, .inl (f)))] sz)) 0 0 (va_A [(h0, .inr (2, [.ref qw, .ref qt, .int tb])), (qw, .inr (0, [.ref qa, .int (nI (a)), .int (nI (n)), .int (bI mi)])), (qt, .inr (0, [.ref qa, .int z1, .int z2, .int (bI mz)])), (qa, .inl (cA, 1200, .inl (f)))] sz) := by
  refine Met.ofW (cc := b_DI_sumsAgree) (maxL := 5) (ret := (some .boolean)) (by decide) rfl ?_
  intro p e s m args below meth c s₁ B hml hv
  obtain ⟨rfl, hsz, hP, hK, hD0, hNs⟩ := hv
  have hx := B.exec
  have hb := B.bytes
  have hr := B.returns
  have hts := atoms_spec (ws := s_DI_sumsAgree) B.pre
  have hown : s.vm.findClass R_DI = some m.cls := findClass_of_methodNamed B.named
  have hlocks := B.notSynchronized
  subst hsz
  have hD := hD0.self (sz := s.heap.size)
  generalize hAe : va_A [(h0, .inr (2, [.ref qw, .ref qt, .int tb])), (qw, .inr (0, [.ref qa, .int (nI (a)), .int (nI (n)), .int (bI mi)])), (qt, .inr (0, [.ref qa, .int z1, .int z2, .int (bI mz)])), (qa, .inl (cA, 1200, .inl (f)))] s.heap.size = A at hD ⊢
  have hA : ∀ q : Nat, s.heap.size ≤ q → A q := fun q h => by rw [← hAe]; exact Or.inr h
  have hS : va_S A s.heap s.heap [] := va_S.rf
  have hP : va_P (dC, dI) cls_ [(h0, .inr (2, [.ref qw, .ref qt, .int tb])), (qw, .inr (0, [.ref qa, .int (nI (a)), .int (nI (n)), .int (bI mi)])), (qt, .inr (0, [.ref qa, .int z1, .int z2, .int (bI mz)])), (qa, .inl (cA, 1200, .inl (f)))] s.heap := hP
  have hl := lv_entry ([.ref h0]) (n := 5) (Nat.le_of_ble_eq_true rfl)
  rw [lg_entry_eq]
  generalize (lg_sl ([.ref h0]) ++ List.replicate (5 - (lg_sl ([.ref h0])).length) Slot.unset).toArray = ls at hl ⊢
  have hl : lv_has ls 5 [(0, .ref h0)] := hl
  refine lv_iconst (v := 0) hx hb d_DI_sumsAgree_0 (by decide) ?_
  refine lv_istore_n (lv' := [(1, .int 0), (0, .ref h0)]) hx hb d_DI_sumsAgree_1 rfl hl (by decide) rfl (fun ls hl => ?_)
  have hP8 := hP.sub (ws' := [(h0, .inr (2, [.ref qw, .ref qt, .int tb])), (qw, .inr (0, [.ref qa, .int (nI (a)), .int (nI (n)), .int (bI mi)])), (qt, .inr (0, [.ref qa, .int z1, .int z2, .int (bI mz)])), (qa, .inl (cA, 1200, .inl (f)))]) [0, 1, 2, 3] rfl
  have hD8 := hD.sub (ws' := [(h0, .inr (2, [.ref qw, .ref qt, .int tb])), (qw, .inr (0, [.ref qa, .int (nI (a)), .int (nI (n)), .int (bI mi)])), (qt, .inr (0, [.ref qa, .int z1, .int z2, .int (bI mz)])), (qa, .inl (cA, 1200, .inl (f)))]) [0, 1, 2, 3] (by decide) rfl
  have hBe0 := cl_lt (tb)
  have hK9 := hK.sub (tys' := [(cA, .int)]) [0] rfl
  refine di_sum_out hx hb hml hts hown hA dC dI h0 qw qt qa a n mi cA f tb z1 z2 mz (by omega) (by assumption) hNs hK9 (fun k_130 m_131 z_132 z_133 mz_134 hf_135 H locs ls hP hD hS hl => ?_) (fun k_136 m_137 z_138 z_139 mz_140 hf_141 H locs ls hP hD hS hl => ?_) (tb.toNatClampNeg - 0 + 1) 0 mi z1 z2 mz (by omega) (by omega) s.heap _ ls hP8 hD8 hS (lv_sub hl [0, 1] rfl)
  · skip
    have hBx0 := cl_lt (tb)
    have hK := hK9
    have hP : va_P (dC, dI) cls_ [(h0, .inr (2, [.ref qw, .ref qt, .int tb])), (qw, .inr (0, [.ref qa, .int (nI (a)), .int (nI (n)), .int (bI m_131)])), (qt, .inr (0, [.ref qa, .int z_132, .int z_133, .int (bI mz_134)])), (qa, .inl (cA, 1200, .inl (f)))] H := hP
    have hD : va_D A [(h0, .inr (2, [.ref qw, .ref qt, .int tb])), (qw, .inr (0, [.ref qa, .int (nI (a)), .int (nI (n)), .int (bI m_131)])), (qt, .inr (0, [.ref qa, .int z_132, .int z_133, .int (bI mz_134)])), (qa, .inl (cA, 1200, .inl (f)))] := hD
    have hK : va_K (dC, dI) cls_ [(cA, .int)] s := hK
    refine lv_iconst (v := 0) hx hb d_DI_sumsAgree_76 (by decide) ?_
    refine W.widen (k := 0) (n := 0) (Nat.le_of_ble_eq_true rfl) (Nat.le_of_ble_eq_true rfl) ?_
    have hP9 := hP.sub (ws' := [(h0, .inr (2, [.ref qw, .ref qt, .int tb])), (qw, .inr (0, [.ref qa, .int (nI (a)), .int (nI (n)), .int (bI m_131)])), (qt, .inr (0, [.ref qa, .int z_132, .int z_133, .int (bI mz_134)])), (qa, .inl (cA, 1200, .inl (f)))]) [0, 1, 2, 3] rfl
    have hD9 := hD.sub (ws' := [(h0, .inr (2, [.ref qw, .ref qt, .int tb])), (qw, .inr (0, [.ref qa, .int (nI (a)), .int (nI (n)), .int (bI m_131)])), (qt, .inr (0, [.ref qa, .int z_132, .int z_133, .int (bI mz_134)])), (qa, .inl (cA, 1200, .inl (f)))]) [0, 1, 2, 3] (by decide) rfl
    have hK9 := hK.sub (tys' := [(cA, .int)]) [0] rfl
    exact W.zret (v := 0) (ty := .boolean) hx hb hr (by decide +kernel) (fun t ht hW => ⟨⟨0, (), rfl, ⟨false, rfl⟩, m_131, z_132, z_133, mz_134, by rw [ht]; exact hP9, va_K.moved hW.alike hK9, hD9⟩, hS.F ht⟩) hS.2.2 d_DI_sumsAgree_77
  · skip
    have hBx0 := cl_lt (tb)
    have hK := hK9
    have hP : va_P (dC, dI) cls_ [(h0, .inr (2, [.ref qw, .ref qt, .int tb])), (qw, .inr (0, [.ref qa, .int (nI (a)), .int (nI (n)), .int (bI m_137)])), (qt, .inr (0, [.ref qa, .int z_138, .int z_139, .int (bI mz_140)])), (qa, .inl (cA, 1200, .inl (f)))] H := hP
    have hD : va_D A [(h0, .inr (2, [.ref qw, .ref qt, .int tb])), (qw, .inr (0, [.ref qa, .int (nI (a)), .int (nI (n)), .int (bI m_137)])), (qt, .inr (0, [.ref qa, .int z_138, .int z_139, .int (bI mz_140)])), (qa, .inl (cA, 1200, .inl (f)))] := hD
    have hK : va_K (dC, dI) cls_ [(cA, .int)] s := hK
    refine lv_iconst (v := 1) hx hb d_DI_sumsAgree_84 (by decide) ?_
    refine W.widen (k := 0) (n := 0) (Nat.le_of_ble_eq_true rfl) (Nat.le_of_ble_eq_true rfl) ?_
    have hP9 := hP.sub (ws' := [(h0, .inr (2, [.ref qw, .ref qt, .int tb])), (qw, .inr (0, [.ref qa, .int (nI (a)), .int (nI (n)), .int (bI m_137)])), (qt, .inr (0, [.ref qa, .int z_138, .int z_139, .int (bI mz_140)])), (qa, .inl (cA, 1200, .inl (f)))]) [0, 1, 2, 3] rfl
    have hD9 := hD.sub (ws' := [(h0, .inr (2, [.ref qw, .ref qt, .int tb])), (qw, .inr (0, [.ref qa, .int (nI (a)), .int (nI (n)), .int (bI m_137)])), (qt, .inr (0, [.ref qa, .int z_138, .int z_139, .int (bI mz_140)])), (qa, .inl (cA, 1200, .inl (f)))]) [0, 1, 2, 3] (by decide) rfl
    have hK9 := hK.sub (tys' := [(cA, .int)]) [0] rfl
    exact W.zret (v := 1) (ty := .boolean) hx hb hr (by decide +kernel) (fun t ht hW => ⟨⟨1, (), rfl, ⟨true, rfl⟩, m_137, z_138, z_139, mz_140, by rw [ht]; exact hP9, va_K.moved hW.alike hK9, hD9⟩, hS.F ht⟩) hS.2.2 d_DI_sumsAgree_85
