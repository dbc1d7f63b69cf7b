abbrev b_JI_bitCount : ByteArray := prog_17_method_49_code
def y_JI_bitCount : MethodName := ⟨R_JI, "bitCount", "(I)I"⟩
def s_JI_bitCount : List Cond := .code y_JI_bitCount b_JI_bitCount 1 (some .int) :: tw_T
abbrev b_MO_canBe : ByteArray := prog_6_method_2_code
def y_MO_canBe : MethodName := ⟨R_MO, "canBe", "(I)Z"⟩
def s_MO_canBe : List Cond := .code y_MO_canBe b_MO_canBe 1 (some .boolean) :: tw_T
abbrev b_MO_newX : ByteArray := prog_6_method_5_code
def y_MO_newX : MethodName := ⟨R_MO, "newX", "(II)I"⟩
def s_MO_newX : List Cond := .code y_MO_newX b_MO_newX 3 (some .int) :: tw_T
abbrev b_MO_newY : ByteArray := prog_6_method_6_code
def y_MO_newY : MethodName := ⟨R_MO, "newY", "(II)I"⟩
def s_MO_newY : List Cond := .code y_MO_newY b_MO_newY 3 (some .int) :: tw_T
abbrev b_MO_readFactors : ByteArray := prog_6_method_4_code
def y_MO_readFactors : MethodName := ⟨R_MO, "readFactors", "(LGlyphLines$Span;II)I"⟩
def s_MO_readFactors : List Cond := .code y_MO_readFactors b_MO_readFactors 4 (some .int) :: tw_T
abbrev b_MO_read : ByteArray := prog_6_method_3_code
def y_MO_read : MethodName := ⟨R_MO, "read", "(LGlyphLines$Span;II)I"⟩
def s_MO_read : List Cond := .code y_MO_read b_MO_read 5 (some .int) :: tw_T
theorem w_8 : (Jvm.Cond.initialized "GlyphLines$Move") ∈ tw_T := tw_of 8 (by decide +kernel) (by decide +kernel)
theorem w_19 : (Jvm.Cond.initialized "java/lang/Integer") ∈ tw_T := tw_of 19 (by decide +kernel) (by decide +kernel)
theorem w_178 : (Jvm.Cond.fieldLink "GlyphLines$Move" (7 : Nat) "GlyphLines$Move" "a" "I") ∈ tw_T := tw_of 178 (by decide +kernel) (by decide +kernel)
theorem w_179 : (Jvm.Cond.fieldLink "GlyphLines$Move" (13 : Nat) "GlyphLines$Move" "b" "I") ∈ tw_T := tw_of 179 (by decide +kernel) (by decide +kernel)
theorem w_180 : (Jvm.Cond.fieldLink "GlyphLines$Move" (16 : Nat) "GlyphLines$Move" "c" "I") ∈ tw_T := tw_of 180 (by decide +kernel) (by decide +kernel)
theorem w_181 : (Jvm.Cond.fieldLink "GlyphLines$Move" (19 : Nat) "GlyphLines$Move" "d" "I") ∈ tw_T := tw_of 181 (by decide +kernel) (by decide +kernel)
theorem w_182 : (Jvm.Cond.fieldLink "GlyphLines$Move" (22 : Nat) "GlyphLines$Move" "dx" "I") ∈ tw_T := tw_of 182 (by decide +kernel) (by decide +kernel)
theorem w_183 : (Jvm.Cond.fieldLink "GlyphLines$Move" (25 : Nat) "GlyphLines$Move" "dy" "I") ∈ tw_T := tw_of 183 (by decide +kernel) (by decide +kernel)
theorem w_488 : (Jvm.Cond.methodLink "GlyphLines$Move" (28 : Nat) ({ cls := "java/lang/Integer", name := "bitCount", desc := "(I)I" } : Jvm.MethodName)) ∈ tw_T := tw_of 488 (by decide +kernel) (by decide +kernel)
theorem w_489 : (Jvm.Cond.static ({ cls := "java/lang/Integer", name := "bitCount", desc := "(I)I" } : Jvm.MethodName)) ∈ tw_T := tw_of 489 (by decide +kernel) (by decide +kernel)
theorem w_490 : (Jvm.Cond.code ({ cls := "java/lang/Integer", name := "bitCount", desc := "(I)I" } : Jvm.MethodName) prog_17_method_49_code (1 : Nat) (Option.some Jvm.ClassFile.FieldType.int)) ∈ tw_T := tw_of 490 (by decide +kernel) (by decide +kernel)
theorem w_491 : (Jvm.Cond.constant "java/lang/Integer" (265 : Nat) (1431655765 : Int32)) ∈ tw_T := tw_of 491 (by decide +kernel) (by decide +kernel)
theorem w_492 : (Jvm.Cond.constant "java/lang/Integer" (266 : Nat) (858993459 : Int32)) ∈ tw_T := tw_of 492 (by decide +kernel) (by decide +kernel)
theorem w_493 : (Jvm.Cond.constant "java/lang/Integer" (267 : Nat) (252645135 : Int32)) ∈ tw_T := tw_of 493 (by decide +kernel) (by decide +kernel)
theorem w_498 : (Jvm.Cond.methodLink "GlyphLines$Move" (34 : Nat) ({ cls := "GlyphLines$Span", name := "u16", desc := "(I)I" } : Jvm.MethodName)) ∈ tw_T := tw_of 498 (by decide +kernel) (by decide +kernel)
theorem w_499 : (Jvm.Cond.methodLink "GlyphLines$Move" (39 : Nat) ({ cls := "GlyphLines$Span", name := "u8", desc := "(I)I" } : Jvm.MethodName)) ∈ tw_T := tw_of 499 (by decide +kernel) (by decide +kernel)
theorem w_500 : (Jvm.Cond.instanceMethod ({ cls := "GlyphLines$Span", name := "u8", desc := "(I)I" } : Jvm.MethodName)) ∈ tw_T := tw_of 500 (by decide +kernel) (by decide +kernel)
theorem w_501 : (Jvm.Cond.selects "GlyphLines$Span" ({ cls := "GlyphLines$Span", name := "u8", desc := "(I)I" } : Jvm.MethodName) ({ cls := "GlyphLines$Span", name := "u8", desc := "(I)I" } : Jvm.MethodName)) ∈ tw_T := tw_of 501 (by decide +kernel) (by decide +kernel)
theorem w_502 : (Jvm.Cond.code ({ cls := "GlyphLines$Span", name := "u8", desc := "(I)I" } : Jvm.MethodName) prog_10_method_4_code (2 : Nat) (Option.some Jvm.ClassFile.FieldType.int)) ∈ tw_T := tw_of 502 (by decide +kernel) (by decide +kernel)
theorem w_503 : (Jvm.Cond.methodLink "GlyphLines$Move" (42 : Nat) ({ cls := "GlyphLines$Move", name := "readFactors", desc := "(LGlyphLines$Span;II)I" } : Jvm.MethodName)) ∈ tw_T := tw_of 503 (by decide +kernel) (by decide +kernel)
theorem w_505 : (Jvm.Cond.instanceMethod ({ cls := "GlyphLines$Move", name := "readFactors", desc := "(LGlyphLines$Span;II)I" } : Jvm.MethodName)) ∈ tw_T := tw_of 505 (by decide +kernel) (by decide +kernel)
theorem w_506 : (Jvm.Cond.code ({ cls := "GlyphLines$Move", name := "readFactors", desc := "(LGlyphLines$Span;II)I" } : Jvm.MethodName) prog_6_method_4_code (4 : Nat) (Option.some Jvm.ClassFile.FieldType.int)) ∈ tw_T := tw_of 506 (by decide +kernel) (by decide +kernel)
theorem wp_15 : Cond.selects "GlyphLines$Move" ({ cls := "GlyphLines$Move", name := "readFactors", desc := "(LGlyphLines$Span;II)I" } : Jvm.MethodName) ({ cls := "GlyphLines$Move", name := "readFactors", desc := "(LGlyphLines$Span;II)I" } : Jvm.MethodName) ∈ tw_T := tw_priv 15 (({ cls := "GlyphLines$Move", name := "readFactors", desc := "(LGlyphLines$Span;II)I" } : Jvm.MethodName), 6) (by decide +kernel) (by decide +kernel)
theorem d_JI_bitCount_0 : decode b_JI_bitCount 0 = .ok (.iload_n 0, 1) := by decide +kernel
theorem d_JI_bitCount_1 : decode b_JI_bitCount 1 = .ok (.iload_n 0, 1) := by decide +kernel
theorem d_JI_bitCount_10 : decode b_JI_bitCount 10 = .ok (.iload_n 0, 1) := by decide +kernel
theorem d_JI_bitCount_11 : decode b_JI_bitCount 11 = .ok (.ldc_w 266, 3) := by decide +kernel
theorem d_JI_bitCount_14 : decode b_JI_bitCount 14 = .ok (.iand, 1) := by decide +kernel
theorem d_JI_bitCount_15 : decode b_JI_bitCount 15 = .ok (.iload_n 0, 1) := by decide +kernel
theorem d_JI_bitCount_16 : decode b_JI_bitCount 16 = .ok (.iconst 2, 1) := by decide +kernel
theorem d_JI_bitCount_17 : decode b_JI_bitCount 17 = .ok (.iushr, 1) := by decide +kernel
theorem d_JI_bitCount_18 : decode b_JI_bitCount 18 = .ok (.ldc_w 266, 3) := by decide +kernel
theorem d_JI_bitCount_2 : decode b_JI_bitCount 2 = .ok (.iconst 1, 1) := by decide +kernel
theorem d_JI_bitCount_21 : decode b_JI_bitCount 21 = .ok (.iand, 1) := by decide +kernel
theorem d_JI_bitCount_22 : decode b_JI_bitCount 22 = .ok (.iadd, 1) := by decide +kernel
theorem d_JI_bitCount_23 : decode b_JI_bitCount 23 = .ok (.istore_n 0, 1) := by decide +kernel
theorem d_JI_bitCount_24 : decode b_JI_bitCount 24 = .ok (.iload_n 0, 1) := by decide +kernel
theorem d_JI_bitCount_25 : decode b_JI_bitCount 25 = .ok (.iload_n 0, 1) := by decide +kernel
theorem d_JI_bitCount_26 : decode b_JI_bitCount 26 = .ok (.iconst 4, 1) := by decide +kernel
theorem d_JI_bitCount_27 : decode b_JI_bitCount 27 = .ok (.iushr, 1) := by decide +kernel
theorem d_JI_bitCount_28 : decode b_JI_bitCount 28 = .ok (.iadd, 1) := by decide +kernel
theorem d_JI_bitCount_29 : decode b_JI_bitCount 29 = .ok (.ldc_w 267, 3) := by decide +kernel
theorem d_JI_bitCount_3 : decode b_JI_bitCount 3 = .ok (.iushr, 1) := by decide +kernel
theorem d_JI_bitCount_32 : decode b_JI_bitCount 32 = .ok (.iand, 1) := by decide +kernel
theorem d_JI_bitCount_33 : decode b_JI_bitCount 33 = .ok (.istore_n 0, 1) := by decide +kernel
theorem d_JI_bitCount_34 : decode b_JI_bitCount 34 = .ok (.iload_n 0, 1) := by decide +kernel
theorem d_JI_bitCount_35 : decode b_JI_bitCount 35 = .ok (.iload_n 0, 1) := by decide +kernel
theorem d_JI_bitCount_36 : decode b_JI_bitCount 36 = .ok (.bipush 8, 2) := by decide +kernel
theorem d_JI_bitCount_38 : decode b_JI_bitCount 38 = .ok (.iushr, 1) := by decide +kernel
theorem d_JI_bitCount_39 : decode b_JI_bitCount 39 = .ok (.iadd, 1) := by decide +kernel
theorem d_JI_bitCount_4 : decode b_JI_bitCount 4 = .ok (.ldc_w 265, 3) := by decide +kernel
theorem d_JI_bitCount_40 : decode b_JI_bitCount 40 = .ok (.istore_n 0, 1) := by decide +kernel
theorem d_JI_bitCount_41 : decode b_JI_bitCount 41 = .ok (.iload_n 0, 1) := by decide +kernel
theorem d_JI_bitCount_42 : decode b_JI_bitCount 42 = .ok (.iload_n 0, 1) := by decide +kernel
theorem d_JI_bitCount_43 : decode b_JI_bitCount 43 = .ok (.bipush 16, 2) := by decide +kernel
theorem d_JI_bitCount_45 : decode b_JI_bitCount 45 = .ok (.iushr, 1) := by decide +kernel
theorem d_JI_bitCount_46 : decode b_JI_bitCount 46 = .ok (.iadd, 1) := by decide +kernel
theorem d_JI_bitCount_47 : decode b_JI_bitCount 47 = .ok (.istore_n 0, 1) := by decide +kernel
theorem d_JI_bitCount_48 : decode b_JI_bitCount 48 = .ok (.iload_n 0, 1) := by decide +kernel
theorem d_JI_bitCount_49 : decode b_JI_bitCount 49 = .ok (.bipush 63, 2) := by decide +kernel
theorem d_JI_bitCount_51 : decode b_JI_bitCount 51 = .ok (.iand, 1) := by decide +kernel
theorem d_JI_bitCount_52 : decode b_JI_bitCount 52 = .ok (.ireturn, 1) := by decide +kernel
theorem d_JI_bitCount_7 : decode b_JI_bitCount 7 = .ok (.iand, 1) := by decide +kernel
theorem d_JI_bitCount_8 : decode b_JI_bitCount 8 = .ok (.isub, 1) := by decide +kernel
theorem d_JI_bitCount_9 : decode b_JI_bitCount 9 = .ok (.istore_n 0, 1) := by decide +kernel
theorem d_MO_canBe_0 : decode b_MO_canBe 0 = .ok (.iload_n 0, 1) := by decide +kernel
theorem d_MO_canBe_1 : decode b_MO_canBe 1 = .ok (.iconst 2, 1) := by decide +kernel
theorem d_MO_canBe_10 : decode b_MO_canBe 10 = .ok (.iand, 1) := by decide +kernel
theorem d_MO_canBe_11 : decode b_MO_canBe 11 = .ok (.invokestatic 28, 3) := by decide +kernel
theorem d_MO_canBe_14 : decode b_MO_canBe 14 = .ok (.iconst 1, 1) := by decide +kernel
theorem d_MO_canBe_15 : decode b_MO_canBe 15 = .ok (.if_icmp .gt (7), 3) := by decide +kernel
theorem d_MO_canBe_18 : decode b_MO_canBe 18 = .ok (.iconst 1, 1) := by decide +kernel
theorem d_MO_canBe_19 : decode b_MO_canBe 19 = .ok (.goto (4), 3) := by decide +kernel
theorem d_MO_canBe_2 : decode b_MO_canBe 2 = .ok (.iand, 1) := by decide +kernel
theorem d_MO_canBe_22 : decode b_MO_canBe 22 = .ok (.iconst 0, 1) := by decide +kernel
theorem d_MO_canBe_23 : decode b_MO_canBe 23 = .ok (.ireturn, 1) := by decide +kernel
theorem d_MO_canBe_3 : decode b_MO_canBe 3 = .ok (.ifCond .eq (19), 3) := by decide +kernel
theorem d_MO_canBe_6 : decode b_MO_canBe 6 = .ok (.iload_n 0, 1) := by decide +kernel
theorem d_MO_canBe_7 : decode b_MO_canBe 7 = .ok (.sipush 200, 3) := by decide +kernel
theorem d_MO_newX_0 : decode b_MO_newX 0 = .ok (.aload_n 0, 1) := by decide +kernel
theorem d_MO_newX_1 : decode b_MO_newX 1 = .ok (.getfield 7, 3) := by decide +kernel
theorem d_MO_newX_10 : decode b_MO_newX 10 = .ok (.iload_n 2, 1) := by decide +kernel
theorem d_MO_newX_11 : decode b_MO_newX 11 = .ok (.imul, 1) := by decide +kernel
theorem d_MO_newX_12 : decode b_MO_newX 12 = .ok (.iadd, 1) := by decide +kernel
theorem d_MO_newX_13 : decode b_MO_newX 13 = .ok (.bipush 14, 2) := by decide +kernel
theorem d_MO_newX_15 : decode b_MO_newX 15 = .ok (.ishr, 1) := by decide +kernel
theorem d_MO_newX_16 : decode b_MO_newX 16 = .ok (.aload_n 0, 1) := by decide +kernel
theorem d_MO_newX_17 : decode b_MO_newX 17 = .ok (.getfield 22, 3) := by decide +kernel
theorem d_MO_newX_20 : decode b_MO_newX 20 = .ok (.iadd, 1) := by decide +kernel
theorem d_MO_newX_21 : decode b_MO_newX 21 = .ok (.ireturn, 1) := by decide +kernel
theorem d_MO_newX_4 : decode b_MO_newX 4 = .ok (.iload_n 1, 1) := by decide +kernel
theorem d_MO_newX_5 : decode b_MO_newX 5 = .ok (.imul, 1) := by decide +kernel
theorem d_MO_newX_6 : decode b_MO_newX 6 = .ok (.aload_n 0, 1) := by decide +kernel
theorem d_MO_newX_7 : decode b_MO_newX 7 = .ok (.getfield 16, 3) := by decide +kernel
theorem d_MO_newY_0 : decode b_MO_newY 0 = .ok (.aload_n 0, 1) := by decide +kernel
theorem d_MO_newY_1 : decode b_MO_newY 1 = .ok (.getfield 13, 3) := by decide +kernel
theorem d_MO_newY_10 : decode b_MO_newY 10 = .ok (.iload_n 2, 1) := by decide +kernel
theorem d_MO_newY_11 : decode b_MO_newY 11 = .ok (.imul, 1) := by decide +kernel
theorem d_MO_newY_12 : decode b_MO_newY 12 = .ok (.iadd, 1) := by decide +kernel
theorem d_MO_newY_13 : decode b_MO_newY 13 = .ok (.bipush 14, 2) := by decide +kernel
theorem d_MO_newY_15 : decode b_MO_newY 15 = .ok (.ishr, 1) := by decide +kernel
theorem d_MO_newY_16 : decode b_MO_newY 16 = .ok (.aload_n 0, 1) := by decide +kernel
theorem d_MO_newY_17 : decode b_MO_newY 17 = .ok (.getfield 25, 3) := by decide +kernel
theorem d_MO_newY_20 : decode b_MO_newY 20 = .ok (.iadd, 1) := by decide +kernel
theorem d_MO_newY_21 : decode b_MO_newY 21 = .ok (.ireturn, 1) := by decide +kernel
theorem d_MO_newY_4 : decode b_MO_newY 4 = .ok (.iload_n 1, 1) := by decide +kernel
theorem d_MO_newY_5 : decode b_MO_newY 5 = .ok (.imul, 1) := by decide +kernel
theorem d_MO_newY_6 : decode b_MO_newY 6 = .ok (.aload_n 0, 1) := by decide +kernel
theorem d_MO_newY_7 : decode b_MO_newY 7 = .ok (.getfield 19, 3) := by decide +kernel
theorem d_MO_readFactors_0 : decode b_MO_readFactors 0 = .ok (.aload_n 0, 1) := by decide +kernel
theorem d_MO_readFactors_1 : decode b_MO_readFactors 1 = .ok (.sipush 16384, 3) := by decide +kernel
theorem d_MO_readFactors_101 : decode b_MO_readFactors 101 = .ok (.i2s, 1) := by decide +kernel
theorem d_MO_readFactors_102 : decode b_MO_readFactors 102 = .ok (.putfield 7, 3) := by decide +kernel
theorem d_MO_readFactors_105 : decode b_MO_readFactors 105 = .ok (.aload_n 0, 1) := by decide +kernel
theorem d_MO_readFactors_106 : decode b_MO_readFactors 106 = .ok (.aload_n 1, 1) := by decide +kernel
theorem d_MO_readFactors_107 : decode b_MO_readFactors 107 = .ok (.iload_n 2, 1) := by decide +kernel
theorem d_MO_readFactors_108 : decode b_MO_readFactors 108 = .ok (.iconst 2, 1) := by decide +kernel
theorem d_MO_readFactors_109 : decode b_MO_readFactors 109 = .ok (.iadd, 1) := by decide +kernel
theorem d_MO_readFactors_110 : decode b_MO_readFactors 110 = .ok (.invokevirtual 34, 3) := by decide +kernel
theorem d_MO_readFactors_113 : decode b_MO_readFactors 113 = .ok (.i2s, 1) := by decide +kernel
theorem d_MO_readFactors_114 : decode b_MO_readFactors 114 = .ok (.putfield 13, 3) := by decide +kernel
theorem d_MO_readFactors_117 : decode b_MO_readFactors 117 = .ok (.aload_n 0, 1) := by decide +kernel
theorem d_MO_readFactors_118 : decode b_MO_readFactors 118 = .ok (.aload_n 1, 1) := by decide +kernel
theorem d_MO_readFactors_119 : decode b_MO_readFactors 119 = .ok (.iload_n 2, 1) := by decide +kernel
theorem d_MO_readFactors_12 : decode b_MO_readFactors 12 = .ok (.aload_n 0, 1) := by decide +kernel
theorem d_MO_readFactors_120 : decode b_MO_readFactors 120 = .ok (.iconst 4, 1) := by decide +kernel
theorem d_MO_readFactors_121 : decode b_MO_readFactors 121 = .ok (.iadd, 1) := by decide +kernel
theorem d_MO_readFactors_122 : decode b_MO_readFactors 122 = .ok (.invokevirtual 34, 3) := by decide +kernel
theorem d_MO_readFactors_125 : decode b_MO_readFactors 125 = .ok (.i2s, 1) := by decide +kernel
theorem d_MO_readFactors_126 : decode b_MO_readFactors 126 = .ok (.putfield 16, 3) := by decide +kernel
theorem d_MO_readFactors_129 : decode b_MO_readFactors 129 = .ok (.aload_n 0, 1) := by decide +kernel
theorem d_MO_readFactors_13 : decode b_MO_readFactors 13 = .ok (.iconst 0, 1) := by decide +kernel
theorem d_MO_readFactors_130 : decode b_MO_readFactors 130 = .ok (.aload_n 1, 1) := by decide +kernel
theorem d_MO_readFactors_131 : decode b_MO_readFactors 131 = .ok (.iload_n 2, 1) := by decide +kernel
theorem d_MO_readFactors_132 : decode b_MO_readFactors 132 = .ok (.bipush 6, 2) := by decide +kernel
theorem d_MO_readFactors_134 : decode b_MO_readFactors 134 = .ok (.iadd, 1) := by decide +kernel
theorem d_MO_readFactors_135 : decode b_MO_readFactors 135 = .ok (.invokevirtual 34, 3) := by decide +kernel
theorem d_MO_readFactors_138 : decode b_MO_readFactors 138 = .ok (.i2s, 1) := by decide +kernel
theorem d_MO_readFactors_139 : decode b_MO_readFactors 139 = .ok (.putfield 19, 3) := by decide +kernel
theorem d_MO_readFactors_14 : decode b_MO_readFactors 14 = .ok (.putfield 16, 3) := by decide +kernel
theorem d_MO_readFactors_142 : decode b_MO_readFactors 142 = .ok (.iload_n 2, 1) := by decide +kernel
theorem d_MO_readFactors_143 : decode b_MO_readFactors 143 = .ok (.bipush 8, 2) := by decide +kernel
theorem d_MO_readFactors_145 : decode b_MO_readFactors 145 = .ok (.iadd, 1) := by decide +kernel
theorem d_MO_readFactors_146 : decode b_MO_readFactors 146 = .ok (.ireturn, 1) := by decide +kernel
theorem d_MO_readFactors_147 : decode b_MO_readFactors 147 = .ok (.iload_n 2, 1) := by decide +kernel
theorem d_MO_readFactors_148 : decode b_MO_readFactors 148 = .ok (.ireturn, 1) := by decide +kernel
theorem d_MO_readFactors_17 : decode b_MO_readFactors 17 = .ok (.aload_n 0, 1) := by decide +kernel
theorem d_MO_readFactors_18 : decode b_MO_readFactors 18 = .ok (.aload_n 0, 1) := by decide +kernel
theorem d_MO_readFactors_19 : decode b_MO_readFactors 19 = .ok (.getfield 7, 3) := by decide +kernel
theorem d_MO_readFactors_22 : decode b_MO_readFactors 22 = .ok (.putfield 19, 3) := by decide +kernel
theorem d_MO_readFactors_25 : decode b_MO_readFactors 25 = .ok (.iload_n 3, 1) := by decide +kernel
theorem d_MO_readFactors_26 : decode b_MO_readFactors 26 = .ok (.bipush 8, 2) := by decide +kernel
theorem d_MO_readFactors_28 : decode b_MO_readFactors 28 = .ok (.iand, 1) := by decide +kernel
theorem d_MO_readFactors_29 : decode b_MO_readFactors 29 = .ok (.ifCond .eq (25), 3) := by decide +kernel
theorem d_MO_readFactors_32 : decode b_MO_readFactors 32 = .ok (.aload_n 0, 1) := by decide +kernel
theorem d_MO_readFactors_33 : decode b_MO_readFactors 33 = .ok (.aload_n 1, 1) := by decide +kernel
theorem d_MO_readFactors_34 : decode b_MO_readFactors 34 = .ok (.iload_n 2, 1) := by decide +kernel
theorem d_MO_readFactors_35 : decode b_MO_readFactors 35 = .ok (.invokevirtual 34, 3) := by decide +kernel
theorem d_MO_readFactors_38 : decode b_MO_readFactors 38 = .ok (.i2s, 1) := by decide +kernel
theorem d_MO_readFactors_39 : decode b_MO_readFactors 39 = .ok (.putfield 7, 3) := by decide +kernel
theorem d_MO_readFactors_4 : decode b_MO_readFactors 4 = .ok (.putfield 7, 3) := by decide +kernel
theorem d_MO_readFactors_42 : decode b_MO_readFactors 42 = .ok (.aload_n 0, 1) := by decide +kernel
theorem d_MO_readFactors_43 : decode b_MO_readFactors 43 = .ok (.aload_n 0, 1) := by decide +kernel
theorem d_MO_readFactors_44 : decode b_MO_readFactors 44 = .ok (.getfield 7, 3) := by decide +kernel
theorem d_MO_readFactors_47 : decode b_MO_readFactors 47 = .ok (.putfield 19, 3) := by decide +kernel
theorem d_MO_readFactors_50 : decode b_MO_readFactors 50 = .ok (.iload_n 2, 1) := by decide +kernel
theorem d_MO_readFactors_51 : decode b_MO_readFactors 51 = .ok (.iconst 2, 1) := by decide +kernel
theorem d_MO_readFactors_52 : decode b_MO_readFactors 52 = .ok (.iadd, 1) := by decide +kernel
theorem d_MO_readFactors_53 : decode b_MO_readFactors 53 = .ok (.ireturn, 1) := by decide +kernel
theorem d_MO_readFactors_54 : decode b_MO_readFactors 54 = .ok (.iload_n 3, 1) := by decide +kernel
theorem d_MO_readFactors_55 : decode b_MO_readFactors 55 = .ok (.bipush 64, 2) := by decide +kernel
theorem d_MO_readFactors_57 : decode b_MO_readFactors 57 = .ok (.iand, 1) := by decide +kernel
theorem d_MO_readFactors_58 : decode b_MO_readFactors 58 = .ok (.ifCond .eq (29), 3) := by decide +kernel
theorem d_MO_readFactors_61 : decode b_MO_readFactors 61 = .ok (.aload_n 0, 1) := by decide +kernel
theorem d_MO_readFactors_62 : decode b_MO_readFactors 62 = .ok (.aload_n 1, 1) := by decide +kernel
theorem d_MO_readFactors_63 : decode b_MO_readFactors 63 = .ok (.iload_n 2, 1) := by decide +kernel
theorem d_MO_readFactors_64 : decode b_MO_readFactors 64 = .ok (.invokevirtual 34, 3) := by decide +kernel
theorem d_MO_readFactors_67 : decode b_MO_readFactors 67 = .ok (.i2s, 1) := by decide +kernel
theorem d_MO_readFactors_68 : decode b_MO_readFactors 68 = .ok (.putfield 7, 3) := by decide +kernel
theorem d_MO_readFactors_7 : decode b_MO_readFactors 7 = .ok (.aload_n 0, 1) := by decide +kernel
theorem d_MO_readFactors_71 : decode b_MO_readFactors 71 = .ok (.aload_n 0, 1) := by decide +kernel
theorem d_MO_readFactors_72 : decode b_MO_readFactors 72 = .ok (.aload_n 1, 1) := by decide +kernel
theorem d_MO_readFactors_73 : decode b_MO_readFactors 73 = .ok (.iload_n 2, 1) := by decide +kernel
theorem d_MO_readFactors_74 : decode b_MO_readFactors 74 = .ok (.iconst 2, 1) := by decide +kernel
theorem d_MO_readFactors_75 : decode b_MO_readFactors 75 = .ok (.iadd, 1) := by decide +kernel
theorem d_MO_readFactors_76 : decode b_MO_readFactors 76 = .ok (.invokevirtual 34, 3) := by decide +kernel
theorem d_MO_readFactors_79 : decode b_MO_readFactors 79 = .ok (.i2s, 1) := by decide +kernel
theorem d_MO_readFactors_8 : decode b_MO_readFactors 8 = .ok (.iconst 0, 1) := by decide +kernel
theorem d_MO_readFactors_80 : decode b_MO_readFactors 80 = .ok (.putfield 19, 3) := by decide +kernel
theorem d_MO_readFactors_83 : decode b_MO_readFactors 83 = .ok (.iload_n 2, 1) := by decide +kernel
theorem d_MO_readFactors_84 : decode b_MO_readFactors 84 = .ok (.iconst 4, 1) := by decide +kernel
theorem d_MO_readFactors_85 : decode b_MO_readFactors 85 = .ok (.iadd, 1) := by decide +kernel
theorem d_MO_readFactors_86 : decode b_MO_readFactors 86 = .ok (.ireturn, 1) := by decide +kernel
theorem d_MO_readFactors_87 : decode b_MO_readFactors 87 = .ok (.iload_n 3, 1) := by decide +kernel
theorem d_MO_readFactors_88 : decode b_MO_readFactors 88 = .ok (.sipush 128, 3) := by decide +kernel
theorem d_MO_readFactors_9 : decode b_MO_readFactors 9 = .ok (.putfield 13, 3) := by decide +kernel
theorem d_MO_readFactors_91 : decode b_MO_readFactors 91 = .ok (.iand, 1) := by decide +kernel
theorem d_MO_readFactors_92 : decode b_MO_readFactors 92 = .ok (.ifCond .eq (55), 3) := by decide +kernel
theorem d_MO_readFactors_95 : decode b_MO_readFactors 95 = .ok (.aload_n 0, 1) := by decide +kernel
theorem d_MO_readFactors_96 : decode b_MO_readFactors 96 = .ok (.aload_n 1, 1) := by decide +kernel
theorem d_MO_readFactors_97 : decode b_MO_readFactors 97 = .ok (.iload_n 2, 1) := by decide +kernel
theorem d_MO_readFactors_98 : decode b_MO_readFactors 98 = .ok (.invokevirtual 34, 3) := by decide +kernel
theorem d_MO_read_0 : decode b_MO_read 0 = .ok (.iload_n 3, 1) := by decide +kernel
theorem d_MO_read_1 : decode b_MO_read 1 = .ok (.iconst 1, 1) := by decide +kernel
theorem d_MO_read_10 : decode b_MO_read 10 = .ok (.iconst 0, 1) := by decide +kernel
theorem d_MO_read_11 : decode b_MO_read 11 = .ok (.istore 4, 2) := by decide +kernel
theorem d_MO_read_13 : decode b_MO_read 13 = .ok (.aload_n 0, 1) := by decide +kernel
theorem d_MO_read_14 : decode b_MO_read 14 = .ok (.iload 4, 2) := by decide +kernel
theorem d_MO_read_16 : decode b_MO_read 16 = .ok (.ifCond .eq (12), 3) := by decide +kernel
theorem d_MO_read_19 : decode b_MO_read 19 = .ok (.aload_n 1, 1) := by decide +kernel
theorem d_MO_read_2 : decode b_MO_read 2 = .ok (.iand, 1) := by decide +kernel
theorem d_MO_read_20 : decode b_MO_read 20 = .ok (.iload_n 2, 1) := by decide +kernel
theorem d_MO_read_21 : decode b_MO_read 21 = .ok (.invokevirtual 34, 3) := by decide +kernel
theorem d_MO_read_24 : decode b_MO_read 24 = .ok (.i2s, 1) := by decide +kernel
theorem d_MO_read_25 : decode b_MO_read 25 = .ok (.goto (9), 3) := by decide +kernel
theorem d_MO_read_28 : decode b_MO_read 28 = .ok (.aload_n 1, 1) := by decide +kernel
theorem d_MO_read_29 : decode b_MO_read 29 = .ok (.iload_n 2, 1) := by decide +kernel
theorem d_MO_read_3 : decode b_MO_read 3 = .ok (.ifCond .eq (7), 3) := by decide +kernel
theorem d_MO_read_30 : decode b_MO_read 30 = .ok (.invokevirtual 39, 3) := by decide +kernel
theorem d_MO_read_33 : decode b_MO_read 33 = .ok (.i2b, 1) := by decide +kernel
theorem d_MO_read_34 : decode b_MO_read 34 = .ok (.putfield 22, 3) := by decide +kernel
theorem d_MO_read_37 : decode b_MO_read 37 = .ok (.aload_n 0, 1) := by decide +kernel
theorem d_MO_read_38 : decode b_MO_read 38 = .ok (.iload 4, 2) := by decide +kernel
theorem d_MO_read_40 : decode b_MO_read 40 = .ok (.ifCond .eq (14), 3) := by decide +kernel
theorem d_MO_read_43 : decode b_MO_read 43 = .ok (.aload_n 1, 1) := by decide +kernel
theorem d_MO_read_44 : decode b_MO_read 44 = .ok (.iload_n 2, 1) := by decide +kernel
theorem d_MO_read_45 : decode b_MO_read 45 = .ok (.iconst 2, 1) := by decide +kernel
theorem d_MO_read_46 : decode b_MO_read 46 = .ok (.iadd, 1) := by decide +kernel
theorem d_MO_read_47 : decode b_MO_read 47 = .ok (.invokevirtual 34, 3) := by decide +kernel
theorem d_MO_read_50 : decode b_MO_read 50 = .ok (.i2s, 1) := by decide +kernel
theorem d_MO_read_51 : decode b_MO_read 51 = .ok (.goto (11), 3) := by decide +kernel
theorem d_MO_read_54 : decode b_MO_read 54 = .ok (.aload_n 1, 1) := by decide +kernel
theorem d_MO_read_55 : decode b_MO_read 55 = .ok (.iload_n 2, 1) := by decide +kernel
theorem d_MO_read_56 : decode b_MO_read 56 = .ok (.iconst 1, 1) := by decide +kernel
theorem d_MO_read_57 : decode b_MO_read 57 = .ok (.iadd, 1) := by decide +kernel
theorem d_MO_read_58 : decode b_MO_read 58 = .ok (.invokevirtual 39, 3) := by decide +kernel
theorem d_MO_read_6 : decode b_MO_read 6 = .ok (.iconst 1, 1) := by decide +kernel
theorem d_MO_read_61 : decode b_MO_read 61 = .ok (.i2b, 1) := by decide +kernel
theorem d_MO_read_62 : decode b_MO_read 62 = .ok (.putfield 25, 3) := by decide +kernel
theorem d_MO_read_65 : decode b_MO_read 65 = .ok (.aload_n 0, 1) := by decide +kernel
theorem d_MO_read_66 : decode b_MO_read 66 = .ok (.aload_n 1, 1) := by decide +kernel
theorem d_MO_read_67 : decode b_MO_read 67 = .ok (.iload_n 2, 1) := by decide +kernel
theorem d_MO_read_68 : decode b_MO_read 68 = .ok (.iload 4, 2) := by decide +kernel
theorem d_MO_read_7 : decode b_MO_read 7 = .ok (.goto (4), 3) := by decide +kernel
theorem d_MO_read_70 : decode b_MO_read 70 = .ok (.ifCond .eq (7), 3) := by decide +kernel
theorem d_MO_read_73 : decode b_MO_read 73 = .ok (.iconst 4, 1) := by decide +kernel
theorem d_MO_read_74 : decode b_MO_read 74 = .ok (.goto (4), 3) := by decide +kernel
theorem d_MO_read_77 : decode b_MO_read 77 = .ok (.iconst 2, 1) := by decide +kernel
theorem d_MO_read_78 : decode b_MO_read 78 = .ok (.iadd, 1) := by decide +kernel
theorem d_MO_read_79 : decode b_MO_read 79 = .ok (.iload_n 3, 1) := by decide +kernel
theorem d_MO_read_80 : decode b_MO_read 80 = .ok (.invokevirtual 42, 3) := by decide +kernel
theorem d_MO_read_83 : decode b_MO_read 83 = .ok (.ireturn, 1) := by decide +kernel
set_option maxHeartbeats 4000000 in
set_option maxRecDepth 100000 in
/-- java/lang/Integer.bitCount -/
theorem g_JI_bitCount (l : Launch) (dC : Nat → ClassId) (dI : Nat → Nat → Nat) (i : Int32) (sz : Nat) : Met l y_JI_bitCount s_JI_bitCount ({ frames := 8, cells := 0, slots := 0, locals := 200 }) (va_Pc [.int i] (fun U => U.heap.size = sz ∧ va_P (dC, dI) cls_ [] U.heap ∧ va_K (dC, dI) cls_ [] U ∧ va_D (fun _ => True) [])) (va_Qi (fun (r : Int32) (_ : Unit) => True) (fun (_ : Unit) (t : State) => True) (va_A [] sz)) 0 0 (va_A [] sz) := by
  refine Met.ofW (cc := b_JI_bitCount) (maxL := 1) (ret := (some .int)) (by decide) rfl ?_
  intro p e s m args below meth c s₁ B hml hv
  obtain ⟨rfl, hsz, hP, hK, hD0⟩ := hv
  have hx := B.exec
  have hb := B.bytes
  have hr := B.returns
  have hts := atoms_spec (ws := s_JI_bitCount) B.pre
  have hown : s.vm.findClass R_JI = some m.cls := findClass_of_methodNamed B.named
  have hlocks := B.notSynchronized
  subst hsz
  have hD := hD0.self (sz := s.heap.size)
  generalize hAe : va_A [] s.heap.size = A at hD ⊢
  have hA : ∀ q : Nat, s.heap.size ≤ q → A q := fun q h => by rw [← hAe]; exact Or.inr h
  have hS : va_S A s.heap s.heap [] := va_S.rf
  have hP : va_P (dC, dI) cls_ [] s.heap := hP
  have hl := lv_entry ([.int i]) (n := 1) (Nat.le_of_ble_eq_true rfl)
  rw [lg_entry_eq]
  generalize (lg_sl ([.int i]) ++ List.replicate (1 - (lg_sl ([.int i])).length) Slot.unset).toArray = ls at hl ⊢
  have hl : lv_has ls 1 [(0, .int i)] := hl
  refine lv_iload_n hx hb d_JI_bitCount_0 rfl (lv_at hl 0 rfl) ?_
  refine lv_iload_n hx hb d_JI_bitCount_1 rfl (lv_at hl 0 rfl) ?_
  refine lv_iconst (v := 1) hx hb d_JI_bitCount_2 (by decide) ?_
  refine lv_iushr (v := (i.toUInt32 >>> ((1 : Int32).toUInt32 &&& Int32.toUInt32 31)).toInt32) hx hb d_JI_bitCount_3 rfl ?_
  refine lv_topi (fun v315 ev315 => ?_)
  refine lv_ldcw (v := 1431655765) hx hb hown (hts _ (List.mem_cons_of_mem _ w_491)) d_JI_bitCount_4 ?_
  refine lv_iand hx hb d_JI_bitCount_7 ?_
  refine lv_topi (fun v316 ev316 => ?_)
  refine lv_isub hx hb d_JI_bitCount_8 ?_
  refine lv_topi (fun v317 ev317 => ?_)
  refine lv_istore_n (lv' := [(0, .int v317)]) hx hb d_JI_bitCount_9 rfl hl (by decide) rfl (fun ls hl => ?_)
  refine lv_iload_n hx hb d_JI_bitCount_10 rfl (lv_at hl 0 rfl) ?_
  refine lv_ldcw (v := 858993459) hx hb hown (hts _ (List.mem_cons_of_mem _ w_492)) d_JI_bitCount_11 ?_
  refine lv_iand hx hb d_JI_bitCount_14 ?_
  refine lv_topi (fun v318 ev318 => ?_)
  refine lv_iload_n hx hb d_JI_bitCount_15 rfl (lv_at hl 0 rfl) ?_
  refine lv_iconst (v := 2) hx hb d_JI_bitCount_16 (by decide) ?_
  refine lv_iushr (v := (v317.toUInt32 >>> ((2 : Int32).toUInt32 &&& Int32.toUInt32 31)).toInt32) hx hb d_JI_bitCount_17 rfl ?_
  refine lv_topi (fun v319 ev319 => ?_)
  refine lv_ldcw (v := 858993459) hx hb hown (hts _ (List.mem_cons_of_mem _ w_492)) d_JI_bitCount_18 ?_
  refine lv_iand hx hb d_JI_bitCount_21 ?_
  refine lv_topi (fun v320 ev320 => ?_)
  refine lv_iadd hx hb d_JI_bitCount_22 ?_
  refine lv_topi (fun v321 ev321 => ?_)
  refine lv_istore_n (lv' := [(0, .int v321)]) hx hb d_JI_bitCount_23 rfl hl (by decide) rfl (fun ls hl => ?_)
  refine lv_iload_n hx hb d_JI_bitCount_24 rfl (lv_at hl 0 rfl) ?_
  refine lv_iload_n hx hb d_JI_bitCount_25 rfl (lv_at hl 0 rfl) ?_
  refine lv_iconst (v := 4) hx hb d_JI_bitCount_26 (by decide) ?_
  refine lv_iushr (v := (v321.toUInt32 >>> ((4 : Int32).toUInt32 &&& Int32.toUInt32 31)).toInt32) hx hb d_JI_bitCount_27 rfl ?_
  refine lv_topi (fun v322 ev322 => ?_)
  refine lv_iadd hx hb d_JI_bitCount_28 ?_
  refine lv_topi (fun v323 ev323 => ?_)
  refine lv_ldcw (v := 252645135) hx hb hown (hts _ (List.mem_cons_of_mem _ w_493)) d_JI_bitCount_29 ?_
  refine lv_iand hx hb d_JI_bitCount_32 ?_
  refine lv_topi (fun v324 ev324 => ?_)
  refine lv_istore_n (lv' := [(0, .int v324)]) hx hb d_JI_bitCount_33 rfl hl (by decide) rfl (fun ls hl => ?_)
  refine lv_iload_n hx hb d_JI_bitCount_34 rfl (lv_at hl 0 rfl) ?_
  refine lv_iload_n hx hb d_JI_bitCount_35 rfl (lv_at hl 0 rfl) ?_
  refine lv_bipush (v := 8) hx hb d_JI_bitCount_36 (by decide) ?_
  refine lv_iushr (v := (v324.toUInt32 >>> ((8 : Int32).toUInt32 &&& Int32.toUInt32 31)).toInt32) hx hb d_JI_bitCount_38 rfl ?_
  refine lv_topi (fun v325 ev325 => ?_)
  refine lv_iadd hx hb d_JI_bitCount_39 ?_
  refine lv_topi (fun v326 ev326 => ?_)
  refine lv_istore_n (lv' := [(0, .int v326)]) hx hb d_JI_bitCount_40 rfl hl (by decide) rfl (fun ls hl => ?_)
  refine lv_iload_n hx hb d_JI_bitCount_41 rfl (lv_at hl 0 rfl) ?_
  refine lv_iload_n hx hb d_JI_bitCount_42 rfl (lv_at hl 0 rfl) ?_
  refine lv_bipush (v := 16) hx hb d_JI_bitCount_43 (by decide) ?_
  refine lv_iushr (v := (v326.toUInt32 >>> ((16 : Int32).toUInt32 &&& Int32.toUInt32 31)).toInt32) hx hb d_JI_bitCount_45 rfl ?_
  refine lv_topi (fun v327 ev327 => ?_)
  refine lv_iadd hx hb d_JI_bitCount_46 ?_
  refine lv_topi (fun v328 ev328 => ?_)
  refine lv_istore_n (lv' := [(0, .int v328)]) hx hb d_JI_bitCount_47 rfl hl (by decide) rfl (fun ls hl => ?_)
  refine lv_iload_n hx hb d_JI_bitCount_48 rfl (lv_at hl 0 rfl) ?_
  refine lv_bipush (v := 63) hx hb d_JI_bitCount_49 (by decide) ?_
  refine lv_iand hx hb d_JI_bitCount_51 ?_
  refine lv_topi (fun v329 ev329 => ?_)
  refine W.widen (k := 0) (n := 0) (Nat.le_of_ble_eq_true rfl) (Nat.le_of_ble_eq_true rfl) ?_
  exact W.iret (v := v329) hx hb hr (fun t ht hW => ⟨⟨v329, (), rfl, trivial, trivial⟩, hS.F ht⟩) hS.2.2 d_JI_bitCount_52
set_option maxHeartbeats 4000000 in
set_option maxRecDepth 100000 in
/-- GlyphLines$Move.canBe -/
theorem g_MO_canBe (l : Launch) (dC : Nat → ClassId) (dI : Nat → Nat → Nat) (fl : Int32) (sz : Nat) : Met l y_MO_canBe s_MO_canBe ({ frames := 10, cells := 0, slots := 0, locals := 300 }) (va_Pc [.int fl] (fun U => U.heap.size = sz ∧ va_P (dC, dI) cls_ [] U.heap ∧ va_K (dC, dI) cls_ [] U ∧ va_D (fun _ => True) [])) (va_Qi (fun (r : Int32) (_ : Unit) => ∃ b9 : Bool, r = bI b9) (fun (_ : Unit) (t : State) => True) (va_A [] sz)) 0 0 (va_A [] sz) := by
  refine Met.ofW (cc := b_MO_canBe) (maxL := 1) (ret := (some .boolean)) (by decide) rfl ?_
  intro p e s m args below meth c s₁ B hml hv
  obtain ⟨rfl, hsz, hP, hK, hD0⟩ := hv
  have hx := B.exec
  have hb := B.bytes
  have hr := B.returns
  have hts := atoms_spec (ws := s_MO_canBe) B.pre
  have hown : s.vm.findClass R_MO = some m.cls := findClass_of_methodNamed B.named
  have hlocks := B.notSynchronized
  subst hsz
  have hD := hD0.self (sz := s.heap.size)
  generalize hAe : va_A [] s.heap.size = A at hD ⊢
  have hA : ∀ q : Nat, s.heap.size ≤ q → A q := fun q h => by rw [← hAe]; exact Or.inr h
  have hS : va_S A s.heap s.heap [] := va_S.rf
  have hP : va_P (dC, dI) cls_ [] s.heap := hP
  have hl := lv_entry ([.int fl]) (n := 1) (Nat.le_of_ble_eq_true rfl)
  rw [lg_entry_eq]
  generalize (lg_sl ([.int fl]) ++ List.replicate (1 - (lg_sl ([.int fl])).length) Slot.unset).toArray = ls at hl ⊢
  have hl : lv_has ls 1 [(0, .int fl)] := hl
  refine lv_iload_n hx hb d_MO_canBe_0 rfl (lv_at hl 0 rfl) ?_
  refine lv_iconst (v := 2) hx hb d_MO_canBe_1 (by decide) ?_
  refine lv_iand hx hb d_MO_canBe_2 ?_
  refine lv_topi (fun v330 ev330 => ?_)
  refine lv_if_eq (tgt := 22) hx hb d_MO_canBe_3 (by decide) (fun hc331 => ?_) (fun hc331 => ?_)
  · skip
    refine lv_iconst (v := 0) hx hb d_MO_canBe_22 (by decide) ?_
    refine W.widen (k := 0) (n := 0) (Nat.le_of_ble_eq_true rfl) (Nat.le_of_ble_eq_true rfl) ?_
    exact W.zret (v := 0) (ty := .boolean) hx hb hr (by decide +kernel) (fun t ht hW => ⟨⟨0, (), rfl, ⟨false, rfl⟩, trivial⟩, hS.F ht⟩) hS.2.2 d_MO_canBe_23
  · skip
    refine lv_iload_n hx hb d_MO_canBe_6 rfl (lv_at hl 0 rfl) ?_
    refine lv_sipush (v := 200) hx hb d_MO_canBe_7 (by decide) ?_
    refine lv_iand hx hb d_MO_canBe_10 ?_
    refine lv_topi (fun v332 ev332 => ?_)
    have hPc := hP.sub (ws' := []) [] rfl
    have hDc := hD.sub (ws' := []) [] (by decide) rfl
    have hKc := hK.sub (tys' := []) [] rfl
    have hFc := va_free (wc := []) hD hS hA [] rfl
    refine va_calli (va_runS (As := [.int v332]) (rest := []) ⟨hx, hb, hml, hown, hts⟩ (g_JI_bitCount l dC dI v332 s.heap.size) ⟨callB_of 1 hts (tw_in w_490) rfl rfl rfl (hts _ (List.mem_cons_of_mem _ w_19)) (hts _ (List.mem_cons_of_mem _ w_488)) (by decide +kernel) ⟨Nat.le_of_ble_eq_true rfl, Nat.le_of_ble_eq_true rfl⟩, (hts _ (List.mem_cons_of_mem _ w_489))⟩ ⟨fun a U g mk q => by obtain ⟨q0, q1, qP, qK, qD⟩ := q; exact ⟨q0, q1, qP, va_K.moved (u := U) (U := U.calling g mk a) (Vm.Alike.refl U.vm) qK, qD⟩, fun U hU hW => ⟨rfl, by rw [hU], by rw [hU]; exact hPc, va_K.moved hW.alike hKc, hDc.weaken (fun _ _ _ _ => trivial)⟩⟩ rfl rfl hl.1 rfl (lv_room (Nat.le_of_ble_eq_true rfl)) d_MO_canBe_11 ⟨Nat.le_of_ble_eq_true rfl, Nat.le_of_ble_eq_true rfl⟩) hS (fun q _ h => hFc q h) hFc (fun r333 u t H1 locs ht hvm hw hB hz1 hk1 hS => ?_)
    have hP1 : va_P (dC, dI) cls_ [] H1 := fun k q h => by simp at h
    have hD1 : va_D (va_A [] s.heap.size) [] := ⟨fun i j p q h => by simp at h, fun k q h => by simp at h⟩
    obtain ⟨hP, hD⟩ := va_join (wr := []) (w1 := []) hP hD [] [] rfl rfl (by decide) (by decide) hk1 hFc hP1 hD1
    generalize H1 = H at hP hS ⊢
    have hP : va_P (dC, dI) cls_ [] H := hP
    have hD : va_D A [] := hD
    have hw_r333 := hw
    refine lv_iconst (v := 1) hx hb d_MO_canBe_14 (by decide) ?_
    refine lv_icmp_gt (tgt := 22) hx hb d_MO_canBe_15 (by decide) (fun hc334 => ?_) (fun hc334 => ?_)
    · skip
      refine lv_iconst (v := 0) hx hb d_MO_canBe_22 (by decide) ?_
      refine W.widen (k := 0) (n := 0) (Nat.le_of_ble_eq_true rfl) (Nat.le_of_ble_eq_true rfl) ?_
      exact W.zret (v := 0) (ty := .boolean) hx hb hr (by decide +kernel) (fun t ht hW => ⟨⟨0, (), rfl, ⟨false, rfl⟩, trivial⟩, hS.F ht⟩) hS.2.2 d_MO_canBe_23
    · skip
      refine lv_iconst (v := 1) hx hb d_MO_canBe_18 (by decide) ?_
      refine lv_goto (tgt := 23) hx hb d_MO_canBe_19 (by decide) ?_
      refine W.widen (k := 0) (n := 0) (Nat.le_of_ble_eq_true rfl) (Nat.le_of_ble_eq_true rfl) ?_
      exact W.zret (v := 1) (ty := .boolean) hx hb hr (by decide +kernel) (fun t ht hW => ⟨⟨1, (), rfl, ⟨true, rfl⟩, trivial⟩, hS.F ht⟩) hS.2.2 d_MO_canBe_23
set_option maxHeartbeats 4000000 in
set_option maxRecDepth 100000 in
/-- GlyphLines$Move.newX -/
theorem g_MO_newX (l : Launch) (dC : Nat → ClassId) (dI : Nat → Nat → Nat) (h0 : Nat) (u1 : Int32) (u2 : Int32) (u3 : Int32) (u4 : Int32) (u5 : Int32) (u6 : Int32) (x : Int32) (y : Int32) (sz : Nat) : Met l y_MO_newX s_MO_newX ({ frames := 8, cells := 0, slots := 0, locals := 200 }) (va_Pc [.ref h0, .int x, .int y] (fun U => U.heap.size = sz ∧ va_P (dC, dI) cls_ [(h0, .inr (5, [.int u1, .int u2, .int u3, .int u4, .int u5, .int u6]))] U.heap ∧ va_K (dC, dI) cls_ [] U ∧ va_D (fun _ => True) [(h0, .inr (5, [.int u1, .int u2, .int u3, .int u4, .int u5, .int u6]))])) (va_Qi (fun (r : Int32) (_ : Unit) => True) (fun (_ : Unit) (t : State) => va_P (dC, dI) cls_ [(h0, .inr (5, [.int u1, .int u2, .int u3, .int u4, .int u5, .int u6]))] t.heap ∧ va_K (dC, dI) cls_ [] t ∧ va_D (va_A [(h0, .inr (5, [.int u1, .int u2, .int u3, .int u4, .int u5, .int u6]))] sz) [(h0, .inr (5, [.int u1, .int u2, .int u3, .int u4, .int u5, .int u6]))]) (va_A [(h0, .inr (5, [.int u1, .int u2, .int u3, .int u4, .int u5, .int u6]))] sz)) 0 0 (va_A [(h0, .inr (5, [.int u1, .int u2, .int u3, .int u4, .int u5, .int u6]))] sz) := by
  refine Met.ofW (cc := b_MO_newX) (maxL := 3) (ret := (some .int)) (by decide) rfl ?_
  intro p e s m args below meth c s₁ B hml hv
  obtain ⟨rfl, hsz, hP, hK, hD0⟩ := hv
  have hx := B.exec
  have hb := B.bytes
  have hr := B.returns
  have hts := atoms_spec (ws := s_MO_newX) B.pre
  have hown : s.vm.findClass R_MO = some m.cls := findClass_of_methodNamed B.named
  have hlocks := B.notSynchronized
  subst hsz
  have hD := hD0.self (sz := s.heap.size)
  generalize hAe : va_A [(h0, .inr (5, [.int u1, .int u2, .int u3, .int u4, .int u5, .int u6]))] s.heap.size = A at hD ⊢
  have hA : ∀ q : Nat, s.heap.size ≤ q → A q := fun q h => by rw [← hAe]; exact Or.inr h
  have hS : va_S A s.heap s.heap [] := va_S.rf
  have hP : va_P (dC, dI) cls_ [(h0, .inr (5, [.int u1, .int u2, .int u3, .int u4, .int u5, .int u6]))] s.heap := hP
  have hl := lv_entry ([.ref h0, .int x, .int y]) (n := 3) (Nat.le_of_ble_eq_true rfl)
  rw [lg_entry_eq]
  generalize (lg_sl ([.ref h0, .int x, .int y]) ++ List.replicate (3 - (lg_sl ([.ref h0, .int x, .int y])).length) Slot.unset).toArray = ls at hl ⊢
  have hl : lv_has ls 3 [(0, .ref h0), (1, .int x), (2, .int y)] := hl
  refine lv_aload_n hx hb d_MO_newX_0 rfl (lv_at hl 0 rfl) ?_
  refine va_get (D := (dC, dI)) (ci := 5) (v := .int u1) (C := R_MO) (T := F_MO) (N := 6) hx hb hts in_MO hown hK hP 0 rfl rfl 0 (by decide) (hts _ (List.mem_cons_of_mem _ w_178)) (fun _ h9 => h9) rfl d_MO_newX_1 ?_
  refine lv_iload_n hx hb d_MO_newX_4 rfl (lv_at hl 1 rfl) ?_
  refine lv_imul hx hb d_MO_newX_5 ?_
  refine lv_topi (fun v335 ev335 => ?_)
  refine lv_aload_n hx hb d_MO_newX_6 rfl (lv_at hl 0 rfl) ?_
  refine va_get (D := (dC, dI)) (ci := 5) (v := .int u3) (C := R_MO) (T := F_MO) (N := 6) hx hb hts in_MO hown hK hP 0 rfl rfl 2 (by decide) (hts _ (List.mem_cons_of_mem _ w_180)) (fun _ h9 => h9) rfl d_MO_newX_7 ?_
  refine lv_iload_n hx hb d_MO_newX_10 rfl (lv_at hl 2 rfl) ?_
  refine lv_imul hx hb d_MO_newX_11 ?_
  refine lv_topi (fun v336 ev336 => ?_)
  refine lv_iadd hx hb d_MO_newX_12 ?_
  refine lv_topi (fun v337 ev337 => ?_)
  refine lv_bipush (v := 14) hx hb d_MO_newX_13 (by decide) ?_
  refine lv_ishr hx hb d_MO_newX_15 ?_
  refine lv_topi (fun v338 ev338 => ?_)
  refine lv_aload_n hx hb d_MO_newX_16 rfl (lv_at hl 0 rfl) ?_
  refine va_get (D := (dC, dI)) (ci := 5) (v := .int u5) (C := R_MO) (T := F_MO) (N := 6) hx hb hts in_MO hown hK hP 0 rfl rfl 4 (by decide) (hts _ (List.mem_cons_of_mem _ w_182)) (fun _ h9 => h9) rfl d_MO_newX_17 ?_
  refine lv_iadd hx hb d_MO_newX_20 ?_
  refine lv_topi (fun v339 ev339 => ?_)
  refine W.widen (k := 0) (n := 0) (Nat.le_of_ble_eq_true rfl) (Nat.le_of_ble_eq_true rfl) ?_
  have hP9 := hP.sub (ws' := [(h0, .inr (5, [.int u1, .int u2, .int u3, .int u4, .int u5, .int u6]))]) [0] rfl
  have hD9 := hD.sub (ws' := [(h0, .inr (5, [.int u1, .int u2, .int u3, .int u4, .int u5, .int u6]))]) [0] (by decide) rfl
  have hK9 := hK.sub (tys' := []) [] rfl
  exact W.iret (v := v339) hx hb hr (fun t ht hW => ⟨⟨v339, (), rfl, trivial, by rw [ht]; exact hP9, va_K.moved hW.alike hK9, hD9⟩, hS.F ht⟩) hS.2.2 d_MO_newX_21
set_option maxHeartbeats 4000000 in
set_option maxRecDepth 100000 in
/-- GlyphLines$Move.newY -/
theorem g_MO_newY (l : Launch) (dC : Nat → ClassId) (dI : Nat → Nat → Nat) (h0 : Nat) (u1 : Int32) (u2 : Int32) (u3 : Int32) (u4 : Int32) (u5 : Int32) (u6 : Int32) (x : Int32) (y : Int32) (sz : Nat) : Met l y_MO_newY s_MO_newY ({ frames := 8, cells := 0, slots := 0, locals := 200 }) (va_Pc [.ref h0, .int x, .int y] (fun U => U.heap.size = sz ∧ va_P (dC, dI) cls_ [(h0, .inr (5, [.int u1, .int u2, .int u3, .int u4, .int u5, .int u6]))] U.heap ∧ va_K (dC, dI) cls_ [] U ∧ va_D (fun _ => True) [(h0, .inr (5, [.int u1, .int u2, .int u3, .int u4, .int u5, .int u6]))])) (va_Qi (fun (r : Int32) (_ : Unit) => True) (fun (_ : Unit) (t : State) => va_P (dC, dI) cls_ [(h0, .inr (5, [.int u1, .int u2, .int u3, .int u4, .int u5, .int u6]))] t.heap ∧ va_K (dC, dI) cls_ [] t ∧ va_D (va_A [(h0, .inr (5, [.int u1, .int u2, .int u3, .int u4, .int u5, .int u6]))] sz) [(h0, .inr (5, [.int u1, .int u2, .int u3, .int u4, .int u5, .int u6]))]) (va_A [(h0, .inr (5, [.int u1, .int u2, .int u3, .int u4, .int u5, .int u6]))] sz)) 0 0 (va_A [(h0, .inr (5, [.int u1, .int u2, .int u3, .int u4, .int u5, .int u6]))] sz) := by
  refine Met.ofW (cc := b_MO_newY) (maxL := 3) (ret := (some .int)) (by decide) rfl ?_
  intro p e s m args below meth c s₁ B hml hv
  obtain ⟨rfl, hsz, hP, hK, hD0⟩ := hv
  have hx := B.exec
  have hb := B.bytes
  have hr := B.returns
  have hts := atoms_spec (ws := s_MO_newY) B.pre
  have hown : s.vm.findClass R_MO = some m.cls := findClass_of_methodNamed B.named
  have hlocks := B.notSynchronized
  subst hsz
  have hD := hD0.self (sz := s.heap.size)
  generalize hAe : va_A [(h0, .inr (5, [.int u1, .int u2, .int u3, .int u4, .int u5, .int u6]))] s.heap.size = A at hD ⊢
  have hA : ∀ q : Nat, s.heap.size ≤ q → A q := fun q h => by rw [← hAe]; exact Or.inr h
  have hS : va_S A s.heap s.heap [] := va_S.rf
  have hP : va_P (dC, dI) cls_ [(h0, .inr (5, [.int u1, .int u2, .int u3, .int u4, .int u5, .int u6]))] s.heap := hP
  have hl := lv_entry ([.ref h0, .int x, .int y]) (n := 3) (Nat.le_of_ble_eq_true rfl)
  rw [lg_entry_eq]
  generalize (lg_sl ([.ref h0, .int x, .int y]) ++ List.replicate (3 - (lg_sl ([.ref h0, .int x, .int y])).length) Slot.unset).toArray = ls at hl ⊢
  have hl : lv_has ls 3 [(0, .ref h0), (1, .int x), (2, .int y)] := hl
  refine lv_aload_n hx hb d_MO_newY_0 rfl (lv_at hl 0 rfl) ?_
  refine va_get (D := (dC, dI)) (ci := 5) (v := .int u2) (C := R_MO) (T := F_MO) (N := 6) hx hb hts in_MO hown hK hP 0 rfl rfl 1 (by decide) (hts _ (List.mem_cons_of_mem _ w_179)) (fun _ h9 => h9) rfl d_MO_newY_1 ?_
  refine lv_iload_n hx hb d_MO_newY_4 rfl (lv_at hl 1 rfl) ?_
  refine lv_imul hx hb d_MO_newY_5 ?_
  refine lv_topi (fun v340 ev340 => ?_)
  refine lv_aload_n hx hb d_MO_newY_6 rfl (lv_at hl 0 rfl) ?_
  refine va_get (D := (dC, dI)) (ci := 5) (v := .int u4) (C := R_MO) (T := F_MO) (N := 6) hx hb hts in_MO hown hK hP 0 rfl rfl 3 (by decide) (hts _ (List.mem_cons_of_mem _ w_181)) (fun _ h9 => h9) rfl d_MO_newY_7 ?_
  refine lv_iload_n hx hb d_MO_newY_10 rfl (lv_at hl 2 rfl) ?_
  refine lv_imul hx hb d_MO_newY_11 ?_
  refine lv_topi (fun v341 ev341 => ?_)
  refine lv_iadd hx hb d_MO_newY_12 ?_
  refine lv_topi (fun v342 ev342 => ?_)
  refine lv_bipush (v := 14) hx hb d_MO_newY_13 (by decide) ?_
  refine lv_ishr hx hb d_MO_newY_15 ?_
  refine lv_topi (fun v343 ev343 => ?_)
  refine lv_aload_n hx hb d_MO_newY_16 rfl (lv_at hl 0 rfl) ?_
  refine va_get (D := (dC, dI)) (ci := 5) (v := .int u6) (C := R_MO) (T := F_MO) (N := 6) hx hb hts in_MO hown hK hP 0 rfl rfl 5 (by decide) (hts _ (List.mem_cons_of_mem _ w_183)) (fun _ h9 => h9) rfl d_MO_newY_17 ?_
  refine lv_iadd hx hb d_MO_newY_20 ?_
  refine lv_topi (fun v344 ev344 => ?_)
  refine W.widen (k := 0) (n := 0) (Nat.le_of_ble_eq_true rfl) (Nat.le_of_ble_eq_true rfl) ?_
  have hP9 := hP.sub (ws' := [(h0, .inr (5, [.int u1, .int u2, .int u3, .int u4, .int u5, .int u6]))]) [0] rfl
  have hD9 := hD.sub (ws' := [(h0, .inr (5, [.int u1, .int u2, .int u3, .int u4, .int u5, .int u6]))]) [0] (by decide) rfl
  have hK9 := hK.sub (tys' := []) [] rfl
  exact W.iret (v := v344) hx hb hr (fun t ht hW => ⟨⟨v344, (), rfl, trivial, by rw [ht]; exact hP9, va_K.moved hW.alike hK9, hD9⟩, hS.F ht⟩) hS.2.2 d_MO_newY_21
set_option maxHeartbeats 4000000 in
set_option maxRecDepth 100000 in
/-- GlyphLines$Move.readFactors -/
theorem g_MO_readFactors (l : Launch) (dC : Nat → ClassId) (dI : Nat → Nat → Nat) (h0 : Nat) (qw : Nat) (qa : Nat) (a : Nat) (n : Nat) (mi : Bool) (cA : ClassId) (f : Nat → Int32) (u1 : Int32) (u2 : Int32) (u3 : Int32) (u4 : Int32) (u5 : Int32) (u6 : Int32) (pl : Int32) (fl : Int32) (sz : Nat) (hq0 : a + n ≤ 1200) (hq1 : isB f) : Met l y_MO_readFactors s_MO_readFactors ({ frames := 10, cells := 0, slots := 0, locals := 300 }) (va_Pc [.ref h0, .ref qw, .int pl, .int fl] (fun U => U.heap.size = sz ∧ va_P (dC, dI) cls_ [(h0, .inr (5, [.int u1, .int u2, .int u3, .int u4, .int u5, .int u6])), (qw, .inr (0, [.ref qa, .int (nI (a)), .int (nI (n)), .int (bI mi)])), (qa, .inl (cA, 1200, .inl (f)))] U.heap ∧ va_K (dC, dI) cls_ [(cA, .int)] U ∧ va_D (fun _ => True) [(h0, .inr (5, [.int u1, .int u2, .int u3, .int u4, .int u5, .int u6])), (qw, .inr (0, [.ref qa, .int (nI (a)), .int (nI (n)), .int (bI mi)])), (qa, .inl (cA, 1200, .inl (f)))])) (va_Qi (fun (r : Int32) (_ : Unit) => True) (fun (_ : Unit) (t : State) => ∃ (m2 : Bool) (v1 : Int32) (v2 : Int32) (v3 : Int32) (v4 : Int32) (v5 : Int32) (v6 : Int32), va_P (dC, dI) cls_ [(h0, .inr (5, [.int v1, .int v2, .int v3, .int v4, .int v5, .int v6])), (qw, .inr (0, [.ref qa, .int (nI (a)), .int (nI (n)), .int (bI m2)])), (qa, .inl (cA, 1200, .inl (f)))] t.heap ∧ va_K (dC, dI) cls_ [(cA, .int)] t ∧ va_D (va_A [(h0, .inr (5, [.int u1, .int u2, .int u3, .int u4, .int u5, .int u6])), (qw, .inr (0, [.ref qa, .int (nI (a)), .int (nI (n)), .int (bI mi)])), (qa, .inl (cA, 1200, .inl (f)))] sz) [(h0, .inr (5, [.int v1, .int v2, .int v3, .int v4, .int v5, .int v6])), (qw, .inr (0, [.ref qa, .int (nI (a)), .int (nI (n)), .int (bI m2)])), (qa, .inl (cA, 1200, .inl (f)))]) (va_A [(h0, .inr (5, [.int u1, .int u2, .int u3, .int u4, .int u5, .int u6])), (qw, .inr (0, [.ref qa, .int (nI (a)), .int (nI (n)), .int (bI mi)])), (qa, .inl (cA, 1200, .inl (f)))] sz)) 0 0 (va_A [(h0, .inr (5, [.int u1, .int u2, .int u3, .int u4, .int u5, .int u6])), (qw, .inr (0, [.ref qa, .int (nI (a)), .int (nI (n)), .int (bI mi)])), (qa, .inl (cA, 1200, .inl (f)))] sz) := by
  refine Met.ofW (cc := b_MO_readFactors) (maxL := 4) (ret := (some .int)) (by decide) rfl ?_
  intro p e s m args below meth c s₁ B hml hv
  obtain ⟨rfl, hsz, hP, hK, hD0⟩ := hv
  have hx := B.exec
  have hb := B.bytes
  have hr := B.returns
  have hts := atoms_spec (ws := s_MO_readFactors) B.pre
  have hown : s.vm.findClass R_MO = some m.cls := findClass_of_methodNamed B.named
  have hlocks := B.notSynchronized
  subst hsz
  have hD := hD0.self (sz := s.heap.size)
  generalize hAe : va_A [(h0, .inr (5, [.int u1, .int u2, .int u3, .int u4, .int u5, .int u6])), (qw, .inr (0, [.ref qa, .int (nI (a)), .int (nI (n)), .int (bI mi)])), (qa, .inl (cA, 1200, .inl (f)))] s.heap.size = A at hD ⊢
  have hA : ∀ q : Nat, s.heap.size ≤ q → A q := fun q h => by rw [← hAe]; exact Or.inr h
  have hS : va_S A s.heap s.heap [] := va_S.rf
  have hP : va_P (dC, dI) cls_ [(h0, .inr (5, [.int u1, .int u2, .int u3, .int u4, .int u5, .int u6])), (qw, .inr (0, [.ref qa, .int (nI (a)), .int (nI (n)), .int (bI mi)])), (qa, .inl (cA, 1200, .inl (f)))] s.heap := hP
  have hl := lv_entry ([.ref h0, .ref qw, .int pl, .int fl]) (n := 4) (Nat.le_of_ble_eq_true rfl)
  rw [lg_entry_eq]
  generalize (lg_sl ([.ref h0, .ref qw, .int pl, .int fl]) ++ List.replicate (4 - (lg_sl ([.ref h0, .ref qw, .int pl, .int fl])).length) Slot.unset).toArray = ls at hl ⊢
  have hl : lv_has ls 4 [(0, .ref h0), (1, .ref qw), (2, .int pl), (3, .int fl)] := hl
  refine lv_aload_n hx hb d_MO_readFactors_0 rfl (lv_at hl 0 rfl) ?_
  refine lv_sipush (v := 16384) hx hb d_MO_readFactors_1 (by decide) ?_
  refine va_put (D := (dC, dI)) (ci := 5) (v := .int 16384) (ty := .int) (C := R_MO) (T := F_MO) (N := 6) hx hb hts in_MO t_MO t_MO_ok n_MO hown hK hP hD hS 0 rfl rfl 0 (by decide) (hts _ (List.mem_cons_of_mem _ w_178)) (fun _ h9 => h9) rfl  (by decide +kernel) rfl rfl (Nat.le_of_ble_eq_true rfl) d_MO_readFactors_4 (fun H locs hP hD hS => ?_)
  have hP : va_P (dC, dI) cls_ [(h0, .inr (5, [.int 16384, .int u2, .int u3, .int u4, .int u5, .int u6])), (qw, .inr (0, [.ref qa, .int (nI (a)), .int (nI (n)), .int (bI mi)])), (qa, .inl (cA, 1200, .inl (f)))] H := hP
  have hD : va_D A [(h0, .inr (5, [.int 16384, .int u2, .int u3, .int u4, .int u5, .int u6])), (qw, .inr (0, [.ref qa, .int (nI (a)), .int (nI (n)), .int (bI mi)])), (qa, .inl (cA, 1200, .inl (f)))] := hD
  refine lv_aload_n hx hb d_MO_readFactors_7 rfl (lv_at hl 0 rfl) ?_
  refine lv_iconst (v := 0) hx hb d_MO_readFactors_8 (by decide) ?_
  refine va_put (D := (dC, dI)) (ci := 5) (v := .int 0) (ty := .int) (C := R_MO) (T := F_MO) (N := 6) hx hb hts in_MO t_MO t_MO_ok n_MO hown hK hP hD hS 0 rfl rfl 1 (by decide) (hts _ (List.mem_cons_of_mem _ w_179)) (fun _ h9 => h9) rfl  (by decide +kernel) rfl rfl (Nat.le_of_ble_eq_true rfl) d_MO_readFactors_9 (fun H locs hP hD hS => ?_)
  have hP : va_P (dC, dI) cls_ [(h0, .inr (5, [.int 16384, .int 0, .int u3, .int u4, .int u5, .int u6])), (qw, .inr (0, [.ref qa, .int (nI (a)), .int (nI (n)), .int (bI mi)])), (qa, .inl (cA, 1200, .inl (f)))] H := hP
  have hD : va_D A [(h0, .inr (5, [.int 16384, .int 0, .int u3, .int u4, .int u5, .int u6])), (qw, .inr (0, [.ref qa, .int (nI (a)), .int (nI (n)), .int (bI mi)])), (qa, .inl (cA, 1200, .inl (f)))] := hD
  refine lv_aload_n hx hb d_MO_readFactors_12 rfl (lv_at hl 0 rfl) ?_
  refine lv_iconst (v := 0) hx hb d_MO_readFactors_13 (by decide) ?_
  refine va_put (D := (dC, dI)) (ci := 5) (v := .int 0) (ty := .int) (C := R_MO) (T := F_MO) (N := 6) hx hb hts in_MO t_MO t_MO_ok n_MO hown hK hP hD hS 0 rfl rfl 2 (by decide) (hts _ (List.mem_cons_of_mem _ w_180)) (fun _ h9 => h9) rfl  (by decide +kernel) rfl rfl (Nat.le_of_ble_eq_true rfl) d_MO_readFactors_14 (fun H locs hP hD hS => ?_)
  have hP : va_P (dC, dI) cls_ [(h0, .inr (5, [.int 16384, .int 0, .int 0, .int u4, .int u5, .int u6])), (qw, .inr (0, [.ref qa, .int (nI (a)), .int (nI (n)), .int (bI mi)])), (qa, .inl (cA, 1200, .inl (f)))] H := hP
  have hD : va_D A [(h0, .inr (5, [.int 16384, .int 0, .int 0, .int u4, .int u5, .int u6])), (qw, .inr (0, [.ref qa, .int (nI (a)), .int (nI (n)), .int (bI mi)])), (qa, .inl (cA, 1200, .inl (f)))] := hD
  refine lv_aload_n hx hb d_MO_readFactors_17 rfl (lv_at hl 0 rfl) ?_
  refine lv_aload_n hx hb d_MO_readFactors_18 rfl (lv_at hl 0 rfl) ?_
  refine va_get (D := (dC, dI)) (ci := 5) (v := .int 16384) (C := R_MO) (T := F_MO) (N := 6) hx hb hts in_MO hown hK hP 0 rfl rfl 0 (by decide) (hts _ (List.mem_cons_of_mem _ w_178)) (fun _ h9 => h9) rfl d_MO_readFactors_19 ?_
  refine va_put (D := (dC, dI)) (ci := 5) (v := .int 16384) (ty := .int) (C := R_MO) (T := F_MO) (N := 6) hx hb hts in_MO t_MO t_MO_ok n_MO hown hK hP hD hS 0 rfl rfl 3 (by decide) (hts _ (List.mem_cons_of_mem _ w_181)) (fun _ h9 => h9) rfl  (by decide +kernel) rfl rfl (Nat.le_of_ble_eq_true rfl) d_MO_readFactors_22 (fun H locs hP hD hS => ?_)
  have hP : va_P (dC, dI) cls_ [(h0, .inr (5, [.int 16384, .int 0, .int 0, .int 16384, .int u5, .int u6])), (qw, .inr (0, [.ref qa, .int (nI (a)), .int (nI (n)), .int (bI mi)])), (qa, .inl (cA, 1200, .inl (f)))] H := hP
  have hD : va_D A [(h0, .inr (5, [.int 16384, .int 0, .int 0, .int 16384, .int u5, .int u6])), (qw, .inr (0, [.ref qa, .int (nI (a)), .int (nI (n)), .int (bI mi)])), (qa, .inl (cA, 1200, .inl (f)))] := hD
  refine lv_iload_n hx hb d_MO_readFactors_25 rfl (lv_at hl 3 rfl) ?_
  refine lv_bipush (v := 8) hx hb d_MO_readFactors_26 (by decide) ?_
  refine lv_iand hx hb d_MO_readFactors_28 ?_
  refine lv_topi (fun v345 ev345 => ?_)
  refine lv_if_eq (tgt := 54) hx hb d_MO_readFactors_29 (by decide) (fun hc346 => ?_) (fun hc346 => ?_)
  · skip
    refine lv_iload_n hx hb d_MO_readFactors_54 rfl (lv_at hl 3 rfl) ?_
    refine lv_bipush (v := 64) hx hb d_MO_readFactors_55 (by decide) ?_
    refine lv_iand hx hb d_MO_readFactors_57 ?_
    refine lv_topi (fun v347 ev347 => ?_)
    refine lv_if_eq (tgt := 87) hx hb d_MO_readFactors_58 (by decide) (fun hc348 => ?_) (fun hc348 => ?_)
    · skip
      refine lv_iload_n hx hb d_MO_readFactors_87 rfl (lv_at hl 3 rfl) ?_
      refine lv_sipush (v := 128) hx hb d_MO_readFactors_88 (by decide) ?_
      refine lv_iand hx hb d_MO_readFactors_91 ?_
      refine lv_topi (fun v349 ev349 => ?_)
      refine lv_if_eq (tgt := 147) hx hb d_MO_readFactors_92 (by decide) (fun hc350 => ?_) (fun hc350 => ?_)
      · skip
        refine lv_iload_n hx hb d_MO_readFactors_147 rfl (lv_at hl 2 rfl) ?_
        refine W.widen (k := 0) (n := 0) (Nat.le_of_ble_eq_true rfl) (Nat.le_of_ble_eq_true rfl) ?_
        have hP9 := hP.sub (ws' := [(h0, .inr (5, [.int 16384, .int 0, .int 0, .int 16384, .int u5, .int u6])), (qw, .inr (0, [.ref qa, .int (nI (a)), .int (nI (n)), .int (bI mi)])), (qa, .inl (cA, 1200, .inl (f)))]) [0, 1, 2] rfl
        have hD9 := hD.sub (ws' := [(h0, .inr (5, [.int 16384, .int 0, .int 0, .int 16384, .int u5, .int u6])), (qw, .inr (0, [.ref qa, .int (nI (a)), .int (nI (n)), .int (bI mi)])), (qa, .inl (cA, 1200, .inl (f)))]) [0, 1, 2] (by decide) rfl
        have hK9 := hK.sub (tys' := [(cA, .int)]) [0] rfl
        exact W.iret (v := pl) hx hb hr (fun t ht hW => ⟨⟨pl, (), rfl, trivial, mi, 16384, 0, 0, 16384, u5, u6, by rw [ht]; exact hP9, va_K.moved hW.alike hK9, hD9⟩, hS.F ht⟩) hS.2.2 d_MO_readFactors_148
      · skip
        refine lv_aload_n hx hb d_MO_readFactors_95 rfl (lv_at hl 0 rfl) ?_
        refine lv_aload_n hx hb d_MO_readFactors_96 rfl (lv_at hl 1 rfl) ?_
        refine lv_iload_n hx hb d_MO_readFactors_97 rfl (lv_at hl 2 rfl) ?_
        have hPc := hP.sub (ws' := [(qw, .inr (0, [.ref qa, .int (nI (a)), .int (nI (n)), .int (bI mi)])), (qa, .inl (cA, 1200, .inl (f)))]) [1, 2] rfl
        have hDc := hD.sub (ws' := [(qw, .inr (0, [.ref qa, .int (nI (a)), .int (nI (n)), .int (bI mi)])), (qa, .inl (cA, 1200, .inl (f)))]) [1, 2] (by decide) rfl
        have hKc := hK.sub (tys' := [(cA, .int)]) [0] rfl
        have hFc := va_free (wc := [(qw, .inr (0, [.ref qa, .int (nI (a)), .int (nI (n)), .int (bI mi)])), (qa, .inl (cA, 1200, .inl (f)))]) hD hS hA [1, 2] rfl
        refine va_calli (va_runV (As := [.int pl]) (rest := [.ref h0]) ⟨hx, hb, hml, hown, hts⟩ (g_SP_u16 l dC dI qw qa a n mi cA f pl H.size (by omega) (by assumption)) (cwV 1 hts (tw_inV w_498 w_353 w_354 w_4 w_355) rfl rfl rfl (by decide +kernel) ⟨Nat.le_of_ble_eq_true rfl, Nat.le_of_ble_eq_true rfl⟩) ⟨fun a U g mk q => by obtain ⟨q0, q1, qP, qK, qD⟩ := q; exact ⟨q0, q1, qP, va_K.moved (u := U) (U := U.calling g mk a) (Vm.Alike.refl U.vm) qK, qD⟩, va_recv (hK := hK) (hP := hP) (q0 := 1) (ci := 0) rfl rfl, fun U hU hW => ⟨rfl, by rw [hU], by rw [hU]; exact hPc, va_K.moved hW.alike hKc, hDc.weaken (fun _ _ _ _ => trivial)⟩⟩ rfl rfl hl.1 rfl (lv_room (Nat.le_of_ble_eq_true rfl)) d_MO_readFactors_98 ⟨Nat.le_of_ble_eq_true rfl, Nat.le_of_ble_eq_true rfl⟩) hS (fun q _ h => hFc q h) hFc (fun r351 u t H1 locs ht hvm hw hB hz1 hk1 hS => ?_)
        obtain ⟨m_352, hP1, hK1, hD1⟩ := hB
        rw [ht] at hP1
        have hK1 := va_K.moved hvm.symm hK1
        obtain ⟨hP, hD⟩ := va_join (wr := [(h0, .inr (5, [.int 16384, .int 0, .int 0, .int 16384, .int u5, .int u6]))]) (w1 := [(qw, .inr (0, [.ref qa, .int (nI (a)), .int (nI (n)), .int (bI m_352)])), (qa, .inl (cA, 1200, .inl (f)))]) hP hD [1, 2] [0] rfl rfl (by decide) (by decide) hk1 hFc hP1 hD1
        have hK := (hK.sub (tys' := []) [] rfl).app hK1
        generalize H1 = H at hP hS ⊢
        have hP : va_P (dC, dI) cls_ [(h0, .inr (5, [.int 16384, .int 0, .int 0, .int 16384, .int u5, .int u6])), (qw, .inr (0, [.ref qa, .int (nI (a)), .int (nI (n)), .int (bI m_352)])), (qa, .inl (cA, 1200, .inl (f)))] H := hP
        have hD : va_D A [(h0, .inr (5, [.int 16384, .int 0, .int 0, .int 16384, .int u5, .int u6])), (qw, .inr (0, [.ref qa, .int (nI (a)), .int (nI (n)), .int (bI m_352)])), (qa, .inl (cA, 1200, .inl (f)))] := hD
        have hK : va_K (dC, dI) cls_ [(cA, .int)] s := hK
        have hw_r351 := hw
        obtain ⟨kn353, hb_kn353, rfl⟩ := hw_r351
        refine lv_i2s (v := (nI (kn353)).toInt16.toInt32) hx hb d_MO_readFactors_101 rfl ?_
        refine lv_topi (fun v354 ev354 => ?_)
        refine va_put (D := (dC, dI)) (ci := 5) (v := .int v354) (ty := .int) (C := R_MO) (T := F_MO) (N := 6) hx hb hts in_MO t_MO t_MO_ok n_MO hown hK hP hD hS 0 rfl rfl 0 (by decide) (hts _ (List.mem_cons_of_mem _ w_178)) (fun _ h9 => h9) rfl  (by decide +kernel) rfl rfl (Nat.le_of_ble_eq_true rfl) d_MO_readFactors_102 (fun H locs hP hD hS => ?_)
        have hP : va_P (dC, dI) cls_ [(h0, .inr (5, [.int v354, .int 0, .int 0, .int 16384, .int u5, .int u6])), (qw, .inr (0, [.ref qa, .int (nI (a)), .int (nI (n)), .int (bI m_352)])), (qa, .inl (cA, 1200, .inl (f)))] H := hP
        have hD : va_D A [(h0, .inr (5, [.int v354, .int 0, .int 0, .int 16384, .int u5, .int u6])), (qw, .inr (0, [.ref qa, .int (nI (a)), .int (nI (n)), .int (bI m_352)])), (qa, .inl (cA, 1200, .inl (f)))] := hD
        refine lv_aload_n hx hb d_MO_readFactors_105 rfl (lv_at hl 0 rfl) ?_
        refine lv_aload_n hx hb d_MO_readFactors_106 rfl (lv_at hl 1 rfl) ?_
        refine lv_iload_n hx hb d_MO_readFactors_107 rfl (lv_at hl 2 rfl) ?_
        refine lv_iconst (v := 2) hx hb d_MO_readFactors_108 (by decide) ?_
        refine lv_iadd hx hb d_MO_readFactors_109 ?_
        refine lv_topi (fun v355 ev355 => ?_)
        have hPc := hP.sub (ws' := [(qw, .inr (0, [.ref qa, .int (nI (a)), .int (nI (n)), .int (bI m_352)])), (qa, .inl (cA, 1200, .inl (f)))]) [1, 2] rfl
        have hDc := hD.sub (ws' := [(qw, .inr (0, [.ref qa, .int (nI (a)), .int (nI (n)), .int (bI m_352)])), (qa, .inl (cA, 1200, .inl (f)))]) [1, 2] (by decide) rfl
        have hKc := hK.sub (tys' := [(cA, .int)]) [0] rfl
        have hFc := va_free (wc := [(qw, .inr (0, [.ref qa, .int (nI (a)), .int (nI (n)), .int (bI m_352)])), (qa, .inl (cA, 1200, .inl (f)))]) hD hS hA [1, 2] rfl
        refine va_calli (va_runV (As := [.int v355]) (rest := [.ref h0]) ⟨hx, hb, hml, hown, hts⟩ (g_SP_u16 l dC dI qw qa a n m_352 cA f v355 H.size (by omega) (by assumption)) (cwV 1 hts (tw_inV w_498 w_353 w_354 w_4 w_355) rfl rfl rfl (by decide +kernel) ⟨Nat.le_of_ble_eq_true rfl, Nat.le_of_ble_eq_true rfl⟩) ⟨fun a U g mk q => by obtain ⟨q0, q1, qP, qK, qD⟩ := q; exact ⟨q0, q1, qP, va_K.moved (u := U) (U := U.calling g mk a) (Vm.Alike.refl U.vm) qK, qD⟩, va_recv (hK := hK) (hP := hP) (q0 := 1) (ci := 0) rfl rfl, fun U hU hW => ⟨rfl, by rw [hU], by rw [hU]; exact hPc, va_K.moved hW.alike hKc, hDc.weaken (fun _ _ _ _ => trivial)⟩⟩ rfl rfl hl.1 rfl (lv_room (Nat.le_of_ble_eq_true rfl)) d_MO_readFactors_110 ⟨Nat.le_of_ble_eq_true rfl, Nat.le_of_ble_eq_true rfl⟩) hS (fun q _ h => hFc q h) hFc (fun r356 u t H1 locs ht hvm hw hB hz1 hk1 hS => ?_)
        obtain ⟨m_357, hP1, hK1, hD1⟩ := hB
        rw [ht] at hP1
        have hK1 := va_K.moved hvm.symm hK1
        obtain ⟨hP, hD⟩ := va_join (wr := [(h0, .inr (5, [.int v354, .int 0, .int 0, .int 16384, .int u5, .int u6]))]) (w1 := [(qw, .inr (0, [.ref qa, .int (nI (a)), .int (nI (n)), .int (bI m_357)])), (qa, .inl (cA, 1200, .inl (f)))]) hP hD [1, 2] [0] rfl rfl (by decide) (by decide) hk1 hFc hP1 hD1
        have hK := (hK.sub (tys' := []) [] rfl).app hK1
        generalize H1 = H at hP hS ⊢
        have hP : va_P (dC, dI) cls_ [(h0, .inr (5, [.int v354, .int 0, .int 0, .int 16384, .int u5, .int u6])), (qw, .inr (0, [.ref qa, .int (nI (a)), .int (nI (n)), .int (bI m_357)])), (qa, .inl (cA, 1200, .inl (f)))] H := hP
        have hD : va_D A [(h0, .inr (5, [.int v354, .int 0, .int 0, .int 16384, .int u5, .int u6])), (qw, .inr (0, [.ref qa, .int (nI (a)), .int (nI (n)), .int (bI m_357)])), (qa, .inl (cA, 1200, .inl (f)))] := hD
        have hK : va_K (dC, dI) cls_ [(cA, .int)] s := hK
        have hw_r356 := hw
        obtain ⟨kn358, hb_kn358, rfl⟩ := hw_r356
        refine lv_i2s (v := (nI (kn358)).toInt16.toInt32) hx hb d_MO_readFactors_113 rfl ?_
        refine lv_topi (fun v359 ev359 => ?_)
        refine va_put (D := (dC, dI)) (ci := 5) (v := .int v359) (ty := .int) (C := R_MO) (T := F_MO) (N := 6) hx hb hts in_MO t_MO t_MO_ok n_MO hown hK hP hD hS 0 rfl rfl 1 (by decide) (hts _ (List.mem_cons_of_mem _ w_179)) (fun _ h9 => h9) rfl  (by decide +kernel) rfl rfl (Nat.le_of_ble_eq_true rfl) d_MO_readFactors_114 (fun H locs hP hD hS => ?_)
        have hP : va_P (dC, dI) cls_ [(h0, .inr (5, [.int v354, .int v359, .int 0, .int 16384, .int u5, .int u6])), (qw, .inr (0, [.ref qa, .int (nI (a)), .int (nI (n)), .int (bI m_357)])), (qa, .inl (cA, 1200, .inl (f)))] H := hP
        have hD : va_D A [(h0, .inr (5, [.int v354, .int v359, .int 0, .int 16384, .int u5, .int u6])), (qw, .inr (0, [.ref qa, .int (nI (a)), .int (nI (n)), .int (bI m_357)])), (qa, .inl (cA, 1200, .inl (f)))] := hD
        refine lv_aload_n hx hb d_MO_readFactors_117 rfl (lv_at hl 0 rfl) ?_
        refine lv_aload_n hx hb d_MO_readFactors_118 rfl (lv_at hl 1 rfl) ?_
        refine lv_iload_n hx hb d_MO_readFactors_119 rfl (lv_at hl 2 rfl) ?_
        refine lv_iconst (v := 4) hx hb d_MO_readFactors_120 (by decide) ?_
        refine lv_iadd hx hb d_MO_readFactors_121 ?_
        refine lv_topi (fun v360 ev360 => ?_)
        have hPc := hP.sub (ws' := [(qw, .inr (0, [.ref qa, .int (nI (a)), .int (nI (n)), .int (bI m_357)])), (qa, .inl (cA, 1200, .inl (f)))]) [1, 2] rfl
        have hDc := hD.sub (ws' := [(qw, .inr (0, [.ref qa, .int (nI (a)), .int (nI (n)), .int (bI m_357)])), (qa, .inl (cA, 1200, .inl (f)))]) [1, 2] (by decide) rfl
        have hKc := hK.sub (tys' := [(cA, .int)]) [0] rfl
        have hFc := va_free (wc := [(qw, .inr (0, [.ref qa, .int (nI (a)), .int (nI (n)), .int (bI m_357)])), (qa, .inl (cA, 1200, .inl (f)))]) hD hS hA [1, 2] rfl
        refine va_calli (va_runV (As := [.int v360]) (rest := [.ref h0]) ⟨hx, hb, hml, hown, hts⟩ (g_SP_u16 l dC dI qw qa a n m_357 cA f v360 H.size (by omega) (by assumption)) (cwV 1 hts (tw_inV w_498 w_353 w_354 w_4 w_355) rfl rfl rfl (by decide +kernel) ⟨Nat.le_of_ble_eq_true rfl, Nat.le_of_ble_eq_true rfl⟩) ⟨fun a U g mk q => by obtain ⟨q0, q1, qP, qK, qD⟩ := q; exact ⟨q0, q1, qP, va_K.moved (u := U) (U := U.calling g mk a) (Vm.Alike.refl U.vm) qK, qD⟩, va_recv (hK := hK) (hP := hP) (q0 := 1) (ci := 0) rfl rfl, fun U hU hW => ⟨rfl, by rw [hU], by rw [hU]; exact hPc, va_K.moved hW.alike hKc, hDc.weaken (fun _ _ _ _ => trivial)⟩⟩ rfl rfl hl.1 rfl (lv_room (Nat.le_of_ble_eq_true rfl)) d_MO_readFactors_122 ⟨Nat.le_of_ble_eq_true rfl, Nat.le_of_ble_eq_true rfl⟩) hS (fun q _ h => hFc q h) hFc (fun r361 u t H1 locs ht hvm hw hB hz1 hk1 hS => ?_)
        obtain ⟨m_362, hP1, hK1, hD1⟩ := hB
        rw [ht] at hP1
        have hK1 := va_K.moved hvm.symm hK1
        obtain ⟨hP, hD⟩ := va_join (wr := [(h0, .inr (5, [.int v354, .int v359, .int 0, .int 16384, .int u5, .int u6]))]) (w1 := [(qw, .inr (0, [.ref qa, .int (nI (a)), .int (nI (n)), .int (bI m_362)])), (qa, .inl (cA, 1200, .inl (f)))]) hP hD [1, 2] [0] rfl rfl (by decide) (by decide) hk1 hFc hP1 hD1
        have hK := (hK.sub (tys' := []) [] rfl).app hK1
        generalize H1 = H at hP hS ⊢
        have hP : va_P (dC, dI) cls_ [(h0, .inr (5, [.int v354, .int v359, .int 0, .int 16384, .int u5, .int u6])), (qw, .inr (0, [.ref qa, .int (nI (a)), .int (nI (n)), .int (bI m_362)])), (qa, .inl (cA, 1200, .inl (f)))] H := hP
        have hD : va_D A [(h0, .inr (5, [.int v354, .int v359, .int 0, .int 16384, .int u5, .int u6])), (qw, .inr (0, [.ref qa, .int (nI (a)), .int (nI (n)), .int (bI m_362)])), (qa, .inl (cA, 1200, .inl (f)))] := hD
        have hK : va_K (dC, dI) cls_ [(cA, .int)] s := hK
        have hw_r361 := hw
        obtain ⟨kn363, hb_kn363, rfl⟩ := hw_r361
        refine lv_i2s (v := (nI (kn363)).toInt16.toInt32) hx hb d_MO_readFactors_125 rfl ?_
        refine lv_topi (fun v364 ev364 => ?_)
        refine va_put (D := (dC, dI)) (ci := 5) (v := .int v364) (ty := .int) (C := R_MO) (T := F_MO) (N := 6) hx hb hts in_MO t_MO t_MO_ok n_MO hown hK hP hD hS 0 rfl rfl 2 (by decide) (hts _ (List.mem_cons_of_mem _ w_180)) (fun _ h9 => h9) rfl  (by decide +kernel) rfl rfl (Nat.le_of_ble_eq_true rfl) d_MO_readFactors_126 (fun H locs hP hD hS => ?_)
        have hP : va_P (dC, dI) cls_ [(h0, .inr (5, [.int v354, .int v359, .int v364, .int 16384, .int u5, .int u6])), (qw, .inr (0, [.ref qa, .int (nI (a)), .int (nI (n)), .int (bI m_362)])), (qa, .inl (cA, 1200, .inl (f)))] H := hP
        have hD : va_D A [(h0, .inr (5, [.int v354, .int v359, .int v364, .int 16384, .int u5, .int u6])), (qw, .inr (0, [.ref qa, .int (nI (a)), .int (nI (n)), .int (bI m_362)])), (qa, .inl (cA, 1200, .inl (f)))] := hD
        refine lv_aload_n hx hb d_MO_readFactors_129 rfl (lv_at hl 0 rfl) ?_
        refine lv_aload_n hx hb d_MO_readFactors_130 rfl (lv_at hl 1 rfl) ?_
        refine lv_iload_n hx hb d_MO_readFactors_131 rfl (lv_at hl 2 rfl) ?_
        refine lv_bipush (v := 6) hx hb d_MO_readFactors_132 (by decide) ?_
        refine lv_iadd hx hb d_MO_readFactors_134 ?_
        refine lv_topi (fun v365 ev365 => ?_)
        have hPc := hP.sub (ws' := [(qw, .inr (0, [.ref qa, .int (nI (a)), .int (nI (n)), .int (bI m_362)])), (qa, .inl (cA, 1200, .inl (f)))]) [1, 2] rfl
        have hDc := hD.sub (ws' := [(qw, .inr (0, [.ref qa, .int (nI (a)), .int (nI (n)), .int (bI m_362)])), (qa, .inl (cA, 1200, .inl (f)))]) [1, 2] (by decide) rfl
        have hKc := hK.sub (tys' := [(cA, .int)]) [0] rfl
        have hFc := va_free (wc := [(qw, .inr (0, [.ref qa, .int (nI (a)), .int (nI (n)), .int (bI m_362)])), (qa, .inl (cA, 1200, .inl (f)))]) hD hS hA [1, 2] rfl
        refine va_calli (va_runV (As := [.int v365]) (rest := [.ref h0]) ⟨hx, hb, hml, hown, hts⟩ (g_SP_u16 l dC dI qw qa a n m_362 cA f v365 H.size (by omega) (by assumption)) (cwV 1 hts (tw_inV w_498 w_353 w_354 w_4 w_355) rfl rfl rfl (by decide +kernel) ⟨Nat.le_of_ble_eq_true rfl, Nat.le_of_ble_eq_true rfl⟩) ⟨fun a U g mk q => by obtain ⟨q0, q1, qP, qK, qD⟩ := q; exact ⟨q0, q1, qP, va_K.moved (u := U) (U := U.calling g mk a) (Vm.Alike.refl U.vm) qK, qD⟩, va_recv (hK := hK) (hP := hP) (q0 := 1) (ci := 0) rfl rfl, fun U hU hW => ⟨rfl, by rw [hU], by rw [hU]; exact hPc, va_K.moved hW.alike hKc, hDc.weaken (fun _ _ _ _ => trivial)⟩⟩ rfl rfl hl.1 rfl (lv_room (Nat.le_of_ble_eq_true rfl)) d_MO_readFactors_135 ⟨Nat.le_of_ble_eq_true rfl, Nat.le_of_ble_eq_true rfl⟩) hS (fun q _ h => hFc q h) hFc (fun r366 u t H1 locs ht hvm hw hB hz1 hk1 hS => ?_)
        obtain ⟨m_367, hP1, hK1, hD1⟩ := hB
        rw [ht] at hP1
        have hK1 := va_K.moved hvm.symm hK1
        obtain ⟨hP, hD⟩ := va_join (wr := [(h0, .inr (5, [.int v354, .int v359, .int v364, .int 16384, .int u5, .int u6]))]) (w1 := [(qw, .inr (0, [.ref qa, .int (nI (a)), .int (nI (n)), .int (bI m_367)])), (qa, .inl (cA, 1200, .inl (f)))]) hP hD [1, 2] [0] rfl rfl (by decide) (by decide) hk1 hFc hP1 hD1
        have hK := (hK.sub (tys' := []) [] rfl).app hK1
        generalize H1 = H at hP hS ⊢
        have hP : va_P (dC, dI) cls_ [(h0, .inr (5, [.int v354, .int v359, .int v364, .int 16384, .int u5, .int u6])), (qw, .inr (0, [.ref qa, .int (nI (a)), .int (nI (n)), .int (bI m_367)])), (qa, .inl (cA, 1200, .inl (f)))] H := hP
        have hD : va_D A [(h0, .inr (5, [.int v354, .int v359, .int v364, .int 16384, .int u5, .int u6])), (qw, .inr (0, [.ref qa, .int (nI (a)), .int (nI (n)), .int (bI m_367)])), (qa, .inl (cA, 1200, .inl (f)))] := hD
        have hK : va_K (dC, dI) cls_ [(cA, .int)] s := hK
        have hw_r366 := hw
        obtain ⟨kn368, hb_kn368, rfl⟩ := hw_r366
        refine lv_i2s (v := (nI (kn368)).toInt16.toInt32) hx hb d_MO_readFactors_138 rfl ?_
        refine lv_topi (fun v369 ev369 => ?_)
        refine va_put (D := (dC, dI)) (ci := 5) (v := .int v369) (ty := .int) (C := R_MO) (T := F_MO) (N := 6) hx hb hts in_MO t_MO t_MO_ok n_MO hown hK hP hD hS 0 rfl rfl 3 (by decide) (hts _ (List.mem_cons_of_mem _ w_181)) (fun _ h9 => h9) rfl  (by decide +kernel) rfl rfl (Nat.le_of_ble_eq_true rfl) d_MO_readFactors_139 (fun H locs hP hD hS => ?_)
        have hP : va_P (dC, dI) cls_ [(h0, .inr (5, [.int v354, .int v359, .int v364, .int v369, .int u5, .int u6])), (qw, .inr (0, [.ref qa, .int (nI (a)), .int (nI (n)), .int (bI m_367)])), (qa, .inl (cA, 1200, .inl (f)))] H := hP
        have hD : va_D A [(h0, .inr (5, [.int v354, .int v359, .int v364, .int v369, .int u5, .int u6])), (qw, .inr (0, [.ref qa, .int (nI (a)), .int (nI (n)), .int (bI m_367)])), (qa, .inl (cA, 1200, .inl (f)))] := hD
        refine lv_iload_n hx hb d_MO_readFactors_142 rfl (lv_at hl 2 rfl) ?_
        refine lv_bipush (v := 8) hx hb d_MO_readFactors_143 (by decide) ?_
        refine lv_iadd hx hb d_MO_readFactors_145 ?_
        refine lv_topi (fun v370 ev370 => ?_)
        refine W.widen (k := 0) (n := 0) (Nat.le_of_ble_eq_true rfl) (Nat.le_of_ble_eq_true rfl) ?_
        have hP9 := hP.sub (ws' := [(h0, .inr (5, [.int v354, .int v359, .int v364, .int v369, .int u5, .int u6])), (qw, .inr (0, [.ref qa, .int (nI (a)), .int (nI (n)), .int (bI m_367)])), (qa, .inl (cA, 1200, .inl (f)))]) [0, 1, 2] rfl
        have hD9 := hD.sub (ws' := [(h0, .inr (5, [.int v354, .int v359, .int v364, .int v369, .int u5, .int u6])), (qw, .inr (0, [.ref qa, .int (nI (a)), .int (nI (n)), .int (bI m_367)])), (qa, .inl (cA, 1200, .inl (f)))]) [0, 1, 2] (by decide) rfl
        have hK9 := hK.sub (tys' := [(cA, .int)]) [0] rfl
        exact W.iret (v := v370) hx hb hr (fun t ht hW => ⟨⟨v370, (), rfl, trivial, m_367, v354, v359, v364, v369, u5, u6, by rw [ht]; exact hP9, va_K.moved hW.alike hK9, hD9⟩, hS.F ht⟩) hS.2.2 d_MO_readFactors_146
    · skip
      refine lv_aload_n hx hb d_MO_readFactors_61 rfl (lv_at hl 0 rfl) ?_
      refine lv_aload_n hx hb d_MO_readFactors_62 rfl (lv_at hl 1 rfl) ?_
      refine lv_iload_n hx hb d_MO_readFactors_63 rfl (lv_at hl 2 rfl) ?_
      have hPc := hP.sub (ws' := [(qw, .inr (0, [.ref qa, .int (nI (a)), .int (nI (n)), .int (bI mi)])), (qa, .inl (cA, 1200, .inl (f)))]) [1, 2] rfl
      have hDc := hD.sub (ws' := [(qw, .inr (0, [.ref qa, .int (nI (a)), .int (nI (n)), .int (bI mi)])), (qa, .inl (cA, 1200, .inl (f)))]) [1, 2] (by decide) rfl
      have hKc := hK.sub (tys' := [(cA, .int)]) [0] rfl
      have hFc := va_free (wc := [(qw, .inr (0, [.ref qa, .int (nI (a)), .int (nI (n)), .int (bI mi)])), (qa, .inl (cA, 1200, .inl (f)))]) hD hS hA [1, 2] rfl
      refine va_calli (va_runV (As := [.int pl]) (rest := [.ref h0]) ⟨hx, hb, hml, hown, hts⟩ (g_SP_u16 l dC dI qw qa a n mi cA f pl H.size (by omega) (by assumption)) (cwV 1 hts (tw_inV w_498 w_353 w_354 w_4 w_355) rfl rfl rfl (by decide +kernel) ⟨Nat.le_of_ble_eq_true rfl, Nat.le_of_ble_eq_true rfl⟩) ⟨fun a U g mk q => by obtain ⟨q0, q1, qP, qK, qD⟩ := q; exact ⟨q0, q1, qP, va_K.moved (u := U) (U := U.calling g mk a) (Vm.Alike.refl U.vm) qK, qD⟩, va_recv (hK := hK) (hP := hP) (q0 := 1) (ci := 0) rfl rfl, fun U hU hW => ⟨rfl, by rw [hU], by rw [hU]; exact hPc, va_K.moved hW.alike hKc, hDc.weaken (fun _ _ _ _ => trivial)⟩⟩ rfl rfl hl.1 rfl (lv_room (Nat.le_of_ble_eq_true rfl)) d_MO_readFactors_64 ⟨Nat.le_of_ble_eq_true rfl, Nat.le_of_ble_eq_true rfl⟩) hS (fun q _ h => hFc q h) hFc (fun r371 u t H1 locs ht hvm hw hB hz1 hk1 hS => ?_)
      obtain ⟨m_372, hP1, hK1, hD1⟩ := hB
      rw [ht] at hP1
      have hK1 := va_K.moved hvm.symm hK1
      obtain ⟨hP, hD⟩ := va_join (wr := [(h0, .inr (5, [.int 16384, .int 0, .int 0, .int 16384, .int u5, .int u6]))]) (w1 := [(qw, .inr (0, [.ref qa, .int (nI (a)), .int (nI (n)), .int (bI m_372)])), (qa, .inl (cA, 1200, .inl (f)))]) hP hD [1, 2] [0] rfl rfl (by decide) (by decide) hk1 hFc hP1 hD1
      have hK := (hK.sub (tys' := []) [] rfl).app hK1
      generalize H1 = H at hP hS ⊢
      have hP : va_P (dC, dI) cls_ [(h0, .inr (5, [.int 16384, .int 0, .int 0, .int 16384, .int u5, .int u6])), (qw, .inr (0, [.ref qa, .int (nI (a)), .int (nI (n)), .int (bI m_372)])), (qa, .inl (cA, 1200, .inl (f)))] H := hP
      have hD : va_D A [(h0, .inr (5, [.int 16384, .int 0, .int 0, .int 16384, .int u5, .int u6])), (qw, .inr (0, [.ref qa, .int (nI (a)), .int (nI (n)), .int (bI m_372)])), (qa, .inl (cA, 1200, .inl (f)))] := hD
      have hK : va_K (dC, dI) cls_ [(cA, .int)] s := hK
      have hw_r371 := hw
      obtain ⟨kn373, hb_kn373, rfl⟩ := hw_r371
      refine lv_i2s (v := (nI (kn373)).toInt16.toInt32) hx hb d_MO_readFactors_67 rfl ?_
      refine lv_topi (fun v374 ev374 => ?_)
      refine va_put (D := (dC, dI)) (ci := 5) (v := .int v374) (ty := .int) (C := R_MO) (T := F_MO) (N := 6) hx hb hts in_MO t_MO t_MO_ok n_MO hown hK hP hD hS 0 rfl rfl 0 (by decide) (hts _ (List.mem_cons_of_mem _ w_178)) (fun _ h9 => h9) rfl  (by decide +kernel) rfl rfl (Nat.le_of_ble_eq_true rfl) d_MO_readFactors_68 (fun H locs hP hD hS => ?_)
      have hP : va_P (dC, dI) cls_ [(h0, .inr (5, [.int v374, .int 0, .int 0, .int 16384, .int u5, .int u6])), (qw, .inr (0, [.ref qa, .int (nI (a)), .int (nI (n)), .int (bI m_372)])), (qa, .inl (cA, 1200, .inl (f)))] H := hP
      have hD : va_D A [(h0, .inr (5, [.int v374, .int 0, .int 0, .int 16384, .int u5, .int u6])), (qw, .inr (0, [.ref qa, .int (nI (a)), .int (nI (n)), .int (bI m_372)])), (qa, .inl (cA, 1200, .inl (f)))] := hD
      refine lv_aload_n hx hb d_MO_readFactors_71 rfl (lv_at hl 0 rfl) ?_
      refine lv_aload_n hx hb d_MO_readFactors_72 rfl (lv_at hl 1 rfl) ?_
      refine lv_iload_n hx hb d_MO_readFactors_73 rfl (lv_at hl 2 rfl) ?_
      refine lv_iconst (v := 2) hx hb d_MO_readFactors_74 (by decide) ?_
      refine lv_iadd hx hb d_MO_readFactors_75 ?_
      refine lv_topi (fun v375 ev375 => ?_)
      have hPc := hP.sub (ws' := [(qw, .inr (0, [.ref qa, .int (nI (a)), .int (nI (n)), .int (bI m_372)])), (qa, .inl (cA, 1200, .inl (f)))]) [1, 2] rfl
      have hDc := hD.sub (ws' := [(qw, .inr (0, [.ref qa, .int (nI (a)), .int (nI (n)), .int (bI m_372)])), (qa, .inl (cA, 1200, .inl (f)))]) [1, 2] (by decide) rfl
      have hKc := hK.sub (tys' := [(cA, .int)]) [0] rfl
      have hFc := va_free (wc := [(qw, .inr (0, [.ref qa, .int (nI (a)), .int (nI (n)), .int (bI m_372)])), (qa, .inl (cA, 1200, .inl (f)))]) hD hS hA [1, 2] rfl
      refine va_calli (va_runV (As := [.int v375]) (rest := [.ref h0]) ⟨hx, hb, hml, hown, hts⟩ (g_SP_u16 l dC dI qw qa a n m_372 cA f v375 H.size (by omega) (by assumption)) (cwV 1 hts (tw_inV w_498 w_353 w_354 w_4 w_355) rfl rfl rfl (by decide +kernel) ⟨Nat.le_of_ble_eq_true rfl, Nat.le_of_ble_eq_true rfl⟩) ⟨fun a U g mk q => by obtain ⟨q0, q1, qP, qK, qD⟩ := q; exact ⟨q0, q1, qP, va_K.moved (u := U) (U := U.calling g mk a) (Vm.Alike.refl U.vm) qK, qD⟩, va_recv (hK := hK) (hP := hP) (q0 := 1) (ci := 0) rfl rfl, fun U hU hW => ⟨rfl, by rw [hU], by rw [hU]; exact hPc, va_K.moved hW.alike hKc, hDc.weaken (fun _ _ _ _ => trivial)⟩⟩ rfl rfl hl.1 rfl (lv_room (Nat.le_of_ble_eq_true rfl)) d_MO_readFactors_76 ⟨Nat.le_of_ble_eq_true rfl, Nat.le_of_ble_eq_true rfl⟩) hS (fun q _ h => hFc q h) hFc (fun r376 u t H1 locs ht hvm hw hB hz1 hk1 hS => ?_)
      obtain ⟨m_377, hP1, hK1, hD1⟩ := hB
      rw [ht] at hP1
      have hK1 := va_K.moved hvm.symm hK1
      obtain ⟨hP, hD⟩ := va_join (wr := [(h0, .inr (5, [.int v374, .int 0, .int 0, .int 16384, .int u5, .int u6]))]) (w1 := [(qw, .inr (0, [.ref qa, .int (nI (a)), .int (nI (n)), .int (bI m_377)])), (qa, .inl (cA, 1200, .inl (f)))]) hP hD [1, 2] [0] rfl rfl (by decide) (by decide) hk1 hFc hP1 hD1
      have hK := (hK.sub (tys' := []) [] rfl).app hK1
      generalize H1 = H at hP hS ⊢
      have hP : va_P (dC, dI) cls_ [(h0, .inr (5, [.int v374, .int 0, .int 0, .int 16384, .int u5, .int u6])), (qw, .inr (0, [.ref qa, .int (nI (a)), .int (nI (n)), .int (bI m_377)])), (qa, .inl (cA, 1200, .inl (f)))] H := hP
      have hD : va_D A [(h0, .inr (5, [.int v374, .int 0, .int 0, .int 16384, .int u5, .int u6])), (qw, .inr (0, [.ref qa, .int (nI (a)), .int (nI (n)), .int (bI m_377)])), (qa, .inl (cA, 1200, .inl (f)))] := hD
      have hK : va_K (dC, dI) cls_ [(cA, .int)] s := hK
      have hw_r376 := hw
      obtain ⟨kn378, hb_kn378, rfl⟩ := hw_r376
      refine lv_i2s (v := (nI (kn378)).toInt16.toInt32) hx hb d_MO_readFactors_79 rfl ?_
      refine lv_topi (fun v379 ev379 => ?_)
      refine va_put (D := (dC, dI)) (ci := 5) (v := .int v379) (ty := .int) (C := R_MO) (T := F_MO) (N := 6) hx hb hts in_MO t_MO t_MO_ok n_MO hown hK hP hD hS 0 rfl rfl 3 (by decide) (hts _ (List.mem_cons_of_mem _ w_181)) (fun _ h9 => h9) rfl  (by decide +kernel) rfl rfl (Nat.le_of_ble_eq_true rfl) d_MO_readFactors_80 (fun H locs hP hD hS => ?_)
      have hP : va_P (dC, dI) cls_ [(h0, .inr (5, [.int v374, .int 0, .int 0, .int v379, .int u5, .int u6])), (qw, .inr (0, [.ref qa, .int (nI (a)), .int (nI (n)), .int (bI m_377)])), (qa, .inl (cA, 1200, .inl (f)))] H := hP
      have hD : va_D A [(h0, .inr (5, [.int v374, .int 0, .int 0, .int v379, .int u5, .int u6])), (qw, .inr (0, [.ref qa, .int (nI (a)), .int (nI (n)), .int (bI m_377)])), (qa, .inl (cA, 1200, .inl (f)))] := hD
      refine lv_iload_n hx hb d_MO_readFactors_83 rfl (lv_at hl 2 rfl) ?_
      refine lv_iconst (v := 4) hx hb d_MO_readFactors_84 (by decide) ?_
      refine lv_iadd hx hb d_MO_readFactors_85 ?_
      refine lv_topi (fun v380 ev380 => ?_)
      refine W.widen (k := 0) (n := 0) (Nat.le_of_ble_eq_true rfl) (Nat.le_of_ble_eq_true rfl) ?_
      have hP9 := hP.sub (ws' := [(h0, .inr (5, [.int v374, .int 0, .int 0, .int v379, .int u5, .int u6])), (qw, .inr (0, [.ref qa, .int (nI (a)), .int (nI (n)), .int (bI m_377)])), (qa, .inl (cA, 1200, .inl (f)))]) [0, 1, 2] rfl
      have hD9 := hD.sub (ws' := [(h0, .inr (5, [.int v374, .int 0, .int 0, .int v379, .int u5, .int u6])), (qw, .inr (0, [.ref qa, .int (nI (a)), .int (nI (n)), .int (bI m_377)])), (qa, .inl (cA, 1200, .inl (f)))]) [0, 1, 2] (by decide) rfl
      have hK9 := hK.sub (tys' := [(cA, .int)]) [0] rfl
      exact W.iret (v := v380) hx hb hr (fun t ht hW => ⟨⟨v380, (), rfl, trivial, m_377, v374, 0, 0, v379, u5, u6, by rw [ht]; exact hP9, va_K.moved hW.alike hK9, hD9⟩, hS.F ht⟩) hS.2.2 d_MO_readFactors_86
  · skip
    refine lv_aload_n hx hb d_MO_readFactors_32 rfl (lv_at hl 0 rfl) ?_
    refine lv_aload_n hx hb d_MO_readFactors_33 rfl (lv_at hl 1 rfl) ?_
    refine lv_iload_n hx hb d_MO_readFactors_34 rfl (lv_at hl 2 rfl) ?_
    have hPc := hP.sub (ws' := [(qw, .inr (0, [.ref qa, .int (nI (a)), .int (nI (n)), .int (bI mi)])), (qa, .inl (cA, 1200, .inl (f)))]) [1, 2] rfl
    have hDc := hD.sub (ws' := [(qw, .inr (0, [.ref qa, .int (nI (a)), .int (nI (n)), .int (bI mi)])), (qa, .inl (cA, 1200, .inl (f)))]) [1, 2] (by decide) rfl
    have hKc := hK.sub (tys' := [(cA, .int)]) [0] rfl
    have hFc := va_free (wc := [(qw, .inr (0, [.ref qa, .int (nI (a)), .int (nI (n)), .int (bI mi)])), (qa, .inl (cA, 1200, .inl (f)))]) hD hS hA [1, 2] rfl
    refine va_calli (va_runV (As := [.int pl]) (rest := [.ref h0]) ⟨hx, hb, hml, hown, hts⟩ (g_SP_u16 l dC dI qw qa a n mi cA f pl H.size (by omega) (by assumption)) (cwV 1 hts (tw_inV w_498 w_353 w_354 w_4 w_355) rfl rfl rfl (by decide +kernel) ⟨Nat.le_of_ble_eq_true rfl, Nat.le_of_ble_eq_true rfl⟩) ⟨fun a U g mk q => by obtain ⟨q0, q1, qP, qK, qD⟩ := q; exact ⟨q0, q1, qP, va_K.moved (u := U) (U := U.calling g mk a) (Vm.Alike.refl U.vm) qK, qD⟩, va_recv (hK := hK) (hP := hP) (q0 := 1) (ci := 0) rfl rfl, fun U hU hW => ⟨rfl, by rw [hU], by rw [hU]; exact hPc, va_K.moved hW.alike hKc, hDc.weaken (fun _ _ _ _ => trivial)⟩⟩ rfl rfl hl.1 rfl (lv_room (Nat.le_of_ble_eq_true rfl)) d_MO_readFactors_35 ⟨Nat.le_of_ble_eq_true rfl, Nat.le_of_ble_eq_true rfl⟩) hS (fun q _ h => hFc q h) hFc (fun r381 u t H1 locs ht hvm hw hB hz1 hk1 hS => ?_)
    obtain ⟨m_382, hP1, hK1, hD1⟩ := hB
    rw [ht] at hP1
    have hK1 := va_K.moved hvm.symm hK1
    obtain ⟨hP, hD⟩ := va_join (wr := [(h0, .inr (5, [.int 16384, .int 0, .int 0, .int 16384, .int u5, .int u6]))]) (w1 := [(qw, .inr (0, [.ref qa, .int (nI (a)), .int (nI (n)), .int (bI m_382)])), (qa, .inl (cA, 1200, .inl (f)))]) hP hD [1, 2] [0] rfl rfl (by decide) (by decide) hk1 hFc hP1 hD1
    have hK := (hK.sub (tys' := []) [] rfl).app hK1
    generalize H1 = H at hP hS ⊢
    have hP : va_P (dC, dI) cls_ [(h0, .inr (5, [.int 16384, .int 0, .int 0, .int 16384, .int u5, .int u6])), (qw, .inr (0, [.ref qa, .int (nI (a)), .int (nI (n)), .int (bI m_382)])), (qa, .inl (cA, 1200, .inl (f)))] H := hP
    have hD : va_D A [(h0, .inr (5, [.int 16384, .int 0, .int 0, .int 16384, .int u5, .int u6])), (qw, .inr (0, [.ref qa, .int (nI (a)), .int (nI (n)), .int (bI m_382)])), (qa, .inl (cA, 1200, .inl (f)))] := hD
    have hK : va_K (dC, dI) cls_ [(cA, .int)] s := hK
    have hw_r381 := hw
    obtain ⟨kn383, hb_kn383, rfl⟩ := hw_r381
    refine lv_i2s (v := (nI (kn383)).toInt16.toInt32) hx hb d_MO_readFactors_38 rfl ?_
    refine lv_topi (fun v384 ev384 => ?_)
    refine va_put (D := (dC, dI)) (ci := 5) (v := .int v384) (ty := .int) (C := R_MO) (T := F_MO) (N := 6) hx hb hts in_MO t_MO t_MO_ok n_MO hown hK hP hD hS 0 rfl rfl 0 (by decide) (hts _ (List.mem_cons_of_mem _ w_178)) (fun _ h9 => h9) rfl  (by decide +kernel) rfl rfl (Nat.le_of_ble_eq_true rfl) d_MO_readFactors_39 (fun H locs hP hD hS => ?_)
    have hP : va_P (dC, dI) cls_ [(h0, .inr (5, [.int v384, .int 0, .int 0, .int 16384, .int u5, .int u6])), (qw, .inr (0, [.ref qa, .int (nI (a)), .int (nI (n)), .int (bI m_382)])), (qa, .inl (cA, 1200, .inl (f)))] H := hP
    have hD : va_D A [(h0, .inr (5, [.int v384, .int 0, .int 0, .int 16384, .int u5, .int u6])), (qw, .inr (0, [.ref qa, .int (nI (a)), .int (nI (n)), .int (bI m_382)])), (qa, .inl (cA, 1200, .inl (f)))] := hD
    refine lv_aload_n hx hb d_MO_readFactors_42 rfl (lv_at hl 0 rfl) ?_
    refine lv_aload_n hx hb d_MO_readFactors_43 rfl (lv_at hl 0 rfl) ?_
    refine va_get (D := (dC, dI)) (ci := 5) (v := .int v384) (C := R_MO) (T := F_MO) (N := 6) hx hb hts in_MO hown hK hP 0 rfl rfl 0 (by decide) (hts _ (List.mem_cons_of_mem _ w_178)) (fun _ h9 => h9) rfl d_MO_readFactors_44 ?_
    refine va_put (D := (dC, dI)) (ci := 5) (v := .int v384) (ty := .int) (C := R_MO) (T := F_MO) (N := 6) hx hb hts in_MO t_MO t_MO_ok n_MO hown hK hP hD hS 0 rfl rfl 3 (by decide) (hts _ (List.mem_cons_of_mem _ w_181)) (fun _ h9 => h9) rfl  (by decide +kernel) rfl rfl (Nat.le_of_ble_eq_true rfl) d_MO_readFactors_47 (fun H locs hP hD hS => ?_)
    have hP : va_P (dC, dI) cls_ [(h0, .inr (5, [.int v384, .int 0, .int 0, .int v384, .int u5, .int u6])), (qw, .inr (0, [.ref qa, .int (nI (a)), .int (nI (n)), .int (bI m_382)])), (qa, .inl (cA, 1200, .inl (f)))] H := hP
    have hD : va_D A [(h0, .inr (5, [.int v384, .int 0, .int 0, .int v384, .int u5, .int u6])), (qw, .inr (0, [.ref qa, .int (nI (a)), .int (nI (n)), .int (bI m_382)])), (qa, .inl (cA, 1200, .inl (f)))] := hD
    refine lv_iload_n hx hb d_MO_readFactors_50 rfl (lv_at hl 2 rfl) ?_
    refine lv_iconst (v := 2) hx hb d_MO_readFactors_51 (by decide) ?_
    refine lv_iadd hx hb d_MO_readFactors_52 ?_
    refine lv_topi (fun v385 ev385 => ?_)
    refine W.widen (k := 0) (n := 0) (Nat.le_of_ble_eq_true rfl) (Nat.le_of_ble_eq_true rfl) ?_
    have hP9 := hP.sub (ws' := [(h0, .inr (5, [.int v384, .int 0, .int 0, .int v384, .int u5, .int u6])), (qw, .inr (0, [.ref qa, .int (nI (a)), .int (nI (n)), .int (bI m_382)])), (qa, .inl (cA, 1200, .inl (f)))]) [0, 1, 2] rfl
    have hD9 := hD.sub (ws' := [(h0, .inr (5, [.int v384, .int 0, .int 0, .int v384, .int u5, .int u6])), (qw, .inr (0, [.ref qa, .int (nI (a)), .int (nI (n)), .int (bI m_382)])), (qa, .inl (cA, 1200, .inl (f)))]) [0, 1, 2] (by decide) rfl
    have hK9 := hK.sub (tys' := [(cA, .int)]) [0] rfl
    exact W.iret (v := v385) hx hb hr (fun t ht hW => ⟨⟨v385, (), rfl, trivial, m_382, v384, 0, 0, v384, u5, u6, by rw [ht]; exact hP9, va_K.moved hW.alike hK9, hD9⟩, hS.F ht⟩) hS.2.2 d_MO_readFactors_53
set_option maxHeartbeats 4000000 in
set_option maxRecDepth 100000 in
/-- GlyphLines$Move.read -/
theorem g_MO_read (l : Launch) (dC : Nat → ClassId) (dI : Nat → Nat → Nat) (h0 : Nat) (qw : Nat) (qa : Nat) (a : Nat) (n : Nat) (mi : Bool) (cA : ClassId) (f : Nat → Int32) (u1 : Int32) (u2 : Int32) (u3 : Int32) (u4 : Int32) (u5 : Int32) (u6 : Int32) (pl : Int32) (fl : Int32) (sz : Nat) (hq0 : a + n ≤ 1200) (hq1 : isB f) : Met l y_MO_read s_MO_read ({ frames := 12, cells := 0, slots := 0, locals := 400 }) (va_Pc [.ref h0, .ref qw, .int pl, .int fl] (fun U => U.heap.size = sz ∧ va_P (dC, dI) cls_ [(h0, .inr (5, [.int u1, .int u2, .int u3, .int u4, .int u5, .int u6])), (qw, .inr (0, [.ref qa, .int (nI (a)), .int (nI (n)), .int (bI mi)])), (qa, .inl (cA, 1200, .inl (f)))] U.heap ∧ va_K (dC, dI) cls_ [(cA, .int)] U ∧ va_D (fun _ => True) [(h0, .inr (5, [.int u1, .int u2, .int u3, .int u4, .int u5, .int u6])), (qw, .inr (0, [.ref qa, .int (nI (a)), .int (nI (n)), .int (bI mi)])), (qa, .inl (cA, 1200, .inl (f)))])) (va_Qi (fun (r : Int32) (_ : Unit) => True) (fun (_ : Unit) (t : State) => ∃ (m2 : Bool) (v1 : Int32) (v2 : Int32) (v3 : Int32) (v4 : Int32) (v5 : Int32) (v6 : Int32), va_P (dC, dI) cls_ [(h0, .inr (5, [.int v1, .int v2, .int v3, .int v4, .int v5, .int v6])), (qw, .inr (0, [.ref qa, .int (nI (a)), .int (nI (n)), .int (bI m2)])), (qa, .inl (cA, 1200, .inl (f)))] t.heap ∧ va_K (dC, dI) cls_ [(cA, .int)] t ∧ va_D (va_A [(h0, .inr (5, [.int u1, .int u2, .int u3, .int u4, .int u5, .int u6])), (qw, .inr (0, [.ref qa, .int (nI (a)), .int (nI (n)), .int (bI mi)])), (qa, .inl (cA, 1200, .inl (f)))] sz) [(h0, .inr (5, [.int v1, .int v2, .int v3, .int v4, .int v5, .int v6])), (qw, .inr (0, [.ref qa, .int (nI (a)), .int (nI (n)), .int (bI m2)])), (qa, .inl (cA, 1200, .inl (f)))]) (va_A [(h0, .inr (5, [.int u1, .int u2, .int u3, .int u4, .int u5, .int u6])), (qw, .inr (0, [.ref qa, .int (nI (a)), .int (nI (n)), .int (bI mi)])), (qa, .inl (cA, 1200, .inl (f)))] sz)) 0 0 (va_A [(h0, .inr (5, [.int u1, .int u2, .int u3, .int u4, .int u5, .int u6])), (qw, .inr (0, [.ref qa, .int (nI (a)), .int (nI (n)), .int (bI mi)])), (qa, .inl (cA, 1200, .inl (f)))] sz) := by
  refine Met.ofW (cc := b_MO_read) (maxL := 5) (ret := (some .int)) (by decide) rfl ?_
  intro p e s m args below meth c s₁ B hml hv
  obtain ⟨rfl, hsz, hP, hK, hD0⟩ := hv
  have hx := B.exec
  have hb := B.bytes
  have hr := B.returns
  have hts := atoms_spec (ws := s_MO_read) B.pre
  have hown : s.vm.findClass R_MO = some m.cls := findClass_of_methodNamed B.named
  have hlocks := B.notSynchronized
  subst hsz
  have hD := hD0.self (sz := s.heap.size)
  generalize hAe : va_A [(h0, .inr (5, [.int u1, .int u2, .int u3, .int u4, .int u5, .int u6])), (qw, .inr (0, [.ref qa, .int (nI (a)), .int (nI (n)), .int (bI mi)])), (qa, .inl (cA, 1200, .inl (f)))] s.heap.size = A at hD ⊢
  have hA : ∀ q : Nat, s.heap.size ≤ q → A q := fun q h => by rw [← hAe]; exact Or.inr h
  have hS : va_S A s.heap s.heap [] := va_S.rf
  have hP : va_P (dC, dI) cls_ [(h0, .inr (5, [.int u1, .int u2, .int u3, .int u4, .int u5, .int u6])), (qw, .inr (0, [.ref qa, .int (nI (a)), .int (nI (n)), .int (bI mi)])), (qa, .inl (cA, 1200, .inl (f)))] s.heap := hP
  have hl := lv_entry ([.ref h0, .ref qw, .int pl, .int fl]) (n := 5) (Nat.le_of_ble_eq_true rfl)
  rw [lg_entry_eq]
  generalize (lg_sl ([.ref h0, .ref qw, .int pl, .int fl]) ++ List.replicate (5 - (lg_sl ([.ref h0, .ref qw, .int pl, .int fl])).length) Slot.unset).toArray = ls at hl ⊢
  have hl : lv_has ls 5 [(0, .ref h0), (1, .ref qw), (2, .int pl), (3, .int fl)] := hl
  refine lv_iload_n hx hb d_MO_read_0 rfl (lv_at hl 3 rfl) ?_
  refine lv_iconst (v := 1) hx hb d_MO_read_1 (by decide) ?_
  refine lv_iand hx hb d_MO_read_2 ?_
  refine lv_topi (fun v386 ev386 => ?_)
  refine lv_if_eq (tgt := 10) hx hb d_MO_read_3 (by decide) (fun hc387 => ?_) (fun hc387 => ?_)
  · skip
    refine lv_iconst (v := 0) hx hb d_MO_read_10 (by decide) ?_
    refine lv_istore (lv' := [(4, .int 0), (0, .ref h0), (1, .ref qw), (2, .int pl), (3, .int fl)]) hx hb d_MO_read_11 hl (by decide) rfl (fun ls hl => ?_)
    refine lv_aload_n hx hb d_MO_read_13 rfl (lv_at hl 1 rfl) ?_
    refine lv_iload hx hb d_MO_read_14 (lv_at hl 0 rfl) ?_
    refine lv_if_eq (tgt := 28) hx hb d_MO_read_16 (by decide) (fun _ => ?_) (fun hc => absurd hc (by decide +kernel))
    refine lv_aload_n hx hb d_MO_read_28 rfl (lv_at hl 2 rfl) ?_
    refine lv_iload_n hx hb d_MO_read_29 rfl (lv_at hl 3 rfl) ?_
    have hPc := hP.sub (ws' := [(qw, .inr (0, [.ref qa, .int (nI (a)), .int (nI (n)), .int (bI mi)])), (qa, .inl (cA, 1200, .inl (f)))]) [1, 2] rfl
    have hDc := hD.sub (ws' := [(qw, .inr (0, [.ref qa, .int (nI (a)), .int (nI (n)), .int (bI mi)])), (qa, .inl (cA, 1200, .inl (f)))]) [1, 2] (by decide) rfl
    have hKc := hK.sub (tys' := [(cA, .int)]) [0] rfl
    have hFc := va_free (wc := [(qw, .inr (0, [.ref qa, .int (nI (a)), .int (nI (n)), .int (bI mi)])), (qa, .inl (cA, 1200, .inl (f)))]) hD hS hA [1, 2] rfl
    refine va_calli (va_runV (As := [.int pl]) (rest := [.ref h0]) ⟨hx, hb, hml, hown, hts⟩ (g_SP_u8 l dC dI qw qa a n mi cA f pl s.heap.size (by omega) (by assumption)) (cwV 1 hts (tw_inV w_499 w_500 w_501 w_4 w_502) rfl rfl rfl (by decide +kernel) ⟨Nat.le_of_ble_eq_true rfl, Nat.le_of_ble_eq_true rfl⟩) ⟨fun a U g mk q => by obtain ⟨q0, q1, qP, qK, qD⟩ := q; exact ⟨q0, q1, qP, va_K.moved (u := U) (U := U.calling g mk a) (Vm.Alike.refl U.vm) qK, qD⟩, va_recv (hK := hK) (hP := hP) (q0 := 1) (ci := 0) rfl rfl, fun U hU hW => ⟨rfl, by rw [hU], by rw [hU]; exact hPc, va_K.moved hW.alike hKc, hDc.weaken (fun _ _ _ _ => trivial)⟩⟩ rfl rfl hl.1 rfl (lv_room (Nat.le_of_ble_eq_true rfl)) d_MO_read_30 ⟨Nat.le_of_ble_eq_true rfl, Nat.le_of_ble_eq_true rfl⟩) hS (fun q _ h => hFc q h) hFc (fun r388 u t H1 locs ht hvm hw hB hz1 hk1 hS => ?_)
    obtain ⟨m_389, hP1, hK1, hD1⟩ := hB
    rw [ht] at hP1
    have hK1 := va_K.moved hvm.symm hK1
    obtain ⟨hP, hD⟩ := va_join (wr := [(h0, .inr (5, [.int u1, .int u2, .int u3, .int u4, .int u5, .int u6]))]) (w1 := [(qw, .inr (0, [.ref qa, .int (nI (a)), .int (nI (n)), .int (bI m_389)])), (qa, .inl (cA, 1200, .inl (f)))]) hP hD [1, 2] [0] rfl rfl (by decide) (by decide) hk1 hFc hP1 hD1
    have hK := (hK.sub (tys' := []) [] rfl).app hK1
    generalize H1 = H at hP hS ⊢
    have hP : va_P (dC, dI) cls_ [(h0, .inr (5, [.int u1, .int u2, .int u3, .int u4, .int u5, .int u6])), (qw, .inr (0, [.ref qa, .int (nI (a)), .int (nI (n)), .int (bI m_389)])), (qa, .inl (cA, 1200, .inl (f)))] H := hP
    have hD : va_D A [(h0, .inr (5, [.int u1, .int u2, .int u3, .int u4, .int u5, .int u6])), (qw, .inr (0, [.ref qa, .int (nI (a)), .int (nI (n)), .int (bI m_389)])), (qa, .inl (cA, 1200, .inl (f)))] := hD
    have hK : va_K (dC, dI) cls_ [(cA, .int)] s := hK
    have hw_r388 := hw
    obtain ⟨kn390, hb_kn390, rfl⟩ := hw_r388
    refine lv_i2b (v := (nI (kn390)).toInt8.toInt32) hx hb d_MO_read_33 rfl ?_
    refine lv_topi (fun v391 ev391 => ?_)
    refine va_put (D := (dC, dI)) (ci := 5) (v := .int v391) (ty := .int) (C := R_MO) (T := F_MO) (N := 6) hx hb hts in_MO t_MO t_MO_ok n_MO hown hK hP hD hS 0 rfl rfl 4 (by decide) (hts _ (List.mem_cons_of_mem _ w_182)) (fun _ h9 => h9) rfl  (by decide +kernel) rfl rfl (Nat.le_of_ble_eq_true rfl) d_MO_read_34 (fun H locs hP hD hS => ?_)
    have hP : va_P (dC, dI) cls_ [(h0, .inr (5, [.int u1, .int u2, .int u3, .int u4, .int v391, .int u6])), (qw, .inr (0, [.ref qa, .int (nI (a)), .int (nI (n)), .int (bI m_389)])), (qa, .inl (cA, 1200, .inl (f)))] H := hP
    have hD : va_D A [(h0, .inr (5, [.int u1, .int u2, .int u3, .int u4, .int v391, .int u6])), (qw, .inr (0, [.ref qa, .int (nI (a)), .int (nI (n)), .int (bI m_389)])), (qa, .inl (cA, 1200, .inl (f)))] := hD
    refine lv_aload_n hx hb d_MO_read_37 rfl (lv_at hl 1 rfl) ?_
    refine lv_iload hx hb d_MO_read_38 (lv_at hl 0 rfl) ?_
    refine lv_if_eq (tgt := 54) hx hb d_MO_read_40 (by decide) (fun _ => ?_) (fun hc => absurd hc (by decide +kernel))
    refine lv_aload_n hx hb d_MO_read_54 rfl (lv_at hl 2 rfl) ?_
    refine lv_iload_n hx hb d_MO_read_55 rfl (lv_at hl 3 rfl) ?_
    refine lv_iconst (v := 1) hx hb d_MO_read_56 (by decide) ?_
    refine lv_iadd hx hb d_MO_read_57 ?_
    refine lv_topi (fun v392 ev392 => ?_)
    have hPc := hP.sub (ws' := [(qw, .inr (0, [.ref qa, .int (nI (a)), .int (nI (n)), .int (bI m_389)])), (qa, .inl (cA, 1200, .inl (f)))]) [1, 2] rfl
    have hDc := hD.sub (ws' := [(qw, .inr (0, [.ref qa, .int (nI (a)), .int (nI (n)), .int (bI m_389)])), (qa, .inl (cA, 1200, .inl (f)))]) [1, 2] (by decide) rfl
    have hKc := hK.sub (tys' := [(cA, .int)]) [0] rfl
    have hFc := va_free (wc := [(qw, .inr (0, [.ref qa, .int (nI (a)), .int (nI (n)), .int (bI m_389)])), (qa, .inl (cA, 1200, .inl (f)))]) hD hS hA [1, 2] rfl
    refine va_calli (va_runV (As := [.int v392]) (rest := [.ref h0]) ⟨hx, hb, hml, hown, hts⟩ (g_SP_u8 l dC dI qw qa a n m_389 cA f v392 H.size (by omega) (by assumption)) (cwV 1 hts (tw_inV w_499 w_500 w_501 w_4 w_502) rfl rfl rfl (by decide +kernel) ⟨Nat.le_of_ble_eq_true rfl, Nat.le_of_ble_eq_true rfl⟩) ⟨fun a U g mk q => by obtain ⟨q0, q1, qP, qK, qD⟩ := q; exact ⟨q0, q1, qP, va_K.moved (u := U) (U := U.calling g mk a) (Vm.Alike.refl U.vm) qK, qD⟩, va_recv (hK := hK) (hP := hP) (q0 := 1) (ci := 0) rfl rfl, fun U hU hW => ⟨rfl, by rw [hU], by rw [hU]; exact hPc, va_K.moved hW.alike hKc, hDc.weaken (fun _ _ _ _ => trivial)⟩⟩ rfl rfl hl.1 rfl (lv_room (Nat.le_of_ble_eq_true rfl)) d_MO_read_58 ⟨Nat.le_of_ble_eq_true rfl, Nat.le_of_ble_eq_true rfl⟩) hS (fun q _ h => hFc q h) hFc (fun r393 u t H1 locs ht hvm hw hB hz1 hk1 hS => ?_)
    obtain ⟨m_394, hP1, hK1, hD1⟩ := hB
    rw [ht] at hP1
    have hK1 := va_K.moved hvm.symm hK1
    obtain ⟨hP, hD⟩ := va_join (wr := [(h0, .inr (5, [.int u1, .int u2, .int u3, .int u4, .int v391, .int u6]))]) (w1 := [(qw, .inr (0, [.ref qa, .int (nI (a)), .int (nI (n)), .int (bI m_394)])), (qa, .inl (cA, 1200, .inl (f)))]) hP hD [1, 2] [0] rfl rfl (by decide) (by decide) hk1 hFc hP1 hD1
    have hK := (hK.sub (tys' := []) [] rfl).app hK1
    generalize H1 = H at hP hS ⊢
    have hP : va_P (dC, dI) cls_ [(h0, .inr (5, [.int u1, .int u2, .int u3, .int u4, .int v391, .int u6])), (qw, .inr (0, [.ref qa, .int (nI (a)), .int (nI (n)), .int (bI m_394)])), (qa, .inl (cA, 1200, .inl (f)))] H := hP
    have hD : va_D A [(h0, .inr (5, [.int u1, .int u2, .int u3, .int u4, .int v391, .int u6])), (qw, .inr (0, [.ref qa, .int (nI (a)), .int (nI (n)), .int (bI m_394)])), (qa, .inl (cA, 1200, .inl (f)))] := hD
    have hK : va_K (dC, dI) cls_ [(cA, .int)] s := hK
    have hw_r393 := hw
    obtain ⟨kn395, hb_kn395, rfl⟩ := hw_r393
    refine lv_i2b (v := (nI (kn395)).toInt8.toInt32) hx hb d_MO_read_61 rfl ?_
    refine lv_topi (fun v396 ev396 => ?_)
    refine va_put (D := (dC, dI)) (ci := 5) (v := .int v396) (ty := .int) (C := R_MO) (T := F_MO) (N := 6) hx hb hts in_MO t_MO t_MO_ok n_MO hown hK hP hD hS 0 rfl rfl 5 (by decide) (hts _ (List.mem_cons_of_mem _ w_183)) (fun _ h9 => h9) rfl  (by decide +kernel) rfl rfl (Nat.le_of_ble_eq_true rfl) d_MO_read_62 (fun H locs hP hD hS => ?_)
    have hP : va_P (dC, dI) cls_ [(h0, .inr (5, [.int u1, .int u2, .int u3, .int u4, .int v391, .int v396])), (qw, .inr (0, [.ref qa, .int (nI (a)), .int (nI (n)), .int (bI m_394)])), (qa, .inl (cA, 1200, .inl (f)))] H := hP
    have hD : va_D A [(h0, .inr (5, [.int u1, .int u2, .int u3, .int u4, .int v391, .int v396])), (qw, .inr (0, [.ref qa, .int (nI (a)), .int (nI (n)), .int (bI m_394)])), (qa, .inl (cA, 1200, .inl (f)))] := hD
    refine lv_aload_n hx hb d_MO_read_65 rfl (lv_at hl 1 rfl) ?_
    refine lv_aload_n hx hb d_MO_read_66 rfl (lv_at hl 2 rfl) ?_
    refine lv_iload_n hx hb d_MO_read_67 rfl (lv_at hl 3 rfl) ?_
    refine lv_iload hx hb d_MO_read_68 (lv_at hl 0 rfl) ?_
    refine lv_if_eq (tgt := 77) hx hb d_MO_read_70 (by decide) (fun _ => ?_) (fun hc => absurd hc (by decide +kernel))
    refine lv_iconst (v := 2) hx hb d_MO_read_77 (by decide) ?_
    refine lv_iadd hx hb d_MO_read_78 ?_
    refine lv_topi (fun v397 ev397 => ?_)
    refine lv_iload_n hx hb d_MO_read_79 rfl (lv_at hl 4 rfl) ?_
    have hPc := hP.sub (ws' := [(h0, .inr (5, [.int u1, .int u2, .int u3, .int u4, .int v391, .int v396])), (qw, .inr (0, [.ref qa, .int (nI (a)), .int (nI (n)), .int (bI m_394)])), (qa, .inl (cA, 1200, .inl (f)))]) [0, 1, 2] rfl
    have hDc := hD.sub (ws' := [(h0, .inr (5, [.int u1, .int u2, .int u3, .int u4, .int v391, .int v396])), (qw, .inr (0, [.ref qa, .int (nI (a)), .int (nI (n)), .int (bI m_394)])), (qa, .inl (cA, 1200, .inl (f)))]) [0, 1, 2] (by decide) rfl
    have hKc := hK.sub (tys' := [(cA, .int)]) [0] rfl
    have hFc := va_free (wc := [(h0, .inr (5, [.int u1, .int u2, .int u3, .int u4, .int v391, .int v396])), (qw, .inr (0, [.ref qa, .int (nI (a)), .int (nI (n)), .int (bI m_394)])), (qa, .inl (cA, 1200, .inl (f)))]) hD hS hA [0, 1, 2] rfl
    refine va_calli (va_runV (As := [.ref qw, .int v397, .int fl]) (rest := []) ⟨hx, hb, hml, hown, hts⟩ (g_MO_readFactors l dC dI h0 qw qa a n m_394 cA f u1 u2 u3 u4 v391 v396 v397 fl H.size (by omega) (by assumption)) (cwV 3 hts (tw_inV w_503 w_505 wp_15 w_8 w_506) rfl rfl rfl (by decide +kernel) ⟨Nat.le_of_ble_eq_true rfl, Nat.le_of_ble_eq_true rfl⟩) ⟨fun a U g mk q => by obtain ⟨q0, q1, qP, qK, qD⟩ := q; exact ⟨q0, q1, qP, va_K.moved (u := U) (U := U.calling g mk a) (Vm.Alike.refl U.vm) qK, qD⟩, va_recv (hK := hK) (hP := hP) (q0 := 0) (ci := 5) rfl rfl, fun U hU hW => ⟨rfl, by rw [hU], by rw [hU]; exact hPc, va_K.moved hW.alike hKc, hDc.weaken (fun _ _ _ _ => trivial)⟩⟩ rfl rfl hl.1 rfl (lv_room (Nat.le_of_ble_eq_true rfl)) d_MO_read_80 ⟨Nat.le_of_ble_eq_true rfl, Nat.le_of_ble_eq_true rfl⟩) hS (fun q _ h => hFc q h) hFc (fun r398 u t H1 locs ht hvm hw hB hz1 hk1 hS => ?_)
    obtain ⟨m_399, v_400, v_401, v_402, v_403, v_404, v_405, hP1, hK1, hD1⟩ := hB
    rw [ht] at hP1
    have hK1 := va_K.moved hvm.symm hK1
    obtain ⟨hP, hD⟩ := va_join (wr := []) (w1 := [(h0, .inr (5, [.int v_400, .int v_401, .int v_402, .int v_403, .int v_404, .int v_405])), (qw, .inr (0, [.ref qa, .int (nI (a)), .int (nI (n)), .int (bI m_399)])), (qa, .inl (cA, 1200, .inl (f)))]) hP hD [0, 1, 2] [] rfl rfl (by decide) (by decide) hk1 hFc hP1 hD1
    have hK := (hK.sub (tys' := []) [] rfl).app hK1
    generalize H1 = H at hP hS ⊢
    have hP : va_P (dC, dI) cls_ [(h0, .inr (5, [.int v_400, .int v_401, .int v_402, .int v_403, .int v_404, .int v_405])), (qw, .inr (0, [.ref qa, .int (nI (a)), .int (nI (n)), .int (bI m_399)])), (qa, .inl (cA, 1200, .inl (f)))] H := hP
    have hD : va_D A [(h0, .inr (5, [.int v_400, .int v_401, .int v_402, .int v_403, .int v_404, .int v_405])), (qw, .inr (0, [.ref qa, .int (nI (a)), .int (nI (n)), .int (bI m_399)])), (qa, .inl (cA, 1200, .inl (f)))] := hD
    have hK : va_K (dC, dI) cls_ [(cA, .int)] s := hK
    have hw_r398 := hw
    refine W.widen (k := 0) (n := 0) (Nat.le_of_ble_eq_true rfl) (Nat.le_of_ble_eq_true rfl) ?_
    have hP9 := hP.sub (ws' := [(h0, .inr (5, [.int v_400, .int v_401, .int v_402, .int v_403, .int v_404, .int v_405])), (qw, .inr (0, [.ref qa, .int (nI (a)), .int (nI (n)), .int (bI m_399)])), (qa, .inl (cA, 1200, .inl (f)))]) [0, 1, 2] rfl
    have hD9 := hD.sub (ws' := [(h0, .inr (5, [.int v_400, .int v_401, .int v_402, .int v_403, .int v_404, .int v_405])), (qw, .inr (0, [.ref qa, .int (nI (a)), .int (nI (n)), .int (bI m_399)])), (qa, .inl (cA, 1200, .inl (f)))]) [0, 1, 2] (by decide) rfl
    have hK9 := hK.sub (tys' := [(cA, .int)]) [0] rfl
    exact W.iret (v := r398) hx hb hr (fun t ht hW => ⟨⟨r398, (), rfl, trivial, m_399, v_400, v_401, v_402, v_403, v_404, v_405, by rw [ht]; exact hP9, va_K.moved hW.alike hK9, hD9⟩, hS.F ht⟩) hS.2.2 d_MO_read_83
  · skip
    refine lv_iconst (v := 1) hx hb d_MO_read_6 (by decide) ?_
    refine lv_goto (tgt := 11) hx hb d_MO_read_7 (by decide) ?_
    refine lv_istore (lv' := [(4, .int 1), (0, .ref h0), (1, .ref qw), (2, .int pl), (3, .int fl)]) hx hb d_MO_read_11 hl (by decide) rfl (fun ls hl => ?_)
    refine lv_aload_n hx hb d_MO_read_13 rfl (lv_at hl 1 rfl) ?_
    refine lv_iload hx hb d_MO_read_14 (lv_at hl 0 rfl) ?_
    refine lv_if_eq (tgt := 28) hx hb d_MO_read_16 (by decide) (fun hc => absurd hc (by decide +kernel)) (fun _ => ?_)
    refine lv_aload_n hx hb d_MO_read_19 rfl (lv_at hl 2 rfl) ?_
    refine lv_iload_n hx hb d_MO_read_20 rfl (lv_at hl 3 rfl) ?_
    have hPc := hP.sub (ws' := [(qw, .inr (0, [.ref qa, .int (nI (a)), .int (nI (n)), .int (bI mi)])), (qa, .inl (cA, 1200, .inl (f)))]) [1, 2] rfl
    have hDc := hD.sub (ws' := [(qw, .inr (0, [.ref qa, .int (nI (a)), .int (nI (n)), .int (bI mi)])), (qa, .inl (cA, 1200, .inl (f)))]) [1, 2] (by decide) rfl
    have hKc := hK.sub (tys' := [(cA, .int)]) [0] rfl
    have hFc := va_free (wc := [(qw, .inr (0, [.ref qa, .int (nI (a)), .int (nI (n)), .int (bI mi)])), (qa, .inl (cA, 1200, .inl (f)))]) hD hS hA [1, 2] rfl
    refine va_calli (va_runV (As := [.int pl]) (rest := [.ref h0]) ⟨hx, hb, hml, hown, hts⟩ (g_SP_u16 l dC dI qw qa a n mi cA f pl s.heap.size (by omega) (by assumption)) (cwV 1 hts (tw_inV w_498 w_353 w_354 w_4 w_355) rfl rfl rfl (by decide +kernel) ⟨Nat.le_of_ble_eq_true rfl, Nat.le_of_ble_eq_true rfl⟩) ⟨fun a U g mk q => by obtain ⟨q0, q1, qP, qK, qD⟩ := q; exact ⟨q0, q1, qP, va_K.moved (u := U) (U := U.calling g mk a) (Vm.Alike.refl U.vm) qK, qD⟩, va_recv (hK := hK) (hP := hP) (q0 := 1) (ci := 0) rfl rfl, fun U hU hW => ⟨rfl, by rw [hU], by rw [hU]; exact hPc, va_K.moved hW.alike hKc, hDc.weaken (fun _ _ _ _ => trivial)⟩⟩ rfl rfl hl.1 rfl (lv_room (Nat.le_of_ble_eq_true rfl)) d_MO_read_21 ⟨Nat.le_of_ble_eq_true rfl, Nat.le_of_ble_eq_true rfl⟩) hS (fun q _ h => hFc q h) hFc (fun r406 u t H1 locs ht hvm hw hB hz1 hk1 hS => ?_)
    obtain ⟨m_407, hP1, hK1, hD1⟩ := hB
    rw [ht] at hP1
    have hK1 := va_K.moved hvm.symm hK1
    obtain ⟨hP, hD⟩ := va_join (wr := [(h0, .inr (5, [.int u1, .int u2, .int u3, .int u4, .int u5, .int u6]))]) (w1 := [(qw, .inr (0, [.ref qa, .int (nI (a)), .int (nI (n)), .int (bI m_407)])), (qa, .inl (cA, 1200, .inl (f)))]) hP hD [1, 2] [0] rfl rfl (by decide) (by decide) hk1 hFc hP1 hD1
    have hK := (hK.sub (tys' := []) [] rfl).app hK1
    generalize H1 = H at hP hS ⊢
    have hP : va_P (dC, dI) cls_ [(h0, .inr (5, [.int u1, .int u2, .int u3, .int u4, .int u5, .int u6])), (qw, .inr (0, [.ref qa, .int (nI (a)), .int (nI (n)), .int (bI m_407)])), (qa, .inl (cA, 1200, .inl (f)))] H := hP
    have hD : va_D A [(h0, .inr (5, [.int u1, .int u2, .int u3, .int u4, .int u5, .int u6])), (qw, .inr (0, [.ref qa, .int (nI (a)), .int (nI (n)), .int (bI m_407)])), (qa, .inl (cA, 1200, .inl (f)))] := hD
    have hK : va_K (dC, dI) cls_ [(cA, .int)] s := hK
    have hw_r406 := hw
    obtain ⟨kn408, hb_kn408, rfl⟩ := hw_r406
    refine lv_i2s (v := (nI (kn408)).toInt16.toInt32) hx hb d_MO_read_24 rfl ?_
    refine lv_topi (fun v409 ev409 => ?_)
    refine lv_goto (tgt := 34) hx hb d_MO_read_25 (by decide) ?_
    refine va_put (D := (dC, dI)) (ci := 5) (v := .int v409) (ty := .int) (C := R_MO) (T := F_MO) (N := 6) hx hb hts in_MO t_MO t_MO_ok n_MO hown hK hP hD hS 0 rfl rfl 4 (by decide) (hts _ (List.mem_cons_of_mem _ w_182)) (fun _ h9 => h9) rfl  (by decide +kernel) rfl rfl (Nat.le_of_ble_eq_true rfl) d_MO_read_34 (fun H locs hP hD hS => ?_)
    have hP : va_P (dC, dI) cls_ [(h0, .inr (5, [.int u1, .int u2, .int u3, .int u4, .int v409, .int u6])), (qw, .inr (0, [.ref qa, .int (nI (a)), .int (nI (n)), .int (bI m_407)])), (qa, .inl (cA, 1200, .inl (f)))] H := hP
    have hD : va_D A [(h0, .inr (5, [.int u1, .int u2, .int u3, .int u4, .int v409, .int u6])), (qw, .inr (0, [.ref qa, .int (nI (a)), .int (nI (n)), .int (bI m_407)])), (qa, .inl (cA, 1200, .inl (f)))] := hD
    refine lv_aload_n hx hb d_MO_read_37 rfl (lv_at hl 1 rfl) ?_
    refine lv_iload hx hb d_MO_read_38 (lv_at hl 0 rfl) ?_
    refine lv_if_eq (tgt := 54) hx hb d_MO_read_40 (by decide) (fun hc => absurd hc (by decide +kernel)) (fun _ => ?_)
    refine lv_aload_n hx hb d_MO_read_43 rfl (lv_at hl 2 rfl) ?_
    refine lv_iload_n hx hb d_MO_read_44 rfl (lv_at hl 3 rfl) ?_
    refine lv_iconst (v := 2) hx hb d_MO_read_45 (by decide) ?_
    refine lv_iadd hx hb d_MO_read_46 ?_
    refine lv_topi (fun v410 ev410 => ?_)
    have hPc := hP.sub (ws' := [(qw, .inr (0, [.ref qa, .int (nI (a)), .int (nI (n)), .int (bI m_407)])), (qa, .inl (cA, 1200, .inl (f)))]) [1, 2] rfl
    have hDc := hD.sub (ws' := [(qw, .inr (0, [.ref qa, .int (nI (a)), .int (nI (n)), .int (bI m_407)])), (qa, .inl (cA, 1200, .inl (f)))]) [1, 2] (by decide) rfl
    have hKc := hK.sub (tys' := [(cA, .int)]) [0] rfl
    have hFc := va_free (wc := [(qw, .inr (0, [.ref qa, .int (nI (a)), .int (nI (n)), .int (bI m_407)])), (qa, .inl (cA, 1200, .inl (f)))]) hD hS hA [1, 2] rfl
    refine va_calli (va_runV (As := [.int v410]) (rest := [.ref h0]) ⟨hx, hb, hml, hown, hts⟩ (g_SP_u16 l dC dI qw qa a n m_407 cA f v410 H.size (by omega) (by assumption)) (cwV 1 hts (tw_inV w_498 w_353 w_354 w_4 w_355) rfl rfl rfl (by decide +kernel) ⟨Nat.le_of_ble_eq_true rfl, Nat.le_of_ble_eq_true rfl⟩) ⟨fun a U g mk q => by obtain ⟨q0, q1, qP, qK, qD⟩ := q; exact ⟨q0, q1, qP, va_K.moved (u := U) (U := U.calling g mk a) (Vm.Alike.refl U.vm) qK, qD⟩, va_recv (hK := hK) (hP := hP) (q0 := 1) (ci := 0) rfl rfl, fun U hU hW => ⟨rfl, by rw [hU], by rw [hU]; exact hPc, va_K.moved hW.alike hKc, hDc.weaken (fun _ _ _ _ => trivial)⟩⟩ rfl rfl hl.1 rfl (lv_room (Nat.le_of_ble_eq_true rfl)) d_MO_read_47 ⟨Nat.le_of_ble_eq_true rfl, Nat.le_of_ble_eq_true rfl⟩) hS (fun q _ h => hFc q h) hFc (fun r411 u t H1 locs ht hvm hw hB hz1 hk1 hS => ?_)
    obtain ⟨m_412, hP1, hK1, hD1⟩ := hB
    rw [ht] at hP1
    have hK1 := va_K.moved hvm.symm hK1
    obtain ⟨hP, hD⟩ := va_join (wr := [(h0, .inr (5, [.int u1, .int u2, .int u3, .int u4, .int v409, .int u6]))]) (w1 := [(qw, .inr (0, [.ref qa, .int (nI (a)), .int (nI (n)), .int (bI m_412)])), (qa, .inl (cA, 1200, .inl (f)))]) hP hD [1, 2] [0] rfl rfl (by decide) (by decide) hk1 hFc hP1 hD1
    have hK := (hK.sub (tys' := []) [] rfl).app hK1
    generalize H1 = H at hP hS ⊢
    have hP : va_P (dC, dI) cls_ [(h0, .inr (5, [.int u1, .int u2, .int u3, .int u4, .int v409, .int u6])), (qw, .inr (0, [.ref qa, .int (nI (a)), .int (nI (n)), .int (bI m_412)])), (qa, .inl (cA, 1200, .inl (f)))] H := hP
    have hD : va_D A [(h0, .inr (5, [.int u1, .int u2, .int u3, .int u4, .int v409, .int u6])), (qw, .inr (0, [.ref qa, .int (nI (a)), .int (nI (n)), .int (bI m_412)])), (qa, .inl (cA, 1200, .inl (f)))] := hD
    have hK : va_K (dC, dI) cls_ [(cA, .int)] s := hK
    have hw_r411 := hw
    obtain ⟨kn413, hb_kn413, rfl⟩ := hw_r411
    refine lv_i2s (v := (nI (kn413)).toInt16.toInt32) hx hb d_MO_read_50 rfl ?_
    refine lv_topi (fun v414 ev414 => ?_)
    refine lv_goto (tgt := 62) hx hb d_MO_read_51 (by decide) ?_
    refine va_put (D := (dC, dI)) (ci := 5) (v := .int v414) (ty := .int) (C := R_MO) (T := F_MO) (N := 6) hx hb hts in_MO t_MO t_MO_ok n_MO hown hK hP hD hS 0 rfl rfl 5 (by decide) (hts _ (List.mem_cons_of_mem _ w_183)) (fun _ h9 => h9) rfl  (by decide +kernel) rfl rfl (Nat.le_of_ble_eq_true rfl) d_MO_read_62 (fun H locs hP hD hS => ?_)
    have hP : va_P (dC, dI) cls_ [(h0, .inr (5, [.int u1, .int u2, .int u3, .int u4, .int v409, .int v414])), (qw, .inr (0, [.ref qa, .int (nI (a)), .int (nI (n)), .int (bI m_412)])), (qa, .inl (cA, 1200, .inl (f)))] H := hP
    have hD : va_D A [(h0, .inr (5, [.int u1, .int u2, .int u3, .int u4, .int v409, .int v414])), (qw, .inr (0, [.ref qa, .int (nI (a)), .int (nI (n)), .int (bI m_412)])), (qa, .inl (cA, 1200, .inl (f)))] := hD
    refine lv_aload_n hx hb d_MO_read_65 rfl (lv_at hl 1 rfl) ?_
    refine lv_aload_n hx hb d_MO_read_66 rfl (lv_at hl 2 rfl) ?_
    refine lv_iload_n hx hb d_MO_read_67 rfl (lv_at hl 3 rfl) ?_
    refine lv_iload hx hb d_MO_read_68 (lv_at hl 0 rfl) ?_
    refine lv_if_eq (tgt := 77) hx hb d_MO_read_70 (by decide) (fun hc => absurd hc (by decide +kernel)) (fun _ => ?_)
    refine lv_iconst (v := 4) hx hb d_MO_read_73 (by decide) ?_
    refine lv_goto (tgt := 78) hx hb d_MO_read_74 (by decide) ?_
    refine lv_iadd hx hb d_MO_read_78 ?_
    refine lv_topi (fun v415 ev415 => ?_)
    refine lv_iload_n hx hb d_MO_read_79 rfl (lv_at hl 4 rfl) ?_
    have hPc := hP.sub (ws' := [(h0, .inr (5, [.int u1, .int u2, .int u3, .int u4, .int v409, .int v414])), (qw, .inr (0, [.ref qa, .int (nI (a)), .int (nI (n)), .int (bI m_412)])), (qa, .inl (cA, 1200, .inl (f)))]) [0, 1, 2] rfl
    have hDc := hD.sub (ws' := [(h0, .inr (5, [.int u1, .int u2, .int u3, .int u4, .int v409, .int v414])), (qw, .inr (0, [.ref qa, .int (nI (a)), .int (nI (n)), .int (bI m_412)])), (qa, .inl (cA, 1200, .inl (f)))]) [0, 1, 2] (by decide) rfl
    have hKc := hK.sub (tys' := [(cA, .int)]) [0] rfl
    have hFc := va_free (wc := [(h0, .inr (5, [.int u1, .int u2, .int u3, .int u4, .int v409, .int v414])), (qw, .inr (0, [.ref qa, .int (nI (a)), .int (nI (n)), .int (bI m_412)])), (qa, .inl (cA, 1200, .inl (f)))]) hD hS hA [0, 1, 2] rfl
    refine va_calli (va_runV (As := [.ref qw, .int v415, .int fl]) (rest := []) ⟨hx, hb, hml, hown, hts⟩ (g_MO_readFactors l dC dI h0 qw qa a n m_412 cA f u1 u2 u3 u4 v409 v414 v415 fl H.size (by omega) (by assumption)) (cwV 3 hts (tw_inV w_503 w_505 wp_15 w_8 w_506) rfl rfl rfl (by decide +kernel) ⟨Nat.le_of_ble_eq_true rfl, Nat.le_of_ble_eq_true rfl⟩) ⟨fun a U g mk q => by obtain ⟨q0, q1, qP, qK, qD⟩ := q; exact ⟨q0, q1, qP, va_K.moved (u := U) (U := U.calling g mk a) (Vm.Alike.refl U.vm) qK, qD⟩, va_recv (hK := hK) (hP := hP) (q0 := 0) (ci := 5) rfl rfl, fun U hU hW => ⟨rfl, by rw [hU], by rw [hU]; exact hPc, va_K.moved hW.alike hKc, hDc.weaken (fun _ _ _ _ => trivial)⟩⟩ rfl rfl hl.1 rfl (lv_room (Nat.le_of_ble_eq_true rfl)) d_MO_read_80 ⟨Nat.le_of_ble_eq_true rfl, Nat.le_of_ble_eq_true rfl⟩) hS (fun q _ h => hFc q h) hFc (fun r416 u t H1 locs ht hvm hw hB hz1 hk1 hS => ?_)
    obtain ⟨m_417, v_418, v_419, v_420, v_421, v_422, v_423, hP1, hK1, hD1⟩ := hB
    rw [ht] at hP1
    have hK1 := va_K.moved hvm.symm hK1
    obtain ⟨hP, hD⟩ := va_join (wr := []) (w1 := [(h0, .inr (5, [.int v_418, .int v_419, .int v_420, .int v_421, .int v_422, .int v_423])), (qw, .inr (0, [.ref qa, .int (nI (a)), .int (nI (n)), .int (bI m_417)])), (qa, .inl (cA, 1200, .inl (f)))]) hP hD [0, 1, 2] [] rfl rfl (by decide) (by decide) hk1 hFc hP1 hD1
    have hK := (hK.sub (tys' := []) [] rfl).app hK1
    generalize H1 = H at hP hS ⊢
    have hP : va_P (dC, dI) cls_ [(h0, .inr (5, [.int v_418, .int v_419, .int v_420, .int v_421, .int v_422, .int v_423])), (qw, .inr (0, [.ref qa, .int (nI (a)), .int (nI (n)), .int (bI m_417)])), (qa, .inl (cA, 1200, .inl (f)))] H := hP
    have hD : va_D A [(h0, .inr (5, [.int v_418, .int v_419, .int v_420, .int v_421, .int v_422, .int v_423])), (qw, .inr (0, [.ref qa, .int (nI (a)), .int (nI (n)), .int (bI m_417)])), (qa, .inl (cA, 1200, .inl (f)))] := hD
    have hK : va_K (dC, dI) cls_ [(cA, .int)] s := hK
    have hw_r416 := hw
    refine W.widen (k := 0) (n := 0) (Nat.le_of_ble_eq_true rfl) (Nat.le_of_ble_eq_true rfl) ?_
    have hP9 := hP.sub (ws' := [(h0, .inr (5, [.int v_418, .int v_419, .int v_420, .int v_421, .int v_422, .int v_423])), (qw, .inr (0, [.ref qa, .int (nI (a)), .int (nI (n)), .int (bI m_417)])), (qa, .inl (cA, 1200, .inl (f)))]) [0, 1, 2] rfl
    have hD9 := hD.sub (ws' := [(h0, .inr (5, [.int v_418, .int v_419, .int v_420, .int v_421, .int v_422, .int v_423])), (qw, .inr (0, [.ref qa, .int (nI (a)), .int (nI (n)), .int (bI m_417)])), (qa, .inl (cA, 1200, .inl (f)))]) [0, 1, 2] (by decide) rfl
    have hK9 := hK.sub (tys' := [(cA, .int)]) [0] rfl
    exact W.iret (v := r416) hx hb hr (fun t ht hW => ⟨⟨r416, (), rfl, trivial, m_417, v_418, v_419, v_420, v_421, v_422, v_423, by rw [ht]; exact hP9, va_K.moved hW.alike hK9, hD9⟩, hS.F ht⟩) hS.2.2 d_MO_read_83
