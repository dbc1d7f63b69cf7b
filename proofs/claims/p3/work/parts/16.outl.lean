abbrev b_OU_isInRange : ByteArray := prog_7_method_9_code
def y_OU_isInRange : MethodName := ⟨R_OU, "isInRange", "(I)Z"⟩
def s_OU_isInRange : List Cond := .code y_OU_isInRange b_OU_isInRange 3 (some .boolean) :: tw_T
abbrev b_OU_movePoints : ByteArray := prog_7_method_5_code
def y_OU_movePoints : MethodName := ⟨R_OU, "movePoints", "(I)V"⟩
def s_OU_movePoints : List Cond := .code y_OU_movePoints b_OU_movePoints 4 none :: tw_T
abbrev b_OU_readFlags : ByteArray := prog_7_method_7_code
def y_OU_readFlags : MethodName := ⟨R_OU, "readFlags", "(LGlyphLines$Span;II)I"⟩
def s_OU_readFlags : List Cond := .code y_OU_readFlags b_OU_readFlags 9 (some .int) :: tw_T
abbrev b_OU_readAxis : ByteArray := prog_7_method_8_code
def y_OU_readAxis : MethodName := ⟨R_OU, "readAxis", "(LGlyphLines$Span;II[II)I"⟩
def s_OU_readAxis : List Cond := .code y_OU_readAxis b_OU_readAxis 11 (some .int) :: tw_T
abbrev b_OU_addContours : ByteArray := prog_7_method_6_code
def y_OU_addContours : MethodName := ⟨R_OU, "addContours", "(LGlyphLines$Span;I)Z"⟩
def s_OU_addContours : List Cond := .code y_OU_addContours b_OU_addContours 6 (some .boolean) :: tw_T
theorem w_7 : (Jvm.Cond.initialized "GlyphLines$Outline") ∈ tw_T := tw_of 7 (by decide +kernel) (by decide +kernel)
theorem w_198 : (Jvm.Cond.fieldLink "GlyphLines$Outline" (9 : Nat) "GlyphLines$Outline" "xs" "[I") ∈ tw_T := tw_of 198 (by decide +kernel) (by decide +kernel)
theorem w_201 : (Jvm.Cond.fieldLink "GlyphLines$Outline" (13 : Nat) "GlyphLines$Outline" "ys" "[I") ∈ tw_T := tw_of 201 (by decide +kernel) (by decide +kernel)
theorem w_204 : (Jvm.Cond.fieldLink "GlyphLines$Outline" (16 : Nat) "GlyphLines$Outline" "isOn" "[Z") ∈ tw_T := tw_of 204 (by decide +kernel) (by decide +kernel)
theorem w_207 : (Jvm.Cond.fieldLink "GlyphLines$Outline" (20 : Nat) "GlyphLines$Outline" "contourOf" "[I") ∈ tw_T := tw_of 207 (by decide +kernel) (by decide +kernel)
theorem w_210 : (Jvm.Cond.fieldLink "GlyphLines$Outline" (23 : Nat) "GlyphLines$Outline" "flags" "[I") ∈ tw_T := tw_of 210 (by decide +kernel) (by decide +kernel)
theorem w_211 : (Jvm.Cond.fieldLink "GlyphLines$Outline" (29 : Nat) "GlyphLines$Outline" "move" "LGlyphLines$Move;") ∈ tw_T := tw_of 211 (by decide +kernel) (by decide +kernel)
theorem w_212 : (Jvm.Cond.fieldLink "GlyphLines$Outline" (33 : Nat) "GlyphLines$Outline" "points" "I") ∈ tw_T := tw_of 212 (by decide +kernel) (by decide +kernel)
theorem w_215 : (Jvm.Cond.fieldLink "GlyphLines$Outline" (37 : Nat) "GlyphLines$Outline" "contours" "I") ∈ tw_T := tw_of 215 (by decide +kernel) (by decide +kernel)
theorem w_480 : (Jvm.Cond.methodLink "GlyphLines$Outline" (58 : Nat) ({ cls := "GlyphLines$Span", name := "u16", desc := "(I)I" } : Jvm.MethodName)) ∈ tw_T := tw_of 480 (by decide +kernel) (by decide +kernel)
theorem w_511 : (Jvm.Cond.methodLink "GlyphLines$Outline" (89 : Nat) ({ cls := "GlyphLines$Move", name := "newX", desc := "(II)I" } : Jvm.MethodName)) ∈ tw_T := tw_of 511 (by decide +kernel) (by decide +kernel)
theorem w_512 : (Jvm.Cond.instanceMethod ({ cls := "GlyphLines$Move", name := "newX", desc := "(II)I" } : Jvm.MethodName)) ∈ tw_T := tw_of 512 (by decide +kernel) (by decide +kernel)
theorem w_513 : (Jvm.Cond.selects "GlyphLines$Move" ({ cls := "GlyphLines$Move", name := "newX", desc := "(II)I" } : Jvm.MethodName) ({ cls := "GlyphLines$Move", name := "newX", desc := "(II)I" } : Jvm.MethodName)) ∈ tw_T := tw_of 513 (by decide +kernel) (by decide +kernel)
theorem w_514 : (Jvm.Cond.code ({ cls := "GlyphLines$Move", name := "newX", desc := "(II)I" } : Jvm.MethodName) prog_6_method_5_code (3 : Nat) (Option.some Jvm.ClassFile.FieldType.int)) ∈ tw_T := tw_of 514 (by decide +kernel) (by decide +kernel)
theorem w_515 : (Jvm.Cond.methodLink "GlyphLines$Outline" (93 : Nat) ({ cls := "GlyphLines$Move", name := "newY", desc := "(II)I" } : Jvm.MethodName)) ∈ tw_T := tw_of 515 (by decide +kernel) (by decide +kernel)
theorem w_516 : (Jvm.Cond.instanceMethod ({ cls := "GlyphLines$Move", name := "newY", desc := "(II)I" } : Jvm.MethodName)) ∈ tw_T := tw_of 516 (by decide +kernel) (by decide +kernel)
theorem w_517 : (Jvm.Cond.selects "GlyphLines$Move" ({ cls := "GlyphLines$Move", name := "newY", desc := "(II)I" } : Jvm.MethodName) ({ cls := "GlyphLines$Move", name := "newY", desc := "(II)I" } : Jvm.MethodName)) ∈ tw_T := tw_of 517 (by decide +kernel) (by decide +kernel)
theorem w_518 : (Jvm.Cond.code ({ cls := "GlyphLines$Move", name := "newY", desc := "(II)I" } : Jvm.MethodName) prog_6_method_6_code (3 : Nat) (Option.some Jvm.ClassFile.FieldType.int)) ∈ tw_T := tw_of 518 (by decide +kernel) (by decide +kernel)
theorem w_527 : (Jvm.Cond.methodLink "GlyphLines$Outline" (96 : Nat) ({ cls := "GlyphLines$Outline", name := "readFlags", desc := "(LGlyphLines$Span;II)I" } : Jvm.MethodName)) ∈ tw_T := tw_of 527 (by decide +kernel) (by decide +kernel)
theorem w_529 : (Jvm.Cond.instanceMethod ({ cls := "GlyphLines$Outline", name := "readFlags", desc := "(LGlyphLines$Span;II)I" } : Jvm.MethodName)) ∈ tw_T := tw_of 529 (by decide +kernel) (by decide +kernel)
theorem w_530 : (Jvm.Cond.code ({ cls := "GlyphLines$Outline", name := "readFlags", desc := "(LGlyphLines$Span;II)I" } : Jvm.MethodName) prog_7_method_7_code (9 : Nat) (Option.some Jvm.ClassFile.FieldType.int)) ∈ tw_T := tw_of 530 (by decide +kernel) (by decide +kernel)
theorem w_531 : (Jvm.Cond.methodLink "GlyphLines$Outline" (103 : Nat) ({ cls := "GlyphLines$Span", name := "u8", desc := "(I)I" } : Jvm.MethodName)) ∈ tw_T := tw_of 531 (by decide +kernel) (by decide +kernel)
theorem w_532 : (Jvm.Cond.methodLink "GlyphLines$Outline" (99 : Nat) ({ cls := "GlyphLines$Outline", name := "readAxis", desc := "(LGlyphLines$Span;II[II)I" } : Jvm.MethodName)) ∈ tw_T := tw_of 532 (by decide +kernel) (by decide +kernel)
theorem w_534 : (Jvm.Cond.instanceMethod ({ cls := "GlyphLines$Outline", name := "readAxis", desc := "(LGlyphLines$Span;II[II)I" } : Jvm.MethodName)) ∈ tw_T := tw_of 534 (by decide +kernel) (by decide +kernel)
theorem w_535 : (Jvm.Cond.code ({ cls := "GlyphLines$Outline", name := "readAxis", desc := "(LGlyphLines$Span;II[II)I" } : Jvm.MethodName) prog_7_method_8_code (11 : Nat) (Option.some Jvm.ClassFile.FieldType.int)) ∈ tw_T := tw_of 535 (by decide +kernel) (by decide +kernel)
theorem wp_19 : Cond.selects "GlyphLines$Outline" ({ cls := "GlyphLines$Outline", name := "readFlags", desc := "(LGlyphLines$Span;II)I" } : Jvm.MethodName) ({ cls := "GlyphLines$Outline", name := "readFlags", desc := "(LGlyphLines$Span;II)I" } : Jvm.MethodName) ∈ tw_T := tw_priv 19 (({ cls := "GlyphLines$Outline", name := "readFlags", desc := "(LGlyphLines$Span;II)I" } : Jvm.MethodName), 8) (by decide +kernel) (by decide +kernel)
theorem wp_20 : Cond.selects "GlyphLines$Outline" ({ cls := "GlyphLines$Outline", name := "readAxis", desc := "(LGlyphLines$Span;II[II)I" } : Jvm.MethodName) ({ cls := "GlyphLines$Outline", name := "readAxis", desc := "(LGlyphLines$Span;II[II)I" } : Jvm.MethodName) ∈ tw_T := tw_priv 20 (({ cls := "GlyphLines$Outline", name := "readAxis", desc := "(LGlyphLines$Span;II[II)I" } : Jvm.MethodName), 8) (by decide +kernel) (by decide +kernel)
theorem d_OU_addContours_0 : decode b_OU_addContours 0 = .ok (.iconst 0, 1) := by decide +kernel
theorem d_OU_addContours_1 : decode b_OU_addContours 1 = .ok (.istore_n 3, 1) := by decide +kernel
theorem d_OU_addContours_100 : decode b_OU_addContours 100 = .ok (.istore 4, 2) := by decide +kernel
theorem d_OU_addContours_102 : decode b_OU_addContours 102 = .ok (.aload_n 0, 1) := by decide +kernel
theorem d_OU_addContours_103 : decode b_OU_addContours 103 = .ok (.aload_n 1, 1) := by decide +kernel
theorem d_OU_addContours_104 : decode b_OU_addContours 104 = .ok (.iload 4, 2) := by decide +kernel
theorem d_OU_addContours_106 : decode b_OU_addContours 106 = .ok (.iconst 2, 1) := by decide +kernel
theorem d_OU_addContours_107 : decode b_OU_addContours 107 = .ok (.iadd, 1) := by decide +kernel
theorem d_OU_addContours_108 : decode b_OU_addContours 108 = .ok (.aload_n 1, 1) := by decide +kernel
theorem d_OU_addContours_109 : decode b_OU_addContours 109 = .ok (.iload 4, 2) := by decide +kernel
theorem d_OU_addContours_11 : decode b_OU_addContours 11 = .ok (.aload_n 1, 1) := by decide +kernel
theorem d_OU_addContours_111 : decode b_OU_addContours 111 = .ok (.invokevirtual 58, 3) := by decide +kernel
theorem d_OU_addContours_114 : decode b_OU_addContours 114 = .ok (.iadd, 1) := by decide +kernel
theorem d_OU_addContours_115 : decode b_OU_addContours 115 = .ok (.iload_n 3, 1) := by decide +kernel
theorem d_OU_addContours_116 : decode b_OU_addContours 116 = .ok (.invokevirtual 96, 3) := by decide +kernel
theorem d_OU_addContours_119 : decode b_OU_addContours 119 = .ok (.istore 5, 2) := by decide +kernel
theorem d_OU_addContours_12 : decode b_OU_addContours 12 = .ok (.bipush 10, 2) := by decide +kernel
theorem d_OU_addContours_121 : decode b_OU_addContours 121 = .ok (.aload_n 0, 1) := by decide +kernel
theorem d_OU_addContours_122 : decode b_OU_addContours 122 = .ok (.aload_n 1, 1) := by decide +kernel
theorem d_OU_addContours_123 : decode b_OU_addContours 123 = .ok (.iload 5, 2) := by decide +kernel
theorem d_OU_addContours_125 : decode b_OU_addContours 125 = .ok (.iload_n 3, 1) := by decide +kernel
theorem d_OU_addContours_126 : decode b_OU_addContours 126 = .ok (.aload_n 0, 1) := by decide +kernel
theorem d_OU_addContours_127 : decode b_OU_addContours 127 = .ok (.getfield 9, 3) := by decide +kernel
theorem d_OU_addContours_130 : decode b_OU_addContours 130 = .ok (.iconst 1, 1) := by decide +kernel
theorem d_OU_addContours_131 : decode b_OU_addContours 131 = .ok (.invokevirtual 99, 3) := by decide +kernel
theorem d_OU_addContours_134 : decode b_OU_addContours 134 = .ok (.istore 5, 2) := by decide +kernel
theorem d_OU_addContours_136 : decode b_OU_addContours 136 = .ok (.aload_n 0, 1) := by decide +kernel
theorem d_OU_addContours_137 : decode b_OU_addContours 137 = .ok (.aload_n 1, 1) := by decide +kernel
theorem d_OU_addContours_138 : decode b_OU_addContours 138 = .ok (.iload 5, 2) := by decide +kernel
theorem d_OU_addContours_14 : decode b_OU_addContours 14 = .ok (.iconst 2, 1) := by decide +kernel
theorem d_OU_addContours_140 : decode b_OU_addContours 140 = .ok (.iload_n 3, 1) := by decide +kernel
theorem d_OU_addContours_141 : decode b_OU_addContours 141 = .ok (.aload_n 0, 1) := by decide +kernel
theorem d_OU_addContours_142 : decode b_OU_addContours 142 = .ok (.getfield 13, 3) := by decide +kernel
theorem d_OU_addContours_145 : decode b_OU_addContours 145 = .ok (.iconst 2, 1) := by decide +kernel
theorem d_OU_addContours_146 : decode b_OU_addContours 146 = .ok (.invokevirtual 99, 3) := by decide +kernel
theorem d_OU_addContours_149 : decode b_OU_addContours 149 = .ok (.pop, 1) := by decide +kernel
theorem d_OU_addContours_15 : decode b_OU_addContours 15 = .ok (.iload 4, 2) := by decide +kernel
theorem d_OU_addContours_150 : decode b_OU_addContours 150 = .ok (.aload_n 0, 1) := by decide +kernel
theorem d_OU_addContours_151 : decode b_OU_addContours 151 = .ok (.dup, 1) := by decide +kernel
theorem d_OU_addContours_152 : decode b_OU_addContours 152 = .ok (.getfield 33, 3) := by decide +kernel
theorem d_OU_addContours_155 : decode b_OU_addContours 155 = .ok (.iload_n 3, 1) := by decide +kernel
theorem d_OU_addContours_156 : decode b_OU_addContours 156 = .ok (.iadd, 1) := by decide +kernel
theorem d_OU_addContours_157 : decode b_OU_addContours 157 = .ok (.putfield 33, 3) := by decide +kernel
theorem d_OU_addContours_160 : decode b_OU_addContours 160 = .ok (.iconst 1, 1) := by decide +kernel
theorem d_OU_addContours_161 : decode b_OU_addContours 161 = .ok (.ireturn, 1) := by decide +kernel
theorem d_OU_addContours_17 : decode b_OU_addContours 17 = .ok (.imul, 1) := by decide +kernel
theorem d_OU_addContours_18 : decode b_OU_addContours 18 = .ok (.iadd, 1) := by decide +kernel
theorem d_OU_addContours_19 : decode b_OU_addContours 19 = .ok (.invokevirtual 58, 3) := by decide +kernel
theorem d_OU_addContours_2 : decode b_OU_addContours 2 = .ok (.iconst 0, 1) := by decide +kernel
theorem d_OU_addContours_22 : decode b_OU_addContours 22 = .ok (.istore 5, 2) := by decide +kernel
theorem d_OU_addContours_24 : decode b_OU_addContours 24 = .ok (.iload 5, 2) := by decide +kernel
theorem d_OU_addContours_26 : decode b_OU_addContours 26 = .ok (.iload_n 3, 1) := by decide +kernel
theorem d_OU_addContours_27 : decode b_OU_addContours 27 = .ok (.if_icmp .lt (22), 3) := by decide +kernel
theorem d_OU_addContours_3 : decode b_OU_addContours 3 = .ok (.istore 4, 2) := by decide +kernel
theorem d_OU_addContours_30 : decode b_OU_addContours 30 = .ok (.iload 5, 2) := by decide +kernel
theorem d_OU_addContours_32 : decode b_OU_addContours 32 = .ok (.bipush 24, 2) := by decide +kernel
theorem d_OU_addContours_34 : decode b_OU_addContours 34 = .ok (.if_icmp .ge (15), 3) := by decide +kernel
theorem d_OU_addContours_37 : decode b_OU_addContours 37 = .ok (.aload_n 0, 1) := by decide +kernel
theorem d_OU_addContours_38 : decode b_OU_addContours 38 = .ok (.getfield 33, 3) := by decide +kernel
theorem d_OU_addContours_41 : decode b_OU_addContours 41 = .ok (.iload 5, 2) := by decide +kernel
theorem d_OU_addContours_43 : decode b_OU_addContours 43 = .ok (.iadd, 1) := by decide +kernel
theorem d_OU_addContours_44 : decode b_OU_addContours 44 = .ok (.bipush 64, 2) := by decide +kernel
theorem d_OU_addContours_46 : decode b_OU_addContours 46 = .ok (.if_icmp .lt (5), 3) := by decide +kernel
theorem d_OU_addContours_49 : decode b_OU_addContours 49 = .ok (.iconst 0, 1) := by decide +kernel
theorem d_OU_addContours_5 : decode b_OU_addContours 5 = .ok (.iload 4, 2) := by decide +kernel
theorem d_OU_addContours_50 : decode b_OU_addContours 50 = .ok (.ireturn, 1) := by decide +kernel
theorem d_OU_addContours_51 : decode b_OU_addContours 51 = .ok (.iload_n 3, 1) := by decide +kernel
theorem d_OU_addContours_52 : decode b_OU_addContours 52 = .ok (.iload 5, 2) := by decide +kernel
theorem d_OU_addContours_54 : decode b_OU_addContours 54 = .ok (.if_icmp .gt (24), 3) := by decide +kernel
theorem d_OU_addContours_57 : decode b_OU_addContours 57 = .ok (.aload_n 0, 1) := by decide +kernel
theorem d_OU_addContours_58 : decode b_OU_addContours 58 = .ok (.getfield 20, 3) := by decide +kernel
theorem d_OU_addContours_61 : decode b_OU_addContours 61 = .ok (.aload_n 0, 1) := by decide +kernel
theorem d_OU_addContours_62 : decode b_OU_addContours 62 = .ok (.getfield 33, 3) := by decide +kernel
theorem d_OU_addContours_65 : decode b_OU_addContours 65 = .ok (.iload_n 3, 1) := by decide +kernel
theorem d_OU_addContours_66 : decode b_OU_addContours 66 = .ok (.iadd, 1) := by decide +kernel
theorem d_OU_addContours_67 : decode b_OU_addContours 67 = .ok (.aload_n 0, 1) := by decide +kernel
theorem d_OU_addContours_68 : decode b_OU_addContours 68 = .ok (.getfield 37, 3) := by decide +kernel
theorem d_OU_addContours_7 : decode b_OU_addContours 7 = .ok (.iload_n 2, 1) := by decide +kernel
theorem d_OU_addContours_71 : decode b_OU_addContours 71 = .ok (.iastore, 1) := by decide +kernel
theorem d_OU_addContours_72 : decode b_OU_addContours 72 = .ok (.iinc 3 (1), 3) := by decide +kernel
theorem d_OU_addContours_75 : decode b_OU_addContours 75 = .ok (.goto (-24), 3) := by decide +kernel
theorem d_OU_addContours_78 : decode b_OU_addContours 78 = .ok (.aload_n 0, 1) := by decide +kernel
theorem d_OU_addContours_79 : decode b_OU_addContours 79 = .ok (.dup, 1) := by decide +kernel
theorem d_OU_addContours_8 : decode b_OU_addContours 8 = .ok (.if_icmp .ge (86), 3) := by decide +kernel
theorem d_OU_addContours_80 : decode b_OU_addContours 80 = .ok (.getfield 37, 3) := by decide +kernel
theorem d_OU_addContours_83 : decode b_OU_addContours 83 = .ok (.iconst 1, 1) := by decide +kernel
theorem d_OU_addContours_84 : decode b_OU_addContours 84 = .ok (.iadd, 1) := by decide +kernel
theorem d_OU_addContours_85 : decode b_OU_addContours 85 = .ok (.putfield 37, 3) := by decide +kernel
theorem d_OU_addContours_88 : decode b_OU_addContours 88 = .ok (.iinc 4 (1), 3) := by decide +kernel
theorem d_OU_addContours_91 : decode b_OU_addContours 91 = .ok (.goto (-86), 3) := by decide +kernel
theorem d_OU_addContours_94 : decode b_OU_addContours 94 = .ok (.bipush 10, 2) := by decide +kernel
theorem d_OU_addContours_96 : decode b_OU_addContours 96 = .ok (.iconst 2, 1) := by decide +kernel
theorem d_OU_addContours_97 : decode b_OU_addContours 97 = .ok (.iload_n 2, 1) := by decide +kernel
theorem d_OU_addContours_98 : decode b_OU_addContours 98 = .ok (.imul, 1) := by decide +kernel
theorem d_OU_addContours_99 : decode b_OU_addContours 99 = .ok (.iadd, 1) := by decide +kernel
theorem d_OU_isInRange_0 : decode b_OU_isInRange 0 = .ok (.iload_n 1, 1) := by decide +kernel
theorem d_OU_isInRange_1 : decode b_OU_isInRange 1 = .ok (.istore_n 2, 1) := by decide +kernel
theorem d_OU_isInRange_10 : decode b_OU_isInRange 10 = .ok (.aload_n 0, 1) := by decide +kernel
theorem d_OU_isInRange_11 : decode b_OU_isInRange 11 = .ok (.getfield 9, 3) := by decide +kernel
theorem d_OU_isInRange_14 : decode b_OU_isInRange 14 = .ok (.iload_n 2, 1) := by decide +kernel
theorem d_OU_isInRange_15 : decode b_OU_isInRange 15 = .ok (.iaload, 1) := by decide +kernel
theorem d_OU_isInRange_16 : decode b_OU_isInRange 16 = .ok (.sipush (-4096), 3) := by decide +kernel
theorem d_OU_isInRange_19 : decode b_OU_isInRange 19 = .ok (.if_icmp .lt (39), 3) := by decide +kernel
theorem d_OU_isInRange_2 : decode b_OU_isInRange 2 = .ok (.iload_n 2, 1) := by decide +kernel
theorem d_OU_isInRange_22 : decode b_OU_isInRange 22 = .ok (.aload_n 0, 1) := by decide +kernel
theorem d_OU_isInRange_23 : decode b_OU_isInRange 23 = .ok (.getfield 9, 3) := by decide +kernel
theorem d_OU_isInRange_26 : decode b_OU_isInRange 26 = .ok (.iload_n 2, 1) := by decide +kernel
theorem d_OU_isInRange_27 : decode b_OU_isInRange 27 = .ok (.iaload, 1) := by decide +kernel
theorem d_OU_isInRange_28 : decode b_OU_isInRange 28 = .ok (.sipush 4095, 3) := by decide +kernel
theorem d_OU_isInRange_3 : decode b_OU_isInRange 3 = .ok (.aload_n 0, 1) := by decide +kernel
theorem d_OU_isInRange_31 : decode b_OU_isInRange 31 = .ok (.if_icmp .gt (27), 3) := by decide +kernel
theorem d_OU_isInRange_34 : decode b_OU_isInRange 34 = .ok (.aload_n 0, 1) := by decide +kernel
theorem d_OU_isInRange_35 : decode b_OU_isInRange 35 = .ok (.getfield 13, 3) := by decide +kernel
theorem d_OU_isInRange_38 : decode b_OU_isInRange 38 = .ok (.iload_n 2, 1) := by decide +kernel
theorem d_OU_isInRange_39 : decode b_OU_isInRange 39 = .ok (.iaload, 1) := by decide +kernel
theorem d_OU_isInRange_4 : decode b_OU_isInRange 4 = .ok (.getfield 33, 3) := by decide +kernel
theorem d_OU_isInRange_40 : decode b_OU_isInRange 40 = .ok (.sipush (-4096), 3) := by decide +kernel
theorem d_OU_isInRange_43 : decode b_OU_isInRange 43 = .ok (.if_icmp .lt (15), 3) := by decide +kernel
theorem d_OU_isInRange_46 : decode b_OU_isInRange 46 = .ok (.aload_n 0, 1) := by decide +kernel
theorem d_OU_isInRange_47 : decode b_OU_isInRange 47 = .ok (.getfield 13, 3) := by decide +kernel
theorem d_OU_isInRange_50 : decode b_OU_isInRange 50 = .ok (.iload_n 2, 1) := by decide +kernel
theorem d_OU_isInRange_51 : decode b_OU_isInRange 51 = .ok (.iaload, 1) := by decide +kernel
theorem d_OU_isInRange_52 : decode b_OU_isInRange 52 = .ok (.sipush 4095, 3) := by decide +kernel
theorem d_OU_isInRange_55 : decode b_OU_isInRange 55 = .ok (.if_icmp .le (5), 3) := by decide +kernel
theorem d_OU_isInRange_58 : decode b_OU_isInRange 58 = .ok (.iconst 0, 1) := by decide +kernel
theorem d_OU_isInRange_59 : decode b_OU_isInRange 59 = .ok (.ireturn, 1) := by decide +kernel
theorem d_OU_isInRange_60 : decode b_OU_isInRange 60 = .ok (.iinc 2 (1), 3) := by decide +kernel
theorem d_OU_isInRange_63 : decode b_OU_isInRange 63 = .ok (.goto (-61), 3) := by decide +kernel
theorem d_OU_isInRange_66 : decode b_OU_isInRange 66 = .ok (.iconst 1, 1) := by decide +kernel
theorem d_OU_isInRange_67 : decode b_OU_isInRange 67 = .ok (.ireturn, 1) := by decide +kernel
theorem d_OU_isInRange_7 : decode b_OU_isInRange 7 = .ok (.if_icmp .ge (59), 3) := by decide +kernel
theorem d_OU_movePoints_0 : decode b_OU_movePoints 0 = .ok (.iload_n 1, 1) := by decide +kernel
theorem d_OU_movePoints_1 : decode b_OU_movePoints 1 = .ok (.istore_n 2, 1) := by decide +kernel
theorem d_OU_movePoints_10 : decode b_OU_movePoints 10 = .ok (.aload_n 0, 1) := by decide +kernel
theorem d_OU_movePoints_11 : decode b_OU_movePoints 11 = .ok (.getfield 29, 3) := by decide +kernel
theorem d_OU_movePoints_14 : decode b_OU_movePoints 14 = .ok (.aload_n 0, 1) := by decide +kernel
theorem d_OU_movePoints_15 : decode b_OU_movePoints 15 = .ok (.getfield 9, 3) := by decide +kernel
theorem d_OU_movePoints_18 : decode b_OU_movePoints 18 = .ok (.iload_n 2, 1) := by decide +kernel
theorem d_OU_movePoints_19 : decode b_OU_movePoints 19 = .ok (.iaload, 1) := by decide +kernel
theorem d_OU_movePoints_2 : decode b_OU_movePoints 2 = .ok (.iload_n 2, 1) := by decide +kernel
theorem d_OU_movePoints_20 : decode b_OU_movePoints 20 = .ok (.aload_n 0, 1) := by decide +kernel
theorem d_OU_movePoints_21 : decode b_OU_movePoints 21 = .ok (.getfield 13, 3) := by decide +kernel
theorem d_OU_movePoints_24 : decode b_OU_movePoints 24 = .ok (.iload_n 2, 1) := by decide +kernel
theorem d_OU_movePoints_25 : decode b_OU_movePoints 25 = .ok (.iaload, 1) := by decide +kernel
theorem d_OU_movePoints_26 : decode b_OU_movePoints 26 = .ok (.invokevirtual 89, 3) := by decide +kernel
theorem d_OU_movePoints_29 : decode b_OU_movePoints 29 = .ok (.istore_n 3, 1) := by decide +kernel
theorem d_OU_movePoints_3 : decode b_OU_movePoints 3 = .ok (.aload_n 0, 1) := by decide +kernel
theorem d_OU_movePoints_30 : decode b_OU_movePoints 30 = .ok (.aload_n 0, 1) := by decide +kernel
theorem d_OU_movePoints_31 : decode b_OU_movePoints 31 = .ok (.getfield 13, 3) := by decide +kernel
theorem d_OU_movePoints_34 : decode b_OU_movePoints 34 = .ok (.iload_n 2, 1) := by decide +kernel
theorem d_OU_movePoints_35 : decode b_OU_movePoints 35 = .ok (.aload_n 0, 1) := by decide +kernel
theorem d_OU_movePoints_36 : decode b_OU_movePoints 36 = .ok (.getfield 29, 3) := by decide +kernel
theorem d_OU_movePoints_39 : decode b_OU_movePoints 39 = .ok (.aload_n 0, 1) := by decide +kernel
theorem d_OU_movePoints_4 : decode b_OU_movePoints 4 = .ok (.getfield 33, 3) := by decide +kernel
theorem d_OU_movePoints_40 : decode b_OU_movePoints 40 = .ok (.getfield 9, 3) := by decide +kernel
theorem d_OU_movePoints_43 : decode b_OU_movePoints 43 = .ok (.iload_n 2, 1) := by decide +kernel
theorem d_OU_movePoints_44 : decode b_OU_movePoints 44 = .ok (.iaload, 1) := by decide +kernel
theorem d_OU_movePoints_45 : decode b_OU_movePoints 45 = .ok (.aload_n 0, 1) := by decide +kernel
theorem d_OU_movePoints_46 : decode b_OU_movePoints 46 = .ok (.getfield 13, 3) := by decide +kernel
theorem d_OU_movePoints_49 : decode b_OU_movePoints 49 = .ok (.iload_n 2, 1) := by decide +kernel
theorem d_OU_movePoints_50 : decode b_OU_movePoints 50 = .ok (.iaload, 1) := by decide +kernel
theorem d_OU_movePoints_51 : decode b_OU_movePoints 51 = .ok (.invokevirtual 93, 3) := by decide +kernel
theorem d_OU_movePoints_54 : decode b_OU_movePoints 54 = .ok (.iastore, 1) := by decide +kernel
theorem d_OU_movePoints_55 : decode b_OU_movePoints 55 = .ok (.aload_n 0, 1) := by decide +kernel
theorem d_OU_movePoints_56 : decode b_OU_movePoints 56 = .ok (.getfield 9, 3) := by decide +kernel
theorem d_OU_movePoints_59 : decode b_OU_movePoints 59 = .ok (.iload_n 2, 1) := by decide +kernel
theorem d_OU_movePoints_60 : decode b_OU_movePoints 60 = .ok (.iload_n 3, 1) := by decide +kernel
theorem d_OU_movePoints_61 : decode b_OU_movePoints 61 = .ok (.iastore, 1) := by decide +kernel
theorem d_OU_movePoints_62 : decode b_OU_movePoints 62 = .ok (.iinc 2 (1), 3) := by decide +kernel
theorem d_OU_movePoints_65 : decode b_OU_movePoints 65 = .ok (.goto (-63), 3) := by decide +kernel
theorem d_OU_movePoints_68 : decode b_OU_movePoints 68 = .ok (.return_, 1) := by decide +kernel
theorem d_OU_movePoints_7 : decode b_OU_movePoints 7 = .ok (.if_icmp .ge (61), 3) := by decide +kernel
theorem d_OU_readAxis_0 : decode b_OU_readAxis 0 = .ok (.iload_n 2, 1) := by decide +kernel
theorem d_OU_readAxis_1 : decode b_OU_readAxis 1 = .ok (.istore 6, 2) := by decide +kernel
theorem d_OU_readAxis_100 : decode b_OU_readAxis 100 = .ok (.ifCond .ne (18), 3) := by decide +kernel
theorem d_OU_readAxis_103 : decode b_OU_readAxis 103 = .ok (.iload 7, 2) := by decide +kernel
theorem d_OU_readAxis_105 : decode b_OU_readAxis 105 = .ok (.aload_n 1, 1) := by decide +kernel
theorem d_OU_readAxis_106 : decode b_OU_readAxis 106 = .ok (.iload 6, 2) := by decide +kernel
theorem d_OU_readAxis_108 : decode b_OU_readAxis 108 = .ok (.invokevirtual 58, 3) := by decide +kernel
theorem d_OU_readAxis_11 : decode b_OU_readAxis 11 = .ok (.iload_n 3, 1) := by decide +kernel
theorem d_OU_readAxis_111 : decode b_OU_readAxis 111 = .ok (.i2s, 1) := by decide +kernel
theorem d_OU_readAxis_112 : decode b_OU_readAxis 112 = .ok (.iadd, 1) := by decide +kernel
theorem d_OU_readAxis_113 : decode b_OU_readAxis 113 = .ok (.istore 7, 2) := by decide +kernel
theorem d_OU_readAxis_115 : decode b_OU_readAxis 115 = .ok (.iinc 6 (2), 3) := by decide +kernel
theorem d_OU_readAxis_118 : decode b_OU_readAxis 118 = .ok (.aload 4, 2) := by decide +kernel
theorem d_OU_readAxis_12 : decode b_OU_readAxis 12 = .ok (.if_icmp .ge (124), 3) := by decide +kernel
theorem d_OU_readAxis_120 : decode b_OU_readAxis 120 = .ok (.aload_n 0, 1) := by decide +kernel
theorem d_OU_readAxis_121 : decode b_OU_readAxis 121 = .ok (.getfield 33, 3) := by decide +kernel
theorem d_OU_readAxis_124 : decode b_OU_readAxis 124 = .ok (.iload 8, 2) := by decide +kernel
theorem d_OU_readAxis_126 : decode b_OU_readAxis 126 = .ok (.iadd, 1) := by decide +kernel
theorem d_OU_readAxis_127 : decode b_OU_readAxis 127 = .ok (.iload 7, 2) := by decide +kernel
theorem d_OU_readAxis_129 : decode b_OU_readAxis 129 = .ok (.iastore, 1) := by decide +kernel
theorem d_OU_readAxis_130 : decode b_OU_readAxis 130 = .ok (.iinc 8 (1), 3) := by decide +kernel
theorem d_OU_readAxis_133 : decode b_OU_readAxis 133 = .ok (.goto (-124), 3) := by decide +kernel
theorem d_OU_readAxis_136 : decode b_OU_readAxis 136 = .ok (.iload 6, 2) := by decide +kernel
theorem d_OU_readAxis_138 : decode b_OU_readAxis 138 = .ok (.ireturn, 1) := by decide +kernel
theorem d_OU_readAxis_15 : decode b_OU_readAxis 15 = .ok (.aload_n 0, 1) := by decide +kernel
theorem d_OU_readAxis_16 : decode b_OU_readAxis 16 = .ok (.getfield 23, 3) := by decide +kernel
theorem d_OU_readAxis_19 : decode b_OU_readAxis 19 = .ok (.iload 8, 2) := by decide +kernel
theorem d_OU_readAxis_21 : decode b_OU_readAxis 21 = .ok (.iaload, 1) := by decide +kernel
theorem d_OU_readAxis_22 : decode b_OU_readAxis 22 = .ok (.iload 5, 2) := by decide +kernel
theorem d_OU_readAxis_24 : decode b_OU_readAxis 24 = .ok (.ishr, 1) := by decide +kernel
theorem d_OU_readAxis_25 : decode b_OU_readAxis 25 = .ok (.iconst 1, 1) := by decide +kernel
theorem d_OU_readAxis_26 : decode b_OU_readAxis 26 = .ok (.iand, 1) := by decide +kernel
theorem d_OU_readAxis_27 : decode b_OU_readAxis 27 = .ok (.ifCond .eq (7), 3) := by decide +kernel
theorem d_OU_readAxis_3 : decode b_OU_readAxis 3 = .ok (.iconst 0, 1) := by decide +kernel
theorem d_OU_readAxis_30 : decode b_OU_readAxis 30 = .ok (.iconst 1, 1) := by decide +kernel
theorem d_OU_readAxis_31 : decode b_OU_readAxis 31 = .ok (.goto (4), 3) := by decide +kernel
theorem d_OU_readAxis_34 : decode b_OU_readAxis 34 = .ok (.iconst 0, 1) := by decide +kernel
theorem d_OU_readAxis_35 : decode b_OU_readAxis 35 = .ok (.istore 9, 2) := by decide +kernel
theorem d_OU_readAxis_37 : decode b_OU_readAxis 37 = .ok (.aload_n 0, 1) := by decide +kernel
theorem d_OU_readAxis_38 : decode b_OU_readAxis 38 = .ok (.getfield 23, 3) := by decide +kernel
theorem d_OU_readAxis_4 : decode b_OU_readAxis 4 = .ok (.istore 7, 2) := by decide +kernel
theorem d_OU_readAxis_41 : decode b_OU_readAxis 41 = .ok (.iload 8, 2) := by decide +kernel
theorem d_OU_readAxis_43 : decode b_OU_readAxis 43 = .ok (.iaload, 1) := by decide +kernel
theorem d_OU_readAxis_44 : decode b_OU_readAxis 44 = .ok (.iload 5, 2) := by decide +kernel
theorem d_OU_readAxis_46 : decode b_OU_readAxis 46 = .ok (.iconst 3, 1) := by decide +kernel
theorem d_OU_readAxis_47 : decode b_OU_readAxis 47 = .ok (.iadd, 1) := by decide +kernel
theorem d_OU_readAxis_48 : decode b_OU_readAxis 48 = .ok (.ishr, 1) := by decide +kernel
theorem d_OU_readAxis_49 : decode b_OU_readAxis 49 = .ok (.iconst 1, 1) := by decide +kernel
theorem d_OU_readAxis_50 : decode b_OU_readAxis 50 = .ok (.iand, 1) := by decide +kernel
theorem d_OU_readAxis_51 : decode b_OU_readAxis 51 = .ok (.ifCond .eq (7), 3) := by decide +kernel
theorem d_OU_readAxis_54 : decode b_OU_readAxis 54 = .ok (.iconst 1, 1) := by decide +kernel
theorem d_OU_readAxis_55 : decode b_OU_readAxis 55 = .ok (.goto (4), 3) := by decide +kernel
theorem d_OU_readAxis_58 : decode b_OU_readAxis 58 = .ok (.iconst 0, 1) := by decide +kernel
theorem d_OU_readAxis_59 : decode b_OU_readAxis 59 = .ok (.istore 10, 2) := by decide +kernel
theorem d_OU_readAxis_6 : decode b_OU_readAxis 6 = .ok (.iconst 0, 1) := by decide +kernel
theorem d_OU_readAxis_61 : decode b_OU_readAxis 61 = .ok (.iload 9, 2) := by decide +kernel
theorem d_OU_readAxis_63 : decode b_OU_readAxis 63 = .ok (.ifCond .eq (35), 3) := by decide +kernel
theorem d_OU_readAxis_66 : decode b_OU_readAxis 66 = .ok (.iload 7, 2) := by decide +kernel
theorem d_OU_readAxis_68 : decode b_OU_readAxis 68 = .ok (.iload 10, 2) := by decide +kernel
theorem d_OU_readAxis_7 : decode b_OU_readAxis 7 = .ok (.istore 8, 2) := by decide +kernel
theorem d_OU_readAxis_70 : decode b_OU_readAxis 70 = .ok (.ifCond .eq (12), 3) := by decide +kernel
theorem d_OU_readAxis_73 : decode b_OU_readAxis 73 = .ok (.aload_n 1, 1) := by decide +kernel
theorem d_OU_readAxis_74 : decode b_OU_readAxis 74 = .ok (.iload 6, 2) := by decide +kernel
theorem d_OU_readAxis_76 : decode b_OU_readAxis 76 = .ok (.invokevirtual 103, 3) := by decide +kernel
theorem d_OU_readAxis_79 : decode b_OU_readAxis 79 = .ok (.goto (10), 3) := by decide +kernel
theorem d_OU_readAxis_82 : decode b_OU_readAxis 82 = .ok (.aload_n 1, 1) := by decide +kernel
theorem d_OU_readAxis_83 : decode b_OU_readAxis 83 = .ok (.iload 6, 2) := by decide +kernel
theorem d_OU_readAxis_85 : decode b_OU_readAxis 85 = .ok (.invokevirtual 103, 3) := by decide +kernel
theorem d_OU_readAxis_88 : decode b_OU_readAxis 88 = .ok (.ineg, 1) := by decide +kernel
theorem d_OU_readAxis_89 : decode b_OU_readAxis 89 = .ok (.iadd, 1) := by decide +kernel
theorem d_OU_readAxis_9 : decode b_OU_readAxis 9 = .ok (.iload 8, 2) := by decide +kernel
theorem d_OU_readAxis_90 : decode b_OU_readAxis 90 = .ok (.istore 7, 2) := by decide +kernel
theorem d_OU_readAxis_92 : decode b_OU_readAxis 92 = .ok (.iinc 6 (1), 3) := by decide +kernel
theorem d_OU_readAxis_95 : decode b_OU_readAxis 95 = .ok (.goto (23), 3) := by decide +kernel
theorem d_OU_readAxis_98 : decode b_OU_readAxis 98 = .ok (.iload 10, 2) := by decide +kernel
theorem d_OU_readFlags_0 : decode b_OU_readFlags 0 = .ok (.iload_n 2, 1) := by decide +kernel
theorem d_OU_readFlags_1 : decode b_OU_readFlags 1 = .ok (.istore 4, 2) := by decide +kernel
theorem d_OU_readFlags_10 : decode b_OU_readFlags 10 = .ok (.istore 7, 2) := by decide +kernel
theorem d_OU_readFlags_100 : decode b_OU_readFlags 100 = .ok (.getfield 33, 3) := by decide +kernel
theorem d_OU_readFlags_103 : decode b_OU_readFlags 103 = .ok (.iload 7, 2) := by decide +kernel
theorem d_OU_readFlags_105 : decode b_OU_readFlags 105 = .ok (.iadd, 1) := by decide +kernel
theorem d_OU_readFlags_106 : decode b_OU_readFlags 106 = .ok (.iload 5, 2) := by decide +kernel
theorem d_OU_readFlags_108 : decode b_OU_readFlags 108 = .ok (.iconst 1, 1) := by decide +kernel
theorem d_OU_readFlags_109 : decode b_OU_readFlags 109 = .ok (.iand, 1) := by decide +kernel
theorem d_OU_readFlags_110 : decode b_OU_readFlags 110 = .ok (.ifCond .eq (7), 3) := by decide +kernel
theorem d_OU_readFlags_113 : decode b_OU_readFlags 113 = .ok (.iconst 1, 1) := by decide +kernel
theorem d_OU_readFlags_114 : decode b_OU_readFlags 114 = .ok (.goto (4), 3) := by decide +kernel
theorem d_OU_readFlags_117 : decode b_OU_readFlags 117 = .ok (.iconst 0, 1) := by decide +kernel
theorem d_OU_readFlags_118 : decode b_OU_readFlags 118 = .ok (.bastore, 1) := by decide +kernel
theorem d_OU_readFlags_119 : decode b_OU_readFlags 119 = .ok (.iinc 7 (1), 3) := by decide +kernel
theorem d_OU_readFlags_12 : decode b_OU_readFlags 12 = .ok (.iload 7, 2) := by decide +kernel
theorem d_OU_readFlags_122 : decode b_OU_readFlags 122 = .ok (.goto (-110), 3) := by decide +kernel
theorem d_OU_readFlags_125 : decode b_OU_readFlags 125 = .ok (.iload 4, 2) := by decide +kernel
theorem d_OU_readFlags_127 : decode b_OU_readFlags 127 = .ok (.ireturn, 1) := by decide +kernel
theorem d_OU_readFlags_14 : decode b_OU_readFlags 14 = .ok (.iload_n 3, 1) := by decide +kernel
theorem d_OU_readFlags_15 : decode b_OU_readFlags 15 = .ok (.if_icmp .ge (110), 3) := by decide +kernel
theorem d_OU_readFlags_18 : decode b_OU_readFlags 18 = .ok (.iload 6, 2) := by decide +kernel
theorem d_OU_readFlags_20 : decode b_OU_readFlags 20 = .ok (.ifCond .le (9), 3) := by decide +kernel
theorem d_OU_readFlags_23 : decode b_OU_readFlags 23 = .ok (.iinc 6 (-1), 3) := by decide +kernel
theorem d_OU_readFlags_26 : decode b_OU_readFlags 26 = .ok (.goto (60), 3) := by decide +kernel
theorem d_OU_readFlags_29 : decode b_OU_readFlags 29 = .ok (.aload_n 1, 1) := by decide +kernel
theorem d_OU_readFlags_3 : decode b_OU_readFlags 3 = .ok (.iconst 0, 1) := by decide +kernel
theorem d_OU_readFlags_30 : decode b_OU_readFlags 30 = .ok (.iload 4, 2) := by decide +kernel
theorem d_OU_readFlags_32 : decode b_OU_readFlags 32 = .ok (.invokevirtual 103, 3) := by decide +kernel
theorem d_OU_readFlags_35 : decode b_OU_readFlags 35 = .ok (.istore 5, 2) := by decide +kernel
theorem d_OU_readFlags_37 : decode b_OU_readFlags 37 = .ok (.iload 5, 2) := by decide +kernel
theorem d_OU_readFlags_39 : decode b_OU_readFlags 39 = .ok (.bipush 8, 2) := by decide +kernel
theorem d_OU_readFlags_4 : decode b_OU_readFlags 4 = .ok (.istore 5, 2) := by decide +kernel
theorem d_OU_readFlags_41 : decode b_OU_readFlags 41 = .ok (.iand, 1) := by decide +kernel
theorem d_OU_readFlags_42 : decode b_OU_readFlags 42 = .ok (.ifCond .eq (7), 3) := by decide +kernel
theorem d_OU_readFlags_45 : decode b_OU_readFlags 45 = .ok (.iconst 1, 1) := by decide +kernel
theorem d_OU_readFlags_46 : decode b_OU_readFlags 46 = .ok (.goto (4), 3) := by decide +kernel
theorem d_OU_readFlags_49 : decode b_OU_readFlags 49 = .ok (.iconst 0, 1) := by decide +kernel
theorem d_OU_readFlags_50 : decode b_OU_readFlags 50 = .ok (.istore 8, 2) := by decide +kernel
theorem d_OU_readFlags_52 : decode b_OU_readFlags 52 = .ok (.iload 8, 2) := by decide +kernel
theorem d_OU_readFlags_54 : decode b_OU_readFlags 54 = .ok (.ifCond .eq (14), 3) := by decide +kernel
theorem d_OU_readFlags_57 : decode b_OU_readFlags 57 = .ok (.aload_n 1, 1) := by decide +kernel
theorem d_OU_readFlags_58 : decode b_OU_readFlags 58 = .ok (.iload 4, 2) := by decide +kernel
theorem d_OU_readFlags_6 : decode b_OU_readFlags 6 = .ok (.iconst 0, 1) := by decide +kernel
theorem d_OU_readFlags_60 : decode b_OU_readFlags 60 = .ok (.iconst 1, 1) := by decide +kernel
theorem d_OU_readFlags_61 : decode b_OU_readFlags 61 = .ok (.iadd, 1) := by decide +kernel
theorem d_OU_readFlags_62 : decode b_OU_readFlags 62 = .ok (.invokevirtual 103, 3) := by decide +kernel
theorem d_OU_readFlags_65 : decode b_OU_readFlags 65 = .ok (.goto (4), 3) := by decide +kernel
theorem d_OU_readFlags_68 : decode b_OU_readFlags 68 = .ok (.iconst 0, 1) := by decide +kernel
theorem d_OU_readFlags_69 : decode b_OU_readFlags 69 = .ok (.istore 6, 2) := by decide +kernel
theorem d_OU_readFlags_7 : decode b_OU_readFlags 7 = .ok (.istore 6, 2) := by decide +kernel
theorem d_OU_readFlags_71 : decode b_OU_readFlags 71 = .ok (.iload 4, 2) := by decide +kernel
theorem d_OU_readFlags_73 : decode b_OU_readFlags 73 = .ok (.iload 8, 2) := by decide +kernel
theorem d_OU_readFlags_75 : decode b_OU_readFlags 75 = .ok (.ifCond .eq (7), 3) := by decide +kernel
theorem d_OU_readFlags_78 : decode b_OU_readFlags 78 = .ok (.iconst 2, 1) := by decide +kernel
theorem d_OU_readFlags_79 : decode b_OU_readFlags 79 = .ok (.goto (4), 3) := by decide +kernel
theorem d_OU_readFlags_82 : decode b_OU_readFlags 82 = .ok (.iconst 1, 1) := by decide +kernel
theorem d_OU_readFlags_83 : decode b_OU_readFlags 83 = .ok (.iadd, 1) := by decide +kernel
theorem d_OU_readFlags_84 : decode b_OU_readFlags 84 = .ok (.istore 4, 2) := by decide +kernel
theorem d_OU_readFlags_86 : decode b_OU_readFlags 86 = .ok (.aload_n 0, 1) := by decide +kernel
theorem d_OU_readFlags_87 : decode b_OU_readFlags 87 = .ok (.getfield 23, 3) := by decide +kernel
theorem d_OU_readFlags_9 : decode b_OU_readFlags 9 = .ok (.iconst 0, 1) := by decide +kernel
theorem d_OU_readFlags_90 : decode b_OU_readFlags 90 = .ok (.iload 7, 2) := by decide +kernel
theorem d_OU_readFlags_92 : decode b_OU_readFlags 92 = .ok (.iload 5, 2) := by decide +kernel
theorem d_OU_readFlags_94 : decode b_OU_readFlags 94 = .ok (.iastore, 1) := by decide +kernel
theorem d_OU_readFlags_95 : decode b_OU_readFlags 95 = .ok (.aload_n 0, 1) := by decide +kernel
theorem d_OU_readFlags_96 : decode b_OU_readFlags 96 = .ok (.getfield 16, 3) := by decide +kernel
theorem d_OU_readFlags_99 : decode b_OU_readFlags 99 = .ok (.aload_n 0, 1) := by decide +kernel
set_option maxHeartbeats 8000000 in
set_option maxRecDepth 100000 in
/-- a loop of GlyphLines$Outline.isInRange -/
theorem ou_range_loop {p : Program} {l : Launch} {e : Env} {s : State} {m : MethodId} {args : Array Value} {below : List Frame} {meth : Method} {c : Code} {Q : State → Prop} {A : Nat → Prop} (hx : p.tables.exec = Jvm.exec) (hb : c.code = b_OU_isInRange) (hml : c.maxLocals = 3) (hts : ∀ w ∈ s_OU_isInRange, w.before args s = true) (hown : s.vm.findClass R_OU = some m.cls) (hA : ∀ q : Nat, s.heap.size ≤ q → A q) (dC : Nat → ClassId) (dI : Nat → Nat → Nat) (h0 : Nat) (qx : Nat) (qy : Nat) (qo : Nat) (qc : Nat) (qg : Nat) (qm : Nat) (p0 : Nat) (ct : Int32) (cX : ClassId) (cY : ClassId) (fx : Nat → Int32) (fy : Nat → Int32) (fr : Nat) (hq0 : p0 ≤ 64) (hq1 : fr ≤ 64) (hK : va_K (dC, dI) cls_ [(cX, .int), (cY, .int)] s)
    (kx58 : ∀ (k : Nat), (k ≤ 64) → ∀ (H : Heap) (locs : List Loc) (ls : Array Slot), va_P (dC, dI) cls_ [(h0, .inr (6, [.ref qx, .ref qy, .ref qo, .ref qc, .ref qg, .ref qm, .int (nI (p0)), .int ct])), (qx, .inl (cX, 64, .inl (fx))), (qy, .inl (cY, 64, .inl (fy)))] H → va_D A [(h0, .inr (6, [.ref qx, .ref qy, .ref qo, .ref qc, .ref qg, .ref qm, .int (nI (p0)), .int ct])), (qx, .inl (cX, 64, .inl (fx))), (qy, .inl (cY, 64, .inl (fy)))] → va_S A s.heap H locs → lv_has ls 3 [(2, .int (nI (k))), (0, .ref h0), (1, .int (nI (fr)))] → W p l e (headSpec s_OU_isInRange ({ frames := 8, cells := 0, slots := 0, locals := 200 })).room s m args below meth c H locs 0 0 Q (F0 m 58 ls []))
    (kx66 : ∀ (k : Nat), (k ≤ 64) → ∀ (H : Heap) (locs : List Loc) (ls : Array Slot), va_P (dC, dI) cls_ [(h0, .inr (6, [.ref qx, .ref qy, .ref qo, .ref qc, .ref qg, .ref qm, .int (nI (p0)), .int ct])), (qx, .inl (cX, 64, .inl (fx))), (qy, .inl (cY, 64, .inl (fy)))] H → va_D A [(h0, .inr (6, [.ref qx, .ref qy, .ref qo, .ref qc, .ref qg, .ref qm, .int (nI (p0)), .int ct])), (qx, .inl (cX, 64, .inl (fx))), (qy, .inl (cY, 64, .inl (fy)))] → va_S A s.heap H locs → lv_has ls 3 [(2, .int (nI (k))), (0, .ref h0), (1, .int (nI (fr)))] → W p l e (headSpec s_OU_isInRange ({ frames := 8, cells := 0, slots := 0, locals := 200 })).room s m args below meth c H locs 0 0 Q (F0 m 66 ls []))
    : ∀ (fu : Nat) (k : Nat), (k ≤ 64) → 65 - k < fu → ∀ (H : Heap) (locs : List Loc) (ls : Array Slot), va_P (dC, dI) cls_ [(h0, .inr (6, [.ref qx, .ref qy, .ref qo, .ref qc, .ref qg, .ref qm, .int (nI (p0)), .int ct])), (qx, .inl (cX, 64, .inl (fx))), (qy, .inl (cY, 64, .inl (fy)))] H → va_D A [(h0, .inr (6, [.ref qx, .ref qy, .ref qo, .ref qc, .ref qg, .ref qm, .int (nI (p0)), .int ct])), (qx, .inl (cX, 64, .inl (fx))), (qy, .inl (cY, 64, .inl (fy)))] → va_S A s.heap H locs → lv_has ls 3 [(2, .int (nI (k))), (0, .ref h0), (1, .int (nI (fr)))] → W p l e (headSpec s_OU_isInRange ({ frames := 8, cells := 0, slots := 0, locals := 200 })).room s m args below meth c H locs 0 0 Q (F0 m 2 ls []) := by
  intro fu
  induction fu with
  | zero => intro k hf0 hm; exact absurd hm (Nat.not_lt_zero _)
  | succ fu ih =>
    intro k hf0 hm H locs ls hP hD hS hl
    refine lv_iload_n hx hb d_OU_isInRange_2 rfl (lv_at hl 0 rfl) ?_
    refine lv_aload_n hx hb d_OU_isInRange_3 rfl (lv_at hl 1 rfl) ?_
    refine va_get (D := (dC, dI)) (ci := 6) (v := .int (nI (p0))) (C := R_OU) (T := F_OU) (N := 8) hx hb hts in_OU hown hK hP 0 rfl rfl 6 (by decide) (hts _ (List.mem_cons_of_mem _ w_212)) (fun _ h9 => h9) rfl d_OU_isInRange_4 ?_
    refine lv_icmp_ge (tgt := 66) hx hb d_OU_isInRange_7 (by decide) (fun hc424 => ?_) (fun hc424 => ?_)
    · skip
      have hc424n : p0 ≤ k := (nI_leI (a := p0) (b := k) (by omega) (by omega)).mp hc424
      have hP8 := hP.sub (ws' := [(h0, .inr (6, [.ref qx, .ref qy, .ref qo, .ref qc, .ref qg, .ref qm, .int (nI (p0)), .int ct])), (qx, .inl (cX, 64, .inl (fx))), (qy, .inl (cY, 64, .inl (fy)))]) [0, 1, 2] rfl
      have hD8 := hD.sub (ws' := [(h0, .inr (6, [.ref qx, .ref qy, .ref qo, .ref qc, .ref qg, .ref qm, .int (nI (p0)), .int ct])), (qx, .inl (cX, 64, .inl (fx))), (qy, .inl (cY, 64, .inl (fy)))]) [0, 1, 2] (by decide) rfl
      exact kx66 k (by omega) H locs ls hP8 hD8 hS (lv_sub hl [0, 1, 2] rfl)
    · skip
      have hc424n : ¬ (p0 ≤ k) := fun z => hc424 ((nI_leI (a := p0) (b := k) (by omega) (by omega)).mpr z)
      refine lv_aload_n hx hb d_OU_isInRange_10 rfl (lv_at hl 1 rfl) ?_
      refine va_get (D := (dC, dI)) (ci := 6) (v := .ref qx) (C := R_OU) (T := F_OU) (N := 8) hx hb hts in_OU hown hK hP 0 rfl rfl 0 (by decide) (hts _ (List.mem_cons_of_mem _ w_198)) (fun _ h9 => h9) rfl d_OU_isInRange_11 ?_
      refine lv_iload_n hx hb d_OU_isInRange_14 rfl (lv_at hl 0 rfl) ?_
      refine va_iald hx hb hK hP 1 0 rfl rfl (pk_in (k) 64 (by omega) rfl (by decide)) d_OU_isInRange_15 ?_
      refine lv_topi (fun v425 ev425 => ?_)
      refine lv_sipush (v := (-4096)) hx hb d_OU_isInRange_16 (by decide) ?_
      refine lv_icmp_lt (tgt := 58) hx hb d_OU_isInRange_19 (by decide) (fun hc426 => ?_) (fun hc426 => ?_)
      · skip
        have hP8 := hP.sub (ws' := [(h0, .inr (6, [.ref qx, .ref qy, .ref qo, .ref qc, .ref qg, .ref qm, .int (nI (p0)), .int ct])), (qx, .inl (cX, 64, .inl (fx))), (qy, .inl (cY, 64, .inl (fy)))]) [0, 1, 2] rfl
        have hD8 := hD.sub (ws' := [(h0, .inr (6, [.ref qx, .ref qy, .ref qo, .ref qc, .ref qg, .ref qm, .int (nI (p0)), .int ct])), (qx, .inl (cX, 64, .inl (fx))), (qy, .inl (cY, 64, .inl (fy)))]) [0, 1, 2] (by decide) rfl
        exact kx58 k (by omega) H locs ls hP8 hD8 hS (lv_sub hl [0, 1, 2] rfl)
      · skip
        refine lv_aload_n hx hb d_OU_isInRange_22 rfl (lv_at hl 1 rfl) ?_
        refine va_get (D := (dC, dI)) (ci := 6) (v := .ref qx) (C := R_OU) (T := F_OU) (N := 8) hx hb hts in_OU hown hK hP 0 rfl rfl 0 (by decide) (hts _ (List.mem_cons_of_mem _ w_198)) (fun _ h9 => h9) rfl d_OU_isInRange_23 ?_
        refine lv_iload_n hx hb d_OU_isInRange_26 rfl (lv_at hl 0 rfl) ?_
        refine va_iald hx hb hK hP 1 0 rfl rfl (pk_in (k) 64 (by omega) rfl (by decide)) d_OU_isInRange_27 ?_
        refine lv_topi (fun v427 ev427 => ?_)
        refine lv_sipush (v := 4095) hx hb d_OU_isInRange_28 (by decide) ?_
        refine lv_icmp_gt (tgt := 58) hx hb d_OU_isInRange_31 (by decide) (fun hc428 => ?_) (fun hc428 => ?_)
        · skip
          have hP8 := hP.sub (ws' := [(h0, .inr (6, [.ref qx, .ref qy, .ref qo, .ref qc, .ref qg, .ref qm, .int (nI (p0)), .int ct])), (qx, .inl (cX, 64, .inl (fx))), (qy, .inl (cY, 64, .inl (fy)))]) [0, 1, 2] rfl
          have hD8 := hD.sub (ws' := [(h0, .inr (6, [.ref qx, .ref qy, .ref qo, .ref qc, .ref qg, .ref qm, .int (nI (p0)), .int ct])), (qx, .inl (cX, 64, .inl (fx))), (qy, .inl (cY, 64, .inl (fy)))]) [0, 1, 2] (by decide) rfl
          exact kx58 k (by omega) H locs ls hP8 hD8 hS (lv_sub hl [0, 1, 2] rfl)
        · skip
          refine lv_aload_n hx hb d_OU_isInRange_34 rfl (lv_at hl 1 rfl) ?_
          refine va_get (D := (dC, dI)) (ci := 6) (v := .ref qy) (C := R_OU) (T := F_OU) (N := 8) hx hb hts in_OU hown hK hP 0 rfl rfl 1 (by decide) (hts _ (List.mem_cons_of_mem _ w_201)) (fun _ h9 => h9) rfl d_OU_isInRange_35 ?_
          refine lv_iload_n hx hb d_OU_isInRange_38 rfl (lv_at hl 0 rfl) ?_
          refine va_iald hx hb hK hP 2 1 rfl rfl (pk_in (k) 64 (by omega) rfl (by decide)) d_OU_isInRange_39 ?_
          refine lv_topi (fun v429 ev429 => ?_)
          refine lv_sipush (v := (-4096)) hx hb d_OU_isInRange_40 (by decide) ?_
          refine lv_icmp_lt (tgt := 58) hx hb d_OU_isInRange_43 (by decide) (fun hc430 => ?_) (fun hc430 => ?_)
          · skip
            have hP8 := hP.sub (ws' := [(h0, .inr (6, [.ref qx, .ref qy, .ref qo, .ref qc, .ref qg, .ref qm, .int (nI (p0)), .int ct])), (qx, .inl (cX, 64, .inl (fx))), (qy, .inl (cY, 64, .inl (fy)))]) [0, 1, 2] rfl
            have hD8 := hD.sub (ws' := [(h0, .inr (6, [.ref qx, .ref qy, .ref qo, .ref qc, .ref qg, .ref qm, .int (nI (p0)), .int ct])), (qx, .inl (cX, 64, .inl (fx))), (qy, .inl (cY, 64, .inl (fy)))]) [0, 1, 2] (by decide) rfl
            exact kx58 k (by omega) H locs ls hP8 hD8 hS (lv_sub hl [0, 1, 2] rfl)
          · skip
            refine lv_aload_n hx hb d_OU_isInRange_46 rfl (lv_at hl 1 rfl) ?_
            refine va_get (D := (dC, dI)) (ci := 6) (v := .ref qy) (C := R_OU) (T := F_OU) (N := 8) hx hb hts in_OU hown hK hP 0 rfl rfl 1 (by decide) (hts _ (List.mem_cons_of_mem _ w_201)) (fun _ h9 => h9) rfl d_OU_isInRange_47 ?_
            refine lv_iload_n hx hb d_OU_isInRange_50 rfl (lv_at hl 0 rfl) ?_
            refine va_iald hx hb hK hP 2 1 rfl rfl (pk_in (k) 64 (by omega) rfl (by decide)) d_OU_isInRange_51 ?_
            refine lv_topi (fun v431 ev431 => ?_)
            refine lv_sipush (v := 4095) hx hb d_OU_isInRange_52 (by decide) ?_
            refine lv_icmp_le (tgt := 60) hx hb d_OU_isInRange_55 (by decide) (fun hc432 => ?_) (fun hc432 => ?_)
            · skip
              refine lv_iinc (k := 0) (v := nI (k + 1)) (lv' := [(2, .int (nI (k + 1))), (0, .ref h0), (1, .int (nI (fr)))]) hx hb d_OU_isInRange_60 hl rfl (nI_add (k) 1) (by decide) rfl (fun ls hl => ?_)
              refine lv_goto (tgt := 2) hx hb d_OU_isInRange_63 (by decide) ?_
              have hP8 := hP.sub (ws' := [(h0, .inr (6, [.ref qx, .ref qy, .ref qo, .ref qc, .ref qg, .ref qm, .int (nI (p0)), .int ct])), (qx, .inl (cX, 64, .inl (fx))), (qy, .inl (cY, 64, .inl (fy)))]) [0, 1, 2] rfl
              have hD8 := hD.sub (ws' := [(h0, .inr (6, [.ref qx, .ref qy, .ref qo, .ref qc, .ref qg, .ref qm, .int (nI (p0)), .int ct])), (qx, .inl (cX, 64, .inl (fx))), (qy, .inl (cY, 64, .inl (fy)))]) [0, 1, 2] (by decide) rfl
              exact ih (k + 1) (by omega) (by omega) H locs ls hP8 hD8 hS (lv_sub hl [0, 1, 2] rfl)
            · skip
              have hP8 := hP.sub (ws' := [(h0, .inr (6, [.ref qx, .ref qy, .ref qo, .ref qc, .ref qg, .ref qm, .int (nI (p0)), .int ct])), (qx, .inl (cX, 64, .inl (fx))), (qy, .inl (cY, 64, .inl (fy)))]) [0, 1, 2] rfl
              have hD8 := hD.sub (ws' := [(h0, .inr (6, [.ref qx, .ref qy, .ref qo, .ref qc, .ref qg, .ref qm, .int (nI (p0)), .int ct])), (qx, .inl (cX, 64, .inl (fx))), (qy, .inl (cY, 64, .inl (fy)))]) [0, 1, 2] (by decide) rfl
              exact kx58 k (by omega) H locs ls hP8 hD8 hS (lv_sub hl [0, 1, 2] rfl)
set_option maxHeartbeats 4000000 in
set_option maxRecDepth 100000 in
/-- GlyphLines$Outline.isInRange -/
theorem g_OU_isInRange (l : Launch) (dC : Nat → ClassId) (dI : Nat → Nat → Nat) (h0 : Nat) (qx : Nat) (qy : Nat) (qo : Nat) (qc : Nat) (qg : Nat) (qm : Nat) (p0 : Nat) (ct : Int32) (cX : ClassId) (cY : ClassId) (fx : Nat → Int32) (fy : Nat → Int32) (fr : Nat) (sz : Nat) (hq0 : p0 ≤ 64) (hq1 : fr ≤ 64) : Met l y_OU_isInRange s_OU_isInRange ({ frames := 8, cells := 0, slots := 0, locals := 200 }) (va_Pc [.ref h0, .int (nI (fr))] (fun U => U.heap.size = sz ∧ va_P (dC, dI) cls_ [(h0, .inr (6, [.ref qx, .ref qy, .ref qo, .ref qc, .ref qg, .ref qm, .int (nI (p0)), .int ct])), (qx, .inl (cX, 64, .inl (fx))), (qy, .inl (cY, 64, .inl (fy)))] U.heap ∧ va_K (dC, dI) cls_ [(cX, .int), (cY, .int)] U ∧ va_D (fun _ => True) [(h0, .inr (6, [.ref qx, .ref qy, .ref qo, .ref qc, .ref qg, .ref qm, .int (nI (p0)), .int ct])), (qx, .inl (cX, 64, .inl (fx))), (qy, .inl (cY, 64, .inl (fy)))])) (va_Qi (fun (r : Int32) (_ : Unit) => ∃ b9 : Bool, r = bI b9) (fun (_ : Unit) (t : State) => va_P (dC, dI) cls_ [(h0, .inr (6, [.ref qx, .ref qy, .ref qo, .ref qc, .ref qg, .ref qm, .int (nI (p0)), .int ct])), (qx, .inl (cX, 64, .inl (fx))), (qy, .inl (cY, 64, .inl (fy)))] t.heap ∧ va_K (dC, dI) cls_ [(cX, .int), (cY, .int)] t ∧ va_D (va_A [(h0, .inr (6, [.ref qx, .ref qy, .ref qo, .ref qc, .ref qg, .ref qm, .int (nI (p0)), .int ct])), (qx, .inl (cX, 64, .inl (fx))), (qy, .inl (cY, 64, .inl (fy)))] sz) [(h0, .inr (6, [.ref qx, .ref qy, .ref qo, .ref qc, .ref qg, .ref qm, .int (nI (p0)), .int ct])), (qx, .inl (cX, 64, .inl (fx))), (qy, .inl (cY, 64, .inl (fy)))]) (va_A [(h0, .inr (6, [.ref qx, .ref qy, .ref qo, .ref qc, .ref qg, .ref qm, .int (nI (p0)), .int ct])), (qx, .inl (cX, 64, .inl (fx))), (qy, .inl (cY, 64, .inl (fy)))] sz)) 0 0 (va_A [(h0, .inr (6, [.ref qx, .ref qy, .ref qo, .ref qc, .ref qg, .ref qm, .int (nI (p0)), .int ct])), (qx, .inl (cX, 64, .inl (fx))), (qy, .inl (cY, 64, .inl (fy)))] sz) := by
  refine Met.ofW (cc := b_OU_isInRange) (maxL := 3) (ret := (some .boolean)) (by decide) rfl ?_
  intro p e s m args below meth c s₁ B hml hv
  obtain ⟨rfl, hsz, hP, hK, hD0⟩ := hv
  have hx := B.exec
  have hb := B.bytes
  have hr := B.returns
  have hts := atoms_spec (ws := s_OU_isInRange) B.pre
  have hown : s.vm.findClass R_OU = some m.cls := findClass_of_methodNamed B.named
  have hlocks := B.notSynchronized
  subst hsz
  have hD := hD0.self (sz := s.heap.size)
  generalize hAe : va_A [(h0, .inr (6, [.ref qx, .ref qy, .ref qo, .ref qc, .ref qg, .ref qm, .int (nI (p0)), .int ct])), (qx, .inl (cX, 64, .inl (fx))), (qy, .inl (cY, 64, .inl (fy)))] s.heap.size = A at hD ⊢
  have hA : ∀ q : Nat, s.heap.size ≤ q → A q := fun q h => by rw [← hAe]; exact Or.inr h
  have hS : va_S A s.heap s.heap [] := va_S.rf
  have hP : va_P (dC, dI) cls_ [(h0, .inr (6, [.ref qx, .ref qy, .ref qo, .ref qc, .ref qg, .ref qm, .int (nI (p0)), .int ct])), (qx, .inl (cX, 64, .inl (fx))), (qy, .inl (cY, 64, .inl (fy)))] s.heap := hP
  have hl := lv_entry ([.ref h0, .int (nI (fr))]) (n := 3) (Nat.le_of_ble_eq_true rfl)
  rw [lg_entry_eq]
  generalize (lg_sl ([.ref h0, .int (nI (fr))]) ++ List.replicate (3 - (lg_sl ([.ref h0, .int (nI (fr))])).length) Slot.unset).toArray = ls at hl ⊢
  have hl : lv_has ls 3 [(0, .ref h0), (1, .int (nI (fr)))] := hl
  refine lv_iload_n hx hb d_OU_isInRange_0 rfl (lv_at hl 1 rfl) ?_
  refine lv_istore_n (lv' := [(2, .int (nI (fr))), (0, .ref h0), (1, .int (nI (fr)))]) hx hb d_OU_isInRange_1 rfl hl (by decide) rfl (fun ls hl => ?_)
  have hP8 := hP.sub (ws' := [(h0, .inr (6, [.ref qx, .ref qy, .ref qo, .ref qc, .ref qg, .ref qm, .int (nI (p0)), .int ct])), (qx, .inl (cX, 64, .inl (fx))), (qy, .inl (cY, 64, .inl (fy)))]) [0, 1, 2] rfl
  have hD8 := hD.sub (ws' := [(h0, .inr (6, [.ref qx, .ref qy, .ref qo, .ref qc, .ref qg, .ref qm, .int (nI (p0)), .int ct])), (qx, .inl (cX, 64, .inl (fx))), (qy, .inl (cY, 64, .inl (fy)))]) [0, 1, 2] (by decide) rfl
  have hK9 := hK.sub (tys' := [(cX, .int), (cY, .int)]) [0, 1] rfl
  refine ou_range_loop hx hb hml hts hown hA dC dI h0 qx qy qo qc qg qm p0 ct cX cY fx fy fr (by omega) (by omega) hK9 (fun k_433 hf_434 H locs ls hP hD hS hl => ?_) (fun k_435 hf_436 H locs ls hP hD hS hl => ?_) (65 - fr + 1) fr (by omega) (by omega) s.heap _ ls hP8 hD8 hS (lv_sub hl [0, 1, 2] rfl)
  · skip
    have hK := hK9
    have hP : va_P (dC, dI) cls_ [(h0, .inr (6, [.ref qx, .ref qy, .ref qo, .ref qc, .ref qg, .ref qm, .int (nI (p0)), .int ct])), (qx, .inl (cX, 64, .inl (fx))), (qy, .inl (cY, 64, .inl (fy)))] H := hP
    have hD : va_D A [(h0, .inr (6, [.ref qx, .ref qy, .ref qo, .ref qc, .ref qg, .ref qm, .int (nI (p0)), .int ct])), (qx, .inl (cX, 64, .inl (fx))), (qy, .inl (cY, 64, .inl (fy)))] := hD
    have hK : va_K (dC, dI) cls_ [(cX, .int), (cY, .int)] s := hK
    refine lv_iconst (v := 0) hx hb d_OU_isInRange_58 (by decide) ?_
    refine W.widen (k := 0) (n := 0) (Nat.le_of_ble_eq_true rfl) (Nat.le_of_ble_eq_true rfl) ?_
    have hP9 := hP.sub (ws' := [(h0, .inr (6, [.ref qx, .ref qy, .ref qo, .ref qc, .ref qg, .ref qm, .int (nI (p0)), .int ct])), (qx, .inl (cX, 64, .inl (fx))), (qy, .inl (cY, 64, .inl (fy)))]) [0, 1, 2] rfl
    have hD9 := hD.sub (ws' := [(h0, .inr (6, [.ref qx, .ref qy, .ref qo, .ref qc, .ref qg, .ref qm, .int (nI (p0)), .int ct])), (qx, .inl (cX, 64, .inl (fx))), (qy, .inl (cY, 64, .inl (fy)))]) [0, 1, 2] (by decide) rfl
    have hK9 := hK.sub (tys' := [(cX, .int), (cY, .int)]) [0, 1] rfl
    exact W.zret (v := 0) (ty := .boolean) hx hb hr (by decide +kernel) (fun t ht hW => ⟨⟨0, (), rfl, ⟨false, rfl⟩, by rw [ht]; exact hP9, va_K.moved hW.alike hK9, hD9⟩, hS.F ht⟩) hS.2.2 d_OU_isInRange_59
  · skip
    have hK := hK9
    have hP : va_P (dC, dI) cls_ [(h0, .inr (6, [.ref qx, .ref qy, .ref qo, .ref qc, .ref qg, .ref qm, .int (nI (p0)), .int ct])), (qx, .inl (cX, 64, .inl (fx))), (qy, .inl (cY, 64, .inl (fy)))] H := hP
    have hD : va_D A [(h0, .inr (6, [.ref qx, .ref qy, .ref qo, .ref qc, .ref qg, .ref qm, .int (nI (p0)), .int ct])), (qx, .inl (cX, 64, .inl (fx))), (qy, .inl (cY, 64, .inl (fy)))] := hD
    have hK : va_K (dC, dI) cls_ [(cX, .int), (cY, .int)] s := hK
    refine lv_iconst (v := 1) hx hb d_OU_isInRange_66 (by decide) ?_
    refine W.widen (k := 0) (n := 0) (Nat.le_of_ble_eq_true rfl) (Nat.le_of_ble_eq_true rfl) ?_
    have hP9 := hP.sub (ws' := [(h0, .inr (6, [.ref qx, .ref qy, .ref qo, .ref qc, .ref qg, .ref qm, .int (nI (p0)), .int ct])), (qx, .inl (cX, 64, .inl (fx))), (qy, .inl (cY, 64, .inl (fy)))]) [0, 1, 2] rfl
    have hD9 := hD.sub (ws' := [(h0, .inr (6, [.ref qx, .ref qy, .ref qo, .ref qc, .ref qg, .ref qm, .int (nI (p0)), .int ct])), (qx, .inl (cX, 64, .inl (fx))), (qy, .inl (cY, 64, .inl (fy)))]) [0, 1, 2] (by decide) rfl
    have hK9 := hK.sub (tys' := [(cX, .int), (cY, .int)]) [0, 1] rfl
    exact W.zret (v := 1) (ty := .boolean) hx hb hr (by decide +kernel) (fun t ht hW => ⟨⟨1, (), rfl, ⟨true, rfl⟩, by rw [ht]; exact hP9, va_K.moved hW.alike hK9, hD9⟩, hS.F ht⟩) hS.2.2 d_OU_isInRange_67
set_option maxHeartbeats 8000000 in
set_option maxRecDepth 100000 in
/-- a loop of GlyphLines$Outline.movePoints -/
theorem ou_move_loop {p : Program} {l : Launch} {e : Env} {s : State} {m : MethodId} {args : Array Value} {below : List Frame} {meth : Method} {c : Code} {Q : State → Prop} {A : Nat → Prop} (hx : p.tables.exec = Jvm.exec) (hb : c.code = b_OU_movePoints) (hml : c.maxLocals = 4) (hts : ∀ w ∈ s_OU_movePoints, w.before args s = true) (hown : s.vm.findClass R_OU = some m.cls) (hA : ∀ q : Nat, s.heap.size ≤ q → A q) (dC : Nat → ClassId) (dI : Nat → Nat → Nat) (h0 : Nat) (qx : Nat) (qy : Nat) (qo : Nat) (qc : Nat) (qg : Nat) (qm : Nat) (p0 : Nat) (ct : Int32) (cX : ClassId) (cY : ClassId) (fx : Nat → Int32) (fy : Nat → Int32) (fr : Nat) (u1 : Int32) (u2 : Int32) (u3 : Int32) (u4 : Int32) (u5 : Int32) (u6 : Int32) (hq0 : p0 ≤ 64) (hq1 : fr ≤ 64) (hK : va_K (dC, dI) cls_ [(cX, .int), (cY, .int)] s)
    (kx68 : ∀ (k : Nat) (gx : Nat → Int32) (gy : Nat → Int32), (k ≤ 64) → ∀ (H : Heap) (locs : List Loc) (ls : Array Slot), va_P (dC, dI) cls_ [(h0, .inr (6, [.ref qx, .ref qy, .ref qo, .ref qc, .ref qg, .ref qm, .int (nI (p0)), .int ct])), (qx, .inl (cX, 64, .inl (gx))), (qy, .inl (cY, 64, .inl (gy))), (qm, .inr (5, [.int u1, .int u2, .int u3, .int u4, .int u5, .int u6]))] H → va_D A [(h0, .inr (6, [.ref qx, .ref qy, .ref qo, .ref qc, .ref qg, .ref qm, .int (nI (p0)), .int ct])), (qx, .inl (cX, 64, .inl (gx))), (qy, .inl (cY, 64, .inl (gy))), (qm, .inr (5, [.int u1, .int u2, .int u3, .int u4, .int u5, .int u6]))] → va_S A s.heap H locs → lv_has ls 4 [(2, .int (nI (k))), (0, .ref h0), (1, .int (nI (fr)))] → W p l e (headSpec s_OU_movePoints ({ frames := 10, cells := 0, slots := 0, locals := 300 })).room s m args below meth c H locs 0 0 Q (F0 m 68 ls []))
    : ∀ (fu : Nat) (k : Nat) (gx : Nat → Int32) (gy : Nat → Int32), (k ≤ 64) → 65 - k < fu → ∀ (H : Heap) (locs : List Loc) (ls : Array Slot), va_P (dC, dI) cls_ [(h0, .inr (6, [.ref qx, .ref qy, .ref qo, .ref qc, .ref qg, .ref qm, .int (nI (p0)), .int ct])), (qx, .inl (cX, 64, .inl (gx))), (qy, .inl (cY, 64, .inl (gy))), (qm, .inr (5, [.int u1, .int u2, .int u3, .int u4, .int u5, .int u6]))] H → va_D A [(h0, .inr (6, [.ref qx, .ref qy, .ref qo, .ref qc, .ref qg, .ref qm, .int (nI (p0)), .int ct])), (qx, .inl (cX, 64, .inl (gx))), (qy, .inl (cY, 64, .inl (gy))), (qm, .inr (5, [.int u1, .int u2, .int u3, .int u4, .int u5, .int u6]))] → va_S A s.heap H locs → lv_has ls 4 [(2, .int (nI (k))), (0, .ref h0), (1, .int (nI (fr)))] → W p l e (headSpec s_OU_movePoints ({ frames := 10, cells := 0, slots := 0, locals := 300 })).room s m args below meth c H locs 0 0 Q (F0 m 2 ls []) := by
  intro fu
  induction fu with
  | zero => intro k gx gy hf0 hm; exact absurd hm (Nat.not_lt_zero _)
  | succ fu ih =>
    intro k gx gy hf0 hm H locs ls hP hD hS hl
    refine lv_iload_n hx hb d_OU_movePoints_2 rfl (lv_at hl 0 rfl) ?_
    refine lv_aload_n hx hb d_OU_movePoints_3 rfl (lv_at hl 1 rfl) ?_
    refine va_get (D := (dC, dI)) (ci := 6) (v := .int (nI (p0))) (C := R_OU) (T := F_OU) (N := 8) hx hb hts in_OU hown hK hP 0 rfl rfl 6 (by decide) (hts _ (List.mem_cons_of_mem _ w_212)) (fun _ h9 => h9) rfl d_OU_movePoints_4 ?_
    refine lv_icmp_ge (tgt := 68) hx hb d_OU_movePoints_7 (by decide) (fun hc437 => ?_) (fun hc437 => ?_)
    · skip
      have hc437n : p0 ≤ k := (nI_leI (a := p0) (b := k) (by omega) (by omega)).mp hc437
      have hP8 := hP.sub (ws' := [(h0, .inr (6, [.ref qx, .ref qy, .ref qo, .ref qc, .ref qg, .ref qm, .int (nI (p0)), .int ct])), (qx, .inl (cX, 64, .inl (gx))), (qy, .inl (cY, 64, .inl (gy))), (qm, .inr (5, [.int u1, .int u2, .int u3, .int u4, .int u5, .int u6]))]) [0, 1, 2, 3] rfl
      have hD8 := hD.sub (ws' := [(h0, .inr (6, [.ref qx, .ref qy, .ref qo, .ref qc, .ref qg, .ref qm, .int (nI (p0)), .int ct])), (qx, .inl (cX, 64, .inl (gx))), (qy, .inl (cY, 64, .inl (gy))), (qm, .inr (5, [.int u1, .int u2, .int u3, .int u4, .int u5, .int u6]))]) [0, 1, 2, 3] (by decide) rfl
      exact kx68 k gx gy (by omega) H locs ls hP8 hD8 hS (lv_sub hl [0, 1, 2] rfl)
    · skip
      have hc437n : ¬ (p0 ≤ k) := fun z => hc437 ((nI_leI (a := p0) (b := k) (by omega) (by omega)).mpr z)
      refine lv_aload_n hx hb d_OU_movePoints_10 rfl (lv_at hl 1 rfl) ?_
      refine va_get (D := (dC, dI)) (ci := 6) (v := .ref qm) (C := R_OU) (T := F_OU) (N := 8) hx hb hts in_OU hown hK hP 0 rfl rfl 5 (by decide) (hts _ (List.mem_cons_of_mem _ w_211)) (fun _ h9 => h9) rfl d_OU_movePoints_11 ?_
      refine lv_aload_n hx hb d_OU_movePoints_14 rfl (lv_at hl 1 rfl) ?_
      refine va_get (D := (dC, dI)) (ci := 6) (v := .ref qx) (C := R_OU) (T := F_OU) (N := 8) hx hb hts in_OU hown hK hP 0 rfl rfl 0 (by decide) (hts _ (List.mem_cons_of_mem _ w_198)) (fun _ h9 => h9) rfl d_OU_movePoints_15 ?_
      refine lv_iload_n hx hb d_OU_movePoints_18 rfl (lv_at hl 0 rfl) ?_
      refine va_iald hx hb hK hP 1 0 rfl rfl (pk_in (k) 64 (by omega) rfl (by decide)) d_OU_movePoints_19 ?_
      refine lv_topi (fun v438 ev438 => ?_)
      refine lv_aload_n hx hb d_OU_movePoints_20 rfl (lv_at hl 1 rfl) ?_
      refine va_get (D := (dC, dI)) (ci := 6) (v := .ref qy) (C := R_OU) (T := F_OU) (N := 8) hx hb hts in_OU hown hK hP 0 rfl rfl 1 (by decide) (hts _ (List.mem_cons_of_mem _ w_201)) (fun _ h9 => h9) rfl d_OU_movePoints_21 ?_
      refine lv_iload_n hx hb d_OU_movePoints_24 rfl (lv_at hl 0 rfl) ?_
      refine va_iald hx hb hK hP 2 1 rfl rfl (pk_in (k) 64 (by omega) rfl (by decide)) d_OU_movePoints_25 ?_
      refine lv_topi (fun v439 ev439 => ?_)
      have hPc := hP.sub (ws' := [(qm, .inr (5, [.int u1, .int u2, .int u3, .int u4, .int u5, .int u6]))]) [3] rfl
      have hDc := hD.sub (ws' := [(qm, .inr (5, [.int u1, .int u2, .int u3, .int u4, .int u5, .int u6]))]) [3] (by decide) rfl
      have hKc := hK.sub (tys' := []) [] rfl
      have hFc := va_free (wc := [(qm, .inr (5, [.int u1, .int u2, .int u3, .int u4, .int u5, .int u6]))]) hD hS hA [3] rfl
      refine va_calli (va_runV (As := [.int v438, .int v439]) (rest := []) ⟨hx, hb, hml, hown, hts⟩ (g_MO_newX l dC dI qm u1 u2 u3 u4 u5 u6 v438 v439 H.size) (cwV 2 hts (tw_inV w_511 w_512 w_513 w_8 w_514) rfl rfl rfl (by decide +kernel) ⟨Nat.le_of_ble_eq_true rfl, Nat.le_of_ble_eq_true rfl⟩) ⟨fun a U g mk q => by obtain ⟨q0, q1, qP, qK, qD⟩ := q; exact ⟨q0, q1, qP, va_K.moved (u := U) (U := U.calling g mk a) (Vm.Alike.refl U.vm) qK, qD⟩, va_recv (hK := hK) (hP := hP) (q0 := 3) (ci := 5) rfl rfl, fun U hU hW => ⟨rfl, by rw [hU], by rw [hU]; exact hPc, va_K.moved hW.alike hKc, hDc.weaken (fun _ _ _ _ => trivial)⟩⟩ rfl rfl hl.1 rfl (lv_room (Nat.le_of_ble_eq_true rfl)) d_OU_movePoints_26 ⟨Nat.le_of_ble_eq_true rfl, Nat.le_of_ble_eq_true rfl⟩) hS (fun q _ h => hFc q h) hFc (fun r440 u t H1 locs ht hvm hw hB hz1 hk1 hS => ?_)
      obtain ⟨hP1, hK1, hD1⟩ := hB
      rw [ht] at hP1
      have hK1 := va_K.moved hvm.symm hK1
      obtain ⟨hP, hD⟩ := va_join (wr := [(h0, .inr (6, [.ref qx, .ref qy, .ref qo, .ref qc, .ref qg, .ref qm, .int (nI (p0)), .int ct])), (qx, .inl (cX, 64, .inl (gx))), (qy, .inl (cY, 64, .inl (gy)))]) (w1 := [(qm, .inr (5, [.int u1, .int u2, .int u3, .int u4, .int u5, .int u6]))]) hP hD [3] [0, 1, 2] rfl rfl (by decide) (by decide) hk1 hFc hP1 hD1
      have hK := (hK.sub (tys' := [(cX, .int), (cY, .int)]) [0, 1] rfl).app hK1
      generalize H1 = H at hP hS ⊢
      have hP : va_P (dC, dI) cls_ [(h0, .inr (6, [.ref qx, .ref qy, .ref qo, .ref qc, .ref qg, .ref qm, .int (nI (p0)), .int ct])), (qx, .inl (cX, 64, .inl (gx))), (qy, .inl (cY, 64, .inl (gy))), (qm, .inr (5, [.int u1, .int u2, .int u3, .int u4, .int u5, .int u6]))] H := hP
      have hD : va_D A [(h0, .inr (6, [.ref qx, .ref qy, .ref qo, .ref qc, .ref qg, .ref qm, .int (nI (p0)), .int ct])), (qx, .inl (cX, 64, .inl (gx))), (qy, .inl (cY, 64, .inl (gy))), (qm, .inr (5, [.int u1, .int u2, .int u3, .int u4, .int u5, .int u6]))] := hD
      have hK : va_K (dC, dI) cls_ [(cX, .int), (cY, .int)] s := hK
      have hw_r440 := hw
      refine lv_istore_n (lv' := [(3, .int r440), (2, .int (nI (k))), (0, .ref h0), (1, .int (nI (fr)))]) hx hb d_OU_movePoints_29 rfl hl (by decide) rfl (fun ls hl => ?_)
      refine lv_aload_n hx hb d_OU_movePoints_30 rfl (lv_at hl 2 rfl) ?_
      refine va_get (D := (dC, dI)) (ci := 6) (v := .ref qy) (C := R_OU) (T := F_OU) (N := 8) hx hb hts in_OU hown hK hP 0 rfl rfl 1 (by decide) (hts _ (List.mem_cons_of_mem _ w_201)) (fun _ h9 => h9) rfl d_OU_movePoints_31 ?_
      refine lv_iload_n hx hb d_OU_movePoints_34 rfl (lv_at hl 1 rfl) ?_
      refine lv_aload_n hx hb d_OU_movePoints_35 rfl (lv_at hl 2 rfl) ?_
      refine va_get (D := (dC, dI)) (ci := 6) (v := .ref qm) (C := R_OU) (T := F_OU) (N := 8) hx hb hts in_OU hown hK hP 0 rfl rfl 5 (by decide) (hts _ (List.mem_cons_of_mem _ w_211)) (fun _ h9 => h9) rfl d_OU_movePoints_36 ?_
      refine lv_aload_n hx hb d_OU_movePoints_39 rfl (lv_at hl 2 rfl) ?_
      refine va_get (D := (dC, dI)) (ci := 6) (v := .ref qx) (C := R_OU) (T := F_OU) (N := 8) hx hb hts in_OU hown hK hP 0 rfl rfl 0 (by decide) (hts _ (List.mem_cons_of_mem _ w_198)) (fun _ h9 => h9) rfl d_OU_movePoints_40 ?_
      refine lv_iload_n hx hb d_OU_movePoints_43 rfl (lv_at hl 1 rfl) ?_
      refine va_iald hx hb hK hP 1 0 rfl rfl (pk_in (k) 64 (by omega) rfl (by decide)) d_OU_movePoints_44 ?_
      refine lv_topi (fun v441 ev441 => ?_)
      refine lv_aload_n hx hb d_OU_movePoints_45 rfl (lv_at hl 2 rfl) ?_
      refine va_get (D := (dC, dI)) (ci := 6) (v := .ref qy) (C := R_OU) (T := F_OU) (N := 8) hx hb hts in_OU hown hK hP 0 rfl rfl 1 (by decide) (hts _ (List.mem_cons_of_mem _ w_201)) (fun _ h9 => h9) rfl d_OU_movePoints_46 ?_
      refine lv_iload_n hx hb d_OU_movePoints_49 rfl (lv_at hl 1 rfl) ?_
      refine va_iald hx hb hK hP 2 1 rfl rfl (pk_in (k) 64 (by omega) rfl (by decide)) d_OU_movePoints_50 ?_
      refine lv_topi (fun v442 ev442 => ?_)
      have hPc := hP.sub (ws' := [(qm, .inr (5, [.int u1, .int u2, .int u3, .int u4, .int u5, .int u6]))]) [3] rfl
      have hDc := hD.sub (ws' := [(qm, .inr (5, [.int u1, .int u2, .int u3, .int u4, .int u5, .int u6]))]) [3] (by decide) rfl
      have hKc := hK.sub (tys' := []) [] rfl
      have hFc := va_free (wc := [(qm, .inr (5, [.int u1, .int u2, .int u3, .int u4, .int u5, .int u6]))]) hD hS hA [3] rfl
      refine va_calli (va_runV (As := [.int v441, .int v442]) (rest := [.int (nI (k)), .ref qy]) ⟨hx, hb, hml, hown, hts⟩ (g_MO_newY l dC dI qm u1 u2 u3 u4 u5 u6 v441 v442 H.size) (cwV 2 hts (tw_inV w_515 w_516 w_517 w_8 w_518) rfl rfl rfl (by decide +kernel) ⟨Nat.le_of_ble_eq_true rfl, Nat.le_of_ble_eq_true rfl⟩) ⟨fun a U g mk q => by obtain ⟨q0, q1, qP, qK, qD⟩ := q; exact ⟨q0, q1, qP, va_K.moved (u := U) (U := U.calling g mk a) (Vm.Alike.refl U.vm) qK, qD⟩, va_recv (hK := hK) (hP := hP) (q0 := 3) (ci := 5) rfl rfl, fun U hU hW => ⟨rfl, by rw [hU], by rw [hU]; exact hPc, va_K.moved hW.alike hKc, hDc.weaken (fun _ _ _ _ => trivial)⟩⟩ rfl rfl hl.1 rfl (lv_room (Nat.le_of_ble_eq_true rfl)) d_OU_movePoints_51 ⟨Nat.le_of_ble_eq_true rfl, Nat.le_of_ble_eq_true rfl⟩) hS (fun q _ h => hFc q h) hFc (fun r443 u t H1 locs ht hvm hw hB hz1 hk1 hS => ?_)
      obtain ⟨hP1, hK1, hD1⟩ := hB
      rw [ht] at hP1
      have hK1 := va_K.moved hvm.symm hK1
      obtain ⟨hP, hD⟩ := va_join (wr := [(h0, .inr (6, [.ref qx, .ref qy, .ref qo, .ref qc, .ref qg, .ref qm, .int (nI (p0)), .int ct])), (qx, .inl (cX, 64, .inl (gx))), (qy, .inl (cY, 64, .inl (gy)))]) (w1 := [(qm, .inr (5, [.int u1, .int u2, .int u3, .int u4, .int u5, .int u6]))]) hP hD [3] [0, 1, 2] rfl rfl (by decide) (by decide) hk1 hFc hP1 hD1
      have hK := (hK.sub (tys' := [(cX, .int), (cY, .int)]) [0, 1] rfl).app hK1
      generalize H1 = H at hP hS ⊢
      have hP : va_P (dC, dI) cls_ [(h0, .inr (6, [.ref qx, .ref qy, .ref qo, .ref qc, .ref qg, .ref qm, .int (nI (p0)), .int ct])), (qx, .inl (cX, 64, .inl (gx))), (qy, .inl (cY, 64, .inl (gy))), (qm, .inr (5, [.int u1, .int u2, .int u3, .int u4, .int u5, .int u6]))] H := hP
      have hD : va_D A [(h0, .inr (6, [.ref qx, .ref qy, .ref qo, .ref qc, .ref qg, .ref qm, .int (nI (p0)), .int ct])), (qx, .inl (cX, 64, .inl (gx))), (qy, .inl (cY, 64, .inl (gy))), (qm, .inr (5, [.int u1, .int u2, .int u3, .int u4, .int u5, .int u6]))] := hD
      have hK : va_K (dC, dI) cls_ [(cX, .int), (cY, .int)] s := hK
      have hw_r443 := hw
      refine va_iast hx hb hK hP hD hS 2 1 rfl rfl (pk_in (k) 64 (by omega) rfl (by decide)) d_OU_movePoints_54 (fun H locs hP hD hS => ?_)
      have hP : va_P (dC, dI) cls_ [(h0, .inr (6, [.ref qx, .ref qy, .ref qo, .ref qc, .ref qg, .ref qm, .int (nI (p0)), .int ct])), (qx, .inl (cX, 64, .inl (gx))), (qy, .inl (cY, 64, .inl (upd (gy) (Int32.toNatClampNeg (nI (k))) (r443)))), (qm, .inr (5, [.int u1, .int u2, .int u3, .int u4, .int u5, .int u6]))] H := hP
      have hD : va_D A [(h0, .inr (6, [.ref qx, .ref qy, .ref qo, .ref qc, .ref qg, .ref qm, .int (nI (p0)), .int ct])), (qx, .inl (cX, 64, .inl (gx))), (qy, .inl (cY, 64, .inl (upd (gy) (Int32.toNatClampNeg (nI (k))) (r443)))), (qm, .inr (5, [.int u1, .int u2, .int u3, .int u4, .int u5, .int u6]))] := hD
      obtain ⟨g444, eg444⟩ : ∃ z : Nat → Int32, z = upd (gy) (Int32.toNatClampNeg (nI (k))) (r443) := ⟨_, rfl⟩
      rw [← eg444] at hP hD
      have hP : va_P (dC, dI) cls_ [(h0, .inr (6, [.ref qx, .ref qy, .ref qo, .ref qc, .ref qg, .ref qm, .int (nI (p0)), .int ct])), (qx, .inl (cX, 64, .inl (gx))), (qy, .inl (cY, 64, .inl (g444))), (qm, .inr (5, [.int u1, .int u2, .int u3, .int u4, .int u5, .int u6]))] H := hP
      have hD : va_D A [(h0, .inr (6, [.ref qx, .ref qy, .ref qo, .ref qc, .ref qg, .ref qm, .int (nI (p0)), .int ct])), (qx, .inl (cX, 64, .inl (gx))), (qy, .inl (cY, 64, .inl (g444))), (qm, .inr (5, [.int u1, .int u2, .int u3, .int u4, .int u5, .int u6]))] := hD
      refine lv_aload_n hx hb d_OU_movePoints_55 rfl (lv_at hl 2 rfl) ?_
      refine va_get (D := (dC, dI)) (ci := 6) (v := .ref qx) (C := R_OU) (T := F_OU) (N := 8) hx hb hts in_OU hown hK hP 0 rfl rfl 0 (by decide) (hts _ (List.mem_cons_of_mem _ w_198)) (fun _ h9 => h9) rfl d_OU_movePoints_56 ?_
      refine lv_iload_n hx hb d_OU_movePoints_59 rfl (lv_at hl 1 rfl) ?_
      refine lv_iload_n hx hb d_OU_movePoints_60 rfl (lv_at hl 0 rfl) ?_
      refine va_iast hx hb hK hP hD hS 1 0 rfl rfl (pk_in (k) 64 (by omega) rfl (by decide)) d_OU_movePoints_61 (fun H locs hP hD hS => ?_)
      have hP : va_P (dC, dI) cls_ [(h0, .inr (6, [.ref qx, .ref qy, .ref qo, .ref qc, .ref qg, .ref qm, .int (nI (p0)), .int ct])), (qx, .inl (cX, 64, .inl (upd (gx) (Int32.toNatClampNeg (nI (k))) (r440)))), (qy, .inl (cY, 64, .inl (g444))), (qm, .inr (5, [.int u1, .int u2, .int u3, .int u4, .int u5, .int u6]))] H := hP
      have hD : va_D A [(h0, .inr (6, [.ref qx, .ref qy, .ref qo, .ref qc, .ref qg, .ref qm, .int (nI (p0)), .int ct])), (qx, .inl (cX, 64, .inl (upd (gx) (Int32.toNatClampNeg (nI (k))) (r440)))), (qy, .inl (cY, 64, .inl (g444))), (qm, .inr (5, [.int u1, .int u2, .int u3, .int u4, .int u5, .int u6]))] := hD
      obtain ⟨g445, eg445⟩ : ∃ z : Nat → Int32, z = upd (gx) (Int32.toNatClampNeg (nI (k))) (r440) := ⟨_, rfl⟩
      rw [← eg445] at hP hD
      have hP : va_P (dC, dI) cls_ [(h0, .inr (6, [.ref qx, .ref qy, .ref qo, .ref qc, .ref qg, .ref qm, .int (nI (p0)), .int ct])), (qx, .inl (cX, 64, .inl (g445))), (qy, .inl (cY, 64, .inl (g444))), (qm, .inr (5, [.int u1, .int u2, .int u3, .int u4, .int u5, .int u6]))] H := hP
      have hD : va_D A [(h0, .inr (6, [.ref qx, .ref qy, .ref qo, .ref qc, .ref qg, .ref qm, .int (nI (p0)), .int ct])), (qx, .inl (cX, 64, .inl (g445))), (qy, .inl (cY, 64, .inl (g444))), (qm, .inr (5, [.int u1, .int u2, .int u3, .int u4, .int u5, .int u6]))] := hD
      refine lv_iinc (k := 1) (v := nI (k + 1)) (lv' := [(2, .int (nI (k + 1))), (3, .int r440), (0, .ref h0), (1, .int (nI (fr)))]) hx hb d_OU_movePoints_62 hl rfl (nI_add (k) 1) (by decide) rfl (fun ls hl => ?_)
      refine lv_goto (tgt := 2) hx hb d_OU_movePoints_65 (by decide) ?_
      have hP8 := hP.sub (ws' := [(h0, .inr (6, [.ref qx, .ref qy, .ref qo, .ref qc, .ref qg, .ref qm, .int (nI (p0)), .int ct])), (qx, .inl (cX, 64, .inl (g445))), (qy, .inl (cY, 64, .inl (g444))), (qm, .inr (5, [.int u1, .int u2, .int u3, .int u4, .int u5, .int u6]))]) [0, 1, 2, 3] rfl
      have hD8 := hD.sub (ws' := [(h0, .inr (6, [.ref qx, .ref qy, .ref qo, .ref qc, .ref qg, .ref qm, .int (nI (p0)), .int ct])), (qx, .inl (cX, 64, .inl (g445))), (qy, .inl (cY, 64, .inl (g444))), (qm, .inr (5, [.int u1, .int u2, .int u3, .int u4, .int u5, .int u6]))]) [0, 1, 2, 3] (by decide) rfl
      exact ih (k + 1) g445 g444 (by omega) (by omega) H locs ls hP8 hD8 hS (lv_sub hl [0, 2, 3] rfl)
set_option maxHeartbeats 4000000 in
set_option maxRecDepth 100000 in
/-- GlyphLines$Outline.movePoints -/
theorem g_OU_movePoints (l : Launch) (dC : Nat → ClassId) (dI : Nat → Nat → Nat) (h0 : Nat) (qx : Nat) (qy : Nat) (qo : Nat) (qc : Nat) (qg : Nat) (qm : Nat) (p0 : Nat) (ct : Int32) (cX : ClassId) (cY : ClassId) (fx : Nat → Int32) (fy : Nat → Int32) (fr : Nat) (u1 : Int32) (u2 : Int32) (u3 : Int32) (u4 : Int32) (u5 : Int32) (u6 : Int32) (sz : Nat) (hq0 : p0 ≤ 64) (hq1 : fr ≤ 64) : Met l y_OU_movePoints s_OU_movePoints ({ frames := 10, cells := 0, slots := 0, locals := 300 }) (va_Pc [.ref h0, .int (nI (fr))] (fun U => U.heap.size = sz ∧ va_P (dC, dI) cls_ [(h0, .inr (6, [.ref qx, .ref qy, .ref qo, .ref qc, .ref qg, .ref qm, .int (nI (p0)), .int ct])), (qx, .inl (cX, 64, .inl (fx))), (qy, .inl (cY, 64, .inl (fy))), (qm, .inr (5, [.int u1, .int u2, .int u3, .int u4, .int u5, .int u6]))] U.heap ∧ va_K (dC, dI) cls_ [(cX, .int), (cY, .int)] U ∧ va_D (fun _ => True) [(h0, .inr (6, [.ref qx, .ref qy, .ref qo, .ref qc, .ref qg, .ref qm, .int (nI (p0)), .int ct])), (qx, .inl (cX, 64, .inl (fx))), (qy, .inl (cY, 64, .inl (fy))), (qm, .inr (5, [.int u1, .int u2, .int u3, .int u4, .int u5, .int u6]))])) (va_Qv (fun _ : Unit => True) (fun (_ : Unit) (t : State) => ∃ (gx : Nat → Int32) (gy : Nat → Int32), va_P (dC, dI) cls_ [(h0, .inr (6, [.ref qx, .ref qy, .ref qo, .ref qc, .ref qg, .ref qm, .int (nI (p0)), .int ct])), (qx, .inl (cX, 64, .inl (gx))), (qy, .inl (cY, 64, .inl (gy))), (qm, .inr (5, [.int u1, .int u2, .int u3, .int u4, .int u5, .int u6]))] t.heap ∧ va_K (dC, dI) cls_ [(cX, .int), (cY, .int)] t ∧ va_D (va_A [(h0, .inr (6, [.ref qx, .ref qy, .ref qo, .ref qc, .ref qg, .ref qm, .int (nI (p0)), .int ct])), (qx, .inl (cX, 64, .inl (fx))), (qy, .inl (cY, 64, .inl (fy))), (qm, .inr (5, [.int u1, .int u2, .int u3, .int u4, .int u5, .int u6]))] sz) [(h0, .inr (6, [.ref qx, .ref qy, .ref qo, .ref qc, .ref qg, .ref qm, .int (nI (p0)), .int ct])), (qx, .inl (cX, 64, .inl (gx))), (qy, .inl (cY, 64, .inl (gy))), (qm, .inr (5, [.int u1, .int u2, .int u3, .int u4, .int u5, .int u6]))]) (va_A [(h0, .inr (6, [.ref qx, .ref qy, .ref qo, .ref qc, .ref qg, .ref qm, .int (nI (p0)), .int ct])), (qx, .inl (cX, 64, .inl (fx))), (qy, .inl (cY, 64, .inl (fy))), (qm, .inr (5, [.int u1, .int u2, .int u3, .int u4, .int u5, .int u6]))] sz)) 0 0 (va_A [(h0, .inr (6, [.ref qx, .ref qy, .ref qo, .ref qc, .ref qg, .ref qm, .int (nI (p0)), .int ct])), (qx, .inl (cX, 64, .inl (fx))), (qy, .inl (cY, 64, .inl (fy))), (qm, .inr (5, [.int u1, .int u2, .int u3, .int u4, .int u5, .int u6]))] sz) := by
  refine Met.ofW (cc := b_OU_movePoints) (maxL := 4) (ret := none) (by decide) rfl ?_
  intro p e s m args below meth c s₁ B hml hv
  obtain ⟨rfl, hsz, hP, hK, hD0⟩ := hv
  have hx := B.exec
  have hb := B.bytes
  have hr := B.returns
  have hts := atoms_spec (ws := s_OU_movePoints) B.pre
  have hown : s.vm.findClass R_OU = some m.cls := findClass_of_methodNamed B.named
  have hlocks := B.notSynchronized
  subst hsz
  have hD := hD0.self (sz := s.heap.size)
  generalize hAe : va_A [(h0, .inr (6, [.ref qx, .ref qy, .ref qo, .ref qc, .ref qg, .ref qm, .int (nI (p0)), .int ct])), (qx, .inl (cX, 64, .inl (fx))), (qy, .inl (cY, 64, .inl (fy))), (qm, .inr (5, [.int u1, .int u2, .int u3, .int u4, .int u5, .int u6]))] s.heap.size = A at hD ⊢
  have hA : ∀ q : Nat, s.heap.size ≤ q → A q := fun q h => by rw [← hAe]; exact Or.inr h
  have hS : va_S A s.heap s.heap [] := va_S.rf
  have hP : va_P (dC, dI) cls_ [(h0, .inr (6, [.ref qx, .ref qy, .ref qo, .ref qc, .ref qg, .ref qm, .int (nI (p0)), .int ct])), (qx, .inl (cX, 64, .inl (fx))), (qy, .inl (cY, 64, .inl (fy))), (qm, .inr (5, [.int u1, .int u2, .int u3, .int u4, .int u5, .int u6]))] s.heap := hP
  have hl := lv_entry ([.ref h0, .int (nI (fr))]) (n := 4) (Nat.le_of_ble_eq_true rfl)
  rw [lg_entry_eq]
  generalize (lg_sl ([.ref h0, .int (nI (fr))]) ++ List.replicate (4 - (lg_sl ([.ref h0, .int (nI (fr))])).length) Slot.unset).toArray = ls at hl ⊢
  have hl : lv_has ls 4 [(0, .ref h0), (1, .int (nI (fr)))] := hl
  refine lv_iload_n hx hb d_OU_movePoints_0 rfl (lv_at hl 1 rfl) ?_
  refine lv_istore_n (lv' := [(2, .int (nI (fr))), (0, .ref h0), (1, .int (nI (fr)))]) hx hb d_OU_movePoints_1 rfl hl (by decide) rfl (fun ls hl => ?_)
  have hP8 := hP.sub (ws' := [(h0, .inr (6, [.ref qx, .ref qy, .ref qo, .ref qc, .ref qg, .ref qm, .int (nI (p0)), .int ct])), (qx, .inl (cX, 64, .inl (fx))), (qy, .inl (cY, 64, .inl (fy))), (qm, .inr (5, [.int u1, .int u2, .int u3, .int u4, .int u5, .int u6]))]) [0, 1, 2, 3] rfl
  have hD8 := hD.sub (ws' := [(h0, .inr (6, [.ref qx, .ref qy, .ref qo, .ref qc, .ref qg, .ref qm, .int (nI (p0)), .int ct])), (qx, .inl (cX, 64, .inl (fx))), (qy, .inl (cY, 64, .inl (fy))), (qm, .inr (5, [.int u1, .int u2, .int u3, .int u4, .int u5, .int u6]))]) [0, 1, 2, 3] (by decide) rfl
  have hK9 := hK.sub (tys' := [(cX, .int), (cY, .int)]) [0, 1] rfl
  refine ou_move_loop hx hb hml hts hown hA dC dI h0 qx qy qo qc qg qm p0 ct cX cY fx fy fr u1 u2 u3 u4 u5 u6 (by omega) (by omega) hK9 (fun k_446 gx_447 gy_448 hf_449 H locs ls hP hD hS hl => ?_) (65 - fr + 1) fr fx fy (by omega) (by omega) s.heap _ ls hP8 hD8 hS (lv_sub hl [0, 1, 2] rfl)
  · skip
    have hK := hK9
    have hP : va_P (dC, dI) cls_ [(h0, .inr (6, [.ref qx, .ref qy, .ref qo, .ref qc, .ref qg, .ref qm, .int (nI (p0)), .int ct])), (qx, .inl (cX, 64, .inl (gx_447))), (qy, .inl (cY, 64, .inl (gy_448))), (qm, .inr (5, [.int u1, .int u2, .int u3, .int u4, .int u5, .int u6]))] H := hP
    have hD : va_D A [(h0, .inr (6, [.ref qx, .ref qy, .ref qo, .ref qc, .ref qg, .ref qm, .int (nI (p0)), .int ct])), (qx, .inl (cX, 64, .inl (gx_447))), (qy, .inl (cY, 64, .inl (gy_448))), (qm, .inr (5, [.int u1, .int u2, .int u3, .int u4, .int u5, .int u6]))] := hD
    have hK : va_K (dC, dI) cls_ [(cX, .int), (cY, .int)] s := hK
    refine W.widen (k := 0) (n := 0) (Nat.le_of_ble_eq_true rfl) (Nat.le_of_ble_eq_true rfl) ?_
    have hP9 := hP.sub (ws' := [(h0, .inr (6, [.ref qx, .ref qy, .ref qo, .ref qc, .ref qg, .ref qm, .int (nI (p0)), .int ct])), (qx, .inl (cX, 64, .inl (gx_447))), (qy, .inl (cY, 64, .inl (gy_448))), (qm, .inr (5, [.int u1, .int u2, .int u3, .int u4, .int u5, .int u6]))]) [0, 1, 2, 3] rfl
    have hD9 := hD.sub (ws' := [(h0, .inr (6, [.ref qx, .ref qy, .ref qo, .ref qc, .ref qg, .ref qm, .int (nI (p0)), .int ct])), (qx, .inl (cX, 64, .inl (gx_447))), (qy, .inl (cY, 64, .inl (gy_448))), (qm, .inr (5, [.int u1, .int u2, .int u3, .int u4, .int u5, .int u6]))]) [0, 1, 2, 3] (by decide) rfl
    have hK9 := hK.sub (tys' := [(cX, .int), (cY, .int)]) [0, 1] rfl
    exact W.vret hx hb hr (fun t ht hW => ⟨⟨(), rfl, trivial, gx_447, gy_448, by rw [ht]; exact hP9, va_K.moved hW.alike hK9, hD9⟩, hS.F ht⟩) hS.2.2 d_OU_movePoints_68
set_option maxHeartbeats 4000000 in
set_option maxRecDepth 100000 in
/-- GlyphLines$Outline.readFlags -/
theorem g_OU_readFlags (l : Launch) (dC : Nat → ClassId) (dI : Nat → Nat → Nat) (h0 : Nat) (qx : Nat) (qy : Nat) (qo : Nat) (qc : Nat) (qg : Nat) (qm : Nat) (p0 : Nat) (ct : Int32) (qw : Nat) (qa : Nat) (a : Nat) (n : Nat) (mi : Bool) (cA : ClassId) (f : Nat → Int32) (pl : Int32) (cn : Nat) (cO : ClassId) (cG : ClassId) (fo : Nat → Int32) (fg : Nat → Int32) (sz : Nat) (hq0 : a + n ≤ 1200) (hq1 : isB f) (hq2 : p0 + cn ≤ 64) (hq3 : cn ≤ 24) : Met l y_OU_readFlags s_OU_readFlags ({ frames := 10, cells := 0, slots := 0, locals := 300 }) (va_Pc [.ref h0, .ref qw, .int pl, .int (nI (cn))] (fun U => U.heap.size = sz ∧ va_P (dC, dI) cls_ [(h0, .inr (6, [.ref qx, .ref qy, .ref qo, .ref qc, .ref qg, .ref qm, .int (nI (p0)), .int ct])), (qo, .inl (cO, 64, .inl (fo))), (qg, .inl (cG, 24, .inl (fg))), (qw, .inr (0, [.ref qa, .int (nI (a)), .int (nI (n)), .int (bI mi)])), (qa, .inl (cA, 1200, .inl (f)))] U.heap ∧ va_K (dC, dI) cls_ [(cO, .boolean), (cG, .int), (cA, .int)] U ∧ va_D (fun _ => True) [(h0, .inr (6, [.ref qx, .ref qy, .ref qo, .ref qc, .ref qg, .ref qm, .int (nI (p0)), .int ct])), (qo, .inl (cO, 64, .inl (fo))), (qg, .inl (cG, 24, .inl (fg))), (qw, .inr (0, [.ref qa, .int (nI (a)), .int (nI (n)), .int (bI mi)])), (qa, .inl (cA, 1200, .inl (f)))])) (va_Qi (fun (r : Int32) (_ : Unit) => True) (fun (_ : Unit) (t : State) => ∃ (m2 : Bool) (go : Nat → Int32) (gg : Nat → Int32), va_P (dC, dI) cls_ [(h0, .inr (6, [.ref qx, .ref qy, .ref qo, .ref qc, .ref qg, .ref qm, .int (nI (p0)), .int ct])), (qo, .inl (cO, 64, .inl (go))), (qg, .inl (cG, 24, .inl (gg))), (qw, .inr (0, [.ref qa, .int (nI (a)), .int (nI (n)), .int (bI m2)])), (qa, .inl (cA, 1200, .inl (f)))] t.heap ∧ va_K (dC, dI) cls_ [(cO, .boolean), (cG, .int), (cA, .int)] t ∧ va_D (va_A [(h0, .inr (6, [.ref qx, .ref qy, .ref qo, .ref qc, .ref qg, .ref qm, .int (nI (p0)), .int ct])), (qo, .inl (cO, 64, .inl (fo))), (qg, .inl (cG, 24, .inl (fg))), (qw, .inr (0, [.ref qa, .int (nI (a)), .int (nI (n)), .int (bI mi)])), (qa, .inl (cA, 1200, .inl (f)))] sz) [(h0, .inr (6, [.ref qx, .ref qy, .ref qo, .ref qc, .ref qg, .ref qm, .int (nI (p0)), .int ct])), (qo, .inl (cO, 64, .inl (go))), (qg, .inl (cG, 24, .inl (gg))), (qw, .inr (0, [.ref qa, .int (nI (a)), .int (nI (n)), .int (bI m2)])), (qa, .inl (cA, 1200, .inl (f)))]) (va_A [(h0, .inr (6, [.ref qx, .ref qy, .ref qo, .ref qc, .ref qg, .ref qm, .int (nI (p0)), .int ct])), (qo, .inl (cO, 64, .inl (fo))), (qg, .inl (cG, 24, .inl (fg))), (qw, .inr (0, [.ref qa, .int (nI (a)), .int (nI (n)), .int (bI mi)])), (qa, .inl (cA, 1200, .inl (f)))] sz)) 0 0 (va_A [(h0, .inr (6, [.ref qx, .ref qy, .ref qo, .ref qc, .ref qg, .ref qm, .int (nI (p0)), .int ct])), (qo, .inl (cO, 64, .inl (fo))), (qg, .inl (cG, 24, .inl (fg))), (qw, .inr (0, [.ref qa, .int (nI (a)), .int (nI (n)), .int (bI mi)])), (qa, .inl (cA, 1200, .inl (f)))] sz) := by
  refine Met.ofW (cc := b_OU_readFlags) (maxL := 9) (ret := (some .int)) (by decide) rfl ?_
  intro p e s m args below meth c s₁ B hml hv
  obtain ⟨rfl, hsz, hP, hK, hD0⟩ := hv
  have hx := B.exec
  have hb := B.bytes
  have hr := B.returns
  have hts := atoms_spec (ws := s_OU_readFlags) B.pre
  have hown : s.vm.findClass R_OU = some m.cls := findClass_of_methodNamed B.named
  have hlocks := B.notSynchronized
  subst hsz
  have hD := hD0.self (sz := s.heap.size)
  generalize hAe : va_A [(h0, .inr (6, [.ref qx, .ref qy, .ref qo, .ref qc, .ref qg, .ref qm, .int (nI (p0)), .int ct])), (qo, .inl (cO, 64, .inl (fo))), (qg, .inl (cG, 24, .inl (fg))), (qw, .inr (0, [.ref qa, .int (nI (a)), .int (nI (n)), .int (bI mi)])), (qa, .inl (cA, 1200, .inl (f)))] s.heap.size = A at hD ⊢
  have hA : ∀ q : Nat, s.heap.size ≤ q → A q := fun q h => by rw [← hAe]; exact Or.inr h
  have hS : va_S A s.heap s.heap [] := va_S.rf
  have hP : va_P (dC, dI) cls_ [(h0, .inr (6, [.ref qx, .ref qy, .ref qo, .ref qc, .ref qg, .ref qm, .int (nI (p0)), .int ct])), (qo, .inl (cO, 64, .inl (fo))), (qg, .inl (cG, 24, .inl (fg))), (qw, .inr (0, [.ref qa, .int (nI (a)), .int (nI (n)), .int (bI mi)])), (qa, .inl (cA, 1200, .inl (f)))] s.heap := hP
  have hl := lv_entry ([.ref h0, .ref qw, .int pl, .int (nI (cn))]) (n := 9) (Nat.le_of_ble_eq_true rfl)
  rw [lg_entry_eq]
  generalize (lg_sl ([.ref h0, .ref qw, .int pl, .int (nI (cn))]) ++ List.replicate (9 - (lg_sl ([.ref h0, .ref qw, .int pl, .int (nI (cn))])).length) Slot.unset).toArray = ls at hl ⊢
  have hl : lv_has ls 9 [(0, .ref h0), (1, .ref qw), (2, .int pl), (3, .int (nI (cn)))] := hl
  refine lv_iload_n hx hb d_OU_readFlags_0 rfl (lv_at hl 2 rfl) ?_
  refine lv_istore (lv' := [(4, .int pl), (0, .ref h0), (1, .ref qw), (2, .int pl), (3, .int (nI (cn)))]) hx hb d_OU_readFlags_1 hl (by decide) rfl (fun ls hl => ?_)
  refine lv_iconst (v := 0) hx hb d_OU_readFlags_3 (by decide) ?_
  refine lv_istore (lv' := [(5, .int 0), (4, .int pl), (0, .ref h0), (1, .ref qw), (2, .int pl), (3, .int (nI (cn)))]) hx hb d_OU_readFlags_4 hl (by decide) rfl (fun ls hl => ?_)
  refine lv_iconst (v := 0) hx hb d_OU_readFlags_6 (by decide) ?_
  refine lv_istore (lv' := [(6, .int 0), (5, .int 0), (4, .int pl), (0, .ref h0), (1, .ref qw), (2, .int pl), (3, .int (nI (cn)))]) hx hb d_OU_readFlags_7 hl (by decide) rfl (fun ls hl => ?_)
  refine lv_iconst (v := 0) hx hb d_OU_readFlags_9 (by decide) ?_
  refine lv_istore (lv' := [(7, .int 0), (6, .int 0), (5, .int 0), (4, .int pl), (0, .ref h0), (1, .ref qw), (2, .int pl), (3, .int (nI (cn)))]) hx hb d_OU_readFlags_10 hl (by decide) rfl (fun ls hl => ?_)
  have hP8 := hP.sub (ws' := [(h0, .inr (6, [.ref qx, .ref qy, .ref qo, .ref qc, .ref qg, .ref qm, .int (nI (p0)), .int ct])), (qo, .inl (cO, 64, .inl (fo))), (qg, .inl (cG, 24, .inl (fg))), (qw, .inr (0, [.ref qa, .int (nI (a)), .int (nI (n)), .int (bI mi)])), (qa, .inl (cA, 1200, .inl (f)))]) [0, 1, 2, 3, 4] rfl
  have hD8 := hD.sub (ws' := [(h0, .inr (6, [.ref qx, .ref qy, .ref qo, .ref qc, .ref qg, .ref qm, .int (nI (p0)), .int ct])), (qo, .inl (cO, 64, .inl (fo))), (qg, .inl (cG, 24, .inl (fg))), (qw, .inr (0, [.ref qa, .int (nI (a)), .int (nI (n)), .int (bI mi)])), (qa, .inl (cA, 1200, .inl (f)))]) [0, 1, 2, 3, 4] (by decide) rfl
  refine lv_loop (α := (Nat → Int32) × (Nat → Int32) × Bool × Nat × Int32 × Nat × Int32) 12 (fun ⟨a_qo_950, a_qg_951, f_qw_missed_952, l7_953, l6_954, l5_955, l4_956⟩ H' locs' ls' => va_P (dC, dI) cls_ [(h0, .inr (6, [.ref qx, .ref qy, .ref qo, .ref qc, .ref qg, .ref qm, .int (nI (p0)), .int ct])), (qo, .inl (cO, 64, .inl (a_qo_950))), (qg, .inl (cG, 24, .inl (a_qg_951))), (qw, .inr (0, [.ref qa, .int (nI (a)), .int (nI (n)), .int (bI f_qw_missed_952)])), (qa, .inl (cA, 1200, .inl (f)))] H' ∧ va_D A [(h0, .inr (6, [.ref qx, .ref qy, .ref qo, .ref qc, .ref qg, .ref qm, .int (nI (p0)), .int ct])), (qo, .inl (cO, 64, .inl (a_qo_950))), (qg, .inl (cG, 24, .inl (a_qg_951))), (qw, .inr (0, [.ref qa, .int (nI (a)), .int (nI (n)), .int (bI f_qw_missed_952)])), (qa, .inl (cA, 1200, .inl (f)))] ∧ va_S A s.heap H' locs' ∧ lv_has ls' 9 [(7, .int (nI (l7_953))), (6, .int l6_954), (5, .int (nI (l5_955))), (4, .int l4_956), (0, .ref h0), (1, .ref qw), (2, .int pl), (3, .int (nI (cn)))] ∧ (l7_953 ≤ cn)) (fun ⟨a_qo_950, a_qg_951, f_qw_missed_952, l7_953, l6_954, l5_955, l4_956⟩ => []) (fun ⟨a_qo_950, a_qg_951, f_qw_missed_952, l7_953, l6_954, l5_955, l4_956⟩ => cn - l7_953) ?_ (fo, fg, mi, 0, 0, 0, pl) s.heap _ ls ⟨hP8, hD8, hS, lv_sub hl [0, 1, 2, 3, 4, 5, 6, 7] rfl, by omega⟩
  intro ⟨a_qo_950, a_qg_951, f_qw_missed_952, l7_953, l6_954, l5_955, l4_956⟩ ih957 H locs ls ⟨hP, hD, hS, hl, hf958⟩
  show W p l e _ s m _ below meth c H locs _ _ _ (F0 m 12 ls [])
  have hP : va_P (dC, dI) cls_ [(h0, .inr (6, [.ref qx, .ref qy, .ref qo, .ref qc, .ref qg, .ref qm, .int (nI (p0)), .int ct])), (qo, .inl (cO, 64, .inl (a_qo_950))), (qg, .inl (cG, 24, .inl (a_qg_951))), (qw, .inr (0, [.ref qa, .int (nI (a)), .int (nI (n)), .int (bI f_qw_missed_952)])), (qa, .inl (cA, 1200, .inl (f)))] H := hP
  have hD : va_D A [(h0, .inr (6, [.ref qx, .ref qy, .ref qo, .ref qc, .ref qg, .ref qm, .int (nI (p0)), .int ct])), (qo, .inl (cO, 64, .inl (a_qo_950))), (qg, .inl (cG, 24, .inl (a_qg_951))), (qw, .inr (0, [.ref qa, .int (nI (a)), .int (nI (n)), .int (bI f_qw_missed_952)])), (qa, .inl (cA, 1200, .inl (f)))] := hD
  refine lv_iload hx hb d_OU_readFlags_12 (lv_at hl 0 rfl) ?_
  refine lv_iload_n hx hb d_OU_readFlags_14 rfl (lv_at hl 7 rfl) ?_
  refine lv_icmp_ge (tgt := 125) hx hb d_OU_readFlags_15 (by decide) (fun hc1026 => ?_) (fun hc1026 => ?_)
  · skip
    have hc1026n : cn ≤ l7_953 := (nI_leI (a := cn) (b := l7_953) (by omega) (by omega)).mp hc1026
    refine lv_iload hx hb d_OU_readFlags_125 (lv_at hl 3 rfl) ?_
    refine W.widen (k := 0) (n := 0) (Nat.le_of_ble_eq_true rfl) (Nat.le_of_ble_eq_true rfl) ?_
    have hP9 := hP.sub (ws' := [(h0, .inr (6, [.ref qx, .ref qy, .ref qo, .ref qc, .ref qg, .ref qm, .int (nI (p0)), .int ct])), (qo, .inl (cO, 64, .inl (a_qo_950))), (qg, .inl (cG, 24, .inl (a_qg_951))), (qw, .inr (0, [.ref qa, .int (nI (a)), .int (nI (n)), .int (bI f_qw_missed_952)])), (qa, .inl (cA, 1200, .inl (f)))]) [0, 1, 2, 3, 4] rfl
    have hD9 := hD.sub (ws' := [(h0, .inr (6, [.ref qx, .ref qy, .ref qo, .ref qc, .ref qg, .ref qm, .int (nI (p0)), .int ct])), (qo, .inl (cO, 64, .inl (a_qo_950))), (qg, .inl (cG, 24, .inl (a_qg_951))), (qw, .inr (0, [.ref qa, .int (nI (a)), .int (nI (n)), .int (bI f_qw_missed_952)])), (qa, .inl (cA, 1200, .inl (f)))]) [0, 1, 2, 3, 4] (by decide) rfl
    have hK9 := hK.sub (tys' := [(cO, .boolean), (cG, .int), (cA, .int)]) [0, 1, 2] rfl
    exact W.iret (v := l4_956) hx hb hr (fun t ht hW => ⟨⟨l4_956, (), rfl, trivial, f_qw_missed_952, a_qo_950, a_qg_951, by rw [ht]; exact hP9, va_K.moved hW.alike hK9, hD9⟩, hS.F ht⟩) hS.2.2 d_OU_readFlags_127
  · skip
    have hc1026n : ¬ (cn ≤ l7_953) := fun z => hc1026 ((nI_leI (a := cn) (b := l7_953) (by omega) (by omega)).mpr z)
    refine lv_iload hx hb d_OU_readFlags_18 (lv_at hl 1 rfl) ?_
    refine lv_join (α := Bool × Int32 × Int32 × Nat) 86 (fun ⟨f_qw_missed_1054, l4_1055, l6_1056, l5_1057⟩ H' locs' ls' => va_P (dC, dI) cls_ [(h0, .inr (6, [.ref qx, .ref qy, .ref qo, .ref qc, .ref qg, .ref qm, .int (nI (p0)), .int ct])), (qo, .inl (cO, 64, .inl (a_qo_950))), (qg, .inl (cG, 24, .inl (a_qg_951))), (qw, .inr (0, [.ref qa, .int (nI (a)), .int (nI (n)), .int (bI f_qw_missed_1054)])), (qa, .inl (cA, 1200, .inl (f)))] H' ∧ va_D A [(h0, .inr (6, [.ref qx, .ref qy, .ref qo, .ref qc, .ref qg, .ref qm, .int (nI (p0)), .int ct])), (qo, .inl (cO, 64, .inl (a_qo_950))), (qg, .inl (cG, 24, .inl (a_qg_951))), (qw, .inr (0, [.ref qa, .int (nI (a)), .int (nI (n)), .int (bI f_qw_missed_1054)])), (qa, .inl (cA, 1200, .inl (f)))] ∧ va_S A s.heap H' locs' ∧ lv_has ls' 9 [(4, .int l4_1055), (6, .int l6_1056), (5, .int (nI (l5_1057))), (7, .int (nI (l7_953))), (0, .ref h0), (1, .ref qw), (2, .int pl), (3, .int (nI (cn)))]) (fun ⟨f_qw_missed_1054, l4_1055, l6_1056, l5_1057⟩ => []) ?_ (fun kj1058 => ?_)
    · skip
      intro ⟨f_qw_missed_1054, l4_1055, l6_1056, l5_1057⟩ H locs ls ⟨hP, hD, hS, hl⟩
      show W p l e _ s m _ below meth c H locs _ _ _ (F0 m 86 ls [])
      have hP : va_P (dC, dI) cls_ [(h0, .inr (6, [.ref qx, .ref qy, .ref qo, .ref qc, .ref qg, .ref qm, .int (nI (p0)), .int ct])), (qo, .inl (cO, 64, .inl (a_qo_950))), (qg, .inl (cG, 24, .inl (a_qg_951))), (qw, .inr (0, [.ref qa, .int (nI (a)), .int (nI (n)), .int (bI f_qw_missed_1054)])), (qa, .inl (cA, 1200, .inl (f)))] H := hP
      have hD : va_D A [(h0, .inr (6, [.ref qx, .ref qy, .ref qo, .ref qc, .ref qg, .ref qm, .int (nI (p0)), .int ct])), (qo, .inl (cO, 64, .inl (a_qo_950))), (qg, .inl (cG, 24, .inl (a_qg_951))), (qw, .inr (0, [.ref qa, .int (nI (a)), .int (nI (n)), .int (bI f_qw_missed_1054)])), (qa, .inl (cA, 1200, .inl (f)))] := hD
      refine lv_aload_n hx hb d_OU_readFlags_86 rfl (lv_at hl 4 rfl) ?_
      refine va_get (D := (dC, dI)) (ci := 6) (v := .ref qg) (C := R_OU) (T := F_OU) (N := 8) hx hb hts in_OU hown hK hP 0 rfl rfl 4 (by decide) (hts _ (List.mem_cons_of_mem _ w_210)) (fun _ h9 => h9) rfl d_OU_readFlags_87 ?_
      refine lv_iload hx hb d_OU_readFlags_90 (lv_at hl 3 rfl) ?_
      refine lv_iload hx hb d_OU_readFlags_92 (lv_at hl 2 rfl) ?_
      refine va_iast hx hb hK hP hD hS 2 1 rfl rfl (pk_in (l7_953) 24 (by omega) rfl (by decide)) d_OU_readFlags_94 (fun H locs hP hD hS => ?_)
      have hP : va_P (dC, dI) cls_ [(h0, .inr (6, [.ref qx, .ref qy, .ref qo, .ref qc, .ref qg, .ref qm, .int (nI (p0)), .int ct])), (qo, .inl (cO, 64, .inl (a_qo_950))), (qg, .inl (cG, 24, .inl (upd (a_qg_951) (Int32.toNatClampNeg (nI (l7_953))) (nI (l5_1057))))), (qw, .inr (0, [.ref qa, .int (nI (a)), .int (nI (n)), .int (bI f_qw_missed_1054)])), (qa, .inl (cA, 1200, .inl (f)))] H := hP
      have hD : va_D A [(h0, .inr (6, [.ref qx, .ref qy, .ref qo, .ref qc, .ref qg, .ref qm, .int (nI (p0)), .int ct])), (qo, .inl (cO, 64, .inl (a_qo_950))), (qg, .inl (cG, 24, .inl (upd (a_qg_951) (Int32.toNatClampNeg (nI (l7_953))) (nI (l5_1057))))), (qw, .inr (0, [.ref qa, .int (nI (a)), .int (nI (n)), .int (bI f_qw_missed_1054)])), (qa, .inl (cA, 1200, .inl (f)))] := hD
      obtain ⟨g1059, eg1059⟩ : ∃ z : Nat → Int32, z = upd (a_qg_951) (Int32.toNatClampNeg (nI (l7_953))) (nI (l5_1057)) := ⟨_, rfl⟩
      rw [← eg1059] at hP hD
      have hP : va_P (dC, dI) cls_ [(h0, .inr (6, [.ref qx, .ref qy, .ref qo, .ref qc, .ref qg, .ref qm, .int (nI (p0)), .int ct])), (qo, .inl (cO, 64, .inl (a_qo_950))), (qg, .inl (cG, 24, .inl (g1059))), (qw, .inr (0, [.ref qa, .int (nI (a)), .int (nI (n)), .int (bI f_qw_missed_1054)])), (qa, .inl (cA, 1200, .inl (f)))] H := hP
      have hD : va_D A [(h0, .inr (6, [.ref qx, .ref qy, .ref qo, .ref qc, .ref qg, .ref qm, .int (nI (p0)), .int ct])), (qo, .inl (cO, 64, .inl (a_qo_950))), (qg, .inl (cG, 24, .inl (g1059))), (qw, .inr (0, [.ref qa, .int (nI (a)), .int (nI (n)), .int (bI f_qw_missed_1054)])), (qa, .inl (cA, 1200, .inl (f)))] := hD
      refine lv_aload_n hx hb d_OU_readFlags_95 rfl (lv_at hl 4 rfl) ?_
      refine va_get (D := (dC, dI)) (ci := 6) (v := .ref qo) (C := R_OU) (T := F_OU) (N := 8) hx hb hts in_OU hown hK hP 0 rfl rfl 2 (by decide) (hts _ (List.mem_cons_of_mem _ w_204)) (fun _ h9 => h9) rfl d_OU_readFlags_96 ?_
      refine lv_aload_n hx hb d_OU_readFlags_99 rfl (lv_at hl 4 rfl) ?_
      refine va_get (D := (dC, dI)) (ci := 6) (v := .int (nI (p0))) (C := R_OU) (T := F_OU) (N := 8) hx hb hts in_OU hown hK hP 0 rfl rfl 6 (by decide) (hts _ (List.mem_cons_of_mem _ w_212)) (fun _ h9 => h9) rfl d_OU_readFlags_100 ?_
      refine lv_iload hx hb d_OU_readFlags_103 (lv_at hl 3 rfl) ?_
      refine lv_iadd hx hb d_OU_readFlags_105 ?_
      refine lv_ci (y := nI (p0 + l7_953)) (nI_add (p0) (l7_953)) ?_
      refine lv_iload hx hb d_OU_readFlags_106 (lv_at hl 2 rfl) ?_
      refine lv_iconst (v := 1) hx hb d_OU_readFlags_108 (by decide) ?_
      refine lv_iand hx hb d_OU_readFlags_109 ?_
      refine lv_topi (fun v1060 ev1060 => ?_)
      refine lv_join (α := Bool) 118 (fun s0_1062 H' locs' ls' => va_P (dC, dI) cls_ [(h0, .inr (6, [.ref qx, .ref qy, .ref qo, .ref qc, .ref qg, .ref qm, .int (nI (p0)), .int ct])), (qo, .inl (cO, 64, .inl (a_qo_950))), (qg, .inl (cG, 24, .inl (g1059))), (qw, .inr (0, [.ref qa, .int (nI (a)), .int (nI (n)), .int (bI f_qw_missed_1054)])), (qa, .inl (cA, 1200, .inl (f)))] H' ∧ va_D A [(h0, .inr (6, [.ref qx, .ref qy, .ref qo, .ref qc, .ref qg, .ref qm, .int (nI (p0)), .int ct])), (qo, .inl (cO, 64, .inl (a_qo_950))), (qg, .inl (cG, 24, .inl (g1059))), (qw, .inr (0, [.ref qa, .int (nI (a)), .int (nI (n)), .int (bI f_qw_missed_1054)])), (qa, .inl (cA, 1200, .inl (f)))] ∧ va_S A s.heap H' locs' ∧ lv_has ls' 9 [(4, .int l4_1055), (6, .int l6_1056), (5, .int (nI (l5_1057))), (7, .int (nI (l7_953))), (0, .ref h0), (1, .ref qw), (2, .int pl), (3, .int (nI (cn)))]) (fun s0_1062 => [.int (bI s0_1062), .int (nI (p0 + l7_953)), .ref qo]) ?_ (fun kj1063 => ?_)
      · skip
        intro s0_1062 H locs ls ⟨hP, hD, hS, hl⟩
        show W p l e _ s m _ below meth c H locs _ _ _ (F0 m 118 ls [.int (bI s0_1062), .int (nI (p0 + l7_953)), .ref qo])
        have hP : va_P (dC, dI) cls_ [(h0, .inr (6, [.ref qx, .ref qy, .ref qo, .ref qc, .ref qg, .ref qm, .int (nI (p0)), .int ct])), (qo, .inl (cO, 64, .inl (a_qo_950))), (qg, .inl (cG, 24, .inl (g1059))), (qw, .inr (0, [.ref qa, .int (nI (a)), .int (nI (n)), .int (bI f_qw_missed_1054)])), (qa, .inl (cA, 1200, .inl (f)))] H := hP
        have hD : va_D A [(h0, .inr (6, [.ref qx, .ref qy, .ref qo, .ref qc, .ref qg, .ref qm, .int (nI (p0)), .int ct])), (qo, .inl (cO, 64, .inl (a_qo_950))), (qg, .inl (cG, 24, .inl (g1059))), (qw, .inr (0, [.ref qa, .int (nI (a)), .int (nI (n)), .int (bI f_qw_missed_1054)])), (qa, .inl (cA, 1200, .inl (f)))] := hD
        refine va_zast hx hb hK hP hD hS 1 0 rfl rfl (pk_in (p0 + l7_953) 64 (by omega) rfl (by decide)) d_OU_readFlags_118 (fun H locs hP hD hS => ?_)
        have hP : va_P (dC, dI) cls_ [(h0, .inr (6, [.ref qx, .ref qy, .ref qo, .ref qc, .ref qg, .ref qm, .int (nI (p0)), .int ct])), (qo, .inl (cO, 64, .inl (upd (a_qo_950) (Int32.toNatClampNeg (nI (p0 + l7_953))) (vp_nar .boolean (bI s0_1062))))), (qg, .inl (cG, 24, .inl (g1059))), (qw, .inr (0, [.ref qa, .int (nI (a)), .int (nI (n)), .int (bI f_qw_missed_1054)])), (qa, .inl (cA, 1200, .inl (f)))] H := hP
        have hD : va_D A [(h0, .inr (6, [.ref qx, .ref qy, .ref qo, .ref qc, .ref qg, .ref qm, .int (nI (p0)), .int ct])), (qo, .inl (cO, 64, .inl (upd (a_qo_950) (Int32.toNatClampNeg (nI (p0 + l7_953))) (vp_nar .boolean (bI s0_1062))))), (qg, .inl (cG, 24, .inl (g1059))), (qw, .inr (0, [.ref qa, .int (nI (a)), .int (nI (n)), .int (bI f_qw_missed_1054)])), (qa, .inl (cA, 1200, .inl (f)))] := hD
        obtain ⟨g1064, eg1064⟩ : ∃ z : Nat → Int32, z = upd (a_qo_950) (Int32.toNatClampNeg (nI (p0 + l7_953))) (vp_nar .boolean (bI s0_1062)) := ⟨_, rfl⟩
        rw [← eg1064] at hP hD
        have hP : va_P (dC, dI) cls_ [(h0, .inr (6, [.ref qx, .ref qy, .ref qo, .ref qc, .ref qg, .ref qm, .int (nI (p0)), .int ct])), (qo, .inl (cO, 64, .inl (g1064))), (qg, .inl (cG, 24, .inl (g1059))), (qw, .inr (0, [.ref qa, .int (nI (a)), .int (nI (n)), .int (bI f_qw_missed_1054)])), (qa, .inl (cA, 1200, .inl (f)))] H := hP
        have hD : va_D A [(h0, .inr (6, [.ref qx, .ref qy, .ref qo, .ref qc, .ref qg, .ref qm, .int (nI (p0)), .int ct])), (qo, .inl (cO, 64, .inl (g1064))), (qg, .inl (cG, 24, .inl (g1059))), (qw, .inr (0, [.ref qa, .int (nI (a)), .int (nI (n)), .int (bI f_qw_missed_1054)])), (qa, .inl (cA, 1200, .inl (f)))] := hD
        refine lv_iinc (k := 3) (v := nI (l7_953 + 1)) (lv' := [(7, .int (nI (l7_953 + 1))), (4, .int l4_1055), (6, .int l6_1056), (5, .int (nI (l5_1057))), (0, .ref h0), (1, .ref qw), (2, .int pl), (3, .int (nI (cn)))]) hx hb d_OU_readFlags_119 hl rfl (nI_add (l7_953) 1) (by decide) rfl (fun ls hl => ?_)
        refine lv_goto (tgt := 12) hx hb d_OU_readFlags_122 (by decide) ?_
        have hP8 := hP.sub (ws' := [(h0, .inr (6, [.ref qx, .ref qy, .ref qo, .ref qc, .ref qg, .ref qm, .int (nI (p0)), .int ct])), (qo, .inl (cO, 64, .inl (g1064))), (qg, .inl (cG, 24, .inl (g1059))), (qw, .inr (0, [.ref qa, .int (nI (a)), .int (nI (n)), .int (bI f_qw_missed_1054)])), (qa, .inl (cA, 1200, .inl (f)))]) [0, 1, 2, 3, 4] rfl
        have hD8 := hD.sub (ws' := [(h0, .inr (6, [.ref qx, .ref qy, .ref qo, .ref qc, .ref qg, .ref qm, .int (nI (p0)), .int ct])), (qo, .inl (cO, 64, .inl (g1064))), (qg, .inl (cG, 24, .inl (g1059))), (qw, .inr (0, [.ref qa, .int (nI (a)), .int (nI (n)), .int (bI f_qw_missed_1054)])), (qa, .inl (cA, 1200, .inl (f)))]) [0, 1, 2, 3, 4] (by decide) rfl
        exact ih957 (g1064, g1059, f_qw_missed_1054, l7_953 + 1, l6_1056, l5_1057, l4_1055) H locs ls (by show cn - (l7_953 + 1) < cn - l7_953; omega) ⟨hP8, hD8, hS, lv_sub hl [0, 2, 3, 1, 4, 5, 6, 7] rfl, by omega⟩
      · skip
        refine lv_if_eq (tgt := 117) hx hb d_OU_readFlags_110 (by decide) (fun hc1065 => ?_) (fun hc1065 => ?_)
        · skip
          refine lv_iconst (v := 0) hx hb d_OU_readFlags_117 (by decide) ?_
          have hP8 := hP.sub (ws' := [(h0, .inr (6, [.ref qx, .ref qy, .ref qo, .ref qc, .ref qg, .ref qm, .int (nI (p0)), .int ct])), (qo, .inl (cO, 64, .inl (a_qo_950))), (qg, .inl (cG, 24, .inl (g1059))), (qw, .inr (0, [.ref qa, .int (nI (a)), .int (nI (n)), .int (bI f_qw_missed_1054)])), (qa, .inl (cA, 1200, .inl (f)))]) [0, 1, 2, 3, 4] rfl
          have hD8 := hD.sub (ws' := [(h0, .inr (6, [.ref qx, .ref qy, .ref qo, .ref qc, .ref qg, .ref qm, .int (nI (p0)), .int ct])), (qo, .inl (cO, 64, .inl (a_qo_950))), (qg, .inl (cG, 24, .inl (g1059))), (qw, .inr (0, [.ref qa, .int (nI (a)), .int (nI (n)), .int (bI f_qw_missed_1054)])), (qa, .inl (cA, 1200, .inl (f)))]) [0, 1, 2, 3, 4] (by decide) rfl
          exact kj1063 (false) H locs ls ⟨hP8, hD8, hS, lv_sub hl [0, 1, 2, 3, 4, 5, 6, 7] rfl⟩
        · skip
          refine lv_iconst (v := 1) hx hb d_OU_readFlags_113 (by decide) ?_
          refine lv_goto (tgt := 118) hx hb d_OU_readFlags_114 (by decide) ?_
          have hP8 := hP.sub (ws' := [(h0, .inr (6, [.ref qx, .ref qy, .ref qo, .ref qc, .ref qg, .ref qm, .int (nI (p0)), .int ct])), (qo, .inl (cO, 64, .inl (a_qo_950))), (qg, .inl (cG, 24, .inl (g1059))), (qw, .inr (0, [.ref qa, .int (nI (a)), .int (nI (n)), .int (bI f_qw_missed_1054)])), (qa, .inl (cA, 1200, .inl (f)))]) [0, 1, 2, 3, 4] rfl
          have hD8 := hD.sub (ws' := [(h0, .inr (6, [.ref qx, .ref qy, .ref qo, .ref qc, .ref qg, .ref qm, .int (nI (p0)), .int ct])), (qo, .inl (cO, 64, .inl (a_qo_950))), (qg, .inl (cG, 24, .inl (g1059))), (qw, .inr (0, [.ref qa, .int (nI (a)), .int (nI (n)), .int (bI f_qw_missed_1054)])), (qa, .inl (cA, 1200, .inl (f)))]) [0, 1, 2, 3, 4] (by decide) rfl
          exact kj1063 (true) H locs ls ⟨hP8, hD8, hS, lv_sub hl [0, 1, 2, 3, 4, 5, 6, 7] rfl⟩
    · skip
      refine lv_if_le (tgt := 29) hx hb d_OU_readFlags_20 (by decide) (fun hc1066 => ?_) (fun hc1066 => ?_)
      · skip
        refine lv_aload_n hx hb d_OU_readFlags_29 rfl (lv_at hl 5 rfl) ?_
        refine lv_iload hx hb d_OU_readFlags_30 (lv_at hl 3 rfl) ?_
        have hPc := hP.sub (ws' := [(qw, .inr (0, [.ref qa, .int (nI (a)), .int (nI (n)), .int (bI f_qw_missed_952)])), (qa, .inl (cA, 1200, .inl (f)))]) [3, 4] rfl
        have hDc := hD.sub (ws' := [(qw, .inr (0, [.ref qa, .int (nI (a)), .int (nI (n)), .int (bI f_qw_missed_952)])), (qa, .inl (cA, 1200, .inl (f)))]) [3, 4] (by decide) rfl
        have hKc := hK.sub (tys' := [(cA, .int)]) [2] rfl
        have hFc := va_free (wc := [(qw, .inr (0, [.ref qa, .int (nI (a)), .int (nI (n)), .int (bI f_qw_missed_952)])), (qa, .inl (cA, 1200, .inl (f)))]) hD hS hA [3, 4] rfl
        refine va_calli (va_runV (As := [.int l4_956]) (rest := []) ⟨hx, hb, hml, hown, hts⟩ (g_SP_u8 l dC dI qw qa a n f_qw_missed_952 cA f l4_956 H.size (by omega) (by assumption)) (cwV 1 hts (tw_inV w_531 w_500 w_501 w_4 w_502) rfl rfl rfl (by decide +kernel) ⟨Nat.le_of_ble_eq_true rfl, Nat.le_of_ble_eq_true rfl⟩) ⟨fun a U g mk q => by obtain ⟨q0, q1, qP, qK, qD⟩ := q; exact ⟨q0, q1, qP, va_K.moved (u := U) (U := U.calling g mk a) (Vm.Alike.refl U.vm) qK, qD⟩, va_recv (hK := hK) (hP := hP) (q0 := 3) (ci := 0) rfl rfl, fun U hU hW => ⟨rfl, by rw [hU], by rw [hU]; exact hPc, va_K.moved hW.alike hKc, hDc.weaken (fun _ _ _ _ => trivial)⟩⟩ rfl rfl hl.1 rfl (lv_room (Nat.le_of_ble_eq_true rfl)) d_OU_readFlags_32 ⟨Nat.le_of_ble_eq_true rfl, Nat.le_of_ble_eq_true rfl⟩) hS (fun q _ h => hFc q h) hFc (fun r1067 u t H1 locs ht hvm hw hB hz1 hk1 hS => ?_)
        obtain ⟨m_1068, hP1, hK1, hD1⟩ := hB
        rw [ht] at hP1
        have hK1 := va_K.moved hvm.symm hK1
        obtain ⟨hP, hD⟩ := va_join (wr := [(h0, .inr (6, [.ref qx, .ref qy, .ref qo, .ref qc, .ref qg, .ref qm, .int (nI (p0)), .int ct])), (qo, .inl (cO, 64, .inl (a_qo_950))), (qg, .inl (cG, 24, .inl (a_qg_951)))]) (w1 := [(qw, .inr (0, [.ref qa, .int (nI (a)), .int (nI (n)), .int (bI m_1068)])), (qa, .inl (cA, 1200, .inl (f)))]) hP hD [3, 4] [0, 1, 2] rfl rfl (by decide) (by decide) hk1 hFc hP1 hD1
        have hK := (hK.sub (tys' := [(cO, .boolean), (cG, .int)]) [0, 1] rfl).app hK1
        generalize H1 = H at hP hS ⊢
        have hP : va_P (dC, dI) cls_ [(h0, .inr (6, [.ref qx, .ref qy, .ref qo, .ref qc, .ref qg, .ref qm, .int (nI (p0)), .int ct])), (qo, .inl (cO, 64, .inl (a_qo_950))), (qg, .inl (cG, 24, .inl (a_qg_951))), (qw, .inr (0, [.ref qa, .int (nI (a)), .int (nI (n)), .int (bI m_1068)])), (qa, .inl (cA, 1200, .inl (f)))] H := hP
        have hD : va_D A [(h0, .inr (6, [.ref qx, .ref qy, .ref qo, .ref qc, .ref qg, .ref qm, .int (nI (p0)), .int ct])), (qo, .inl (cO, 64, .inl (a_qo_950))), (qg, .inl (cG, 24, .inl (a_qg_951))), (qw, .inr (0, [.ref qa, .int (nI (a)), .int (nI (n)), .int (bI m_1068)])), (qa, .inl (cA, 1200, .inl (f)))] := hD
        have hK : va_K (dC, dI) cls_ [(cO, .boolean), (cG, .int), (cA, .int)] s := hK
        have hw_r1067 := hw
        obtain ⟨kn1069, hb_kn1069, rfl⟩ := hw_r1067
        refine lv_istore (lv' := [(5, .int (nI (kn1069))), (7, .int (nI (l7_953))), (6, .int l6_954), (4, .int l4_956), (0, .ref h0), (1, .ref qw), (2, .int pl), (3, .int (nI (cn)))]) hx hb d_OU_readFlags_35 hl (by decide) rfl (fun ls hl => ?_)
        refine lv_iload hx hb d_OU_readFlags_37 (lv_at hl 0 rfl) ?_
        refine lv_bipush (v := 8) hx hb d_OU_readFlags_39 (by decide) ?_
        refine lv_iand hx hb d_OU_readFlags_41 ?_
        refine lv_topi (fun v1070 ev1070 => ?_)
        refine lv_join (α := Bool) 50 (fun s0_1072 H' locs' ls' => va_P (dC, dI) cls_ [(h0, .inr (6, [.ref qx, .ref qy, .ref qo, .ref qc, .ref qg, .ref qm, .int (nI (p0)), .int ct])), (qo, .inl (cO, 64, .inl (a_qo_950))), (qg, .inl (cG, 24, .inl (a_qg_951))), (qw, .inr (0, [.ref qa, .int (nI (a)), .int (nI (n)), .int (bI m_1068)])), (qa, .inl (cA, 1200, .inl (f)))] H' ∧ va_D A [(h0, .inr (6, [.ref qx, .ref qy, .ref qo, .ref qc, .ref qg, .ref qm, .int (nI (p0)), .int ct])), (qo, .inl (cO, 64, .inl (a_qo_950))), (qg, .inl (cG, 24, .inl (a_qg_951))), (qw, .inr (0, [.ref qa, .int (nI (a)), .int (nI (n)), .int (bI m_1068)])), (qa, .inl (cA, 1200, .inl (f)))] ∧ va_S A s.heap H' locs' ∧ lv_has ls' 9 [(5, .int (nI (kn1069))), (7, .int (nI (l7_953))), (6, .int l6_954), (4, .int l4_956), (0, .ref h0), (1, .ref qw), (2, .int pl), (3, .int (nI (cn)))]) (fun s0_1072 => [.int (bI s0_1072)]) ?_ (fun kj1073 => ?_)
        · skip
          intro s0_1072 H locs ls ⟨hP, hD, hS, hl⟩
          show W p l e _ s m _ below meth c H locs _ _ _ (F0 m 50 ls [.int (bI s0_1072)])
          have hP : va_P (dC, dI) cls_ [(h0, .inr (6, [.ref qx, .ref qy, .ref qo, .ref qc, .ref qg, .ref qm, .int (nI (p0)), .int ct])), (qo, .inl (cO, 64, .inl (a_qo_950))), (qg, .inl (cG, 24, .inl (a_qg_951))), (qw, .inr (0, [.ref qa, .int (nI (a)), .int (nI (n)), .int (bI m_1068)])), (qa, .inl (cA, 1200, .inl (f)))] H := hP
          have hD : va_D A [(h0, .inr (6, [.ref qx, .ref qy, .ref qo, .ref qc, .ref qg, .ref qm, .int (nI (p0)), .int ct])), (qo, .inl (cO, 64, .inl (a_qo_950))), (qg, .inl (cG, 24, .inl (a_qg_951))), (qw, .inr (0, [.ref qa, .int (nI (a)), .int (nI (n)), .int (bI m_1068)])), (qa, .inl (cA, 1200, .inl (f)))] := hD
          refine lv_istore (lv' := [(8, .int (bI s0_1072)), (5, .int (nI (kn1069))), (7, .int (nI (l7_953))), (6, .int l6_954), (4, .int l4_956), (0, .ref h0), (1, .ref qw), (2, .int pl), (3, .int (nI (cn)))]) hx hb d_OU_readFlags_50 hl (by decide) rfl (fun ls hl => ?_)
          refine lv_iload hx hb d_OU_readFlags_52 (lv_at hl 0 rfl) ?_
          refine lv_join (α := Bool × Nat) 69 (fun ⟨f_qw_missed_1079, s0_1080⟩ H' locs' ls' => va_P (dC, dI) cls_ [(h0, .inr (6, [.ref qx, .ref qy, .ref qo, .ref qc, .ref qg, .ref qm, .int (nI (p0)), .int ct])), (qo, .inl (cO, 64, .inl (a_qo_950))), (qg, .inl (cG, 24, .inl (a_qg_951))), (qw, .inr (0, [.ref qa, .int (nI (a)), .int (nI (n)), .int (bI f_qw_missed_1079)])), (qa, .inl (cA, 1200, .inl (f)))] H' ∧ va_D A [(h0, .inr (6, [.ref qx, .ref qy, .ref qo, .ref qc, .ref qg, .ref qm, .int (nI (p0)), .int ct])), (qo, .inl (cO, 64, .inl (a_qo_950))), (qg, .inl (cG, 24, .inl (a_qg_951))), (qw, .inr (0, [.ref qa, .int (nI (a)), .int (nI (n)), .int (bI f_qw_missed_1079)])), (qa, .inl (cA, 1200, .inl (f)))] ∧ va_S A s.heap H' locs' ∧ lv_has ls' 9 [(8, .int (bI s0_1072)), (5, .int (nI (kn1069))), (7, .int (nI (l7_953))), (6, .int l6_954), (4, .int l4_956), (0, .ref h0), (1, .ref qw), (2, .int pl), (3, .int (nI (cn)))]) (fun ⟨f_qw_missed_1079, s0_1080⟩ => [.int (nI (s0_1080))]) ?_ (fun kj1081 => ?_)
          · skip
            intro ⟨f_qw_missed_1079, s0_1080⟩ H locs ls ⟨hP, hD, hS, hl⟩
            show W p l e _ s m _ below meth c H locs _ _ _ (F0 m 69 ls [.int (nI (s0_1080))])
            have hP : va_P (dC, dI) cls_ [(h0, .inr (6, [.ref qx, .ref qy, .ref qo, .ref qc, .ref qg, .ref qm, .int (nI (p0)), .int ct])), (qo, .inl (cO, 64, .inl (a_qo_950))), (qg, .inl (cG, 24, .inl (a_qg_951))), (qw, .inr (0, [.ref qa, .int (nI (a)), .int (nI (n)), .int (bI f_qw_missed_1079)])), (qa, .inl (cA, 1200, .inl (f)))] H := hP
            have hD : va_D A [(h0, .inr (6, [.ref qx, .ref qy, .ref qo, .ref qc, .ref qg, .ref qm, .int (nI (p0)), .int ct])), (qo, .inl (cO, 64, .inl (a_qo_950))), (qg, .inl (cG, 24, .inl (a_qg_951))), (qw, .inr (0, [.ref qa, .int (nI (a)), .int (nI (n)), .int (bI f_qw_missed_1079)])), (qa, .inl (cA, 1200, .inl (f)))] := hD
            refine lv_istore (lv' := [(6, .int (nI (s0_1080))), (8, .int (bI s0_1072)), (5, .int (nI (kn1069))), (7, .int (nI (l7_953))), (4, .int l4_956), (0, .ref h0), (1, .ref qw), (2, .int pl), (3, .int (nI (cn)))]) hx hb d_OU_readFlags_69 hl (by decide) rfl (fun ls hl => ?_)
            refine lv_iload hx hb d_OU_readFlags_71 (lv_at hl 4 rfl) ?_
            refine lv_iload hx hb d_OU_readFlags_73 (lv_at hl 1 rfl) ?_
            refine lv_join (α := Nat) 83 (fun s0_1083 H' locs' ls' => va_P (dC, dI) cls_ [(h0, .inr (6, [.ref qx, .ref qy, .ref qo, .ref qc, .ref qg, .ref qm, .int (nI (p0)), .int ct])), (qo, .inl (cO, 64, .inl (a_qo_950))), (qg, .inl (cG, 24, .inl (a_qg_951))), (qw, .inr (0, [.ref qa, .int (nI (a)), .int (nI (n)), .int (bI f_qw_missed_1079)])), (qa, .inl (cA, 1200, .inl (f)))] H' ∧ va_D A [(h0, .inr (6, [.ref qx, .ref qy, .ref qo, .ref qc, .ref qg, .ref qm, .int (nI (p0)), .int ct])), (qo, .inl (cO, 64, .inl (a_qo_950))), (qg, .inl (cG, 24, .inl (a_qg_951))), (qw, .inr (0, [.ref qa, .int (nI (a)), .int (nI (n)), .int (bI f_qw_missed_1079)])), (qa, .inl (cA, 1200, .inl (f)))] ∧ va_S A s.heap H' locs' ∧ lv_has ls' 9 [(6, .int (nI (s0_1080))), (8, .int (bI s0_1072)), (5, .int (nI (kn1069))), (7, .int (nI (l7_953))), (4, .int l4_956), (0, .ref h0), (1, .ref qw), (2, .int pl), (3, .int (nI (cn)))]) (fun s0_1083 => [.int (nI (s0_1083)), .int l4_956]) ?_ (fun kj1084 => ?_)
            · skip
              intro s0_1083 H locs ls ⟨hP, hD, hS, hl⟩
              show W p l e _ s m _ below meth c H locs _ _ _ (F0 m 83 ls [.int (nI (s0_1083)), .int l4_956])
              have hP : va_P (dC, dI) cls_ [(h0, .inr (6, [.ref qx, .ref qy, .ref qo, .ref qc, .ref qg, .ref qm, .int (nI (p0)), .int ct])), (qo, .inl (cO, 64, .inl (a_qo_950))), (qg, .inl (cG, 24, .inl (a_qg_951))), (qw, .inr (0, [.ref qa, .int (nI (a)), .int (nI (n)), .int (bI f_qw_missed_1079)])), (qa, .inl (cA, 1200, .inl (f)))] H := hP
              have hD : va_D A [(h0, .inr (6, [.ref qx, .ref qy, .ref qo, .ref qc, .ref qg, .ref qm, .int (nI (p0)), .int ct])), (qo, .inl (cO, 64, .inl (a_qo_950))), (qg, .inl (cG, 24, .inl (a_qg_951))), (qw, .inr (0, [.ref qa, .int (nI (a)), .int (nI (n)), .int (bI f_qw_missed_1079)])), (qa, .inl (cA, 1200, .inl (f)))] := hD
              refine lv_iadd hx hb d_OU_readFlags_83 ?_
              refine lv_topi (fun v1085 ev1085 => ?_)
              refine lv_istore (lv' := [(4, .int v1085), (6, .int (nI (s0_1080))), (8, .int (bI s0_1072)), (5, .int (nI (kn1069))), (7, .int (nI (l7_953))), (0, .ref h0), (1, .ref qw), (2, .int pl), (3, .int (nI (cn)))]) hx hb d_OU_readFlags_84 hl (by decide) rfl (fun ls hl => ?_)
              have hP8 := hP.sub (ws' := [(h0, .inr (6, [.ref qx, .ref qy, .ref qo, .ref qc, .ref qg, .ref qm, .int (nI (p0)), .int ct])), (qo, .inl (cO, 64, .inl (a_qo_950))), (qg, .inl (cG, 24, .inl (a_qg_951))), (qw, .inr (0, [.ref qa, .int (nI (a)), .int (nI (n)), .int (bI f_qw_missed_1079)])), (qa, .inl (cA, 1200, .inl (f)))]) [0, 1, 2, 3, 4] rfl
              have hD8 := hD.sub (ws' := [(h0, .inr (6, [.ref qx, .ref qy, .ref qo, .ref qc, .ref qg, .ref qm, .int (nI (p0)), .int ct])), (qo, .inl (cO, 64, .inl (a_qo_950))), (qg, .inl (cG, 24, .inl (a_qg_951))), (qw, .inr (0, [.ref qa, .int (nI (a)), .int (nI (n)), .int (bI f_qw_missed_1079)])), (qa, .inl (cA, 1200, .inl (f)))]) [0, 1, 2, 3, 4] (by decide) rfl
              exact kj1058 (f_qw_missed_1079, v1085, nI (s0_1080), kn1069) H locs ls ⟨hP8, hD8, hS, lv_sub hl [0, 1, 3, 4, 5, 6, 7, 8] rfl⟩
            · skip
              refine lv_if_eq (tgt := 82) hx hb d_OU_readFlags_75 (by decide) (fun hc1086 => ?_) (fun hc1086 => ?_)
              · skip
                have hc1086b : s0_1072 = false := bI_0 hc1086
                refine lv_iconst (v := 1) hx hb d_OU_readFlags_82 (by decide) ?_
                have hP8 := hP.sub (ws' := [(h0, .inr (6, [.ref qx, .ref qy, .ref qo, .ref qc, .ref qg, .ref qm, .int (nI (p0)), .int ct])), (qo, .inl (cO, 64, .inl (a_qo_950))), (qg, .inl (cG, 24, .inl (a_qg_951))), (qw, .inr (0, [.ref qa, .int (nI (a)), .int (nI (n)), .int (bI f_qw_missed_1079)])), (qa, .inl (cA, 1200, .inl (f)))]) [0, 1, 2, 3, 4] rfl
                have hD8 := hD.sub (ws' := [(h0, .inr (6, [.ref qx, .ref qy, .ref qo, .ref qc, .ref qg, .ref qm, .int (nI (p0)), .int ct])), (qo, .inl (cO, 64, .inl (a_qo_950))), (qg, .inl (cG, 24, .inl (a_qg_951))), (qw, .inr (0, [.ref qa, .int (nI (a)), .int (nI (n)), .int (bI f_qw_missed_1079)])), (qa, .inl (cA, 1200, .inl (f)))]) [0, 1, 2, 3, 4] (by decide) rfl
                exact kj1084 (1) H locs ls ⟨hP8, hD8, hS, lv_sub hl [0, 1, 2, 3, 4, 5, 6, 7, 8] rfl⟩
              · skip
                have hc1086b : s0_1072 = true := bI_1 hc1086
                refine lv_iconst (v := 2) hx hb d_OU_readFlags_78 (by decide) ?_
                refine lv_goto (tgt := 83) hx hb d_OU_readFlags_79 (by decide) ?_
                have hP8 := hP.sub (ws' := [(h0, .inr (6, [.ref qx, .ref qy, .ref qo, .ref qc, .ref qg, .ref qm, .int (nI (p0)), .int ct])), (qo, .inl (cO, 64, .inl (a_qo_950))), (qg, .inl (cG, 24, .inl (a_qg_951))), (qw, .inr (0, [.ref qa, .int (nI (a)), .int (nI (n)), .int (bI f_qw_missed_1079)])), (qa, .inl (cA, 1200, .inl (f)))]) [0, 1, 2, 3, 4] rfl
                have hD8 := hD.sub (ws' := [(h0, .inr (6, [.ref qx, .ref qy, .ref qo, .ref qc, .ref qg, .ref qm, .int (nI (p0)), .int ct])), (qo, .inl (cO, 64, .inl (a_qo_950))), (qg, .inl (cG, 24, .inl (a_qg_951))), (qw, .inr (0, [.ref qa, .int (nI (a)), .int (nI (n)), .int (bI f_qw_missed_1079)])), (qa, .inl (cA, 1200, .inl (f)))]) [0, 1, 2, 3, 4] (by decide) rfl
                exact kj1084 (2) H locs ls ⟨hP8, hD8, hS, lv_sub hl [0, 1, 2, 3, 4, 5, 6, 7, 8] rfl⟩
          · skip
            refine lv_if_eq (tgt := 68) hx hb d_OU_readFlags_54 (by decide) (fun hc1087 => ?_) (fun hc1087 => ?_)
            · skip
              have hc1087b : s0_1072 = false := bI_0 hc1087
              refine lv_iconst (v := 0) hx hb d_OU_readFlags_68 (by decide) ?_
              have hP8 := hP.sub (ws' := [(h0, .inr (6, [.ref qx, .ref qy, .ref qo, .ref qc, .ref qg, .ref qm, .int (nI (p0)), .int ct])), (qo, .inl (cO, 64, .inl (a_qo_950))), (qg, .inl (cG, 24, .inl (a_qg_951))), (qw, .inr (0, [.ref qa, .int (nI (a)), .int (nI (n)), .int (bI m_1068)])), (qa, .inl (cA, 1200, .inl (f)))]) [0, 1, 2, 3, 4] rfl
              have hD8 := hD.sub (ws' := [(h0, .inr (6, [.ref qx, .ref qy, .ref qo, .ref qc, .ref qg, .ref qm, .int (nI (p0)), .int ct])), (qo, .inl (cO, 64, .inl (a_qo_950))), (qg, .inl (cG, 24, .inl (a_qg_951))), (qw, .inr (0, [.ref qa, .int (nI (a)), .int (nI (n)), .int (bI m_1068)])), (qa, .inl (cA, 1200, .inl (f)))]) [0, 1, 2, 3, 4] (by decide) rfl
              exact kj1081 (m_1068, 0) H locs ls ⟨hP8, hD8, hS, lv_sub hl [0, 1, 2, 3, 4, 5, 6, 7, 8] rfl⟩
            · skip
              have hc1087b : s0_1072 = true := bI_1 hc1087
              refine lv_aload_n hx hb d_OU_readFlags_57 rfl (lv_at hl 6 rfl) ?_
              refine lv_iload hx hb d_OU_readFlags_58 (lv_at hl 4 rfl) ?_
              refine lv_iconst (v := 1) hx hb d_OU_readFlags_60 (by decide) ?_
              refine lv_iadd hx hb d_OU_readFlags_61 ?_
              refine lv_topi (fun v1088 ev1088 => ?_)
              have hPc := hP.sub (ws' := [(qw, .inr (0, [.ref qa, .int (nI (a)), .int (nI (n)), .int (bI m_1068)])), (qa, .inl (cA, 1200, .inl (f)))]) [3, 4] rfl
              have hDc := hD.sub (ws' := [(qw, .inr (0, [.ref qa, .int (nI (a)), .int (nI (n)), .int (bI m_1068)])), (qa, .inl (cA, 1200, .inl (f)))]) [3, 4] (by decide) rfl
              have hKc := hK.sub (tys' := [(cA, .int)]) [2] rfl
              have hFc := va_free (wc := [(qw, .inr (0, [.ref qa, .int (nI (a)), .int (nI (n)), .int (bI m_1068)])), (qa, .inl (cA, 1200, .inl (f)))]) hD hS hA [3, 4] rfl
              refine va_calli (va_runV (As := [.int v1088]) (rest := []) ⟨hx, hb, hml, hown, hts⟩ (g_SP_u8 l dC dI qw qa a n m_1068 cA f v1088 H.size (by omega) (by assumption)) (cwV 1 hts (tw_inV w_531 w_500 w_501 w_4 w_502) rfl rfl rfl (by decide +kernel) ⟨Nat.le_of_ble_eq_true rfl, Nat.le_of_ble_eq_true rfl⟩) ⟨fun a U g mk q => by obtain ⟨q0, q1, qP, qK, qD⟩ := q; exact ⟨q0, q1, qP, va_K.moved (u := U) (U := U.calling g mk a) (Vm.Alike.refl U.vm) qK, qD⟩, va_recv (hK := hK) (hP := hP) (q0 := 3) (ci := 0) rfl rfl, fun U hU hW => ⟨rfl, by rw [hU], by rw [hU]; exact hPc, va_K.moved hW.alike hKc, hDc.weaken (fun _ _ _ _ => trivial)⟩⟩ rfl rfl hl.1 rfl (lv_room (Nat.le_of_ble_eq_true rfl)) d_OU_readFlags_62 ⟨Nat.le_of_ble_eq_true rfl, Nat.le_of_ble_eq_true rfl⟩) hS (fun q _ h => hFc q h) hFc (fun r1089 u t H1 locs ht hvm hw hB hz1 hk1 hS => ?_)
              obtain ⟨m_1090, hP1, hK1, hD1⟩ := hB
              rw [ht] at hP1
              have hK1 := va_K.moved hvm.symm hK1
              obtain ⟨hP, hD⟩ := va_join (wr := [(h0, .inr (6, [.ref qx, .ref qy, .ref qo, .ref qc, .ref qg, .ref qm, .int (nI (p0)), .int ct])), (qo, .inl (cO, 64, .inl (a_qo_950))), (qg, .inl (cG, 24, .inl (a_qg_951)))]) (w1 := [(qw, .inr (0, [.ref qa, .int (nI (a)), .int (nI (n)), .int (bI m_1090)])), (qa, .inl (cA, 1200, .inl (f)))]) hP hD [3, 4] [0, 1, 2] rfl rfl (by decide) (by decide) hk1 hFc hP1 hD1
              have hK := (hK.sub (tys' := [(cO, .boolean), (cG, .int)]) [0, 1] rfl).app hK1
              generalize H1 = H at hP hS ⊢
              have hP : va_P (dC, dI) cls_ [(h0, .inr (6, [.ref qx, .ref qy, .ref qo, .ref qc, .ref qg, .ref qm, .int (nI (p0)), .int ct])), (qo, .inl (cO, 64, .inl (a_qo_950))), (qg, .inl (cG, 24, .inl (a_qg_951))), (qw, .inr (0, [.ref qa, .int (nI (a)), .int (nI (n)), .int (bI m_1090)])), (qa, .inl (cA, 1200, .inl (f)))] H := hP
              have hD : va_D A [(h0, .inr (6, [.ref qx, .ref qy, .ref qo, .ref qc, .ref qg, .ref qm, .int (nI (p0)), .int ct])), (qo, .inl (cO, 64, .inl (a_qo_950))), (qg, .inl (cG, 24, .inl (a_qg_951))), (qw, .inr (0, [.ref qa, .int (nI (a)), .int (nI (n)), .int (bI m_1090)])), (qa, .inl (cA, 1200, .inl (f)))] := hD
              have hK : va_K (dC, dI) cls_ [(cO, .boolean), (cG, .int), (cA, .int)] s := hK
              have hw_r1089 := hw
              obtain ⟨kn1091, hb_kn1091, rfl⟩ := hw_r1089
              refine lv_goto (tgt := 69) hx hb d_OU_readFlags_65 (by decide) ?_
              have hP8 := hP.sub (ws' := [(h0, .inr (6, [.ref qx, .ref qy, .ref qo, .ref qc, .ref qg, .ref qm, .int (nI (p0)), .int ct])), (qo, .inl (cO, 64, .inl (a_qo_950))), (qg, .inl (cG, 24, .inl (a_qg_951))), (qw, .inr (0, [.ref qa, .int (nI (a)), .int (nI (n)), .int (bI m_1090)])), (qa, .inl (cA, 1200, .inl (f)))]) [0, 1, 2, 3, 4] rfl
              have hD8 := hD.sub (ws' := [(h0, .inr (6, [.ref qx, .ref qy, .ref qo, .ref qc, .ref qg, .ref qm, .int (nI (p0)), .int ct])), (qo, .inl (cO, 64, .inl (a_qo_950))), (qg, .inl (cG, 24, .inl (a_qg_951))), (qw, .inr (0, [.ref qa, .int (nI (a)), .int (nI (n)), .int (bI m_1090)])), (qa, .inl (cA, 1200, .inl (f)))]) [0, 1, 2, 3, 4] (by decide) rfl
              exact kj1081 (m_1090, kn1091) H locs ls ⟨hP8, hD8, hS, lv_sub hl [0, 1, 2, 3, 4, 5, 6, 7, 8] rfl⟩
        · skip
          refine lv_if_eq (tgt := 49) hx hb d_OU_readFlags_42 (by decide) (fun hc1092 => ?_) (fun hc1092 => ?_)
          · skip
            refine lv_iconst (v := 0) hx hb d_OU_readFlags_49 (by decide) ?_
            have hP8 := hP.sub (ws' := [(h0, .inr (6, [.ref qx, .ref qy, .ref qo, .ref qc, .ref qg, .ref qm, .int (nI (p0)), .int ct])), (qo, .inl (cO, 64, .inl (a_qo_950))), (qg, .inl (cG, 24, .inl (a_qg_951))), (qw, .inr (0, [.ref qa, .int (nI (a)), .int (nI (n)), .int (bI m_1068)])), (qa, .inl (cA, 1200, .inl (f)))]) [0, 1, 2, 3, 4] rfl
            have hD8 := hD.sub (ws' := [(h0, .inr (6, [.ref qx, .ref qy, .ref qo, .ref qc, .ref qg, .ref qm, .int (nI (p0)), .int ct])), (qo, .inl (cO, 64, .inl (a_qo_950))), (qg, .inl (cG, 24, .inl (a_qg_951))), (qw, .inr (0, [.ref qa, .int (nI (a)), .int (nI (n)), .int (bI m_1068)])), (qa, .inl (cA, 1200, .inl (f)))]) [0, 1, 2, 3, 4] (by decide) rfl
            exact kj1073 (false) H locs ls ⟨hP8, hD8, hS, lv_sub hl [0, 1, 2, 3, 4, 5, 6, 7] rfl⟩
          · skip
            refine lv_iconst (v := 1) hx hb d_OU_readFlags_45 (by decide) ?_
            refine lv_goto (tgt := 50) hx hb d_OU_readFlags_46 (by decide) ?_
            have hP8 := hP.sub (ws' := [(h0, .inr (6, [.ref qx, .ref qy, .ref qo, .ref qc, .ref qg, .ref qm, .int (nI (p0)), .int ct])), (qo, .inl (cO, 64, .inl (a_qo_950))), (qg, .inl (cG, 24, .inl (a_qg_951))), (qw, .inr (0, [.ref qa, .int (nI (a)), .int (nI (n)), .int (bI m_1068)])), (qa, .inl (cA, 1200, .inl (f)))]) [0, 1, 2, 3, 4] rfl
            have hD8 := hD.sub (ws' := [(h0, .inr (6, [.ref qx, .ref qy, .ref qo, .ref qc, .ref qg, .ref qm, .int (nI (p0)), .int ct])), (qo, .inl (cO, 64, .inl (a_qo_950))), (qg, .inl (cG, 24, .inl (a_qg_951))), (qw, .inr (0, [.ref qa, .int (nI (a)), .int (nI (n)), .int (bI m_1068)])), (qa, .inl (cA, 1200, .inl (f)))]) [0, 1, 2, 3, 4] (by decide) rfl
            exact kj1073 (true) H locs ls ⟨hP8, hD8, hS, lv_sub hl [0, 1, 2, 3, 4, 5, 6, 7] rfl⟩
      · skip
        refine lv_iinc (k := 1) (v := l6_954 + (-1)) (lv' := [(6, .int (l6_954 + (-1))), (7, .int (nI (l7_953))), (5, .int (nI (l5_955))), (4, .int l4_956), (0, .ref h0), (1, .ref qw), (2, .int pl), (3, .int (nI (cn)))]) hx hb d_OU_readFlags_23 hl rfl (by first | rfl | decide +kernel) (by decide) rfl (fun ls hl => ?_)
        refine lv_goto (tgt := 86) hx hb d_OU_readFlags_26 (by decide) ?_
        have hP8 := hP.sub (ws' := [(h0, .inr (6, [.ref qx, .ref qy, .ref qo, .ref qc, .ref qg, .ref qm, .int (nI (p0)), .int ct])), (qo, .inl (cO, 64, .inl (a_qo_950))), (qg, .inl (cG, 24, .inl (a_qg_951))), (qw, .inr (0, [.ref qa, .int (nI (a)), .int (nI (n)), .int (bI f_qw_missed_952)])), (qa, .inl (cA, 1200, .inl (f)))]) [0, 1, 2, 3, 4] rfl
        have hD8 := hD.sub (ws' := [(h0, .inr (6, [.ref qx, .ref qy, .ref qo, .ref qc, .ref qg, .ref qm, .int (nI (p0)), .int ct])), (qo, .inl (cO, 64, .inl (a_qo_950))), (qg, .inl (cG, 24, .inl (a_qg_951))), (qw, .inr (0, [.ref qa, .int (nI (a)), .int (nI (n)), .int (bI f_qw_missed_952)])), (qa, .inl (cA, 1200, .inl (f)))]) [0, 1, 2, 3, 4] (by decide) rfl
        exact kj1058 (f_qw_missed_952, l4_956, l6_954 + (-1), l5_955) H locs ls ⟨hP8, hD8, hS, lv_sub hl [3, 0, 2, 1, 4, 5, 6, 7] rfl⟩
set_option maxHeartbeats 4000000 in
set_option maxRecDepth 100000 in
/-- GlyphLines$Outline.readAxis -/
theorem g_OU_readAxis (l : Launch) (dC : Nat → ClassId) (dI : Nat → Nat → Nat) (h0 : Nat) (qx : Nat) (qy : Nat) (qo : Nat) (qc : Nat) (qg : Nat) (qm : Nat) (p0 : Nat) (ct : Int32) (qw : Nat) (qa : Nat) (a : Nat) (n : Nat) (mi : Bool) (cA : ClassId) (f : Nat → Int32) (pl : Int32) (sb : Int32) (qv : Nat) (cn : Nat) (cG : ClassId) (cV : ClassId) (fg : Nat → Int32) (fv : Nat → Int32) (sz : Nat) (hq0 : a + n ≤ 1200) (hq1 : isB f) (hq2 : p0 + cn ≤ 64) (hq3 : cn ≤ 24) : Met l y_OU_readAxis s_OU_readAxis ({ frames := 10, cells := 0, slots := 0, locals := 300 }) (va_Pc [.ref h0, .ref qw, .int pl, .int (nI (cn)), .ref qv, .int sb] (fun U => U.heap.size = sz ∧ va_P (dC, dI) cls_ [(h0, .inr (6, [.ref qx, .ref qy, .ref qo, .ref qc, .ref qg, .ref qm, .int (nI (p0)), .int ct])), (qg, .inl (cG, 24, .inl (fg))), (qv, .inl (cV, 64, .inl (fv))), (qw, .inr (0, [.ref qa, .int (nI (a)), .int (nI (n)), .int (bI mi)])), (qa, .inl (cA, 1200, .inl (f)))] U.heap ∧ va_K (dC, dI) cls_ [(cG, .int), (cV, .int), (cA, .int)] U ∧ va_D (fun _ => True) [(h0, .inr (6, [.ref qx, .ref qy, .ref qo, .ref qc, .ref qg, .ref qm, .int (nI (p0)), .int ct])), (qg, .inl (cG, 24, .inl (fg))), (qv, .inl (cV, 64, .inl (fv))), (qw, .inr (0, [.ref qa, .int (nI (a)), .int (nI (n)), .int (bI mi)])), (qa, .inl (cA, 1200, .inl (f)))])) (va_Qi (fun (r : Int32) (_ : Unit) => True) (fun (_ : Unit) (t : State) => ∃ (m2 : Bool) (gv : Nat → Int32), va_P (dC, dI) cls_ [(h0, .inr (6, [.ref qx, .ref qy, .ref qo, .ref qc, .ref qg, .ref qm, .int (nI (p0)), .int ct])), (qg, .inl (cG, 24, .inl (fg))), (qv, .inl (cV, 64, .inl (gv))), (qw, .inr (0, [.ref qa, .int (nI (a)), .int (nI (n)), .int (bI m2)])), (qa, .inl (cA, 1200, .inl (f)))] t.heap ∧ va_K (dC, dI) cls_ [(cG, .int), (cV, .int), (cA, .int)] t ∧ va_D (va_A [(h0, .inr (6, [.ref qx, .ref qy, .ref qo, .ref qc, .ref qg, .ref qm, .int (nI (p0)), .int ct])), (qg, .inl (cG, 24, .inl (fg))), (qv, .inl (cV, 64, .inl (fv))), (qw, .inr (0, [.ref qa, .int (nI (a)), .int (nI (n)), .int (bI mi)])), (qa, .inl (cA, 1200, .inl (f)))] sz) [(h0, .inr (6, [.ref qx, .ref qy, .ref qo, .ref qc, .ref qg, .ref qm, .int (nI (p0)), .int ct])), (qg, .inl (cG, 24, .inl (fg))), (qv, .inl (cV, 64, .inl (gv))), (qw, .inr (0, [.ref qa, .int (nI (a)), .int (nI (n)), .int (bI m2)])), (qa, .inl (cA, 1200, .inl (f)))]) (va_A [(h0, .inr (6, [.ref qx, .ref qy, .ref qo, .ref qc, .ref qg, .ref qm, .int (nI (p0)), .int ct])), (qg, .inl (cG, 24, .inl (fg))), (qv, .inl (cV, 64, .inl (fv))), (qw, .inr (0, [.ref qa, .int (nI (a)), .int (nI (n)), .int (bI mi)])), (qa, .inl (cA, 1200, .inl (f)))] sz)) 0 0 (va_A [(h0, .inr (6, [.ref qx, .ref qy, .ref qo, .ref qc, .ref qg, .ref qm, .int (nI (p0)), .int ct])), (qg, .inl (cG, 24, .inl (fg))), (qv, .inl (cV, 64, .inl (fv))), (qw, .inr (0, [.ref qa, .int (nI (a)), .int (nI (n)), .int (bI mi)])), (qa, .inl (cA, 1200, .inl (f)))] sz) := by
  refine Met.ofW (cc := b_OU_readAxis) (maxL := 11) (ret := (some .int)) (by decide) rfl ?_
  intro p e s m args below meth c s₁ B hml hv
  obtain ⟨rfl, hsz, hP, hK, hD0⟩ := hv
  have hx := B.exec
  have hb := B.bytes
  have hr := B.returns
  have hts := atoms_spec (ws := s_OU_readAxis) B.pre
  have hown : s.vm.findClass R_OU = some m.cls := findClass_of_methodNamed B.named
  have hlocks := B.notSynchronized
  subst hsz
  have hD := hD0.self (sz := s.heap.size)
  generalize hAe : va_A [(h0, .inr (6, [.ref qx, .ref qy, .ref qo, .ref qc, .ref qg, .ref qm, .int (nI (p0)), .int ct])), (qg, .inl (cG, 24, .inl (fg))), (qv, .inl (cV, 64, .inl (fv))), (qw, .inr (0, [.ref qa, .int (nI (a)), .int (nI (n)), .int (bI mi)])), (qa, .inl (cA, 1200, .inl (f)))] s.heap.size = A at hD ⊢
  have hA : ∀ q : Nat, s.heap.size ≤ q → A q := fun q h => by rw [← hAe]; exact Or.inr h
  have hS : va_S A s.heap s.heap [] := va_S.rf
  have hP : va_P (dC, dI) cls_ [(h0, .inr (6, [.ref qx, .ref qy, .ref qo, .ref qc, .ref qg, .ref qm, .int (nI (p0)), .int ct])), (qg, .inl (cG, 24, .inl (fg))), (qv, .inl (cV, 64, .inl (fv))), (qw, .inr (0, [.ref qa, .int (nI (a)), .int (nI (n)), .int (bI mi)])), (qa, .inl (cA, 1200, .inl (f)))] s.heap := hP
  have hl := lv_entry ([.ref h0, .ref qw, .int pl, .int (nI (cn)), .ref qv, .int sb]) (n := 11) (Nat.le_of_ble_eq_true rfl)
  rw [lg_entry_eq]
  generalize (lg_sl ([.ref h0, .ref qw, .int pl, .int (nI (cn)), .ref qv, .int sb]) ++ List.replicate (11 - (lg_sl ([.ref h0, .ref qw, .int pl, .int (nI (cn)), .ref qv, .int sb])).length) Slot.unset).toArray = ls at hl ⊢
  have hl : lv_has ls 11 [(0, .ref h0), (1, .ref qw), (2, .int pl), (3, .int (nI (cn))), (4, .ref qv), (5, .int sb)] := hl
  refine lv_iload_n hx hb d_OU_readAxis_0 rfl (lv_at hl 2 rfl) ?_
  refine lv_istore (lv' := [(6, .int pl), (0, .ref h0), (1, .ref qw), (2, .int pl), (3, .int (nI (cn))), (4, .ref qv), (5, .int sb)]) hx hb d_OU_readAxis_1 hl (by decide) rfl (fun ls hl => ?_)
  refine lv_iconst (v := 0) hx hb d_OU_readAxis_3 (by decide) ?_
  refine lv_istore (lv' := [(7, .int 0), (6, .int pl), (0, .ref h0), (1, .ref qw), (2, .int pl), (3, .int (nI (cn))), (4, .ref qv), (5, .int sb)]) hx hb d_OU_readAxis_4 hl (by decide) rfl (fun ls hl => ?_)
  refine lv_iconst (v := 0) hx hb d_OU_readAxis_6 (by decide) ?_
  refine lv_istore (lv' := [(8, .int 0), (7, .int 0), (6, .int pl), (0, .ref h0), (1, .ref qw), (2, .int pl), (3, .int (nI (cn))), (4, .ref qv), (5, .int sb)]) hx hb d_OU_readAxis_7 hl (by decide) rfl (fun ls hl => ?_)
  have hP8 := hP.sub (ws' := [(h0, .inr (6, [.ref qx, .ref qy, .ref qo, .ref qc, .ref qg, .ref qm, .int (nI (p0)), .int ct])), (qg, .inl (cG, 24, .inl (fg))), (qv, .inl (cV, 64, .inl (fv))), (qw, .inr (0, [.ref qa, .int (nI (a)), .int (nI (n)), .int (bI mi)])), (qa, .inl (cA, 1200, .inl (f)))]) [0, 1, 2, 3, 4] rfl
  have hD8 := hD.sub (ws' := [(h0, .inr (6, [.ref qx, .ref qy, .ref qo, .ref qc, .ref qg, .ref qm, .int (nI (p0)), .int ct])), (qg, .inl (cG, 24, .inl (fg))), (qv, .inl (cV, 64, .inl (fv))), (qw, .inr (0, [.ref qa, .int (nI (a)), .int (nI (n)), .int (bI mi)])), (qa, .inl (cA, 1200, .inl (f)))]) [0, 1, 2, 3, 4] (by decide) rfl
  refine lv_loop (α := (Nat → Int32) × Bool × Nat × Int32 × Int32) 9 (fun ⟨a_qv_1641, f_qw_missed_1642, l8_1643, l7_1644, l6_1645⟩ H' locs' ls' => va_P (dC, dI) cls_ [(h0, .inr (6, [.ref qx, .ref qy, .ref qo, .ref qc, .ref qg, .ref qm, .int (nI (p0)), .int ct])), (qg, .inl (cG, 24, .inl (fg))), (qv, .inl (cV, 64, .inl (a_qv_1641))), (qw, .inr (0, [.ref qa, .int (nI (a)), .int (nI (n)), .int (bI f_qw_missed_1642)])), (qa, .inl (cA, 1200, .inl (f)))] H' ∧ va_D A [(h0, .inr (6, [.ref qx, .ref qy, .ref qo, .ref qc, .ref qg, .ref qm, .int (nI (p0)), .int ct])), (qg, .inl (cG, 24, .inl (fg))), (qv, .inl (cV, 64, .inl (a_qv_1641))), (qw, .inr (0, [.ref qa, .int (nI (a)), .int (nI (n)), .int (bI f_qw_missed_1642)])), (qa, .inl (cA, 1200, .inl (f)))] ∧ va_S A s.heap H' locs' ∧ lv_has ls' 11 [(8, .int (nI (l8_1643))), (7, .int l7_1644), (6, .int l6_1645), (0, .ref h0), (1, .ref qw), (2, .int pl), (3, .int (nI (cn))), (4, .ref qv), (5, .int sb)] ∧ (l8_1643 ≤ cn)) (fun ⟨a_qv_1641, f_qw_missed_1642, l8_1643, l7_1644, l6_1645⟩ => []) (fun ⟨a_qv_1641, f_qw_missed_1642, l8_1643, l7_1644, l6_1645⟩ => cn - l8_1643) ?_ (fv, mi, 0, 0, pl) s.heap _ ls ⟨hP8, hD8, hS, lv_sub hl [0, 1, 2, 3, 4, 5, 6, 7, 8] rfl, by omega⟩
  intro ⟨a_qv_1641, f_qw_missed_1642, l8_1643, l7_1644, l6_1645⟩ ih1646 H locs ls ⟨hP, hD, hS, hl, hf1647⟩
  show W p l e _ s m _ below meth c H locs _ _ _ (F0 m 9 ls [])
  have hP : va_P (dC, dI) cls_ [(h0, .inr (6, [.ref qx, .ref qy, .ref qo, .ref qc, .ref qg, .ref qm, .int (nI (p0)), .int ct])), (qg, .inl (cG, 24, .inl (fg))), (qv, .inl (cV, 64, .inl (a_qv_1641))), (qw, .inr (0, [.ref qa, .int (nI (a)), .int (nI (n)), .int (bI f_qw_missed_1642)])), (qa, .inl (cA, 1200, .inl (f)))] H := hP
  have hD : va_D A [(h0, .inr (6, [.ref qx, .ref qy, .ref qo, .ref qc, .ref qg, .ref qm, .int (nI (p0)), .int ct])), (qg, .inl (cG, 24, .inl (fg))), (qv, .inl (cV, 64, .inl (a_qv_1641))), (qw, .inr (0, [.ref qa, .int (nI (a)), .int (nI (n)), .int (bI f_qw_missed_1642)])), (qa, .inl (cA, 1200, .inl (f)))] := hD
  refine lv_iload hx hb d_OU_readAxis_9 (lv_at hl 0 rfl) ?_
  refine lv_iload_n hx hb d_OU_readAxis_11 rfl (lv_at hl 6 rfl) ?_
  refine lv_icmp_ge (tgt := 136) hx hb d_OU_readAxis_12 (by decide) (fun hc1723 => ?_) (fun hc1723 => ?_)
  · skip
    have hc1723n : cn ≤ l8_1643 := (nI_leI (a := cn) (b := l8_1643) (by omega) (by omega)).mp hc1723
    refine lv_iload hx hb d_OU_readAxis_136 (lv_at hl 2 rfl) ?_
    refine W.widen (k := 0) (n := 0) (Nat.le_of_ble_eq_true rfl) (Nat.le_of_ble_eq_true rfl) ?_
    have hP9 := hP.sub (ws' := [(h0, .inr (6, [.ref qx, .ref qy, .ref qo, .ref qc, .ref qg, .ref qm, .int (nI (p0)), .int ct])), (qg, .inl (cG, 24, .inl (fg))), (qv, .inl (cV, 64, .inl (a_qv_1641))), (qw, .inr (0, [.ref qa, .int (nI (a)), .int (nI (n)), .int (bI f_qw_missed_1642)])), (qa, .inl (cA, 1200, .inl (f)))]) [0, 1, 2, 3, 4] rfl
    have hD9 := hD.sub (ws' := [(h0, .inr (6, [.ref qx, .ref qy, .ref qo, .ref qc, .ref qg, .ref qm, .int (nI (p0)), .int ct])), (qg, .inl (cG, 24, .inl (fg))), (qv, .inl (cV, 64, .inl (a_qv_1641))), (qw, .inr (0, [.ref qa, .int (nI (a)), .int (nI (n)), .int (bI f_qw_missed_1642)])), (qa, .inl (cA, 1200, .inl (f)))]) [0, 1, 2, 3, 4] (by decide) rfl
    have hK9 := hK.sub (tys' := [(cG, .int), (cV, .int), (cA, .int)]) [0, 1, 2] rfl
    exact W.iret (v := l6_1645) hx hb hr (fun t ht hW => ⟨⟨l6_1645, (), rfl, trivial, f_qw_missed_1642, a_qv_1641, by rw [ht]; exact hP9, va_K.moved hW.alike hK9, hD9⟩, hS.F ht⟩) hS.2.2 d_OU_readAxis_138
  · skip
    have hc1723n : ¬ (cn ≤ l8_1643) := fun z => hc1723 ((nI_leI (a := cn) (b := l8_1643) (by omega) (by omega)).mpr z)
    refine lv_aload_n hx hb d_OU_readAxis_15 rfl (lv_at hl 3 rfl) ?_
    refine va_get (D := (dC, dI)) (ci := 6) (v := .ref qg) (C := R_OU) (T := F_OU) (N := 8) hx hb hts in_OU hown hK hP 0 rfl rfl 4 (by decide) (hts _ (List.mem_cons_of_mem _ w_210)) (fun _ h9 => h9) rfl d_OU_readAxis_16 ?_
    refine lv_iload hx hb d_OU_readAxis_19 (lv_at hl 0 rfl) ?_
    refine va_iald hx hb hK hP 1 0 rfl rfl (pk_in (l8_1643) 24 (by omega) rfl (by decide)) d_OU_readAxis_21 ?_
    refine lv_topi (fun v1724 ev1724 => ?_)
    refine lv_iload hx hb d_OU_readAxis_22 (lv_at hl 8 rfl) ?_
    refine lv_ishr hx hb d_OU_readAxis_24 ?_
    refine lv_topi (fun v1725 ev1725 => ?_)
    refine lv_iconst (v := 1) hx hb d_OU_readAxis_25 (by decide) ?_
    refine lv_iand hx hb d_OU_readAxis_26 ?_
    refine lv_topi (fun v1726 ev1726 => ?_)
    refine lv_join (α := Bool) 35 (fun s0_1728 H' locs' ls' => va_P (dC, dI) cls_ [(h0, .inr (6, [.ref qx, .ref qy, .ref qo, .ref qc, .ref qg, .ref qm, .int (nI (p0)), .int ct])), (qg, .inl (cG, 24, .inl (fg))), (qv, .inl (cV, 64, .inl (a_qv_1641))), (qw, .inr (0, [.ref qa, .int (nI (a)), .int (nI (n)), .int (bI f_qw_missed_1642)])), (qa, .inl (cA, 1200, .inl (f)))] H' ∧ va_D A [(h0, .inr (6, [.ref qx, .ref qy, .ref qo, .ref qc, .ref qg, .ref qm, .int (nI (p0)), .int ct])), (qg, .inl (cG, 24, .inl (fg))), (qv, .inl (cV, 64, .inl (a_qv_1641))), (qw, .inr (0, [.ref qa, .int (nI (a)), .int (nI (n)), .int (bI f_qw_missed_1642)])), (qa, .inl (cA, 1200, .inl (f)))] ∧ va_S A s.heap H' locs' ∧ lv_has ls' 11 [(8, .int (nI (l8_1643))), (7, .int l7_1644), (6, .int l6_1645), (0, .ref h0), (1, .ref qw), (2, .int pl), (3, .int (nI (cn))), (4, .ref qv), (5, .int sb)]) (fun s0_1728 => [.int (bI s0_1728)]) ?_ (fun kj1729 => ?_)
    · skip
      intro s0_1728 H locs ls ⟨hP, hD, hS, hl⟩
      show W p l e _ s m _ below meth c H locs _ _ _ (F0 m 35 ls [.int (bI s0_1728)])
      have hP : va_P (dC, dI) cls_ [(h0, .inr (6, [.ref qx, .ref qy, .ref qo, .ref qc, .ref qg, .ref qm, .int (nI (p0)), .int ct])), (qg, .inl (cG, 24, .inl (fg))), (qv, .inl (cV, 64, .inl (a_qv_1641))), (qw, .inr (0, [.ref qa, .int (nI (a)), .int (nI (n)), .int (bI f_qw_missed_1642)])), (qa, .inl (cA, 1200, .inl (f)))] H := hP
      have hD : va_D A [(h0, .inr (6, [.ref qx, .ref qy, .ref qo, .ref qc, .ref qg, .ref qm, .int (nI (p0)), .int ct])), (qg, .inl (cG, 24, .inl (fg))), (qv, .inl (cV, 64, .inl (a_qv_1641))), (qw, .inr (0, [.ref qa, .int (nI (a)), .int (nI (n)), .int (bI f_qw_missed_1642)])), (qa, .inl (cA, 1200, .inl (f)))] := hD
      refine lv_istore (lv' := [(9, .int (bI s0_1728)), (8, .int (nI (l8_1643))), (7, .int l7_1644), (6, .int l6_1645), (0, .ref h0), (1, .ref qw), (2, .int pl), (3, .int (nI (cn))), (4, .ref qv), (5, .int sb)]) hx hb d_OU_readAxis_35 hl (by decide) rfl (fun ls hl => ?_)
      refine lv_aload_n hx hb d_OU_readAxis_37 rfl (lv_at hl 4 rfl) ?_
      refine va_get (D := (dC, dI)) (ci := 6) (v := .ref qg) (C := R_OU) (T := F_OU) (N := 8) hx hb hts in_OU hown hK hP 0 rfl rfl 4 (by decide) (hts _ (List.mem_cons_of_mem _ w_210)) (fun _ h9 => h9) rfl d_OU_readAxis_38 ?_
      refine lv_iload hx hb d_OU_readAxis_41 (lv_at hl 1 rfl) ?_
      refine va_iald hx hb hK hP 1 0 rfl rfl (pk_in (l8_1643) 24 (by omega) rfl (by decide)) d_OU_readAxis_43 ?_
      refine lv_topi (fun v1730 ev1730 => ?_)
      refine lv_iload hx hb d_OU_readAxis_44 (lv_at hl 9 rfl) ?_
      refine lv_iconst (v := 3) hx hb d_OU_readAxis_46 (by decide) ?_
      refine lv_iadd hx hb d_OU_readAxis_47 ?_
      refine lv_topi (fun v1731 ev1731 => ?_)
      refine lv_ishr hx hb d_OU_readAxis_48 ?_
      refine lv_topi (fun v1732 ev1732 => ?_)
      refine lv_iconst (v := 1) hx hb d_OU_readAxis_49 (by decide) ?_
      refine lv_iand hx hb d_OU_readAxis_50 ?_
      refine lv_topi (fun v1733 ev1733 => ?_)
      refine lv_join (α := Bool) 59 (fun s0_1735 H' locs' ls' => va_P (dC, dI) cls_ [(h0, .inr (6, [.ref qx, .ref qy, .ref qo, .ref qc, .ref qg, .ref qm, .int (nI (p0)), .int ct])), (qg, .inl (cG, 24, .inl (fg))), (qv, .inl (cV, 64, .inl (a_qv_1641))), (qw, .inr (0, [.ref qa, .int (nI (a)), .int (nI (n)), .int (bI f_qw_missed_1642)])), (qa, .inl (cA, 1200, .inl (f)))] H' ∧ va_D A [(h0, .inr (6, [.ref qx, .ref qy, .ref qo, .ref qc, .ref qg, .ref qm, .int (nI (p0)), .int ct])), (qg, .inl (cG, 24, .inl (fg))), (qv, .inl (cV, 64, .inl (a_qv_1641))), (qw, .inr (0, [.ref qa, .int (nI (a)), .int (nI (n)), .int (bI f_qw_missed_1642)])), (qa, .inl (cA, 1200, .inl (f)))] ∧ va_S A s.heap H' locs' ∧ lv_has ls' 11 [(9, .int (bI s0_1728)), (8, .int (nI (l8_1643))), (7, .int l7_1644), (6, .int l6_1645), (0, .ref h0), (1, .ref qw), (2, .int pl), (3, .int (nI (cn))), (4, .ref qv), (5, .int sb)]) (fun s0_1735 => [.int (bI s0_1735)]) ?_ (fun kj1736 => ?_)
      · skip
        intro s0_1735 H locs ls ⟨hP, hD, hS, hl⟩
        show W p l e _ s m _ below meth c H locs _ _ _ (F0 m 59 ls [.int (bI s0_1735)])
        have hP : va_P (dC, dI) cls_ [(h0, .inr (6, [.ref qx, .ref qy, .ref qo, .ref qc, .ref qg, .ref qm, .int (nI (p0)), .int ct])), (qg, .inl (cG, 24, .inl (fg))), (qv, .inl (cV, 64, .inl (a_qv_1641))), (qw, .inr (0, [.ref qa, .int (nI (a)), .int (nI (n)), .int (bI f_qw_missed_1642)])), (qa, .inl (cA, 1200, .inl (f)))] H := hP
        have hD : va_D A [(h0, .inr (6, [.ref qx, .ref qy, .ref qo, .ref qc, .ref qg, .ref qm, .int (nI (p0)), .int ct])), (qg, .inl (cG, 24, .inl (fg))), (qv, .inl (cV, 64, .inl (a_qv_1641))), (qw, .inr (0, [.ref qa, .int (nI (a)), .int (nI (n)), .int (bI f_qw_missed_1642)])), (qa, .inl (cA, 1200, .inl (f)))] := hD
        refine lv_istore (lv' := [(10, .int (bI s0_1735)), (9, .int (bI s0_1728)), (8, .int (nI (l8_1643))), (7, .int l7_1644), (6, .int l6_1645), (0, .ref h0), (1, .ref qw), (2, .int pl), (3, .int (nI (cn))), (4, .ref qv), (5, .int sb)]) hx hb d_OU_readAxis_59 hl (by decide) rfl (fun ls hl => ?_)
        refine lv_iload hx hb d_OU_readAxis_61 (lv_at hl 1 rfl) ?_
        refine lv_join (α := Bool × Int32 × Int32) 118 (fun ⟨f_qw_missed_1764, l7_1765, l6_1766⟩ H' locs' ls' => va_P (dC, dI) cls_ [(h0, .inr (6, [.ref qx, .ref qy, .ref qo, .ref qc, .ref qg, .ref qm, .int (nI (p0)), .int ct])), (qg, .inl (cG, 24, .inl (fg))), (qv, .inl (cV, 64, .inl (a_qv_1641))), (qw, .inr (0, [.ref qa, .int (nI (a)), .int (nI (n)), .int (bI f_qw_missed_1764)])), (qa, .inl (cA, 1200, .inl (f)))] H' ∧ va_D A [(h0, .inr (6, [.ref qx, .ref qy, .ref qo, .ref qc, .ref qg, .ref qm, .int (nI (p0)), .int ct])), (qg, .inl (cG, 24, .inl (fg))), (qv, .inl (cV, 64, .inl (a_qv_1641))), (qw, .inr (0, [.ref qa, .int (nI (a)), .int (nI (n)), .int (bI f_qw_missed_1764)])), (qa, .inl (cA, 1200, .inl (f)))] ∧ va_S A s.heap H' locs' ∧ lv_has ls' 11 [(10, .int (bI s0_1735)), (9, .int (bI s0_1728)), (8, .int (nI (l8_1643))), (7, .int l7_1765), (6, .int l6_1766), (0, .ref h0), (1, .ref qw), (2, .int pl), (3, .int (nI (cn))), (4, .ref qv), (5, .int sb)]) (fun ⟨f_qw_missed_1764, l7_1765, l6_1766⟩ => []) ?_ (fun kj1767 => ?_)
        · skip
          intro ⟨f_qw_missed_1764, l7_1765, l6_1766⟩ H locs ls ⟨hP, hD, hS, hl⟩
          show W p l e _ s m _ below meth c H locs _ _ _ (F0 m 118 ls [])
          have hP : va_P (dC, dI) cls_ [(h0, .inr (6, [.ref qx, .ref qy, .ref qo, .ref qc, .ref qg, .ref qm, .int (nI (p0)), .int ct])), (qg, .inl (cG, 24, .inl (fg))), (qv, .inl (cV, 64, .inl (a_qv_1641))), (qw, .inr (0, [.ref qa, .int (nI (a)), .int (nI (n)), .int (bI f_qw_missed_1764)])), (qa, .inl (cA, 1200, .inl (f)))] H := hP
          have hD : va_D A [(h0, .inr (6, [.ref qx, .ref qy, .ref qo, .ref qc, .ref qg, .ref qm, .int (nI (p0)), .int ct])), (qg, .inl (cG, 24, .inl (fg))), (qv, .inl (cV, 64, .inl (a_qv_1641))), (qw, .inr (0, [.ref qa, .int (nI (a)), .int (nI (n)), .int (bI f_qw_missed_1764)])), (qa, .inl (cA, 1200, .inl (f)))] := hD
          refine lv_aload hx hb d_OU_readAxis_118 (lv_at hl 9 rfl) ?_
          refine lv_aload_n hx hb d_OU_readAxis_120 rfl (lv_at hl 5 rfl) ?_
          refine va_get (D := (dC, dI)) (ci := 6) (v := .int (nI (p0))) (C := R_OU) (T := F_OU) (N := 8) hx hb hts in_OU hown hK hP 0 rfl rfl 6 (by decide) (hts _ (List.mem_cons_of_mem _ w_212)) (fun _ h9 => h9) rfl d_OU_readAxis_121 ?_
          refine lv_iload hx hb d_OU_readAxis_124 (lv_at hl 2 rfl) ?_
          refine lv_iadd hx hb d_OU_readAxis_126 ?_
          refine lv_ci (y := nI (p0 + l8_1643)) (nI_add (p0) (l8_1643)) ?_
          refine lv_iload hx hb d_OU_readAxis_127 (lv_at hl 3 rfl) ?_
          refine va_iast hx hb hK hP hD hS 2 1 rfl rfl (pk_in (p0 + l8_1643) 64 (by omega) rfl (by decide)) d_OU_readAxis_129 (fun H locs hP hD hS => ?_)
          have hP : va_P (dC, dI) cls_ [(h0, .inr (6, [.ref qx, .ref qy, .ref qo, .ref qc, .ref qg, .ref qm, .int (nI (p0)), .int ct])), (qg, .inl (cG, 24, .inl (fg))), (qv, .inl (cV, 64, .inl (upd (a_qv_1641) (Int32.toNatClampNeg (nI (p0 + l8_1643))) (l7_1765)))), (qw, .inr (0, [.ref qa, .int (nI (a)), .int (nI (n)), .int (bI f_qw_missed_1764)])), (qa, .inl (cA, 1200, .inl (f)))] H := hP
          have hD : va_D A [(h0, .inr (6, [.ref qx, .ref qy, .ref qo, .ref qc, .ref qg, .ref qm, .int (nI (p0)), .int ct])), (qg, .inl (cG, 24, .inl (fg))), (qv, .inl (cV, 64, .inl (upd (a_qv_1641) (Int32.toNatClampNeg (nI (p0 + l8_1643))) (l7_1765)))), (qw, .inr (0, [.ref qa, .int (nI (a)), .int (nI (n)), .int (bI f_qw_missed_1764)])), (qa, .inl (cA, 1200, .inl (f)))] := hD
          obtain ⟨g1768, eg1768⟩ : ∃ z : Nat → Int32, z = upd (a_qv_1641) (Int32.toNatClampNeg (nI (p0 + l8_1643))) (l7_1765) := ⟨_, rfl⟩
          rw [← eg1768] at hP hD
          have hP : va_P (dC, dI) cls_ [(h0, .inr (6, [.ref qx, .ref qy, .ref qo, .ref qc, .ref qg, .ref qm, .int (nI (p0)), .int ct])), (qg, .inl (cG, 24, .inl (fg))), (qv, .inl (cV, 64, .inl (g1768))), (qw, .inr (0, [.ref qa, .int (nI (a)), .int (nI (n)), .int (bI f_qw_missed_1764)])), (qa, .inl (cA, 1200, .inl (f)))] H := hP
          have hD : va_D A [(h0, .inr (6, [.ref qx, .ref qy, .ref qo, .ref qc, .ref qg, .ref qm, .int (nI (p0)), .int ct])), (qg, .inl (cG, 24, .inl (fg))), (qv, .inl (cV, 64, .inl (g1768))), (qw, .inr (0, [.ref qa, .int (nI (a)), .int (nI (n)), .int (bI f_qw_missed_1764)])), (qa, .inl (cA, 1200, .inl (f)))] := hD
          refine lv_iinc (k := 2) (v := nI (l8_1643 + 1)) (lv' := [(8, .int (nI (l8_1643 + 1))), (10, .int (bI s0_1735)), (9, .int (bI s0_1728)), (7, .int l7_1765), (6, .int l6_1766), (0, .ref h0), (1, .ref qw), (2, .int pl), (3, .int (nI (cn))), (4, .ref qv), (5, .int sb)]) hx hb d_OU_readAxis_130 hl rfl (nI_add (l8_1643) 1) (by decide) rfl (fun ls hl => ?_)
          refine lv_goto (tgt := 9) hx hb d_OU_readAxis_133 (by decide) ?_
          have hP8 := hP.sub (ws' := [(h0, .inr (6, [.ref qx, .ref qy, .ref qo, .ref qc, .ref qg, .ref qm, .int (nI (p0)), .int ct])), (qg, .inl (cG, 24, .inl (fg))), (qv, .inl (cV, 64, .inl (g1768))), (qw, .inr (0, [.ref qa, .int (nI (a)), .int (nI (n)), .int (bI f_qw_missed_1764)])), (qa, .inl (cA, 1200, .inl (f)))]) [0, 1, 2, 3, 4] rfl
          have hD8 := hD.sub (ws' := [(h0, .inr (6, [.ref qx, .ref qy, .ref qo, .ref qc, .ref qg, .ref qm, .int (nI (p0)), .int ct])), (qg, .inl (cG, 24, .inl (fg))), (qv, .inl (cV, 64, .inl (g1768))), (qw, .inr (0, [.ref qa, .int (nI (a)), .int (nI (n)), .int (bI f_qw_missed_1764)])), (qa, .inl (cA, 1200, .inl (f)))]) [0, 1, 2, 3, 4] (by decide) rfl
          exact ih1646 (g1768, f_qw_missed_1764, l8_1643 + 1, l7_1765, l6_1766) H locs ls (by show cn - (l8_1643 + 1) < cn - l8_1643; omega) ⟨hP8, hD8, hS, lv_sub hl [0, 3, 4, 5, 6, 7, 8, 9, 10] rfl, by omega⟩
        · skip
          refine lv_if_eq (tgt := 98) hx hb d_OU_readAxis_63 (by decide) (fun hc1769 => ?_) (fun hc1769 => ?_)
          · skip
            have hc1769b : s0_1728 = false := bI_0 hc1769
            refine lv_iload hx hb d_OU_readAxis_98 (lv_at hl 0 rfl) ?_
            refine lv_if_ne (tgt := 118) hx hb d_OU_readAxis_100 (by decide) (fun hc1770 => ?_) (fun hc1770 => ?_)
            · skip
              have hc1770b : s0_1735 = true := bI_1 hc1770
              have hP8 := hP.sub (ws' := [(h0, .inr (6, [.ref qx, .ref qy, .ref qo, .ref qc, .ref qg, .ref qm, .int (nI (p0)), .int ct])), (qg, .inl (cG, 24, .inl (fg))), (qv, .inl (cV, 64, .inl (a_qv_1641))), (qw, .inr (0, [.ref qa, .int (nI (a)), .int (nI (n)), .int (bI f_qw_missed_1642)])), (qa, .inl (cA, 1200, .inl (f)))]) [0, 1, 2, 3, 4] rfl
              have hD8 := hD.sub (ws' := [(h0, .inr (6, [.ref qx, .ref qy, .ref qo, .ref qc, .ref qg, .ref qm, .int (nI (p0)), .int ct])), (qg, .inl (cG, 24, .inl (fg))), (qv, .inl (cV, 64, .inl (a_qv_1641))), (qw, .inr (0, [.ref qa, .int (nI (a)), .int (nI (n)), .int (bI f_qw_missed_1642)])), (qa, .inl (cA, 1200, .inl (f)))]) [0, 1, 2, 3, 4] (by decide) rfl
              exact kj1767 (f_qw_missed_1642, l7_1644, l6_1645) H locs ls ⟨hP8, hD8, hS, lv_sub hl [0, 1, 2, 3, 4, 5, 6, 7, 8, 9, 10] rfl⟩
            · skip
              have hc1770b : s0_1735 = false := bI_0 hc1770
              refine lv_iload hx hb d_OU_readAxis_103 (lv_at hl 3 rfl) ?_
              refine lv_aload_n hx hb d_OU_readAxis_105 rfl (lv_at hl 6 rfl) ?_
              refine lv_iload hx hb d_OU_readAxis_106 (lv_at hl 4 rfl) ?_
              have hPc := hP.sub (ws' := [(qw, .inr (0, [.ref qa, .int (nI (a)), .int (nI (n)), .int (bI f_qw_missed_1642)])), (qa, .inl (cA, 1200, .inl (f)))]) [3, 4] rfl
              have hDc := hD.sub (ws' := [(qw, .inr (0, [.ref qa, .int (nI (a)), .int (nI (n)), .int (bI f_qw_missed_1642)])), (qa, .inl (cA, 1200, .inl (f)))]) [3, 4] (by decide) rfl
              have hKc := hK.sub (tys' := [(cA, .int)]) [2] rfl
              have hFc := va_free (wc := [(qw, .inr (0, [.ref qa, .int (nI (a)), .int (nI (n)), .int (bI f_qw_missed_1642)])), (qa, .inl (cA, 1200, .inl (f)))]) hD hS hA [3, 4] rfl
              refine va_calli (va_runV (As := [.int l6_1645]) (rest := [.int l7_1644]) ⟨hx, hb, hml, hown, hts⟩ (g_SP_u16 l dC dI qw qa a n f_qw_missed_1642 cA f l6_1645 H.size (by omega) (by assumption)) (cwV 1 hts (tw_inV w_480 w_353 w_354 w_4 w_355) rfl rfl rfl (by decide +kernel) ⟨Nat.le_of_ble_eq_true rfl, Nat.le_of_ble_eq_true rfl⟩) ⟨fun a U g mk q => by obtain ⟨q0, q1, qP, qK, qD⟩ := q; exact ⟨q0, q1, qP, va_K.moved (u := U) (U := U.calling g mk a) (Vm.Alike.refl U.vm) qK, qD⟩, va_recv (hK := hK) (hP := hP) (q0 := 3) (ci := 0) rfl rfl, fun U hU hW => ⟨rfl, by rw [hU], by rw [hU]; exact hPc, va_K.moved hW.alike hKc, hDc.weaken (fun _ _ _ _ => trivial)⟩⟩ rfl rfl hl.1 rfl (lv_room (Nat.le_of_ble_eq_true rfl)) d_OU_readAxis_108 ⟨Nat.le_of_ble_eq_true rfl, Nat.le_of_ble_eq_true rfl⟩) hS (fun q _ h => hFc q h) hFc (fun r1771 u t H1 locs ht hvm hw hB hz1 hk1 hS => ?_)
              obtain ⟨m_1772, hP1, hK1, hD1⟩ := hB
              rw [ht] at hP1
              have hK1 := va_K.moved hvm.symm hK1
              obtain ⟨hP, hD⟩ := va_join (wr := [(h0, .inr (6, [.ref qx, .ref qy, .ref qo, .ref qc, .ref qg, .ref qm, .int (nI (p0)), .int ct])), (qg, .inl (cG, 24, .inl (fg))), (qv, .inl (cV, 64, .inl (a_qv_1641)))]) (w1 := [(qw, .inr (0, [.ref qa, .int (nI (a)), .int (nI (n)), .int (bI m_1772)])), (qa, .inl (cA, 1200, .inl (f)))]) hP hD [3, 4] [0, 1, 2] rfl rfl (by decide) (by decide) hk1 hFc hP1 hD1
              have hK := (hK.sub (tys' := [(cG, .int), (cV, .int)]) [0, 1] rfl).app hK1
              generalize H1 = H at hP hS ⊢
              have hP : va_P (dC, dI) cls_ [(h0, .inr (6, [.ref qx, .ref qy, .ref qo, .ref qc, .ref qg, .ref qm, .int (nI (p0)), .int ct])), (qg, .inl (cG, 24, .inl (fg))), (qv, .inl (cV, 64, .inl (a_qv_1641))), (qw, .inr (0, [.ref qa, .int (nI (a)), .int (nI (n)), .int (bI m_1772)])), (qa, .inl (cA, 1200, .inl (f)))] H := hP
              have hD : va_D A [(h0, .inr (6, [.ref qx, .ref qy, .ref qo, .ref qc, .ref qg, .ref qm, .int (nI (p0)), .int ct])), (qg, .inl (cG, 24, .inl (fg))), (qv, .inl (cV, 64, .inl (a_qv_1641))), (qw, .inr (0, [.ref qa, .int (nI (a)), .int (nI (n)), .int (bI m_1772)])), (qa, .inl (cA, 1200, .inl (f)))] := hD
              have hK : va_K (dC, dI) cls_ [(cG, .int), (cV, .int), (cA, .int)] s := hK
              have hw_r1771 := hw
              obtain ⟨kn1773, hb_kn1773, rfl⟩ := hw_r1771
              refine lv_i2s (v := (nI (kn1773)).toInt16.toInt32) hx hb d_OU_readAxis_111 rfl ?_
              refine lv_topi (fun v1774 ev1774 => ?_)
              refine lv_iadd hx hb d_OU_readAxis_112 ?_
              refine lv_topi (fun v1775 ev1775 => ?_)
              refine lv_istore (lv' := [(7, .int v1775), (10, .int (bI s0_1735)), (9, .int (bI s0_1728)), (8, .int (nI (l8_1643))), (6, .int l6_1645), (0, .ref h0), (1, .ref qw), (2, .int pl), (3, .int (nI (cn))), (4, .ref qv), (5, .int sb)]) hx hb d_OU_readAxis_113 hl (by decide) rfl (fun ls hl => ?_)
              refine lv_iinc (k := 4) (v := l6_1645 + (2)) (lv' := [(6, .int (l6_1645 + (2))), (7, .int v1775), (10, .int (bI s0_1735)), (9, .int (bI s0_1728)), (8, .int (nI (l8_1643))), (0, .ref h0), (1, .ref qw), (2, .int pl), (3, .int (nI (cn))), (4, .ref qv), (5, .int sb)]) hx hb d_OU_readAxis_115 hl rfl (by first | rfl | decide +kernel) (by decide) rfl (fun ls hl => ?_)
              have hP8 := hP.sub (ws' := [(h0, .inr (6, [.ref qx, .ref qy, .ref qo, .ref qc, .ref qg, .ref qm, .int (nI (p0)), .int ct])), (qg, .inl (cG, 24, .inl (fg))), (qv, .inl (cV, 64, .inl (a_qv_1641))), (qw, .inr (0, [.ref qa, .int (nI (a)), .int (nI (n)), .int (bI m_1772)])), (qa, .inl (cA, 1200, .inl (f)))]) [0, 1, 2, 3, 4] rfl
              have hD8 := hD.sub (ws' := [(h0, .inr (6, [.ref qx, .ref qy, .ref qo, .ref qc, .ref qg, .ref qm, .int (nI (p0)), .int ct])), (qg, .inl (cG, 24, .inl (fg))), (qv, .inl (cV, 64, .inl (a_qv_1641))), (qw, .inr (0, [.ref qa, .int (nI (a)), .int (nI (n)), .int (bI m_1772)])), (qa, .inl (cA, 1200, .inl (f)))]) [0, 1, 2, 3, 4] (by decide) rfl
              exact kj1767 (m_1772, v1775, l6_1645 + (2)) H locs ls ⟨hP8, hD8, hS, lv_sub hl [2, 3, 4, 1, 0, 5, 6, 7, 8, 9, 10] rfl⟩
          · skip
            have hc1769b : s0_1728 = true := bI_1 hc1769
            refine lv_iload hx hb d_OU_readAxis_66 (lv_at hl 3 rfl) ?_
            refine lv_iload hx hb d_OU_readAxis_68 (lv_at hl 0 rfl) ?_
            refine lv_join (α := Bool × Int32) 89 (fun ⟨f_qw_missed_1784, s0_1785⟩ H' locs' ls' => va_P (dC, dI) cls_ [(h0, .inr (6, [.ref qx, .ref qy, .ref qo, .ref qc, .ref qg, .ref qm, .int (nI (p0)), .int ct])), (qg, .inl (cG, 24, .inl (fg))), (qv, .inl (cV, 64, .inl (a_qv_1641))), (qw, .inr (0, [.ref qa, .int (nI (a)), .int (nI (n)), .int (bI f_qw_missed_1784)])), (qa, .inl (cA, 1200, .inl (f)))] H' ∧ va_D A [(h0, .inr (6, [.ref qx, .ref qy, .ref qo, .ref qc, .ref qg, .ref qm, .int (nI (p0)), .int ct])), (qg, .inl (cG, 24, .inl (fg))), (qv, .inl (cV, 64, .inl (a_qv_1641))), (qw, .inr (0, [.ref qa, .int (nI (a)), .int (nI (n)), .int (bI f_qw_missed_1784)])), (qa, .inl (cA, 1200, .inl (f)))] ∧ va_S A s.heap H' locs' ∧ lv_has ls' 11 [(10, .int (bI s0_1735)), (9, .int (bI s0_1728)), (8, .int (nI (l8_1643))), (7, .int l7_1644), (6, .int l6_1645), (0, .ref h0), (1, .ref qw), (2, .int pl), (3, .int (nI (cn))), (4, .ref qv), (5, .int sb)]) (fun ⟨f_qw_missed_1784, s0_1785⟩ => [.int s0_1785, .int l7_1644]) ?_ (fun kj1786 => ?_)
            · skip
              intro ⟨f_qw_missed_1784, s0_1785⟩ H locs ls ⟨hP, hD, hS, hl⟩
              show W p l e _ s m _ below meth c H locs _ _ _ (F0 m 89 ls [.int s0_1785, .int l7_1644])
              have hP : va_P (dC, dI) cls_ [(h0, .inr (6, [.ref qx, .ref qy, .ref qo, .ref qc, .ref qg, .ref qm, .int (nI (p0)), .int ct])), (qg, .inl (cG, 24, .inl (fg))), (qv, .inl (cV, 64, .inl (a_qv_1641))), (qw, .inr (0, [.ref qa, .int (nI (a)), .int (nI (n)), .int (bI f_qw_missed_1784)])), (qa, .inl (cA, 1200, .inl (f)))] H := hP
              have hD : va_D A [(h0, .inr (6, [.ref qx, .ref qy, .ref qo, .ref qc, .ref qg, .ref qm, .int (nI (p0)), .int ct])), (qg, .inl (cG, 24, .inl (fg))), (qv, .inl (cV, 64, .inl (a_qv_1641))), (qw, .inr (0, [.ref qa, .int (nI (a)), .int (nI (n)), .int (bI f_qw_missed_1784)])), (qa, .inl (cA, 1200, .inl (f)))] := hD
              refine lv_iadd hx hb d_OU_readAxis_89 ?_
              refine lv_topi (fun v1787 ev1787 => ?_)
              refine lv_istore (lv' := [(7, .int v1787), (10, .int (bI s0_1735)), (9, .int (bI s0_1728)), (8, .int (nI (l8_1643))), (6, .int l6_1645), (0, .ref h0), (1, .ref qw), (2, .int pl), (3, .int (nI (cn))), (4, .ref qv), (5, .int sb)]) hx hb d_OU_readAxis_90 hl (by decide) rfl (fun ls hl => ?_)
              refine lv_iinc (k := 4) (v := l6_1645 + (1)) (lv' := [(6, .int (l6_1645 + (1))), (7, .int v1787), (10, .int (bI s0_1735)), (9, .int (bI s0_1728)), (8, .int (nI (l8_1643))), (0, .ref h0), (1, .ref qw), (2, .int pl), (3, .int (nI (cn))), (4, .ref qv), (5, .int sb)]) hx hb d_OU_readAxis_92 hl rfl (by first | rfl | decide +kernel) (by decide) rfl (fun ls hl => ?_)
              refine lv_goto (tgt := 118) hx hb d_OU_readAxis_95 (by decide) ?_
              have hP8 := hP.sub (ws' := [(h0, .inr (6, [.ref qx, .ref qy, .ref qo, .ref qc, .ref qg, .ref qm, .int (nI (p0)), .int ct])), (qg, .inl (cG, 24, .inl (fg))), (qv, .inl (cV, 64, .inl (a_qv_1641))), (qw, .inr (0, [.ref qa, .int (nI (a)), .int (nI (n)), .int (bI f_qw_missed_1784)])), (qa, .inl (cA, 1200, .inl (f)))]) [0, 1, 2, 3, 4] rfl
              have hD8 := hD.sub (ws' := [(h0, .inr (6, [.ref qx, .ref qy, .ref qo, .ref qc, .ref qg, .ref qm, .int (nI (p0)), .int ct])), (qg, .inl (cG, 24, .inl (fg))), (qv, .inl (cV, 64, .inl (a_qv_1641))), (qw, .inr (0, [.ref qa, .int (nI (a)), .int (nI (n)), .int (bI f_qw_missed_1784)])), (qa, .inl (cA, 1200, .inl (f)))]) [0, 1, 2, 3, 4] (by decide) rfl
              exact kj1767 (f_qw_missed_1784, v1787, l6_1645 + (1)) H locs ls ⟨hP8, hD8, hS, lv_sub hl [2, 3, 4, 1, 0, 5, 6, 7, 8, 9, 10] rfl⟩
            · skip
              refine lv_if_eq (tgt := 82) hx hb d_OU_readAxis_70 (by decide) (fun hc1788 => ?_) (fun hc1788 => ?_)
              · skip
                have hc1788b : s0_1735 = false := bI_0 hc1788
                refine lv_aload_n hx hb d_OU_readAxis_82 rfl (lv_at hl 6 rfl) ?_
                refine lv_iload hx hb d_OU_readAxis_83 (lv_at hl 4 rfl) ?_
                have hPc := hP.sub (ws' := [(qw, .inr (0, [.ref qa, .int (nI (a)), .int (nI (n)), .int (bI f_qw_missed_1642)])), (qa, .inl (cA, 1200, .inl (f)))]) [3, 4] rfl
                have hDc := hD.sub (ws' := [(qw, .inr (0, [.ref qa, .int (nI (a)), .int (nI (n)), .int (bI f_qw_missed_1642)])), (qa, .inl (cA, 1200, .inl (f)))]) [3, 4] (by decide) rfl
                have hKc := hK.sub (tys' := [(cA, .int)]) [2] rfl
                have hFc := va_free (wc := [(qw, .inr (0, [.ref qa, .int (nI (a)), .int (nI (n)), .int (bI f_qw_missed_1642)])), (qa, .inl (cA, 1200, .inl (f)))]) hD hS hA [3, 4] rfl
                refine va_calli (va_runV (As := [.int l6_1645]) (rest := [.int l7_1644]) ⟨hx, hb, hml, hown, hts⟩ (g_SP_u8 l dC dI qw qa a n f_qw_missed_1642 cA f l6_1645 H.size (by omega) (by assumption)) (cwV 1 hts (tw_inV w_531 w_500 w_501 w_4 w_502) rfl rfl rfl (by decide +kernel) ⟨Nat.le_of_ble_eq_true rfl, Nat.le_of_ble_eq_true rfl⟩) ⟨fun a U g mk q => by obtain ⟨q0, q1, qP, qK, qD⟩ := q; exact ⟨q0, q1, qP, va_K.moved (u := U) (U := U.calling g mk a) (Vm.Alike.refl U.vm) qK, qD⟩, va_recv (hK := hK) (hP := hP) (q0 := 3) (ci := 0) rfl rfl, fun U hU hW => ⟨rfl, by rw [hU], by rw [hU]; exact hPc, va_K.moved hW.alike hKc, hDc.weaken (fun _ _ _ _ => trivial)⟩⟩ rfl rfl hl.1 rfl (lv_room (Nat.le_of_ble_eq_true rfl)) d_OU_readAxis_85 ⟨Nat.le_of_ble_eq_true rfl, Nat.le_of_ble_eq_true rfl⟩) hS (fun q _ h => hFc q h) hFc (fun r1789 u t H1 locs ht hvm hw hB hz1 hk1 hS => ?_)
                obtain ⟨m_1790, hP1, hK1, hD1⟩ := hB
                rw [ht] at hP1
                have hK1 := va_K.moved hvm.symm hK1
                obtain ⟨hP, hD⟩ := va_join (wr := [(h0, .inr (6, [.ref qx, .ref qy, .ref qo, .ref qc, .ref qg, .ref qm, .int (nI (p0)), .int ct])), (qg, .inl (cG, 24, .inl (fg))), (qv, .inl (cV, 64, .inl (a_qv_1641)))]) (w1 := [(qw, .inr (0, [.ref qa, .int (nI (a)), .int (nI (n)), .int (bI m_1790)])), (qa, .inl (cA, 1200, .inl (f)))]) hP hD [3, 4] [0, 1, 2] rfl rfl (by decide) (by decide) hk1 hFc hP1 hD1
                have hK := (hK.sub (tys' := [(cG, .int), (cV, .int)]) [0, 1] rfl).app hK1
                generalize H1 = H at hP hS ⊢
                have hP : va_P (dC, dI) cls_ [(h0, .inr (6, [.ref qx, .ref qy, .ref qo, .ref qc, .ref qg, .ref qm, .int (nI (p0)), .int ct])), (qg, .inl (cG, 24, .inl (fg))), (qv, .inl (cV, 64, .inl (a_qv_1641))), (qw, .inr (0, [.ref qa, .int (nI (a)), .int (nI (n)), .int (bI m_1790)])), (qa, .inl (cA, 1200, .inl (f)))] H := hP
                have hD : va_D A [(h0, .inr (6, [.ref qx, .ref qy, .ref qo, .ref qc, .ref qg, .ref qm, .int (nI (p0)), .int ct])), (qg, .inl (cG, 24, .inl (fg))), (qv, .inl (cV, 64, .inl (a_qv_1641))), (qw, .inr (0, [.ref qa, .int (nI (a)), .int (nI (n)), .int (bI m_1790)])), (qa, .inl (cA, 1200, .inl (f)))] := hD
                have hK : va_K (dC, dI) cls_ [(cG, .int), (cV, .int), (cA, .int)] s := hK
                have hw_r1789 := hw
                obtain ⟨kn1791, hb_kn1791, rfl⟩ := hw_r1789
                refine lv_ineg hx hb d_OU_readAxis_88 ?_
                refine lv_topi (fun v1792 ev1792 => ?_)
                have hP8 := hP.sub (ws' := [(h0, .inr (6, [.ref qx, .ref qy, .ref qo, .ref qc, .ref qg, .ref qm, .int (nI (p0)), .int ct])), (qg, .inl (cG, 24, .inl (fg))), (qv, .inl (cV, 64, .inl (a_qv_1641))), (qw, .inr (0, [.ref qa, .int (nI (a)), .int (nI (n)), .int (bI m_1790)])), (qa, .inl (cA, 1200, .inl (f)))]) [0, 1, 2, 3, 4] rfl
                have hD8 := hD.sub (ws' := [(h0, .inr (6, [.ref qx, .ref qy, .ref qo, .ref qc, .ref qg, .ref qm, .int (nI (p0)), .int ct])), (qg, .inl (cG, 24, .inl (fg))), (qv, .inl (cV, 64, .inl (a_qv_1641))), (qw, .inr (0, [.ref qa, .int (nI (a)), .int (nI (n)), .int (bI m_1790)])), (qa, .inl (cA, 1200, .inl (f)))]) [0, 1, 2, 3, 4] (by decide) rfl
                exact kj1786 (m_1790, v1792) H locs ls ⟨hP8, hD8, hS, lv_sub hl [0, 1, 2, 3, 4, 5, 6, 7, 8, 9, 10] rfl⟩
              · skip
                have hc1788b : s0_1735 = true := bI_1 hc1788
                refine lv_aload_n hx hb d_OU_readAxis_73 rfl (lv_at hl 6 rfl) ?_
                refine lv_iload hx hb d_OU_readAxis_74 (lv_at hl 4 rfl) ?_
                have hPc := hP.sub (ws' := [(qw, .inr (0, [.ref qa, .int (nI (a)), .int (nI (n)), .int (bI f_qw_missed_1642)])), (qa, .inl (cA, 1200, .inl (f)))]) [3, 4] rfl
                have hDc := hD.sub (ws' := [(qw, .inr (0, [.ref qa, .int (nI (a)), .int (nI (n)), .int (bI f_qw_missed_1642)])), (qa, .inl (cA, 1200, .inl (f)))]) [3, 4] (by decide) rfl
                have hKc := hK.sub (tys' := [(cA, .int)]) [2] rfl
                have hFc := va_free (wc := [(qw, .inr (0, [.ref qa, .int (nI (a)), .int (nI (n)), .int (bI f_qw_missed_1642)])), (qa, .inl (cA, 1200, .inl (f)))]) hD hS hA [3, 4] rfl
                refine va_calli (va_runV (As := [.int l6_1645]) (rest := [.int l7_1644]) ⟨hx, hb, hml, hown, hts⟩ (g_SP_u8 l dC dI qw qa a n f_qw_missed_1642 cA f l6_1645 H.size (by omega) (by assumption)) (cwV 1 hts (tw_inV w_531 w_500 w_501 w_4 w_502) rfl rfl rfl (by decide +kernel) ⟨Nat.le_of_ble_eq_true rfl, Nat.le_of_ble_eq_true rfl⟩) ⟨fun a U g mk q => by obtain ⟨q0, q1, qP, qK, qD⟩ := q; exact ⟨q0, q1, qP, va_K.moved (u := U) (U := U.calling g mk a) (Vm.Alike.refl U.vm) qK, qD⟩, va_recv (hK := hK) (hP := hP) (q0 := 3) (ci := 0) rfl rfl, fun U hU hW => ⟨rfl, by rw [hU], by rw [hU]; exact hPc, va_K.moved hW.alike hKc, hDc.weaken (fun _ _ _ _ => trivial)⟩⟩ rfl rfl hl.1 rfl (lv_room (Nat.le_of_ble_eq_true rfl)) d_OU_readAxis_76 ⟨Nat.le_of_ble_eq_true rfl, Nat.le_of_ble_eq_true rfl⟩) hS (fun q _ h => hFc q h) hFc (fun r1793 u t H1 locs ht hvm hw hB hz1 hk1 hS => ?_)
                obtain ⟨m_1794, hP1, hK1, hD1⟩ := hB
                rw [ht] at hP1
                have hK1 := va_K.moved hvm.symm hK1
                obtain ⟨hP, hD⟩ := va_join (wr := [(h0, .inr (6, [.ref qx, .ref qy, .ref qo, .ref qc, .ref qg, .ref qm, .int (nI (p0)), .int ct])), (qg, .inl (cG, 24, .inl (fg))), (qv, .inl (cV, 64, .inl (a_qv_1641)))]) (w1 := [(qw, .inr (0, [.ref qa, .int (nI (a)), .int (nI (n)), .int (bI m_1794)])), (qa, .inl (cA, 1200, .inl (f)))]) hP hD [3, 4] [0, 1, 2] rfl rfl (by decide) (by decide) hk1 hFc hP1 hD1
                have hK := (hK.sub (tys' := [(cG, .int), (cV, .int)]) [0, 1] rfl).app hK1
                generalize H1 = H at hP hS ⊢
                have hP : va_P (dC, dI) cls_ [(h0, .inr (6, [.ref qx, .ref qy, .ref qo, .ref qc, .ref qg, .ref qm, .int (nI (p0)), .int ct])), (qg, .inl (cG, 24, .inl (fg))), (qv, .inl (cV, 64, .inl (a_qv_1641))), (qw, .inr (0, [.ref qa, .int (nI (a)), .int (nI (n)), .int (bI m_1794)])), (qa, .inl (cA, 1200, .inl (f)))] H := hP
                have hD : va_D A [(h0, .inr (6, [.ref qx, .ref qy, .ref qo, .ref qc, .ref qg, .ref qm, .int (nI (p0)), .int ct])), (qg, .inl (cG, 24, .inl (fg))), (qv, .inl (cV, 64, .inl (a_qv_1641))), (qw, .inr (0, [.ref qa, .int (nI (a)), .int (nI (n)), .int (bI m_1794)])), (qa, .inl (cA, 1200, .inl (f)))] := hD
                have hK : va_K (dC, dI) cls_ [(cG, .int), (cV, .int), (cA, .int)] s := hK
                have hw_r1793 := hw
                obtain ⟨kn1795, hb_kn1795, rfl⟩ := hw_r1793
                refine lv_goto (tgt := 89) hx hb d_OU_readAxis_79 (by decide) ?_
                have hP8 := hP.sub (ws' := [(h0, .inr (6, [.ref qx, .ref qy, .ref qo, .ref qc, .ref qg, .ref qm, .int (nI (p0)), .int ct])), (qg, .inl (cG, 24, .inl (fg))), (qv, .inl (cV, 64, .inl (a_qv_1641))), (qw, .inr (0, [.ref qa, .int (nI (a)), .int (nI (n)), .int (bI m_1794)])), (qa, .inl (cA, 1200, .inl (f)))]) [0, 1, 2, 3, 4] rfl
                have hD8 := hD.sub (ws' := [(h0, .inr (6, [.ref qx, .ref qy, .ref qo, .ref qc, .ref qg, .ref qm, .int (nI (p0)), .int ct])), (qg, .inl (cG, 24, .inl (fg))), (qv, .inl (cV, 64, .inl (a_qv_1641))), (qw, .inr (0, [.ref qa, .int (nI (a)), .int (nI (n)), .int (bI m_1794)])), (qa, .inl (cA, 1200, .inl (f)))]) [0, 1, 2, 3, 4] (by decide) rfl
                exact kj1786 (m_1794, nI (kn1795)) H locs ls ⟨hP8, hD8, hS, lv_sub hl [0, 1, 2, 3, 4, 5, 6, 7, 8, 9, 10] rfl⟩
      · skip
        refine lv_if_eq (tgt := 58) hx hb d_OU_readAxis_51 (by decide) (fun hc1796 => ?_) (fun hc1796 => ?_)
        · skip
          refine lv_iconst (v := 0) hx hb d_OU_readAxis_58 (by decide) ?_
          have hP8 := hP.sub (ws' := [(h0, .inr (6, [.ref qx, .ref qy, .ref qo, .ref qc, .ref qg, .ref qm, .int (nI (p0)), .int ct])), (qg, .inl (cG, 24, .inl (fg))), (qv, .inl (cV, 64, .inl (a_qv_1641))), (qw, .inr (0, [.ref qa, .int (nI (a)), .int (nI (n)), .int (bI f_qw_missed_1642)])), (qa, .inl (cA, 1200, .inl (f)))]) [0, 1, 2, 3, 4] rfl
          have hD8 := hD.sub (ws' := [(h0, .inr (6, [.ref qx, .ref qy, .ref qo, .ref qc, .ref qg, .ref qm, .int (nI (p0)), .int ct])), (qg, .inl (cG, 24, .inl (fg))), (qv, .inl (cV, 64, .inl (a_qv_1641))), (qw, .inr (0, [.ref qa, .int (nI (a)), .int (nI (n)), .int (bI f_qw_missed_1642)])), (qa, .inl (cA, 1200, .inl (f)))]) [0, 1, 2, 3, 4] (by decide) rfl
          exact kj1736 (false) H locs ls ⟨hP8, hD8, hS, lv_sub hl [0, 1, 2, 3, 4, 5, 6, 7, 8, 9] rfl⟩
        · skip
          refine lv_iconst (v := 1) hx hb d_OU_readAxis_54 (by decide) ?_
          refine lv_goto (tgt := 59) hx hb d_OU_readAxis_55 (by decide) ?_
          have hP8 := hP.sub (ws' := [(h0, .inr (6, [.ref qx, .ref qy, .ref qo, .ref qc, .ref qg, .ref qm, .int (nI (p0)), .int ct])), (qg, .inl (cG, 24, .inl (fg))), (qv, .inl (cV, 64, .inl (a_qv_1641))), (qw, .inr (0, [.ref qa, .int (nI (a)), .int (nI (n)), .int (bI f_qw_missed_1642)])), (qa, .inl (cA, 1200, .inl (f)))]) [0, 1, 2, 3, 4] rfl
          have hD8 := hD.sub (ws' := [(h0, .inr (6, [.ref qx, .ref qy, .ref qo, .ref qc, .ref qg, .ref qm, .int (nI (p0)), .int ct])), (qg, .inl (cG, 24, .inl (fg))), (qv, .inl (cV, 64, .inl (a_qv_1641))), (qw, .inr (0, [.ref qa, .int (nI (a)), .int (nI (n)), .int (bI f_qw_missed_1642)])), (qa, .inl (cA, 1200, .inl (f)))]) [0, 1, 2, 3, 4] (by decide) rfl
          exact kj1736 (true) H locs ls ⟨hP8, hD8, hS, lv_sub hl [0, 1, 2, 3, 4, 5, 6, 7, 8, 9] rfl⟩
    · skip
      refine lv_if_eq (tgt := 34) hx hb d_OU_readAxis_27 (by decide) (fun hc1797 => ?_) (fun hc1797 => ?_)
      · skip
        refine lv_iconst (v := 0) hx hb d_OU_readAxis_34 (by decide) ?_
        have hP8 := hP.sub (ws' := [(h0, .inr (6, [.ref qx, .ref qy, .ref qo, .ref qc, .ref qg, .ref qm, .int (nI (p0)), .int ct])), (qg, .inl (cG, 24, .inl (fg))), (qv, .inl (cV, 64, .inl (a_qv_1641))), (qw, .inr (0, [.ref qa, .int (nI (a)), .int (nI (n)), .int (bI f_qw_missed_1642)])), (qa, .inl (cA, 1200, .inl (f)))]) [0, 1, 2, 3, 4] rfl
        have hD8 := hD.sub (ws' := [(h0, .inr (6, [.ref qx, .ref qy, .ref qo, .ref qc, .ref qg, .ref qm, .int (nI (p0)), .int ct])), (qg, .inl (cG, 24, .inl (fg))), (qv, .inl (cV, 64, .inl (a_qv_1641))), (qw, .inr (0, [.ref qa, .int (nI (a)), .int (nI (n)), .int (bI f_qw_missed_1642)])), (qa, .inl (cA, 1200, .inl (f)))]) [0, 1, 2, 3, 4] (by decide) rfl
        exact kj1729 (false) H locs ls ⟨hP8, hD8, hS, lv_sub hl [0, 1, 2, 3, 4, 5, 6, 7, 8] rfl⟩
      · skip
        refine lv_iconst (v := 1) hx hb d_OU_readAxis_30 (by decide) ?_
        refine lv_goto (tgt := 35) hx hb d_OU_readAxis_31 (by decide) ?_
        have hP8 := hP.sub (ws' := [(h0, .inr (6, [.ref qx, .ref qy, .ref qo, .ref qc, .ref qg, .ref qm, .int (nI (p0)), .int ct])), (qg, .inl (cG, 24, .inl (fg))), (qv, .inl (cV, 64, .inl (a_qv_1641))), (qw, .inr (0, [.ref qa, .int (nI (a)), .int (nI (n)), .int (bI f_qw_missed_1642)])), (qa, .inl (cA, 1200, .inl (f)))]) [0, 1, 2, 3, 4] rfl
        have hD8 := hD.sub (ws' := [(h0, .inr (6, [.ref qx, .ref qy, .ref qo, .ref qc, .ref qg, .ref qm, .int (nI (p0)), .int ct])), (qg, .inl (cG, 24, .inl (fg))), (qv, .inl (cV, 64, .inl (a_qv_1641))), (qw, .inr (0, [.ref qa, .int (nI (a)), .int (nI (n)), .int (bI f_qw_missed_1642)])), (qa, .inl (cA, 1200, .inl (f)))]) [0, 1, 2, 3, 4] (by decide) rfl
        exact kj1729 (true) H locs ls ⟨hP8, hD8, hS, lv_sub hl [0, 1, 2, 3, 4, 5, 6, 7, 8] rfl⟩
set_option maxHeartbeats 4000000 in
set_option maxRecDepth 100000 in
/-- GlyphLines$Outline.addContours -/
theorem g_OU_addContours (l : Launch) (dC : Nat → ClassId) (dI : Nat → Nat → Nat) (h0 : Nat) (qx : Nat) (qy : Nat) (qo : Nat) (qc : Nat) (qg : Nat) (qm : Nat) (p0 : Nat) (ct : Int32) (qw : Nat) (qa : Nat) (a : Nat) (n : Nat) (mi : Bool) (cA : ClassId) (f : Nat → Int32) (mn : Nat) (cX : ClassId) (cY : ClassId) (cO : ClassId) (cC : ClassId) (cG : ClassId) (fx : Nat → Int32) (fy : Nat → Int32) (fo : Nat → Int32) (fc : Nat → Int32) (fg : Nat → Int32) (sz : Nat) (hq0 : a + n ≤ 1200) (hq1 : isB f) (hq2 : p0 ≤ 64) (hq3 : mn ≤ 4) : Met l y_OU_addContours s_OU_addContours ({ frames := 12, cells := 0, slots := 0, locals := 400 }) (va_Pc [.ref h0, .ref qw, .int (nI (mn))] (fun U => U.heap.size = sz ∧ va_P (dC, dI) cls_ [(h0, .inr (6, [.ref qx, .ref qy, .ref qo, .ref qc, .ref qg, .ref qm, .int (nI (p0)), .int ct])), (qx, .inl (cX, 64, .inl (fx))), (qy, .inl (cY, 64, .inl (fy))), (qo, .inl (cO, 64, .inl (fo))), (qc, .inl (cC, 64, .inl (fc))), (qg, .inl (cG, 24, .inl (fg))), (qw, .inr (0, [.ref qa, .int (nI (a)), .int (nI (n)), .int (bI mi)])), (qa, .inl (cA, 1200, .inl (f)))] U.heap ∧ va_K (dC, dI) cls_ [(cX, .int), (cY, .int), (cO, .boolean), (cC, .int), (cG, .int), (cA, .int)] U ∧ va_D (fun _ => True) [(h0, .inr (6, [.ref qx, .ref qy, .ref qo, .ref qc, .ref qg, .ref qm, .int (nI (p0)), .int ct])), (qx, .inl (cX, 64, .inl (fx))), (qy, .inl (cY, 64, .inl (fy))), (qo, .inl (cO, 64, .inl (fo))), (qc, .inl (cC, 64, .inl (fc))), (qg, .inl (cG, 24, .inl (fg))), (qw, .inr (0, [.ref qa, .int (nI (a)), .int (nI (n)), .int (bI mi)])), (qa, .inl (cA, 1200, .inl (f)))])) (va_Qi (fun (r : Int32) (_ : Unit) => ∃ b9 : Bool, r = bI b9) (fun (_ : Unit) (t : State) => ∃ (m2 : Bool) (p2 : Nat) (ct2 : Int32) (gx : Nat → Int32) (gy : Nat → Int32) (go : Nat → Int32) (gc : Nat → Int32) (gg : Nat → Int32), p2 ≤ 64 ∧ va_P (dC, dI) cls_ [(h0, .inr (6, [.ref qx, .ref qy, .ref qo, .ref qc, .ref qg, .ref qm, .int (nI (p2)), .int ct2])), (qx, .inl (cX, 64, .inl (gx))), (qy, .inl (cY, 64, .inl (gy))), (qo, .inl (cO, 64, .inl (go))), (qc, .inl (cC, 64, .inl (gc))), (qg, .inl (cG, 24, .inl (gg))), (qw, .inr (0, [.ref qa, .int (nI (a)), .int (nI (n)), .int (bI m2)])), (qa, .inl (cA, 1200, .inl (f)))] t.heap ∧ va_K (dC, dI) cls_ [(cX, .int), (cY, .int), (cO, .boolean), (cC, .int), (cG, .int), (cA, .int)] t ∧ va_D (va_A [(h0, .inr (6, [.ref qx, .ref qy, .ref qo, .ref qc, .ref qg, .ref qm, .int (nI (p0)), .int ct])), (qx, .inl (cX, 64, .inl (fx))), (qy, .inl (cY, 64, .inl (fy))), (qo, .inl (cO, 64, .inl (fo))), (qc, .inl (cC, 64, .inl (fc))), (qg, .inl (cG, 24, .inl (fg))), (qw, .inr (0, [.ref qa, .int (nI (a)), .int (nI (n)), .int (bI mi)])), (qa, .inl (cA, 1200, .inl (f)))] sz) [(h0, .inr (6, [.ref qx, .ref qy, .ref qo, .ref qc, .ref qg, .ref qm, .int (nI (p2)), .int ct2])), (qx, .inl (cX, 64, .inl (gx))), (qy, .inl (cY, 64, .inl (gy))), (qo, .inl (cO, 64, .inl (go))), (qc, .inl (cC, 64, .inl (gc))), (qg, .inl (cG, 24, .inl (gg))), (qw, .inr (0, [.ref qa, .int (nI (a)), .int (nI (n)), .int (bI m2)])), (qa, .inl (cA, 1200, .inl (f)))]) (va_A [(h0, .inr (6, [.ref qx, .ref qy, .ref qo, .ref qc, .ref qg, .ref qm, .int (nI (p0)), .int ct])), (qx, .inl (cX, 64, .inl (fx))), (qy, .inl (cY, 64, .inl (fy))), (qo, .inl (cO, 64, .inl (fo))), (qc, .inl (cC, 64, .inl (fc))), (qg, .inl (cG, 24, .inl (fg))), (qw, .inr (0, [.ref qa, .int (nI (a)), .int (nI (n)), .int (bI mi)])), (qa, .inl (cA, 1200, .inl (f)))] sz)) 0 0 (va_A [(h0, .inr (6, [.ref qx, .ref qy, .ref qo, .ref qc, .ref qg, .ref qm, .int (nI (p0)), .int ct])), (qx, .inl (cX, 64, .inl (fx))), (qy, .inl (cY, 64, .inl (fy))), (qo, .inl (cO, 64, .inl (fo))), (qc, .inl (cC, 64, .inl (fc))), (qg, .inl (cG, 24, .inl (fg))), (qw, .inr (0, [.ref qa, .int (nI (a)), .int (nI (n)), .int (bI mi)])), (qa, .inl (cA, 1200, .inl (f)))] sz) := by
  refine Met.ofW (cc := b_OU_addContours) (maxL := 6) (ret := (some .boolean)) (by decide) rfl ?_
  intro p e s m args below meth c s₁ B hml hv
  obtain ⟨rfl, hsz, hP, hK, hD0⟩ := hv
  have hx := B.exec
  have hb := B.bytes
  have hr := B.returns
  have hts := atoms_spec (ws := s_OU_addContours) B.pre
  have hown : s.vm.findClass R_OU = some m.cls := findClass_of_methodNamed B.named
  have hlocks := B.notSynchronized
  subst hsz
  have hD := hD0.self (sz := s.heap.size)
  generalize hAe : va_A [(h0, .inr (6, [.ref qx, .ref qy, .ref qo, .ref qc, .ref qg, .ref qm, .int (nI (p0)), .int ct])), (qx, .inl (cX, 64, .inl (fx))), (qy, .inl (cY, 64, .inl (fy))), (qo, .inl (cO, 64, .inl (fo))), (qc, .inl (cC, 64, .inl (fc))), (qg, .inl (cG, 24, .inl (fg))), (qw, .inr (0, [.ref qa, .int (nI (a)), .int (nI (n)), .int (bI mi)])), (qa, .inl (cA, 1200, .inl (f)))] s.heap.size = A at hD ⊢
  have hA : ∀ q : Nat, s.heap.size ≤ q → A q := fun q h => by rw [← hAe]; exact Or.inr h
  have hS : va_S A s.heap s.heap [] := va_S.rf
  have hP : va_P (dC, dI) cls_ [(h0, .inr (6, [.ref qx, .ref qy, .ref qo, .ref qc, .ref qg, .ref qm, .int (nI (p0)), .int ct])), (qx, .inl (cX, 64, .inl (fx))), (qy, .inl (cY, 64, .inl (fy))), (qo, .inl (cO, 64, .inl (fo))), (qc, .inl (cC, 64, .inl (fc))), (qg, .inl (cG, 24, .inl (fg))), (qw, .inr (0, [.ref qa, .int (nI (a)), .int (nI (n)), .int (bI mi)])), (qa, .inl (cA, 1200, .inl (f)))] s.heap := hP
  have hl := lv_entry ([.ref h0, .ref qw, .int (nI (mn))]) (n := 6) (Nat.le_of_ble_eq_true rfl)
  rw [lg_entry_eq]
  generalize (lg_sl ([.ref h0, .ref qw, .int (nI (mn))]) ++ List.replicate (6 - (lg_sl ([.ref h0, .ref qw, .int (nI (mn))])).length) Slot.unset).toArray = ls at hl ⊢
  have hl : lv_has ls 6 [(0, .ref h0), (1, .ref qw), (2, .int (nI (mn)))] := hl
  refine lv_iconst (v := 0) hx hb d_OU_addContours_0 (by decide) ?_
  refine lv_istore_n (lv' := [(3, .int 0), (0, .ref h0), (1, .ref qw), (2, .int (nI (mn)))]) hx hb d_OU_addContours_1 rfl hl (by decide) rfl (fun ls hl => ?_)
  refine lv_iconst (v := 0) hx hb d_OU_addContours_2 (by decide) ?_
  refine lv_istore (lv' := [(4, .int 0), (3, .int 0), (0, .ref h0), (1, .ref qw), (2, .int (nI (mn)))]) hx hb d_OU_addContours_3 hl (by decide) rfl (fun ls hl => ?_)
  have hP8 := hP.sub (ws' := [(h0, .inr (6, [.ref qx, .ref qy, .ref qo, .ref qc, .ref qg, .ref qm, .int (nI (p0)), .int ct])), (qx, .inl (cX, 64, .inl (fx))), (qy, .inl (cY, 64, .inl (fy))), (qo, .inl (cO, 64, .inl (fo))), (qc, .inl (cC, 64, .inl (fc))), (qg, .inl (cG, 24, .inl (fg))), (qw, .inr (0, [.ref qa, .int (nI (a)), .int (nI (n)), .int (bI mi)])), (qa, .inl (cA, 1200, .inl (f)))]) [0, 1, 2, 3, 4, 5, 6, 7] rfl
  have hD8 := hD.sub (ws' := [(h0, .inr (6, [.ref qx, .ref qy, .ref qo, .ref qc, .ref qg, .ref qm, .int (nI (p0)), .int ct])), (qx, .inl (cX, 64, .inl (fx))), (qy, .inl (cY, 64, .inl (fy))), (qo, .inl (cO, 64, .inl (fo))), (qc, .inl (cC, 64, .inl (fc))), (qg, .inl (cG, 24, .inl (fg))), (qw, .inr (0, [.ref qa, .int (nI (a)), .int (nI (n)), .int (bI mi)])), (qa, .inl (cA, 1200, .inl (f)))]) [0, 1, 2, 3, 4, 5, 6, 7] (by decide) rfl
  refine lv_loop (α := Int32 × (Nat → Int32) × Bool × Nat × Nat) 5 (fun ⟨f_h0_contours_1915, a_qc_1916, f_qw_missed_1917, l4_1918, l3_1919⟩ H' locs' ls' => va_P (dC, dI) cls_ [(h0, .inr (6, [.ref qx, .ref qy, .ref qo, .ref qc, .ref qg, .ref qm, .int (nI (p0)), .int f_h0_contours_1915])), (qx, .inl (cX, 64, .inl (fx))), (qy, .inl (cY, 64, .inl (fy))), (qo, .inl (cO, 64, .inl (fo))), (qc, .inl (cC, 64, .inl (a_qc_1916))), (qg, .inl (cG, 24, .inl (fg))), (qw, .inr (0, [.ref qa, .int (nI (a)), .int (nI (n)), .int (bI f_qw_missed_1917)])), (qa, .inl (cA, 1200, .inl (f)))] H' ∧ va_D A [(h0, .inr (6, [.ref qx, .ref qy, .ref qo, .ref qc, .ref qg, .ref qm, .int (nI (p0)), .int f_h0_contours_1915])), (qx, .inl (cX, 64, .inl (fx))), (qy, .inl (cY, 64, .inl (fy))), (qo, .inl (cO, 64, .inl (fo))), (qc, .inl (cC, 64, .inl (a_qc_1916))), (qg, .inl (cG, 24, .inl (fg))), (qw, .inr (0, [.ref qa, .int (nI (a)), .int (nI (n)), .int (bI f_qw_missed_1917)])), (qa, .inl (cA, 1200, .inl (f)))] ∧ va_S A s.heap H' locs' ∧ lv_has ls' 6 [(4, .int (nI (l4_1918))), (3, .int (nI (l3_1919))), (0, .ref h0), (1, .ref qw), (2, .int (nI (mn)))] ∧ (l3_1919 ≤ 24) ∧ (p0 + l3_1919 ≤ 64) ∧ (l4_1918 ≤ mn)) (fun ⟨f_h0_contours_1915, a_qc_1916, f_qw_missed_1917, l4_1918, l3_1919⟩ => []) (fun ⟨f_h0_contours_1915, a_qc_1916, f_qw_missed_1917, l4_1918, l3_1919⟩ => mn - l4_1918) ?_ (ct, fc, mi, 0, 0) s.heap _ ls ⟨hP8, hD8, hS, lv_sub hl [0, 1, 2, 3, 4] rfl, by omega, by omega, by omega⟩
  intro ⟨f_h0_contours_1915, a_qc_1916, f_qw_missed_1917, l4_1918, l3_1919⟩ ih1920 H locs ls ⟨hP, hD, hS, hl, hf1921, hf1922, hf1923⟩
  show W p l e _ s m _ below meth c H locs _ _ _ (F0 m 5 ls [])
  have hP : va_P (dC, dI) cls_ [(h0, .inr (6, [.ref qx, .ref qy, .ref qo, .ref qc, .ref qg, .ref qm, .int (nI (p0)), .int f_h0_contours_1915])), (qx, .inl (cX, 64, .inl (fx))), (qy, .inl (cY, 64, .inl (fy))), (qo, .inl (cO, 64, .inl (fo))), (qc, .inl (cC, 64, .inl (a_qc_1916))), (qg, .inl (cG, 24, .inl (fg))), (qw, .inr (0, [.ref qa, .int (nI (a)), .int (nI (n)), .int (bI f_qw_missed_1917)])), (qa, .inl (cA, 1200, .inl (f)))] H := hP
  have hD : va_D A [(h0, .inr (6, [.ref qx, .ref qy, .ref qo, .ref qc, .ref qg, .ref qm, .int (nI (p0)), .int f_h0_contours_1915])), (qx, .inl (cX, 64, .inl (fx))), (qy, .inl (cY, 64, .inl (fy))), (qo, .inl (cO, 64, .inl (fo))), (qc, .inl (cC, 64, .inl (a_qc_1916))), (qg, .inl (cG, 24, .inl (fg))), (qw, .inr (0, [.ref qa, .int (nI (a)), .int (nI (n)), .int (bI f_qw_missed_1917)])), (qa, .inl (cA, 1200, .inl (f)))] := hD
  refine lv_iload hx hb d_OU_addContours_5 (lv_at hl 0 rfl) ?_
  refine lv_iload_n hx hb d_OU_addContours_7 rfl (lv_at hl 4 rfl) ?_
  refine lv_icmp_ge (tgt := 94) hx hb d_OU_addContours_8 (by decide) (fun hc1924 => ?_) (fun hc1924 => ?_)
  · skip
    have hc1924n : mn ≤ l4_1918 := (nI_leI (a := mn) (b := l4_1918) (by omega) (by omega)).mp hc1924
    refine lv_bipush (v := 10) hx hb d_OU_addContours_94 (by decide) ?_
    refine lv_iconst (v := 2) hx hb d_OU_addContours_96 (by decide) ?_
    refine lv_iload_n hx hb d_OU_addContours_97 rfl (lv_at hl 4 rfl) ?_
    refine lv_imul hx hb d_OU_addContours_98 ?_
    refine lv_ci (y := nI (2 * mn)) (pk_mul (2) (mn)) ?_
    refine lv_iadd hx hb d_OU_addContours_99 ?_
    refine lv_ci (y := nI (10 + (2 * mn))) (nI_add (10) (2 * mn)) ?_
    refine lv_istore (lv' := [(4, .int (nI (10 + (2 * mn)))), (3, .int (nI (l3_1919))), (0, .ref h0), (1, .ref qw), (2, .int (nI (mn)))]) hx hb d_OU_addContours_100 hl (by decide) rfl (fun ls hl => ?_)
    refine lv_aload_n hx hb d_OU_addContours_102 rfl (lv_at hl 2 rfl) ?_
    refine lv_aload_n hx hb d_OU_addContours_103 rfl (lv_at hl 3 rfl) ?_
    refine lv_iload hx hb d_OU_addContours_104 (lv_at hl 0 rfl) ?_
    refine lv_iconst (v := 2) hx hb d_OU_addContours_106 (by decide) ?_
    refine lv_iadd hx hb d_OU_addContours_107 ?_
    refine lv_ci (y := nI (10 + (2 * mn) + 2)) (nI_add (10 + (2 * mn)) (2)) ?_
    refine lv_aload_n hx hb d_OU_addContours_108 rfl (lv_at hl 3 rfl) ?_
    refine lv_iload hx hb d_OU_addContours_109 (lv_at hl 0 rfl) ?_
    have hPc := hP.sub (ws' := [(qw, .inr (0, [.ref qa, .int (nI (a)), .int (nI (n)), .int (bI f_qw_missed_1917)])), (qa, .inl (cA, 1200, .inl (f)))]) [6, 7] rfl
    have hDc := hD.sub (ws' := [(qw, .inr (0, [.ref qa, .int (nI (a)), .int (nI (n)), .int (bI f_qw_missed_1917)])), (qa, .inl (cA, 1200, .inl (f)))]) [6, 7] (by decide) rfl
    have hKc := hK.sub (tys' := [(cA, .int)]) [5] rfl
    have hFc := va_free (wc := [(qw, .inr (0, [.ref qa, .int (nI (a)), .int (nI (n)), .int (bI f_qw_missed_1917)])), (qa, .inl (cA, 1200, .inl (f)))]) hD hS hA [6, 7] rfl
    refine va_calli (va_runV (As := [.int (nI (10 + (2 * mn)))]) (rest := [.int (nI (10 + (2 * mn) + 2)), .ref qw, .ref h0]) ⟨hx, hb, hml, hown, hts⟩ (g_SP_u16 l dC dI qw qa a n f_qw_missed_1917 cA f (nI (10 + (2 * mn))) H.size (by omega) (by assumption)) (cwV 1 hts (tw_inV w_480 w_353 w_354 w_4 w_355) rfl rfl rfl (by decide +kernel) ⟨Nat.le_of_ble_eq_true rfl, Nat.le_of_ble_eq_true rfl⟩) ⟨fun a U g mk q => by obtain ⟨q0, q1, qP, qK, qD⟩ := q; exact ⟨q0, q1, qP, va_K.moved (u := U) (U := U.calling g mk a) (Vm.Alike.refl U.vm) qK, qD⟩, va_recv (hK := hK) (hP := hP) (q0 := 6) (ci := 0) rfl rfl, fun U hU hW => ⟨rfl, by rw [hU], by rw [hU]; exact hPc, va_K.moved hW.alike hKc, hDc.weaken (fun _ _ _ _ => trivial)⟩⟩ rfl rfl hl.1 rfl (lv_room (Nat.le_of_ble_eq_true rfl)) d_OU_addContours_111 ⟨Nat.le_of_ble_eq_true rfl, Nat.le_of_ble_eq_true rfl⟩) hS (fun q _ h => hFc q h) hFc (fun r1925 u t H1 locs ht hvm hw hB hz1 hk1 hS => ?_)
    obtain ⟨m_1926, hP1, hK1, hD1⟩ := hB
    rw [ht] at hP1
    have hK1 := va_K.moved hvm.symm hK1
    obtain ⟨hP, hD⟩ := va_join (wr := [(h0, .inr (6, [.ref qx, .ref qy, .ref qo, .ref qc, .ref qg, .ref qm, .int (nI (p0)), .int f_h0_contours_1915])), (qx, .inl (cX, 64, .inl (fx))), (qy, .inl (cY, 64, .inl (fy))), (qo, .inl (cO, 64, .inl (fo))), (qc, .inl (cC, 64, .inl (a_qc_1916))), (qg, .inl (cG, 24, .inl (fg)))]) (w1 := [(qw, .inr (0, [.ref qa, .int (nI (a)), .int (nI (n)), .int (bI m_1926)])), (qa, .inl (cA, 1200, .inl (f)))]) hP hD [6, 7] [0, 1, 2, 3, 4, 5] rfl rfl (by decide) (by decide) hk1 hFc hP1 hD1
    have hK := (hK.sub (tys' := [(cX, .int), (cY, .int), (cO, .boolean), (cC, .int), (cG, .int)]) [0, 1, 2, 3, 4] rfl).app hK1
    generalize H1 = H at hP hS ⊢
    have hP : va_P (dC, dI) cls_ [(h0, .inr (6, [.ref qx, .ref qy, .ref qo, .ref qc, .ref qg, .ref qm, .int (nI (p0)), .int f_h0_contours_1915])), (qx, .inl (cX, 64, .inl (fx))), (qy, .inl (cY, 64, .inl (fy))), (qo, .inl (cO, 64, .inl (fo))), (qc, .inl (cC, 64, .inl (a_qc_1916))), (qg, .inl (cG, 24, .inl (fg))), (qw, .inr (0, [.ref qa, .int (nI (a)), .int (nI (n)), .int (bI m_1926)])), (qa, .inl (cA, 1200, .inl (f)))] H := hP
    have hD : va_D A [(h0, .inr (6, [.ref qx, .ref qy, .ref qo, .ref qc, .ref qg, .ref qm, .int (nI (p0)), .int f_h0_contours_1915])), (qx, .inl (cX, 64, .inl (fx))), (qy, .inl (cY, 64, .inl (fy))), (qo, .inl (cO, 64, .inl (fo))), (qc, .inl (cC, 64, .inl (a_qc_1916))), (qg, .inl (cG, 24, .inl (fg))), (qw, .inr (0, [.ref qa, .int (nI (a)), .int (nI (n)), .int (bI m_1926)])), (qa, .inl (cA, 1200, .inl (f)))] := hD
    have hK : va_K (dC, dI) cls_ [(cX, .int), (cY, .int), (cO, .boolean), (cC, .int), (cG, .int), (cA, .int)] s := hK
    have hw_r1925 := hw
    obtain ⟨kn1927, hb_kn1927, rfl⟩ := hw_r1925
    refine lv_iadd hx hb d_OU_addContours_114 ?_
    refine lv_ci (y := nI (10 + (2 * mn) + 2 + kn1927)) (nI_add (10 + (2 * mn) + 2) (kn1927)) ?_
    refine lv_iload_n hx hb d_OU_addContours_115 rfl (lv_at hl 1 rfl) ?_
    have hPc := hP.sub (ws' := [(h0, .inr (6, [.ref qx, .ref qy, .ref qo, .ref qc, .ref qg, .ref qm, .int (nI (p0)), .int f_h0_contours_1915])), (qo, .inl (cO, 64, .inl (fo))), (qg, .inl (cG, 24, .inl (fg))), (qw, .inr (0, [.ref qa, .int (nI (a)), .int (nI (n)), .int (bI m_1926)])), (qa, .inl (cA, 1200, .inl (f)))]) [0, 3, 5, 6, 7] rfl
    have hDc := hD.sub (ws' := [(h0, .inr (6, [.ref qx, .ref qy, .ref qo, .ref qc, .ref qg, .ref qm, .int (nI (p0)), .int f_h0_contours_1915])), (qo, .inl (cO, 64, .inl (fo))), (qg, .inl (cG, 24, .inl (fg))), (qw, .inr (0, [.ref qa, .int (nI (a)), .int (nI (n)), .int (bI m_1926)])), (qa, .inl (cA, 1200, .inl (f)))]) [0, 3, 5, 6, 7] (by decide) rfl
    have hKc := hK.sub (tys' := [(cO, .boolean), (cG, .int), (cA, .int)]) [2, 4, 5] rfl
    have hFc := va_free (wc := [(h0, .inr (6, [.ref qx, .ref qy, .ref qo, .ref qc, .ref qg, .ref qm, .int (nI (p0)), .int f_h0_contours_1915])), (qo, .inl (cO, 64, .inl (fo))), (qg, .inl (cG, 24, .inl (fg))), (qw, .inr (0, [.ref qa, .int (nI (a)), .int (nI (n)), .int (bI m_1926)])), (qa, .inl (cA, 1200, .inl (f)))]) hD hS hA [0, 3, 5, 6, 7] rfl
    refine va_calli (va_runV (As := [.ref qw, .int (nI (10 + (2 * mn) + 2 + kn1927)), .int (nI (l3_1919))]) (rest := []) ⟨hx, hb, hml, hown, hts⟩ (g_OU_readFlags l dC dI h0 qx qy qo qc qg qm p0 f_h0_contours_1915 qw qa a n m_1926 cA f (nI (10 + (2 * mn) + 2 + kn1927)) l3_1919 cO cG fo fg H.size (by omega) (by assumption) (by omega) (by omega)) (cwV 3 hts (tw_inV w_527 w_529 wp_19 w_7 w_530) rfl rfl rfl (by decide +kernel) ⟨Nat.le_of_ble_eq_true rfl, Nat.le_of_ble_eq_true rfl⟩) ⟨fun a U g mk q => by obtain ⟨q0, q1, qP, qK, qD⟩ := q; exact ⟨q0, q1, qP, va_K.moved (u := U) (U := U.calling g mk a) (Vm.Alike.refl U.vm) qK, qD⟩, va_recv (hK := hK) (hP := hP) (q0 := 0) (ci := 6) rfl rfl, fun U hU hW => ⟨rfl, by rw [hU], by rw [hU]; exact hPc, va_K.moved hW.alike hKc, hDc.weaken (fun _ _ _ _ => trivial)⟩⟩ rfl rfl hl.1 rfl (lv_room (Nat.le_of_ble_eq_true rfl)) d_OU_addContours_116 ⟨Nat.le_of_ble_eq_true rfl, Nat.le_of_ble_eq_true rfl⟩) hS (fun q _ h => hFc q h) hFc (fun r1928 u t H1 locs ht hvm hw hB hz1 hk1 hS => ?_)
    obtain ⟨m_1929, go_1930, gg_1931, hP1, hK1, hD1⟩ := hB
    rw [ht] at hP1
    have hK1 := va_K.moved hvm.symm hK1
    obtain ⟨hP, hD⟩ := va_join (wr := [(qx, .inl (cX, 64, .inl (fx))), (qy, .inl (cY, 64, .inl (fy))), (qc, .inl (cC, 64, .inl (a_qc_1916)))]) (w1 := [(h0, .inr (6, [.ref qx, .ref qy, .ref qo, .ref qc, .ref qg, .ref qm, .int (nI (p0)), .int f_h0_contours_1915])), (qo, .inl (cO, 64, .inl (go_1930))), (qg, .inl (cG, 24, .inl (gg_1931))), (qw, .inr (0, [.ref qa, .int (nI (a)), .int (nI (n)), .int (bI m_1929)])), (qa, .inl (cA, 1200, .inl (f)))]) hP hD [0, 3, 5, 6, 7] [1, 2, 4] rfl rfl (by decide) (by decide) hk1 hFc hP1 hD1
    have hK := (hK.sub (tys' := [(cX, .int), (cY, .int), (cC, .int)]) [0, 1, 3] rfl).app hK1
    generalize H1 = H at hP hS ⊢
    have hP : va_P (dC, dI) cls_ [(qx, .inl (cX, 64, .inl (fx))), (qy, .inl (cY, 64, .inl (fy))), (qc, .inl (cC, 64, .inl (a_qc_1916))), (h0, .inr (6, [.ref qx, .ref qy, .ref qo, .ref qc, .ref qg, .ref qm, .int (nI (p0)), .int f_h0_contours_1915])), (qo, .inl (cO, 64, .inl (go_1930))), (qg, .inl (cG, 24, .inl (gg_1931))), (qw, .inr (0, [.ref qa, .int (nI (a)), .int (nI (n)), .int (bI m_1929)])), (qa, .inl (cA, 1200, .inl (f)))] H := hP
    have hD : va_D A [(qx, .inl (cX, 64, .inl (fx))), (qy, .inl (cY, 64, .inl (fy))), (qc, .inl (cC, 64, .inl (a_qc_1916))), (h0, .inr (6, [.ref qx, .ref qy, .ref qo, .ref qc, .ref qg, .ref qm, .int (nI (p0)), .int f_h0_contours_1915])), (qo, .inl (cO, 64, .inl (go_1930))), (qg, .inl (cG, 24, .inl (gg_1931))), (qw, .inr (0, [.ref qa, .int (nI (a)), .int (nI (n)), .int (bI m_1929)])), (qa, .inl (cA, 1200, .inl (f)))] := hD
    have hK : va_K (dC, dI) cls_ [(cX, .int), (cY, .int), (cC, .int), (cO, .boolean), (cG, .int), (cA, .int)] s := hK
    have hw_r1928 := hw
    refine lv_istore (lv' := [(5, .int r1928), (4, .int (nI (10 + (2 * mn)))), (3, .int (nI (l3_1919))), (0, .ref h0), (1, .ref qw), (2, .int (nI (mn)))]) hx hb d_OU_addContours_119 hl (by decide) rfl (fun ls hl => ?_)
    refine lv_aload_n hx hb d_OU_addContours_121 rfl (lv_at hl 3 rfl) ?_
    refine lv_aload_n hx hb d_OU_addContours_122 rfl (lv_at hl 4 rfl) ?_
    refine lv_iload hx hb d_OU_addContours_123 (lv_at hl 0 rfl) ?_
    refine lv_iload_n hx hb d_OU_addContours_125 rfl (lv_at hl 2 rfl) ?_
    refine lv_aload_n hx hb d_OU_addContours_126 rfl (lv_at hl 3 rfl) ?_
    refine va_get (D := (dC, dI)) (ci := 6) (v := .ref qx) (C := R_OU) (T := F_OU) (N := 8) hx hb hts in_OU hown hK hP 3 rfl rfl 0 (by decide) (hts _ (List.mem_cons_of_mem _ w_198)) (fun _ h9 => h9) rfl d_OU_addContours_127 ?_
    refine lv_iconst (v := 1) hx hb d_OU_addContours_130 (by decide) ?_
    have hPc := hP.sub (ws' := [(h0, .inr (6, [.ref qx, .ref qy, .ref qo, .ref qc, .ref qg, .ref qm, .int (nI (p0)), .int f_h0_contours_1915])), (qg, .inl (cG, 24, .inl (gg_1931))), (qx, .inl (cX, 64, .inl (fx))), (qw, .inr (0, [.ref qa, .int (nI (a)), .int (nI (n)), .int (bI m_1929)])), (qa, .inl (cA, 1200, .inl (f)))]) [3, 5, 0, 6, 7] rfl
    have hDc := hD.sub (ws' := [(h0, .inr (6, [.ref qx, .ref qy, .ref qo, .ref qc, .ref qg, .ref qm, .int (nI (p0)), .int f_h0_contours_1915])), (qg, .inl (cG, 24, .inl (gg_1931))), (qx, .inl (cX, 64, .inl (fx))), (qw, .inr (0, [.ref qa, .int (nI (a)), .int (nI (n)), .int (bI m_1929)])), (qa, .inl (cA, 1200, .inl (f)))]) [3, 5, 0, 6, 7] (by decide) rfl
    have hKc := hK.sub (tys' := [(cG, .int), (cX, .int), (cA, .int)]) [4, 0, 5] rfl
    have hFc := va_free (wc := [(h0, .inr (6, [.ref qx, .ref qy, .ref qo, .ref qc, .ref qg, .ref qm, .int (nI (p0)), .int f_h0_contours_1915])), (qg, .inl (cG, 24, .inl (gg_1931))), (qx, .inl (cX, 64, .inl (fx))), (qw, .inr (0, [.ref qa, .int (nI (a)), .int (nI (n)), .int (bI m_1929)])), (qa, .inl (cA, 1200, .inl (f)))]) hD hS hA [3, 5, 0, 6, 7] rfl
    refine va_calli (va_runV (As := [.ref qw, .int r1928, .int (nI (l3_1919)), .ref qx, .int 1]) (rest := []) ⟨hx, hb, hml, hown, hts⟩ (g_OU_readAxis l dC dI h0 qx qy qo qc qg qm p0 f_h0_contours_1915 qw qa a n m_1929 cA f r1928 1 qx l3_1919 cG cX gg_1931 fx H.size (by omega) (by assumption) (by omega) (by omega)) (cwV 5 hts (tw_inV w_532 w_534 wp_20 w_7 w_535) rfl rfl rfl (by decide +kernel) ⟨Nat.le_of_ble_eq_true rfl, Nat.le_of_ble_eq_true rfl⟩) ⟨fun a U g mk q => by obtain ⟨q0, q1, qP, qK, qD⟩ := q; exact ⟨q0, q1, qP, va_K.moved (u := U) (U := U.calling g mk a) (Vm.Alike.refl U.vm) qK, qD⟩, va_recv (hK := hK) (hP := hP) (q0 := 3) (ci := 6) rfl rfl, fun U hU hW => ⟨rfl, by rw [hU], by rw [hU]; exact hPc, va_K.moved hW.alike hKc, hDc.weaken (fun _ _ _ _ => trivial)⟩⟩ rfl rfl hl.1 rfl (lv_room (Nat.le_of_ble_eq_true rfl)) d_OU_addContours_131 ⟨Nat.le_of_ble_eq_true rfl, Nat.le_of_ble_eq_true rfl⟩) hS (fun q _ h => hFc q h) hFc (fun r1932 u t H1 locs ht hvm hw hB hz1 hk1 hS => ?_)
    obtain ⟨m_1933, gv_1934, hP1, hK1, hD1⟩ := hB
    rw [ht] at hP1
    have hK1 := va_K.moved hvm.symm hK1
    obtain ⟨hP, hD⟩ := va_join (wr := [(qy, .inl (cY, 64, .inl (fy))), (qc, .inl (cC, 64, .inl (a_qc_1916))), (qo, .inl (cO, 64, .inl (go_1930)))]) (w1 := [(h0, .inr (6, [.ref qx, .ref qy, .ref qo, .ref qc, .ref qg, .ref qm, .int (nI (p0)), .int f_h0_contours_1915])), (qg, .inl (cG, 24, .inl (gg_1931))), (qx, .inl (cX, 64, .inl (gv_1934))), (qw, .inr (0, [.ref qa, .int (nI (a)), .int (nI (n)), .int (bI m_1933)])), (qa, .inl (cA, 1200, .inl (f)))]) hP hD [3, 5, 0, 6, 7] [1, 2, 4] rfl rfl (by decide) (by decide) hk1 hFc hP1 hD1
    have hK := (hK.sub (tys' := [(cY, .int), (cC, .int), (cO, .boolean)]) [1, 2, 3] rfl).app hK1
    generalize H1 = H at hP hS ⊢
    have hP : va_P (dC, dI) cls_ [(qy, .inl (cY, 64, .inl (fy))), (qc, .inl (cC, 64, .inl (a_qc_1916))), (qo, .inl (cO, 64, .inl (go_1930))), (h0, .inr (6, [.ref qx, .ref qy, .ref qo, .ref qc, .ref qg, .ref qm, .int (nI (p0)), .int f_h0_contours_1915])), (qg, .inl (cG, 24, .inl (gg_1931))), (qx, .inl (cX, 64, .inl (gv_1934))), (qw, .inr (0, [.ref qa, .int (nI (a)), .int (nI (n)), .int (bI m_1933)])), (qa, .inl (cA, 1200, .inl (f)))] H := hP
    have hD : va_D A [(qy, .inl (cY, 64, .inl (fy))), (qc, .inl (cC, 64, .inl (a_qc_1916))), (qo, .inl (cO, 64, .inl (go_1930))), (h0, .inr (6, [.ref qx, .ref qy, .ref qo, .ref qc, .ref qg, .ref qm, .int (nI (p0)), .int f_h0_contours_1915])), (qg, .inl (cG, 24, .inl (gg_1931))), (qx, .inl (cX, 64, .inl (gv_1934))), (qw, .inr (0, [.ref qa, .int (nI (a)), .int (nI (n)), .int (bI m_1933)])), (qa, .inl (cA, 1200, .inl (f)))] := hD
    have hK : va_K (dC, dI) cls_ [(cY, .int), (cC, .int), (cO, .boolean), (cG, .int), (cX, .int), (cA, .int)] s := hK
    have hw_r1932 := hw
    refine lv_istore (lv' := [(5, .int r1932), (4, .int (nI (10 + (2 * mn)))), (3, .int (nI (l3_1919))), (0, .ref h0), (1, .ref qw), (2, .int (nI (mn)))]) hx hb d_OU_addContours_134 hl (by decide) rfl (fun ls hl => ?_)
    refine lv_aload_n hx hb d_OU_addContours_136 rfl (lv_at hl 3 rfl) ?_
    refine lv_aload_n hx hb d_OU_addContours_137 rfl (lv_at hl 4 rfl) ?_
    refine lv_iload hx hb d_OU_addContours_138 (lv_at hl 0 rfl) ?_
    refine lv_iload_n hx hb d_OU_addContours_140 rfl (lv_at hl 2 rfl) ?_
    refine lv_aload_n hx hb d_OU_addContours_141 rfl (lv_at hl 3 rfl) ?_
    refine va_get (D := (dC, dI)) (ci := 6) (v := .ref qy) (C := R_OU) (T := F_OU) (N := 8) hx hb hts in_OU hown hK hP 3 rfl rfl 1 (by decide) (hts _ (List.mem_cons_of_mem _ w_201)) (fun _ h9 => h9) rfl d_OU_addContours_142 ?_
    refine lv_iconst (v := 2) hx hb d_OU_addContours_145 (by decide) ?_
    have hPc := hP.sub (ws' := [(h0, .inr (6, [.ref qx, .ref qy, .ref qo, .ref qc, .ref qg, .ref qm, .int (nI (p0)), .int f_h0_contours_1915])), (qg, .inl (cG, 24, .inl (gg_1931))), (qy, .inl (cY, 64, .inl (fy))), (qw, .inr (0, [.ref qa, .int (nI (a)), .int (nI (n)), .int (bI m_1933)])), (qa, .inl (cA, 1200, .inl (f)))]) [3, 4, 0, 6, 7] rfl
    have hDc := hD.sub (ws' := [(h0, .inr (6, [.ref qx, .ref qy, .ref qo, .ref qc, .ref qg, .ref qm, .int (nI (p0)), .int f_h0_contours_1915])), (qg, .inl (cG, 24, .inl (gg_1931))), (qy, .inl (cY, 64, .inl (fy))), (qw, .inr (0, [.ref qa, .int (nI (a)), .int (nI (n)), .int (bI m_1933)])), (qa, .inl (cA, 1200, .inl (f)))]) [3, 4, 0, 6, 7] (by decide) rfl
    have hKc := hK.sub (tys' := [(cG, .int), (cY, .int), (cA, .int)]) [3, 0, 5] rfl
    have hFc := va_free (wc := [(h0, .inr (6, [.ref qx, .ref qy, .ref qo, .ref qc, .ref qg, .ref qm, .int (nI (p0)), .int f_h0_contours_1915])), (qg, .inl (cG, 24, .inl (gg_1931))), (qy, .inl (cY, 64, .inl (fy))), (qw, .inr (0, [.ref qa, .int (nI (a)), .int (nI (n)), .int (bI m_1933)])), (qa, .inl (cA, 1200, .inl (f)))]) hD hS hA [3, 4, 0, 6, 7] rfl
    refine va_calli (va_runV (As := [.ref qw, .int r1932, .int (nI (l3_1919)), .ref qy, .int 2]) (rest := []) ⟨hx, hb, hml, hown, hts⟩ (g_OU_readAxis l dC dI h0 qx qy qo qc qg qm p0 f_h0_contours_1915 qw qa a n m_1933 cA f r1932 2 qy l3_1919 cG cY gg_1931 fy H.size (by omega) (by assumption) (by omega) (by omega)) (cwV 5 hts (tw_inV w_532 w_534 wp_20 w_7 w_535) rfl rfl rfl (by decide +kernel) ⟨Nat.le_of_ble_eq_true rfl, Nat.le_of_ble_eq_true rfl⟩) ⟨fun a U g mk q => by obtain ⟨q0, q1, qP, qK, qD⟩ := q; exact ⟨q0, q1, qP, va_K.moved (u := U) (U := U.calling g mk a) (Vm.Alike.refl U.vm) qK, qD⟩, va_recv (hK := hK) (hP := hP) (q0 := 3) (ci := 6) rfl rfl, fun U hU hW => ⟨rfl, by rw [hU], by rw [hU]; exact hPc, va_K.moved hW.alike hKc, hDc.weaken (fun _ _ _ _ => trivial)⟩⟩ rfl rfl hl.1 rfl (lv_room (Nat.le_of_ble_eq_true rfl)) d_OU_addContours_146 ⟨Nat.le_of_ble_eq_true rfl, Nat.le_of_ble_eq_true rfl⟩) hS (fun q _ h => hFc q h) hFc (fun r1935 u t H1 locs ht hvm hw hB hz1 hk1 hS => ?_)
    obtain ⟨m_1936, gv_1937, hP1, hK1, hD1⟩ := hB
    rw [ht] at hP1
    have hK1 := va_K.moved hvm.symm hK1
    obtain ⟨hP, hD⟩ := va_join (wr := [(qc, .inl (cC, 64, .inl (a_qc_1916))), (qo, .inl (cO, 64, .inl (go_1930))), (qx, .inl (cX, 64, .inl (gv_1934)))]) (w1 := [(h0, .inr (6, [.ref qx, .ref qy, .ref qo, .ref qc, .ref qg, .ref qm, .int (nI (p0)), .int f_h0_contours_1915])), (qg, .inl (cG, 24, .inl (gg_1931))), (qy, .inl (cY, 64, .inl (gv_1937))), (qw, .inr (0, [.ref qa, .int (nI (a)), .int (nI (n)), .int (bI m_1936)])), (qa, .inl (cA, 1200, .inl (f)))]) hP hD [3, 4, 0, 6, 7] [1, 2, 5] rfl rfl (by decide) (by decide) hk1 hFc hP1 hD1
    have hK := (hK.sub (tys' := [(cC, .int), (cO, .boolean), (cX, .int)]) [1, 2, 4] rfl).app hK1
    generalize H1 = H at hP hS ⊢
    have hP : va_P (dC, dI) cls_ [(qc, .inl (cC, 64, .inl (a_qc_1916))), (qo, .inl (cO, 64, .inl (go_1930))), (qx, .inl (cX, 64, .inl (gv_1934))), (h0, .inr (6, [.ref qx, .ref qy, .ref qo, .ref qc, .ref qg, .ref qm, .int (nI (p0)), .int f_h0_contours_1915])), (qg, .inl (cG, 24, .inl (gg_1931))), (qy, .inl (cY, 64, .inl (gv_1937))), (qw, .inr (0, [.ref qa, .int (nI (a)), .int (nI (n)), .int (bI m_1936)])), (qa, .inl (cA, 1200, .inl (f)))] H := hP
    have hD : va_D A [(qc, .inl (cC, 64, .inl (a_qc_1916))), (qo, .inl (cO, 64, .inl (go_1930))), (qx, .inl (cX, 64, .inl (gv_1934))), (h0, .inr (6, [.ref qx, .ref qy, .ref qo, .ref qc, .ref qg, .ref qm, .int (nI (p0)), .int f_h0_contours_1915])), (qg, .inl (cG, 24, .inl (gg_1931))), (qy, .inl (cY, 64, .inl (gv_1937))), (qw, .inr (0, [.ref qa, .int (nI (a)), .int (nI (n)), .int (bI m_1936)])), (qa, .inl (cA, 1200, .inl (f)))] := hD
    have hK : va_K (dC, dI) cls_ [(cC, .int), (cO, .boolean), (cX, .int), (cG, .int), (cY, .int), (cA, .int)] s := hK
    have hw_r1935 := hw
    refine lv_pop hx hb d_OU_addContours_149 rfl ?_
    refine lv_aload_n hx hb d_OU_addContours_150 rfl (lv_at hl 3 rfl) ?_
    refine lv_dup hx hb d_OU_addContours_151 rfl ?_
    refine va_get (D := (dC, dI)) (ci := 6) (v := .int (nI (p0))) (C := R_OU) (T := F_OU) (N := 8) hx hb hts in_OU hown hK hP 3 rfl rfl 6 (by decide) (hts _ (List.mem_cons_of_mem _ w_212)) (fun _ h9 => h9) rfl d_OU_addContours_152 ?_
    refine lv_iload_n hx hb d_OU_addContours_155 rfl (lv_at hl 2 rfl) ?_
    refine lv_iadd hx hb d_OU_addContours_156 ?_
    refine lv_ci (y := nI (p0 + l3_1919)) (nI_add (p0) (l3_1919)) ?_
    refine va_put (D := (dC, dI)) (ci := 6) (v := .int (nI (p0 + l3_1919))) (ty := .int) (C := R_OU) (T := F_OU) (N := 8) hx hb hts in_OU t_OU t_OU_ok n_OU hown hK hP hD hS 3 rfl rfl 6 (by decide) (hts _ (List.mem_cons_of_mem _ w_212)) (fun _ h9 => h9) rfl  (by decide +kernel) rfl rfl (Nat.le_of_ble_eq_true rfl) d_OU_addContours_157 (fun H locs hP hD hS => ?_)
    have hP : va_P (dC, dI) cls_ [(qc, .inl (cC, 64, .inl (a_qc_1916))), (qo, .inl (cO, 64, .inl (go_1930))), (qx, .inl (cX, 64, .inl (gv_1934))), (h0, .inr (6, [.ref qx, .ref qy, .ref qo, .ref qc, .ref qg, .ref qm, .int (nI (p0 + l3_1919)), .int f_h0_contours_1915])), (qg, .inl (cG, 24, .inl (gg_1931))), (qy, .inl (cY, 64, .inl (gv_1937))), (qw, .inr (0, [.ref qa, .int (nI (a)), .int (nI (n)), .int (bI m_1936)])), (qa, .inl (cA, 1200, .inl (f)))] H := hP
    have hD : va_D A [(qc, .inl (cC, 64, .inl (a_qc_1916))), (qo, .inl (cO, 64, .inl (go_1930))), (qx, .inl (cX, 64, .inl (gv_1934))), (h0, .inr (6, [.ref qx, .ref qy, .ref qo, .ref qc, .ref qg, .ref qm, .int (nI (p0 + l3_1919)), .int f_h0_contours_1915])), (qg, .inl (cG, 24, .inl (gg_1931))), (qy, .inl (cY, 64, .inl (gv_1937))), (qw, .inr (0, [.ref qa, .int (nI (a)), .int (nI (n)), .int (bI m_1936)])), (qa, .inl (cA, 1200, .inl (f)))] := hD
    refine lv_iconst (v := 1) hx hb d_OU_addContours_160 (by decide) ?_
    refine W.widen (k := 0) (n := 0) (Nat.le_of_ble_eq_true rfl) (Nat.le_of_ble_eq_true rfl) ?_
    have hP9 := hP.sub (ws' := [(h0, .inr (6, [.ref qx, .ref qy, .ref qo, .ref qc, .ref qg, .ref qm, .int (nI (p0 + l3_1919)), .int f_h0_contours_1915])), (qx, .inl (cX, 64, .inl (gv_1934))), (qy, .inl (cY, 64, .inl (gv_1937))), (qo, .inl (cO, 64, .inl (go_1930))), (qc, .inl (cC, 64, .inl (a_qc_1916))), (qg, .inl (cG, 24, .inl (gg_1931))), (qw, .inr (0, [.ref qa, .int (nI (a)), .int (nI (n)), .int (bI m_1936)])), (qa, .inl (cA, 1200, .inl (f)))]) [3, 2, 5, 1, 0, 4, 6, 7] rfl
    have hD9 := hD.sub (ws' := [(h0, .inr (6, [.ref qx, .ref qy, .ref qo, .ref qc, .ref qg, .ref qm, .int (nI (p0 + l3_1919)), .int f_h0_contours_1915])), (qx, .inl (cX, 64, .inl (gv_1934))), (qy, .inl (cY, 64, .inl (gv_1937))), (qo, .inl (cO, 64, .inl (go_1930))), (qc, .inl (cC, 64, .inl (a_qc_1916))), (qg, .inl (cG, 24, .inl (gg_1931))), (qw, .inr (0, [.ref qa, .int (nI (a)), .int (nI (n)), .int (bI m_1936)])), (qa, .inl (cA, 1200, .inl (f)))]) [3, 2, 5, 1, 0, 4, 6, 7] (by decide) rfl
    have hK9 := hK.sub (tys' := [(cX, .int), (cY, .int), (cO, .boolean), (cC, .int), (cG, .int), (cA, .int)]) [2, 4, 1, 0, 3, 5] rfl
    exact W.zret (v := 1) (ty := .boolean) hx hb hr (by decide +kernel) (fun t ht hW => ⟨⟨1, (), rfl, ⟨true, rfl⟩, m_1936, (p0 + l3_1919), f_h0_contours_1915, gv_1934, gv_1937, go_1930, a_qc_1916, gg_1931, by omega, by rw [ht]; exact hP9, va_K.moved hW.alike hK9, hD9⟩, hS.F ht⟩) hS.2.2 d_OU_addContours_161
  · skip
    have hc1924n : ¬ (mn ≤ l4_1918) := fun z => hc1924 ((nI_leI (a := mn) (b := l4_1918) (by omega) (by omega)).mpr z)
    refine lv_aload_n hx hb d_OU_addContours_11 rfl (lv_at hl 3 rfl) ?_
    refine lv_bipush (v := 10) hx hb d_OU_addContours_12 (by decide) ?_
    refine lv_iconst (v := 2) hx hb d_OU_addContours_14 (by decide) ?_
    refine lv_iload hx hb d_OU_addContours_15 (lv_at hl 0 rfl) ?_
    refine lv_imul hx hb d_OU_addContours_17 ?_
    refine lv_ci (y := nI (2 * l4_1918)) (pk_mul (2) (l4_1918)) ?_
    refine lv_iadd hx hb d_OU_addContours_18 ?_
    refine lv_ci (y := nI (10 + (2 * l4_1918))) (nI_add (10) (2 * l4_1918)) ?_
    have hPc := hP.sub (ws' := [(qw, .inr (0, [.ref qa, .int (nI (a)), .int (nI (n)), .int (bI f_qw_missed_1917)])), (qa, .inl (cA, 1200, .inl (f)))]) [6, 7] rfl
    have hDc := hD.sub (ws' := [(qw, .inr (0, [.ref qa, .int (nI (a)), .int (nI (n)), .int (bI f_qw_missed_1917)])), (qa, .inl (cA, 1200, .inl (f)))]) [6, 7] (by decide) rfl
    have hKc := hK.sub (tys' := [(cA, .int)]) [5] rfl
    have hFc := va_free (wc := [(qw, .inr (0, [.ref qa, .int (nI (a)), .int (nI (n)), .int (bI f_qw_missed_1917)])), (qa, .inl (cA, 1200, .inl (f)))]) hD hS hA [6, 7] rfl
    refine va_calli (va_runV (As := [.int (nI (10 + (2 * l4_1918)))]) (rest := []) ⟨hx, hb, hml, hown, hts⟩ (g_SP_u16 l dC dI qw qa a n f_qw_missed_1917 cA f (nI (10 + (2 * l4_1918))) H.size (by omega) (by assumption)) (cwV 1 hts (tw_inV w_480 w_353 w_354 w_4 w_355) rfl rfl rfl (by decide +kernel) ⟨Nat.le_of_ble_eq_true rfl, Nat.le_of_ble_eq_true rfl⟩) ⟨fun a U g mk q => by obtain ⟨q0, q1, qP, qK, qD⟩ := q; exact ⟨q0, q1, qP, va_K.moved (u := U) (U := U.calling g mk a) (Vm.Alike.refl U.vm) qK, qD⟩, va_recv (hK := hK) (hP := hP) (q0 := 6) (ci := 0) rfl rfl, fun U hU hW => ⟨rfl, by rw [hU], by rw [hU]; exact hPc, va_K.moved hW.alike hKc, hDc.weaken (fun _ _ _ _ => trivial)⟩⟩ rfl rfl hl.1 rfl (lv_room (Nat.le_of_ble_eq_true rfl)) d_OU_addContours_19 ⟨Nat.le_of_ble_eq_true rfl, Nat.le_of_ble_eq_true rfl⟩) hS (fun q _ h => hFc q h) hFc (fun r1938 u t H1 locs ht hvm hw hB hz1 hk1 hS => ?_)
    obtain ⟨m_1939, hP1, hK1, hD1⟩ := hB
    rw [ht] at hP1
    have hK1 := va_K.moved hvm.symm hK1
    obtain ⟨hP, hD⟩ := va_join (wr := [(h0, .inr (6, [.ref qx, .ref qy, .ref qo, .ref qc, .ref qg, .ref qm, .int (nI (p0)), .int f_h0_contours_1915])), (qx, .inl (cX, 64, .inl (fx))), (qy, .inl (cY, 64, .inl (fy))), (qo, .inl (cO, 64, .inl (fo))), (qc, .inl (cC, 64, .inl (a_qc_1916))), (qg, .inl (cG, 24, .inl (fg)))]) (w1 := [(qw, .inr (0, [.ref qa, .int (nI (a)), .int (nI (n)), .int (bI m_1939)])), (qa, .inl (cA, 1200, .inl (f)))]) hP hD [6, 7] [0, 1, 2, 3, 4, 5] rfl rfl (by decide) (by decide) hk1 hFc hP1 hD1
    have hK := (hK.sub (tys' := [(cX, .int), (cY, .int), (cO, .boolean), (cC, .int), (cG, .int)]) [0, 1, 2, 3, 4] rfl).app hK1
    generalize H1 = H at hP hS ⊢
    have hP : va_P (dC, dI) cls_ [(h0, .inr (6, [.ref qx, .ref qy, .ref qo, .ref qc, .ref qg, .ref qm, .int (nI (p0)), .int f_h0_contours_1915])), (qx, .inl (cX, 64, .inl (fx))), (qy, .inl (cY, 64, .inl (fy))), (qo, .inl (cO, 64, .inl (fo))), (qc, .inl (cC, 64, .inl (a_qc_1916))), (qg, .inl (cG, 24, .inl (fg))), (qw, .inr (0, [.ref qa, .int (nI (a)), .int (nI (n)), .int (bI m_1939)])), (qa, .inl (cA, 1200, .inl (f)))] H := hP
    have hD : va_D A [(h0, .inr (6, [.ref qx, .ref qy, .ref qo, .ref qc, .ref qg, .ref qm, .int (nI (p0)), .int f_h0_contours_1915])), (qx, .inl (cX, 64, .inl (fx))), (qy, .inl (cY, 64, .inl (fy))), (qo, .inl (cO, 64, .inl (fo))), (qc, .inl (cC, 64, .inl (a_qc_1916))), (qg, .inl (cG, 24, .inl (fg))), (qw, .inr (0, [.ref qa, .int (nI (a)), .int (nI (n)), .int (bI m_1939)])), (qa, .inl (cA, 1200, .inl (f)))] := hD
    have hK : va_K (dC, dI) cls_ [(cX, .int), (cY, .int), (cO, .boolean), (cC, .int), (cG, .int), (cA, .int)] s := hK
    have hw_r1938 := hw
    obtain ⟨kn1940, hb_kn1940, rfl⟩ := hw_r1938
    refine lv_istore (lv' := [(5, .int (nI (kn1940))), (4, .int (nI (l4_1918))), (3, .int (nI (l3_1919))), (0, .ref h0), (1, .ref qw), (2, .int (nI (mn)))]) hx hb d_OU_addContours_22 hl (by decide) rfl (fun ls hl => ?_)
    refine lv_iload hx hb d_OU_addContours_24 (lv_at hl 0 rfl) ?_
    refine lv_iload_n hx hb d_OU_addContours_26 rfl (lv_at hl 2 rfl) ?_
    refine lv_icmp_lt (tgt := 49) hx hb d_OU_addContours_27 (by decide) (fun hc1941 => ?_) (fun hc1941 => ?_)
    · skip
      have hc1941n : kn1940 < l3_1919 := (nI_ltI (a := kn1940) (b := l3_1919) (by omega) (by omega)).mp hc1941
      refine lv_iconst (v := 0) hx hb d_OU_addContours_49 (by decide) ?_
      refine W.widen (k := 0) (n := 0) (Nat.le_of_ble_eq_true rfl) (Nat.le_of_ble_eq_true rfl) ?_
      have hP9 := hP.sub (ws' := [(h0, .inr (6, [.ref qx, .ref qy, .ref qo, .ref qc, .ref qg, .ref qm, .int (nI (p0)), .int f_h0_contours_1915])), (qx, .inl (cX, 64, .inl (fx))), (qy, .inl (cY, 64, .inl (fy))), (qo, .inl (cO, 64, .inl (fo))), (qc, .inl (cC, 64, .inl (a_qc_1916))), (qg, .inl (cG, 24, .inl (fg))), (qw, .inr (0, [.ref qa, .int (nI (a)), .int (nI (n)), .int (bI m_1939)])), (qa, .inl (cA, 1200, .inl (f)))]) [0, 1, 2, 3, 4, 5, 6, 7] rfl
      have hD9 := hD.sub (ws' := [(h0, .inr (6, [.ref qx, .ref qy, .ref qo, .ref qc, .ref qg, .ref qm, .int (nI (p0)), .int f_h0_contours_1915])), (qx, .inl (cX, 64, .inl (fx))), (qy, .inl (cY, 64, .inl (fy))), (qo, .inl (cO, 64, .inl (fo))), (qc, .inl (cC, 64, .inl (a_qc_1916))), (qg, .inl (cG, 24, .inl (fg))), (qw, .inr (0, [.ref qa, .int (nI (a)), .int (nI (n)), .int (bI m_1939)])), (qa, .inl (cA, 1200, .inl (f)))]) [0, 1, 2, 3, 4, 5, 6, 7] (by decide) rfl
      have hK9 := hK.sub (tys' := [(cX, .int), (cY, .int), (cO, .boolean), (cC, .int), (cG, .int), (cA, .int)]) [0, 1, 2, 3, 4, 5] rfl
      exact W.zret (v := 0) (ty := .boolean) hx hb hr (by decide +kernel) (fun t ht hW => ⟨⟨0, (), rfl, ⟨false, rfl⟩, m_1939, p0, f_h0_contours_1915, fx, fy, fo, a_qc_1916, fg, by omega, by rw [ht]; exact hP9, va_K.moved hW.alike hK9, hD9⟩, hS.F ht⟩) hS.2.2 d_OU_addContours_50
    · skip
      have hc1941n : ¬ (kn1940 < l3_1919) := fun z => hc1941 ((nI_ltI (a := kn1940) (b := l3_1919) (by omega) (by omega)).mpr z)
      refine lv_iload hx hb d_OU_addContours_30 (lv_at hl 0 rfl) ?_
      refine lv_bipush (v := 24) hx hb d_OU_addContours_32 (by decide) ?_
      refine lv_icmp_ge (tgt := 49) hx hb d_OU_addContours_34 (by decide) (fun hc1942 => ?_) (fun hc1942 => ?_)
      · skip
        have hc1942n : 24 ≤ kn1940 := (nI_leI (a := 24) (b := kn1940) (by omega) (by omega)).mp hc1942
        refine lv_iconst (v := 0) hx hb d_OU_addContours_49 (by decide) ?_
        refine W.widen (k := 0) (n := 0) (Nat.le_of_ble_eq_true rfl) (Nat.le_of_ble_eq_true rfl) ?_
        have hP9 := hP.sub (ws' := [(h0, .inr (6, [.ref qx, .ref qy, .ref qo, .ref qc, .ref qg, .ref qm, .int (nI (p0)), .int f_h0_contours_1915])), (qx, .inl (cX, 64, .inl (fx))), (qy, .inl (cY, 64, .inl (fy))), (qo, .inl (cO, 64, .inl (fo))), (qc, .inl (cC, 64, .inl (a_qc_1916))), (qg, .inl (cG, 24, .inl (fg))), (qw, .inr (0, [.ref qa, .int (nI (a)), .int (nI (n)), .int (bI m_1939)])), (qa, .inl (cA, 1200, .inl (f)))]) [0, 1, 2, 3, 4, 5, 6, 7] rfl
        have hD9 := hD.sub (ws' := [(h0, .inr (6, [.ref qx, .ref qy, .ref qo, .ref qc, .ref qg, .ref qm, .int (nI (p0)), .int f_h0_contours_1915])), (qx, .inl (cX, 64, .inl (fx))), (qy, .inl (cY, 64, .inl (fy))), (qo, .inl (cO, 64, .inl (fo))), (qc, .inl (cC, 64, .inl (a_qc_1916))), (qg, .inl (cG, 24, .inl (fg))), (qw, .inr (0, [.ref qa, .int (nI (a)), .int (nI (n)), .int (bI m_1939)])), (qa, .inl (cA, 1200, .inl (f)))]) [0, 1, 2, 3, 4, 5, 6, 7] (by decide) rfl
        have hK9 := hK.sub (tys' := [(cX, .int), (cY, .int), (cO, .boolean), (cC, .int), (cG, .int), (cA, .int)]) [0, 1, 2, 3, 4, 5] rfl
        exact W.zret (v := 0) (ty := .boolean) hx hb hr (by decide +kernel) (fun t ht hW => ⟨⟨0, (), rfl, ⟨false, rfl⟩, m_1939, p0, f_h0_contours_1915, fx, fy, fo, a_qc_1916, fg, by omega, by rw [ht]; exact hP9, va_K.moved hW.alike hK9, hD9⟩, hS.F ht⟩) hS.2.2 d_OU_addContours_50
      · skip
        have hc1942n : ¬ (24 ≤ kn1940) := fun z => hc1942 ((nI_leI (a := 24) (b := kn1940) (by omega) (by omega)).mpr z)
        refine lv_aload_n hx hb d_OU_addContours_37 rfl (lv_at hl 3 rfl) ?_
        refine va_get (D := (dC, dI)) (ci := 6) (v := .int (nI (p0))) (C := R_OU) (T := F_OU) (N := 8) hx hb hts in_OU hown hK hP 0 rfl rfl 6 (by decide) (hts _ (List.mem_cons_of_mem _ w_212)) (fun _ h9 => h9) rfl d_OU_addContours_38 ?_
        refine lv_iload hx hb d_OU_addContours_41 (lv_at hl 0 rfl) ?_
        refine lv_iadd hx hb d_OU_addContours_43 ?_
        refine lv_ci (y := nI (p0 + kn1940)) (nI_add (p0) (kn1940)) ?_
        refine lv_bipush (v := 64) hx hb d_OU_addContours_44 (by decide) ?_
        refine lv_icmp_lt (tgt := 51) hx hb d_OU_addContours_46 (by decide) (fun hc1943 => ?_) (fun hc1943 => ?_)
        · skip
          have hc1943n : p0 + kn1940 < 64 := (nI_ltI (a := p0 + kn1940) (b := 64) (by omega) (by omega)).mp hc1943
          have hP8 := hP.sub (ws' := [(h0, .inr (6, [.ref qx, .ref qy, .ref qo, .ref qc, .ref qg, .ref qm, .int (nI (p0)), .int f_h0_contours_1915])), (qx, .inl (cX, 64, .inl (fx))), (qy, .inl (cY, 64, .inl (fy))), (qo, .inl (cO, 64, .inl (fo))), (qc, .inl (cC, 64, .inl (a_qc_1916))), (qg, .inl (cG, 24, .inl (fg))), (qw, .inr (0, [.ref qa, .int (nI (a)), .int (nI (n)), .int (bI m_1939)])), (qa, .inl (cA, 1200, .inl (f)))]) [0, 1, 2, 3, 4, 5, 6, 7] rfl
          have hD8 := hD.sub (ws' := [(h0, .inr (6, [.ref qx, .ref qy, .ref qo, .ref qc, .ref qg, .ref qm, .int (nI (p0)), .int f_h0_contours_1915])), (qx, .inl (cX, 64, .inl (fx))), (qy, .inl (cY, 64, .inl (fy))), (qo, .inl (cO, 64, .inl (fo))), (qc, .inl (cC, 64, .inl (a_qc_1916))), (qg, .inl (cG, 24, .inl (fg))), (qw, .inr (0, [.ref qa, .int (nI (a)), .int (nI (n)), .int (bI m_1939)])), (qa, .inl (cA, 1200, .inl (f)))]) [0, 1, 2, 3, 4, 5, 6, 7] (by decide) rfl
          refine lv_loop (α := (Nat → Int32) × Nat) 51 (fun ⟨a_qc_1970, l3_1971⟩ H' locs' ls' => va_P (dC, dI) cls_ [(h0, .inr (6, [.ref qx, .ref qy, .ref qo, .ref qc, .ref qg, .ref qm, .int (nI (p0)), .int f_h0_contours_1915])), (qx, .inl (cX, 64, .inl (fx))), (qy, .inl (cY, 64, .inl (fy))), (qo, .inl (cO, 64, .inl (fo))), (qc, .inl (cC, 64, .inl (a_qc_1970))), (qg, .inl (cG, 24, .inl (fg))), (qw, .inr (0, [.ref qa, .int (nI (a)), .int (nI (n)), .int (bI m_1939)])), (qa, .inl (cA, 1200, .inl (f)))] H' ∧ va_D A [(h0, .inr (6, [.ref qx, .ref qy, .ref qo, .ref qc, .ref qg, .ref qm, .int (nI (p0)), .int f_h0_contours_1915])), (qx, .inl (cX, 64, .inl (fx))), (qy, .inl (cY, 64, .inl (fy))), (qo, .inl (cO, 64, .inl (fo))), (qc, .inl (cC, 64, .inl (a_qc_1970))), (qg, .inl (cG, 24, .inl (fg))), (qw, .inr (0, [.ref qa, .int (nI (a)), .int (nI (n)), .int (bI m_1939)])), (qa, .inl (cA, 1200, .inl (f)))] ∧ va_S A s.heap H' locs' ∧ lv_has ls' 6 [(5, .int (nI (kn1940))), (4, .int (nI (l4_1918))), (3, .int (nI (l3_1971))), (0, .ref h0), (1, .ref qw), (2, .int (nI (mn)))] ∧ (l3_1971 ≤ kn1940 + 1)) (fun ⟨a_qc_1970, l3_1971⟩ => []) (fun ⟨a_qc_1970, l3_1971⟩ => kn1940 + 1 - l3_1971) ?_ (a_qc_1916, l3_1919) H locs ls ⟨hP8, hD8, hS, lv_sub hl [0, 1, 2, 3, 4, 5] rfl, by omega⟩
          intro ⟨a_qc_1970, l3_1971⟩ ih1972 H locs ls ⟨hP, hD, hS, hl, hf1973⟩
          show W p l e _ s m _ below meth c H locs _ _ _ (F0 m 51 ls [])
          have hP : va_P (dC, dI) cls_ [(h0, .inr (6, [.ref qx, .ref qy, .ref qo, .ref qc, .ref qg, .ref qm, .int (nI (p0)), .int f_h0_contours_1915])), (qx, .inl (cX, 64, .inl (fx))), (qy, .inl (cY, 64, .inl (fy))), (qo, .inl (cO, 64, .inl (fo))), (qc, .inl (cC, 64, .inl (a_qc_1970))), (qg, .inl (cG, 24, .inl (fg))), (qw, .inr (0, [.ref qa, .int (nI (a)), .int (nI (n)), .int (bI m_1939)])), (qa, .inl (cA, 1200, .inl (f)))] H := hP
          have hD : va_D A [(h0, .inr (6, [.ref qx, .ref qy, .ref qo, .ref qc, .ref qg, .ref qm, .int (nI (p0)), .int f_h0_contours_1915])), (qx, .inl (cX, 64, .inl (fx))), (qy, .inl (cY, 64, .inl (fy))), (qo, .inl (cO, 64, .inl (fo))), (qc, .inl (cC, 64, .inl (a_qc_1970))), (qg, .inl (cG, 24, .inl (fg))), (qw, .inr (0, [.ref qa, .int (nI (a)), .int (nI (n)), .int (bI m_1939)])), (qa, .inl (cA, 1200, .inl (f)))] := hD
          refine lv_iload_n hx hb d_OU_addContours_51 rfl (lv_at hl 2 rfl) ?_
          refine lv_iload hx hb d_OU_addContours_52 (lv_at hl 0 rfl) ?_
          refine lv_icmp_gt (tgt := 78) hx hb d_OU_addContours_54 (by decide) (fun hc1976 => ?_) (fun hc1976 => ?_)
          · skip
            have hc1976n : kn1940 < l3_1971 := (nI_ltI (a := kn1940) (b := l3_1971) (by omega) (by omega)).mp hc1976
            refine lv_aload_n hx hb d_OU_addContours_78 rfl (lv_at hl 3 rfl) ?_
            refine lv_dup hx hb d_OU_addContours_79 rfl ?_
            refine va_get (D := (dC, dI)) (ci := 6) (v := .int f_h0_contours_1915) (C := R_OU) (T := F_OU) (N := 8) hx hb hts in_OU hown hK hP 0 rfl rfl 7 (by decide) (hts _ (List.mem_cons_of_mem _ w_215)) (fun _ h9 => h9) rfl d_OU_addContours_80 ?_
            refine lv_iconst (v := 1) hx hb d_OU_addContours_83 (by decide) ?_
            refine lv_iadd hx hb d_OU_addContours_84 ?_
            refine lv_topi (fun v1977 ev1977 => ?_)
            refine va_put (D := (dC, dI)) (ci := 6) (v := .int v1977) (ty := .int) (C := R_OU) (T := F_OU) (N := 8) hx hb hts in_OU t_OU t_OU_ok n_OU hown hK hP hD hS 0 rfl rfl 7 (by decide) (hts _ (List.mem_cons_of_mem _ w_215)) (fun _ h9 => h9) rfl  (by decide +kernel) rfl rfl (Nat.le_of_ble_eq_true rfl) d_OU_addContours_85 (fun H locs hP hD hS => ?_)
            have hP : va_P (dC, dI) cls_ [(h0, .inr (6, [.ref qx, .ref qy, .ref qo, .ref qc, .ref qg, .ref qm, .int (nI (p0)), .int v1977])), (qx, .inl (cX, 64, .inl (fx))), (qy, .inl (cY, 64, .inl (fy))), (qo, .inl (cO, 64, .inl (fo))), (qc, .inl (cC, 64, .inl (a_qc_1970))), (qg, .inl (cG, 24, .inl (fg))), (qw, .inr (0, [.ref qa, .int (nI (a)), .int (nI (n)), .int (bI m_1939)])), (qa, .inl (cA, 1200, .inl (f)))] H := hP
            have hD : va_D A [(h0, .inr (6, [.ref qx, .ref qy, .ref qo, .ref qc, .ref qg, .ref qm, .int (nI (p0)), .int v1977])), (qx, .inl (cX, 64, .inl (fx))), (qy, .inl (cY, 64, .inl (fy))), (qo, .inl (cO, 64, .inl (fo))), (qc, .inl (cC, 64, .inl (a_qc_1970))), (qg, .inl (cG, 24, .inl (fg))), (qw, .inr (0, [.ref qa, .int (nI (a)), .int (nI (n)), .int (bI m_1939)])), (qa, .inl (cA, 1200, .inl (f)))] := hD
            refine lv_iinc (k := 1) (v := nI (l4_1918 + 1)) (lv' := [(4, .int (nI (l4_1918 + 1))), (5, .int (nI (kn1940))), (3, .int (nI (l3_1971))), (0, .ref h0), (1, .ref qw), (2, .int (nI (mn)))]) hx hb d_OU_addContours_88 hl rfl (nI_add (l4_1918) 1) (by decide) rfl (fun ls hl => ?_)
            refine lv_goto (tgt := 5) hx hb d_OU_addContours_91 (by decide) ?_
            have hP8 := hP.sub (ws' := [(h0, .inr (6, [.ref qx, .ref qy, .ref qo, .ref qc, .ref qg, .ref qm, .int (nI (p0)), .int v1977])), (qx, .inl (cX, 64, .inl (fx))), (qy, .inl (cY, 64, .inl (fy))), (qo, .inl (cO, 64, .inl (fo))), (qc, .inl (cC, 64, .inl (a_qc_1970))), (qg, .inl (cG, 24, .inl (fg))), (qw, .inr (0, [.ref qa, .int (nI (a)), .int (nI (n)), .int (bI m_1939)])), (qa, .inl (cA, 1200, .inl (f)))]) [0, 1, 2, 3, 4, 5, 6, 7] rfl
            have hD8 := hD.sub (ws' := [(h0, .inr (6, [.ref qx, .ref qy, .ref qo, .ref qc, .ref qg, .ref qm, .int (nI (p0)), .int v1977])), (qx, .inl (cX, 64, .inl (fx))), (qy, .inl (cY, 64, .inl (fy))), (qo, .inl (cO, 64, .inl (fo))), (qc, .inl (cC, 64, .inl (a_qc_1970))), (qg, .inl (cG, 24, .inl (fg))), (qw, .inr (0, [.ref qa, .int (nI (a)), .int (nI (n)), .int (bI m_1939)])), (qa, .inl (cA, 1200, .inl (f)))]) [0, 1, 2, 3, 4, 5, 6, 7] (by decide) rfl
            exact ih1920 (v1977, a_qc_1970, m_1939, l4_1918 + 1, l3_1971) H locs ls (by show mn - (l4_1918 + 1) < mn - l4_1918; omega) ⟨hP8, hD8, hS, lv_sub hl [0, 2, 3, 4, 5] rfl, by omega, by omega, by omega⟩
          · skip
            have hc1976n : ¬ (kn1940 < l3_1971) := fun z => hc1976 ((nI_ltI (a := kn1940) (b := l3_1971) (by omega) (by omega)).mpr z)
            refine lv_aload_n hx hb d_OU_addContours_57 rfl (lv_at hl 3 rfl) ?_
            refine va_get (D := (dC, dI)) (ci := 6) (v := .ref qc) (C := R_OU) (T := F_OU) (N := 8) hx hb hts in_OU hown hK hP 0 rfl rfl 3 (by decide) (hts _ (List.mem_cons_of_mem _ w_207)) (fun _ h9 => h9) rfl d_OU_addContours_58 ?_
            refine lv_aload_n hx hb d_OU_addContours_61 rfl (lv_at hl 3 rfl) ?_
            refine va_get (D := (dC, dI)) (ci := 6) (v := .int (nI (p0))) (C := R_OU) (T := F_OU) (N := 8) hx hb hts in_OU hown hK hP 0 rfl rfl 6 (by decide) (hts _ (List.mem_cons_of_mem _ w_212)) (fun _ h9 => h9) rfl d_OU_addContours_62 ?_
            refine lv_iload_n hx hb d_OU_addContours_65 rfl (lv_at hl 2 rfl) ?_
            refine lv_iadd hx hb d_OU_addContours_66 ?_
            refine lv_ci (y := nI (p0 + l3_1971)) (nI_add (p0) (l3_1971)) ?_
            refine lv_aload_n hx hb d_OU_addContours_67 rfl (lv_at hl 3 rfl) ?_
            refine va_get (D := (dC, dI)) (ci := 6) (v := .int f_h0_contours_1915) (C := R_OU) (T := F_OU) (N := 8) hx hb hts in_OU hown hK hP 0 rfl rfl 7 (by decide) (hts _ (List.mem_cons_of_mem _ w_215)) (fun _ h9 => h9) rfl d_OU_addContours_68 ?_
            refine va_iast hx hb hK hP hD hS 4 3 rfl rfl (pk_in (p0 + l3_1971) 64 (by omega) rfl (by decide)) d_OU_addContours_71 (fun H locs hP hD hS => ?_)
            have hP : va_P (dC, dI) cls_ [(h0, .inr (6, [.ref qx, .ref qy, .ref qo, .ref qc, .ref qg, .ref qm, .int (nI (p0)), .int f_h0_contours_1915])), (qx, .inl (cX, 64, .inl (fx))), (qy, .inl (cY, 64, .inl (fy))), (qo, .inl (cO, 64, .inl (fo))), (qc, .inl (cC, 64, .inl (upd (a_qc_1970) (Int32.toNatClampNeg (nI (p0 + l3_1971))) (f_h0_contours_1915)))), (qg, .inl (cG, 24, .inl (fg))), (qw, .inr (0, [.ref qa, .int (nI (a)), .int (nI (n)), .int (bI m_1939)])), (qa, .inl (cA, 1200, .inl (f)))] H := hP
            have hD : va_D A [(h0, .inr (6, [.ref qx, .ref qy, .ref qo, .ref qc, .ref qg, .ref qm, .int (nI (p0)), .int f_h0_contours_1915])), (qx, .inl (cX, 64, .inl (fx))), (qy, .inl (cY, 64, .inl (fy))), (qo, .inl (cO, 64, .inl (fo))), (qc, .inl (cC, 64, .inl (upd (a_qc_1970) (Int32.toNatClampNeg (nI (p0 + l3_1971))) (f_h0_contours_1915)))), (qg, .inl (cG, 24, .inl (fg))), (qw, .inr (0, [.ref qa, .int (nI (a)), .int (nI (n)), .int (bI m_1939)])), (qa, .inl (cA, 1200, .inl (f)))] := hD
            obtain ⟨g1978, eg1978⟩ : ∃ z : Nat → Int32, z = upd (a_qc_1970) (Int32.toNatClampNeg (nI (p0 + l3_1971))) (f_h0_contours_1915) := ⟨_, rfl⟩
            rw [← eg1978] at hP hD
            have hP : va_P (dC, dI) cls_ [(h0, .inr (6, [.ref qx, .ref qy, .ref qo, .ref qc, .ref qg, .ref qm, .int (nI (p0)), .int f_h0_contours_1915])), (qx, .inl (cX, 64, .inl (fx))), (qy, .inl (cY, 64, .inl (fy))), (qo, .inl (cO, 64, .inl (fo))), (qc, .inl (cC, 64, .inl (g1978))), (qg, .inl (cG, 24, .inl (fg))), (qw, .inr (0, [.ref qa, .int (nI (a)), .int (nI (n)), .int (bI m_1939)])), (qa, .inl (cA, 1200, .inl (f)))] H := hP
            have hD : va_D A [(h0, .inr (6, [.ref qx, .ref qy, .ref qo, .ref qc, .ref qg, .ref qm, .int (nI (p0)), .int f_h0_contours_1915])), (qx, .inl (cX, 64, .inl (fx))), (qy, .inl (cY, 64, .inl (fy))), (qo, .inl (cO, 64, .inl (fo))), (qc, .inl (cC, 64, .inl (g1978))), (qg, .inl (cG, 24, .inl (fg))), (qw, .inr (0, [.ref qa, .int (nI (a)), .int (nI (n)), .int (bI m_1939)])), (qa, .inl (cA, 1200, .inl (f)))] := hD
            refine lv_iinc (k := 2) (v := nI (l3_1971 + 1)) (lv' := [(3, .int (nI (l3_1971 + 1))), (5, .int (nI (kn1940))), (4, .int (nI (l4_1918))), (0, .ref h0), (1, .ref qw), (2, .int (nI (mn)))]) hx hb d_OU_addContours_72 hl rfl (nI_add (l3_1971) 1) (by decide) rfl (fun ls hl => ?_)
            refine lv_goto (tgt := 51) hx hb d_OU_addContours_75 (by decide) ?_
            have hP8 := hP.sub (ws' := [(h0, .inr (6, [.ref qx, .ref qy, .ref qo, .ref qc, .ref qg, .ref qm, .int (nI (p0)), .int f_h0_contours_1915])), (qx, .inl (cX, 64, .inl (fx))), (qy, .inl (cY, 64, .inl (fy))), (qo, .inl (cO, 64, .inl (fo))), (qc, .inl (cC, 64, .inl (g1978))), (qg, .inl (cG, 24, .inl (fg))), (qw, .inr (0, [.ref qa, .int (nI (a)), .int (nI (n)), .int (bI m_1939)])), (qa, .inl (cA, 1200, .inl (f)))]) [0, 1, 2, 3, 4, 5, 6, 7] rfl
            have hD8 := hD.sub (ws' := [(h0, .inr (6, [.ref qx, .ref qy, .ref qo, .ref qc, .ref qg, .ref qm, .int (nI (p0)), .int f_h0_contours_1915])), (qx, .inl (cX, 64, .inl (fx))), (qy, .inl (cY, 64, .inl (fy))), (qo, .inl (cO, 64, .inl (fo))), (qc, .inl (cC, 64, .inl (g1978))), (qg, .inl (cG, 24, .inl (fg))), (qw, .inr (0, [.ref qa, .int (nI (a)), .int (nI (n)), .int (bI m_1939)])), (qa, .inl (cA, 1200, .inl (f)))]) [0, 1, 2, 3, 4, 5, 6, 7] (by decide) rfl
            exact ih1972 (g1978, l3_1971 + 1) H locs ls (by show kn1940 + 1 - (l3_1971 + 1) < kn1940 + 1 - l3_1971; omega) ⟨hP8, hD8, hS, lv_sub hl [1, 2, 0, 3, 4, 5] rfl, by omega⟩
        · skip
          have hc1943n : ¬ (p0 + kn1940 < 64) := fun z => hc1943 ((nI_ltI (a := p0 + kn1940) (b := 64) (by omega) (by omega)).mpr z)
          refine lv_iconst (v := 0) hx hb d_OU_addContours_49 (by decide) ?_
          refine W.widen (k := 0) (n := 0) (Nat.le_of_ble_eq_true rfl) (Nat.le_of_ble_eq_true rfl) ?_
          have hP9 := hP.sub (ws' := [(h0, .inr (6, [.ref qx, .ref qy, .ref qo, .ref qc, .ref qg, .ref qm, .int (nI (p0)), .int f_h0_contours_1915])), (qx, .inl (cX, 64, .inl (fx))), (qy, .inl (cY, 64, .inl (fy))), (qo, .inl (cO, 64, .inl (fo))), (qc, .inl (cC, 64, .inl (a_qc_1916))), (qg, .inl (cG, 24, .inl (fg))), (qw, .inr (0, [.ref qa, .int (nI (a)), .int (nI (n)), .int (bI m_1939)])), (qa, .inl (cA, 1200, .inl (f)))]) [0, 1, 2, 3, 4, 5, 6, 7] rfl
          have hD9 := hD.sub (ws' := [(h0, .inr (6, [.ref qx, .ref qy, .ref qo, .ref qc, .ref qg, .ref qm, .int (nI (p0)), .int f_h0_contours_1915])), (qx, .inl (cX, 64, .inl (fx))), (qy, .inl (cY, 64, .inl (fy))), (qo, .inl (cO, 64, .inl (fo))), (qc, .inl (cC, 64, .inl (a_qc_1916))), (qg, .inl (cG, 24, .inl (fg))), (qw, .inr (0, [.ref qa, .int (nI (a)), .int (nI (n)), .int (bI m_1939)])), (qa, .inl (cA, 1200, .inl (f)))]) [0, 1, 2, 3, 4, 5, 6, 7] (by decide) rfl
          have hK9 := hK.sub (tys' := [(cX, .int), (cY, .int), (cO, .boolean), (cC, .int), (cG, .int), (cA, .int)]) [0, 1, 2, 3, 4, 5] rfl
          exact W.zret (v := 0) (ty := .boolean) hx hb hr (by decide +kernel) (fun t ht hW => ⟨⟨0, (), rfl, ⟨false, rfl⟩, m_1939, p0, f_h0_contours_1915, fx, fy, fo, a_qc_1916, fg, by omega, by rw [ht]; exact hP9, va_K.moved hW.alike hK9, hD9⟩, hS.F ht⟩) hS.2.2 d_OU_addContours_50
