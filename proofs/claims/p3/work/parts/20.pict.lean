abbrev b_PI_clear : ByteArray := prog_9_method_2_code
def y_PI_clear : MethodName := ⟨R_PI, "clear", "()V"⟩
def s_PI_clear : List Cond := .code y_PI_clear b_PI_clear 1 none :: tw_T
abbrev b_PI_beginGlyph : ByteArray := prog_9_method_3_code
def y_PI_beginGlyph : MethodName := ⟨R_PI, "beginGlyph", "()V"⟩
def s_PI_beginGlyph : List Cond := .code y_PI_beginGlyph b_PI_beginGlyph 1 none :: tw_T
abbrev b_PI_firstMiddle : ByteArray := prog_9_method_5_code
def y_PI_firstMiddle : MethodName := ⟨R_PI, "firstMiddle", "(I)I"⟩
def s_PI_firstMiddle : List Cond := .code y_PI_firstMiddle b_PI_firstMiddle 1 (some .int) :: tw_T
abbrev b_PI_addLine : ByteArray := prog_9_method_4_code
def y_PI_addLine : MethodName := ⟨R_PI, "addLine", "(IIII)V"⟩
def s_PI_addLine : List Cond := .code y_PI_addLine b_PI_addLine 15 none :: tw_T
abbrev b_PI_endGlyph : ByteArray := prog_9_method_6_code
def y_PI_endGlyph : MethodName := ⟨R_PI, "endGlyph", "()V"⟩
def s_PI_endGlyph : List Cond := .code y_PI_endGlyph b_PI_endGlyph 4 none :: tw_T
theorem w_9 : (Jvm.Cond.initialized "GlyphLines$Picture") ∈ tw_T := tw_of 9 (by decide +kernel) (by decide +kernel)
theorem w_21 : (Jvm.Cond.initialized "java/util/Arrays") ∈ tw_T := tw_of 21 (by decide +kernel) (by decide +kernel)
theorem w_240 : (Jvm.Cond.fieldLink "GlyphLines$Picture" (9 : Nat) "GlyphLines$Picture" "rows" "[J") ∈ tw_T := tw_of 240 (by decide +kernel) (by decide +kernel)
theorem w_242 : (Jvm.Cond.fieldLink "GlyphLines$Picture" (13 : Nat) "GlyphLines$Picture" "steps" "[I") ∈ tw_T := tw_of 242 (by decide +kernel) (by decide +kernel)
theorem w_746 : (Jvm.Cond.methodLink "GlyphLines$Picture" (17 : Nat) ({ cls := "java/util/Arrays", name := "fill", desc := "([JJ)V" } : Jvm.MethodName)) ∈ tw_T := tw_of 746 (by decide +kernel) (by decide +kernel)
theorem w_747 : (Jvm.Cond.static ({ cls := "java/util/Arrays", name := "fill", desc := "([JJ)V" } : Jvm.MethodName)) ∈ tw_T := tw_of 747 (by decide +kernel) (by decide +kernel)
theorem w_748 : (Jvm.Cond.code ({ cls := "java/util/Arrays", name := "fill", desc := "([JJ)V" } : Jvm.MethodName) prog_23_method_101_code (5 : Nat) (Option.none : Option Jvm.ClassFile.FieldType)) ∈ tw_T := tw_of 748 (by decide +kernel) (by decide +kernel)
theorem w_775 : (Jvm.Cond.methodLink "GlyphLines$Picture" (23 : Nat) ({ cls := "java/util/Arrays", name := "fill", desc := "([II)V" } : Jvm.MethodName)) ∈ tw_T := tw_of 775 (by decide +kernel) (by decide +kernel)
theorem w_776 : (Jvm.Cond.static ({ cls := "java/util/Arrays", name := "fill", desc := "([II)V" } : Jvm.MethodName)) ∈ tw_T := tw_of 776 (by decide +kernel) (by decide +kernel)
theorem w_777 : (Jvm.Cond.code ({ cls := "java/util/Arrays", name := "fill", desc := "([II)V" } : Jvm.MethodName) prog_23_method_103_code (4 : Nat) (Option.none : Option Jvm.ClassFile.FieldType)) ∈ tw_T := tw_of 777 (by decide +kernel) (by decide +kernel)
theorem w_805 : (Jvm.Cond.methodLink "GlyphLines$Picture" (26 : Nat) ({ cls := "java/lang/Math", name := "min", desc := "(II)I" } : Jvm.MethodName)) ∈ tw_T := tw_of 805 (by decide +kernel) (by decide +kernel)
theorem w_806 : (Jvm.Cond.methodLink "GlyphLines$Picture" (32 : Nat) ({ cls := "GlyphLines$Picture", name := "firstMiddle", desc := "(I)I" } : Jvm.MethodName)) ∈ tw_T := tw_of 806 (by decide +kernel) (by decide +kernel)
theorem w_807 : (Jvm.Cond.static ({ cls := "GlyphLines$Picture", name := "firstMiddle", desc := "(I)I" } : Jvm.MethodName)) ∈ tw_T := tw_of 807 (by decide +kernel) (by decide +kernel)
theorem w_808 : (Jvm.Cond.code ({ cls := "GlyphLines$Picture", name := "firstMiddle", desc := "(I)I" } : Jvm.MethodName) prog_9_method_5_code (1 : Nat) (Option.some Jvm.ClassFile.FieldType.int)) ∈ tw_T := tw_of 808 (by decide +kernel) (by decide +kernel)
theorem w_809 : (Jvm.Cond.methodLink "GlyphLines$Picture" (36 : Nat) ({ cls := "java/lang/Math", name := "max", desc := "(II)I" } : Jvm.MethodName)) ∈ tw_T := tw_of 809 (by decide +kernel) (by decide +kernel)
theorem w_810 : (Jvm.Cond.constantLong "GlyphLines$Picture" (39 : Nat) (32 : Int64)) ∈ tw_T := tw_of 810 (by decide +kernel) (by decide +kernel)
theorem w_811 : (Jvm.Cond.methodLink "GlyphLines$Picture" (41 : Nat) ({ cls := "java/lang/Math", name := "floorDiv", desc := "(JJ)J" } : Jvm.MethodName)) ∈ tw_T := tw_of 811 (by decide +kernel) (by decide +kernel)
theorem w_812 : (Jvm.Cond.static ({ cls := "java/lang/Math", name := "floorDiv", desc := "(JJ)J" } : Jvm.MethodName)) ∈ tw_T := tw_of 812 (by decide +kernel) (by decide +kernel)
theorem w_813 : (Jvm.Cond.code ({ cls := "java/lang/Math", name := "floorDiv", desc := "(JJ)J" } : Jvm.MethodName) prog_18_method_49_code (6 : Nat) (Option.some Jvm.ClassFile.FieldType.long)) ∈ tw_T := tw_of 813 (by decide +kernel) (by decide +kernel)
theorem d_PI_addLine_0 : decode b_PI_addLine 0 = .ok (.iload 4, 2) := by decide +kernel
theorem d_PI_addLine_10 : decode b_PI_addLine 10 = .ok (.lconst 0, 1) := by decide +kernel
theorem d_PI_addLine_100 : decode b_PI_addLine 100 = .ok (.iconst 0, 1) := by decide +kernel
theorem d_PI_addLine_101 : decode b_PI_addLine 101 = .ok (.invokestatic 36, 3) := by decide +kernel
theorem d_PI_addLine_104 : decode b_PI_addLine 104 = .ok (.istore 14, 2) := by decide +kernel
theorem d_PI_addLine_106 : decode b_PI_addLine 106 = .ok (.iload 14, 2) := by decide +kernel
theorem d_PI_addLine_108 : decode b_PI_addLine 108 = .ok (.bipush 48, 2) := by decide +kernel
theorem d_PI_addLine_11 : decode b_PI_addLine 11 = .ok (.lcmp, 1) := by decide +kernel
theorem d_PI_addLine_110 : decode b_PI_addLine 110 = .ok (.if_icmp .ge (34), 3) := by decide +kernel
theorem d_PI_addLine_113 : decode b_PI_addLine 113 = .ok (.aload_n 0, 1) := by decide +kernel
theorem d_PI_addLine_114 : decode b_PI_addLine 114 = .ok (.getfield 13, 3) := by decide +kernel
theorem d_PI_addLine_117 : decode b_PI_addLine 117 = .ok (.bipush 15, 2) := by decide +kernel
theorem d_PI_addLine_119 : decode b_PI_addLine 119 = .ok (.iload 9, 2) := by decide +kernel
theorem d_PI_addLine_12 : decode b_PI_addLine 12 = .ok (.ifCond .ne (4), 3) := by decide +kernel
theorem d_PI_addLine_121 : decode b_PI_addLine 121 = .ok (.isub, 1) := by decide +kernel
theorem d_PI_addLine_122 : decode b_PI_addLine 122 = .ok (.bipush 48, 2) := by decide +kernel
theorem d_PI_addLine_124 : decode b_PI_addLine 124 = .ok (.imul, 1) := by decide +kernel
theorem d_PI_addLine_125 : decode b_PI_addLine 125 = .ok (.iload 14, 2) := by decide +kernel
theorem d_PI_addLine_127 : decode b_PI_addLine 127 = .ok (.iadd, 1) := by decide +kernel
theorem d_PI_addLine_128 : decode b_PI_addLine 128 = .ok (.dup2, 1) := by decide +kernel
theorem d_PI_addLine_129 : decode b_PI_addLine 129 = .ok (.iaload, 1) := by decide +kernel
theorem d_PI_addLine_130 : decode b_PI_addLine 130 = .ok (.lload 5, 2) := by decide +kernel
theorem d_PI_addLine_132 : decode b_PI_addLine 132 = .ok (.lconst 0, 1) := by decide +kernel
theorem d_PI_addLine_133 : decode b_PI_addLine 133 = .ok (.lcmp, 1) := by decide +kernel
theorem d_PI_addLine_134 : decode b_PI_addLine 134 = .ok (.ifCond .le (7), 3) := by decide +kernel
theorem d_PI_addLine_137 : decode b_PI_addLine 137 = .ok (.iconst 1, 1) := by decide +kernel
theorem d_PI_addLine_138 : decode b_PI_addLine 138 = .ok (.goto (4), 3) := by decide +kernel
theorem d_PI_addLine_141 : decode b_PI_addLine 141 = .ok (.iconst (-1), 1) := by decide +kernel
theorem d_PI_addLine_142 : decode b_PI_addLine 142 = .ok (.iadd, 1) := by decide +kernel
theorem d_PI_addLine_143 : decode b_PI_addLine 143 = .ok (.iastore, 1) := by decide +kernel
theorem d_PI_addLine_144 : decode b_PI_addLine 144 = .ok (.iinc 9 (1), 3) := by decide +kernel
theorem d_PI_addLine_147 : decode b_PI_addLine 147 = .ok (.goto (-93), 3) := by decide +kernel
theorem d_PI_addLine_15 : decode b_PI_addLine 15 = .ok (.return_, 1) := by decide +kernel
theorem d_PI_addLine_150 : decode b_PI_addLine 150 = .ok (.return_, 1) := by decide +kernel
theorem d_PI_addLine_16 : decode b_PI_addLine 16 = .ok (.iload_n 2, 1) := by decide +kernel
theorem d_PI_addLine_17 : decode b_PI_addLine 17 = .ok (.iload 4, 2) := by decide +kernel
theorem d_PI_addLine_19 : decode b_PI_addLine 19 = .ok (.invokestatic 26, 3) := by decide +kernel
theorem d_PI_addLine_2 : decode b_PI_addLine 2 = .ok (.i2l, 1) := by decide +kernel
theorem d_PI_addLine_22 : decode b_PI_addLine 22 = .ok (.invokestatic 32, 3) := by decide +kernel
theorem d_PI_addLine_25 : decode b_PI_addLine 25 = .ok (.bipush (-8), 2) := by decide +kernel
theorem d_PI_addLine_27 : decode b_PI_addLine 27 = .ok (.invokestatic 36, 3) := by decide +kernel
theorem d_PI_addLine_3 : decode b_PI_addLine 3 = .ok (.iload_n 2, 1) := by decide +kernel
theorem d_PI_addLine_30 : decode b_PI_addLine 30 = .ok (.istore 7, 2) := by decide +kernel
theorem d_PI_addLine_32 : decode b_PI_addLine 32 = .ok (.iload_n 2, 1) := by decide +kernel
theorem d_PI_addLine_33 : decode b_PI_addLine 33 = .ok (.iload 4, 2) := by decide +kernel
theorem d_PI_addLine_35 : decode b_PI_addLine 35 = .ok (.invokestatic 36, 3) := by decide +kernel
theorem d_PI_addLine_38 : decode b_PI_addLine 38 = .ok (.invokestatic 32, 3) := by decide +kernel
theorem d_PI_addLine_4 : decode b_PI_addLine 4 = .ok (.i2l, 1) := by decide +kernel
theorem d_PI_addLine_41 : decode b_PI_addLine 41 = .ok (.iconst 1, 1) := by decide +kernel
theorem d_PI_addLine_42 : decode b_PI_addLine 42 = .ok (.isub, 1) := by decide +kernel
theorem d_PI_addLine_43 : decode b_PI_addLine 43 = .ok (.bipush 15, 2) := by decide +kernel
theorem d_PI_addLine_45 : decode b_PI_addLine 45 = .ok (.invokestatic 26, 3) := by decide +kernel
theorem d_PI_addLine_48 : decode b_PI_addLine 48 = .ok (.istore 8, 2) := by decide +kernel
theorem d_PI_addLine_5 : decode b_PI_addLine 5 = .ok (.lsub, 1) := by decide +kernel
theorem d_PI_addLine_50 : decode b_PI_addLine 50 = .ok (.iload 7, 2) := by decide +kernel
theorem d_PI_addLine_52 : decode b_PI_addLine 52 = .ok (.istore 9, 2) := by decide +kernel
theorem d_PI_addLine_54 : decode b_PI_addLine 54 = .ok (.iload 9, 2) := by decide +kernel
theorem d_PI_addLine_56 : decode b_PI_addLine 56 = .ok (.iload 8, 2) := by decide +kernel
theorem d_PI_addLine_58 : decode b_PI_addLine 58 = .ok (.if_icmp .gt (92), 3) := by decide +kernel
theorem d_PI_addLine_6 : decode b_PI_addLine 6 = .ok (.lstore 5, 2) := by decide +kernel
theorem d_PI_addLine_61 : decode b_PI_addLine 61 = .ok (.iload 9, 2) := by decide +kernel
theorem d_PI_addLine_63 : decode b_PI_addLine 63 = .ok (.i2l, 1) := by decide +kernel
theorem d_PI_addLine_64 : decode b_PI_addLine 64 = .ok (.bipush 6, 2) := by decide +kernel
theorem d_PI_addLine_66 : decode b_PI_addLine 66 = .ok (.lshl, 1) := by decide +kernel
theorem d_PI_addLine_67 : decode b_PI_addLine 67 = .ok (.ldc2_w 39, 3) := by decide +kernel
theorem d_PI_addLine_70 : decode b_PI_addLine 70 = .ok (.ladd, 1) := by decide +kernel
theorem d_PI_addLine_71 : decode b_PI_addLine 71 = .ok (.lstore 10, 2) := by decide +kernel
theorem d_PI_addLine_73 : decode b_PI_addLine 73 = .ok (.iload_n 1, 1) := by decide +kernel
theorem d_PI_addLine_74 : decode b_PI_addLine 74 = .ok (.i2l, 1) := by decide +kernel
theorem d_PI_addLine_75 : decode b_PI_addLine 75 = .ok (.lload 10, 2) := by decide +kernel
theorem d_PI_addLine_77 : decode b_PI_addLine 77 = .ok (.iload_n 2, 1) := by decide +kernel
theorem d_PI_addLine_78 : decode b_PI_addLine 78 = .ok (.i2l, 1) := by decide +kernel
theorem d_PI_addLine_79 : decode b_PI_addLine 79 = .ok (.lsub, 1) := by decide +kernel
theorem d_PI_addLine_8 : decode b_PI_addLine 8 = .ok (.lload 5, 2) := by decide +kernel
theorem d_PI_addLine_80 : decode b_PI_addLine 80 = .ok (.iload_n 1, 1) := by decide +kernel
theorem d_PI_addLine_81 : decode b_PI_addLine 81 = .ok (.i2l, 1) := by decide +kernel
theorem d_PI_addLine_82 : decode b_PI_addLine 82 = .ok (.iload_n 3, 1) := by decide +kernel
theorem d_PI_addLine_83 : decode b_PI_addLine 83 = .ok (.i2l, 1) := by decide +kernel
theorem d_PI_addLine_84 : decode b_PI_addLine 84 = .ok (.lsub, 1) := by decide +kernel
theorem d_PI_addLine_85 : decode b_PI_addLine 85 = .ok (.lmul, 1) := by decide +kernel
theorem d_PI_addLine_86 : decode b_PI_addLine 86 = .ok (.lload 5, 2) := by decide +kernel
theorem d_PI_addLine_88 : decode b_PI_addLine 88 = .ok (.invokestatic 41, 3) := by decide +kernel
theorem d_PI_addLine_91 : decode b_PI_addLine 91 = .ok (.lsub, 1) := by decide +kernel
theorem d_PI_addLine_92 : decode b_PI_addLine 92 = .ok (.lstore 12, 2) := by decide +kernel
theorem d_PI_addLine_94 : decode b_PI_addLine 94 = .ok (.lload 12, 2) := by decide +kernel
theorem d_PI_addLine_96 : decode b_PI_addLine 96 = .ok (.l2i, 1) := by decide +kernel
theorem d_PI_addLine_97 : decode b_PI_addLine 97 = .ok (.invokestatic 32, 3) := by decide +kernel
theorem d_PI_beginGlyph_0 : decode b_PI_beginGlyph 0 = .ok (.aload_n 0, 1) := by decide +kernel
theorem d_PI_beginGlyph_1 : decode b_PI_beginGlyph 1 = .ok (.getfield 13, 3) := by decide +kernel
theorem d_PI_beginGlyph_4 : decode b_PI_beginGlyph 4 = .ok (.iconst 0, 1) := by decide +kernel
theorem d_PI_beginGlyph_5 : decode b_PI_beginGlyph 5 = .ok (.invokestatic 23, 3) := by decide +kernel
theorem d_PI_beginGlyph_8 : decode b_PI_beginGlyph 8 = .ok (.return_, 1) := by decide +kernel
theorem d_PI_clear_0 : decode b_PI_clear 0 = .ok (.aload_n 0, 1) := by decide +kernel
theorem d_PI_clear_1 : decode b_PI_clear 1 = .ok (.getfield 9, 3) := by decide +kernel
theorem d_PI_clear_4 : decode b_PI_clear 4 = .ok (.lconst 0, 1) := by decide +kernel
theorem d_PI_clear_5 : decode b_PI_clear 5 = .ok (.invokestatic 17, 3) := by decide +kernel
theorem d_PI_clear_8 : decode b_PI_clear 8 = .ok (.return_, 1) := by decide +kernel
theorem d_PI_endGlyph_0 : decode b_PI_endGlyph 0 = .ok (.iconst 0, 1) := by decide +kernel
theorem d_PI_endGlyph_1 : decode b_PI_endGlyph 1 = .ok (.istore_n 1, 1) := by decide +kernel
theorem d_PI_endGlyph_10 : decode b_PI_endGlyph 10 = .ok (.iconst 0, 1) := by decide +kernel
theorem d_PI_endGlyph_11 : decode b_PI_endGlyph 11 = .ok (.istore_n 3, 1) := by decide +kernel
theorem d_PI_endGlyph_12 : decode b_PI_endGlyph 12 = .ok (.iload_n 3, 1) := by decide +kernel
theorem d_PI_endGlyph_13 : decode b_PI_endGlyph 13 = .ok (.bipush 48, 2) := by decide +kernel
theorem d_PI_endGlyph_15 : decode b_PI_endGlyph 15 = .ok (.if_icmp .ge (39), 3) := by decide +kernel
theorem d_PI_endGlyph_18 : decode b_PI_endGlyph 18 = .ok (.iload_n 2, 1) := by decide +kernel
theorem d_PI_endGlyph_19 : decode b_PI_endGlyph 19 = .ok (.aload_n 0, 1) := by decide +kernel
theorem d_PI_endGlyph_2 : decode b_PI_endGlyph 2 = .ok (.iload_n 1, 1) := by decide +kernel
theorem d_PI_endGlyph_20 : decode b_PI_endGlyph 20 = .ok (.getfield 13, 3) := by decide +kernel
theorem d_PI_endGlyph_23 : decode b_PI_endGlyph 23 = .ok (.iload_n 1, 1) := by decide +kernel
theorem d_PI_endGlyph_24 : decode b_PI_endGlyph 24 = .ok (.bipush 48, 2) := by decide +kernel
theorem d_PI_endGlyph_26 : decode b_PI_endGlyph 26 = .ok (.imul, 1) := by decide +kernel
theorem d_PI_endGlyph_27 : decode b_PI_endGlyph 27 = .ok (.iload_n 3, 1) := by decide +kernel
theorem d_PI_endGlyph_28 : decode b_PI_endGlyph 28 = .ok (.iadd, 1) := by decide +kernel
theorem d_PI_endGlyph_29 : decode b_PI_endGlyph 29 = .ok (.iaload, 1) := by decide +kernel
theorem d_PI_endGlyph_3 : decode b_PI_endGlyph 3 = .ok (.bipush 24, 2) := by decide +kernel
theorem d_PI_endGlyph_30 : decode b_PI_endGlyph 30 = .ok (.iadd, 1) := by decide +kernel
theorem d_PI_endGlyph_31 : decode b_PI_endGlyph 31 = .ok (.istore_n 2, 1) := by decide +kernel
theorem d_PI_endGlyph_32 : decode b_PI_endGlyph 32 = .ok (.iload_n 2, 1) := by decide +kernel
theorem d_PI_endGlyph_33 : decode b_PI_endGlyph 33 = .ok (.ifCond .eq (15), 3) := by decide +kernel
theorem d_PI_endGlyph_36 : decode b_PI_endGlyph 36 = .ok (.aload_n 0, 1) := by decide +kernel
theorem d_PI_endGlyph_37 : decode b_PI_endGlyph 37 = .ok (.getfield 9, 3) := by decide +kernel
theorem d_PI_endGlyph_40 : decode b_PI_endGlyph 40 = .ok (.iload_n 1, 1) := by decide +kernel
theorem d_PI_endGlyph_41 : decode b_PI_endGlyph 41 = .ok (.dup2, 1) := by decide +kernel
theorem d_PI_endGlyph_42 : decode b_PI_endGlyph 42 = .ok (.laload, 1) := by decide +kernel
theorem d_PI_endGlyph_43 : decode b_PI_endGlyph 43 = .ok (.lconst 1, 1) := by decide +kernel
theorem d_PI_endGlyph_44 : decode b_PI_endGlyph 44 = .ok (.iload_n 3, 1) := by decide +kernel
theorem d_PI_endGlyph_45 : decode b_PI_endGlyph 45 = .ok (.lshl, 1) := by decide +kernel
theorem d_PI_endGlyph_46 : decode b_PI_endGlyph 46 = .ok (.lor, 1) := by decide +kernel
theorem d_PI_endGlyph_47 : decode b_PI_endGlyph 47 = .ok (.lastore, 1) := by decide +kernel
theorem d_PI_endGlyph_48 : decode b_PI_endGlyph 48 = .ok (.iinc 3 (1), 3) := by decide +kernel
theorem d_PI_endGlyph_5 : decode b_PI_endGlyph 5 = .ok (.if_icmp .ge (55), 3) := by decide +kernel
theorem d_PI_endGlyph_51 : decode b_PI_endGlyph 51 = .ok (.goto (-39), 3) := by decide +kernel
theorem d_PI_endGlyph_54 : decode b_PI_endGlyph 54 = .ok (.iinc 1 (1), 3) := by decide +kernel
theorem d_PI_endGlyph_57 : decode b_PI_endGlyph 57 = .ok (.goto (-55), 3) := by decide +kernel
theorem d_PI_endGlyph_60 : decode b_PI_endGlyph 60 = .ok (.return_, 1) := by decide +kernel
theorem d_PI_endGlyph_8 : decode b_PI_endGlyph 8 = .ok (.iconst 0, 1) := by decide +kernel
theorem d_PI_endGlyph_9 : decode b_PI_endGlyph 9 = .ok (.istore_n 2, 1) := by decide +kernel
theorem d_PI_firstMiddle_0 : decode b_PI_firstMiddle 0 = .ok (.iload_n 0, 1) := by decide +kernel
theorem d_PI_firstMiddle_1 : decode b_PI_firstMiddle 1 = .ok (.bipush 32, 2) := by decide +kernel
theorem d_PI_firstMiddle_3 : decode b_PI_firstMiddle 3 = .ok (.iadd, 1) := by decide +kernel
theorem d_PI_firstMiddle_4 : decode b_PI_firstMiddle 4 = .ok (.iconst 1, 1) := by decide +kernel
theorem d_PI_firstMiddle_5 : decode b_PI_firstMiddle 5 = .ok (.isub, 1) := by decide +kernel
theorem d_PI_firstMiddle_6 : decode b_PI_firstMiddle 6 = .ok (.bipush 6, 2) := by decide +kernel
theorem d_PI_firstMiddle_8 : decode b_PI_firstMiddle 8 = .ok (.ishr, 1) := by decide +kernel
theorem d_PI_firstMiddle_9 : decode b_PI_firstMiddle 9 = .ok (.ireturn, 1) := by decide +kernel
theorem isB_cpy {f g : Nat → Int32} {a b n : Nat} (h1 : isB f) (h2 : isB g) : isB (va_cpy f g a b n) := fun j => by
  unfold va_cpy
  split
  · exact h1 _
  · exact h2 _
theorem min15 {v x : Int32} (h : v = if 15 < x then 15 else x) : v.toInt ≤ 15 := by
  rw [h]
  split
  · decide +kernel
  · have := Int32.le_iff_toInt_le.mp (Int32.not_lt.mp ‹¬ (15 : Int32) < x›)
    exact this
theorem max8 {v x : Int32} (h : v = if x < (-8) then (-8) else x) : -8 ≤ v.toInt := by
  rw [h]
  split
  · decide +kernel
  · have := Int32.le_iff_toInt_le.mp (Int32.not_lt.mp ‹¬ x < (-8 : Int32)›)
    exact this
theorem px_of {v x : Int32} (h : v = if x < 0 then 0 else x) (h2 : ¬ (48 : Int32) ≤ v) : ∃ j : Nat, j < 48 ∧ v = nI j := by
  have h3 : ¬ v < 0 := by
    rw [h]
    split
    · decide +kernel
    · assumption
  obtain ⟨j, hj, rfl⟩ := nI_of h3
  exact ⟨j, Nat.not_le.mp (fun z => h2 (nI_le z hj)), rfl⟩
theorem ln_inc {x t : Int32} (h1 : -8 ≤ x.toInt) (h2 : ¬ t < x) (h3 : t.toInt ≤ 15) : (x + 1).toInt = x.toInt + 1 ∧ x.toInt ≤ 15 := by
  have h4 := Int32.le_iff_toInt_le.mp (Int32.not_lt.mp h2)
  refine ⟨?_, by omega⟩
  rw [Int32.toInt_add, show (1 : Int32).toInt = 1 from by decide +kernel]
  exact Int.bmod_eq_of_le (by omega) (by omega)
theorem ln_ix {x a b d : Int32} {j : Nat} (h1 : -8 ≤ x.toInt) (h2 : x.toInt ≤ 15) (hj : j < 48) (e1 : a = 15 - x) (e2 : b = a * 48) (e3 : d = b + nI j) : ∃ k : Nat, k < 1152 ∧ d = nI k := by
  have ha : a = nI (15 - x.toInt).toNat := by
    apply Int32.toInt_inj.mp
    rw [e1, Int32.toInt_sub, nI_toInt (by omega), show (15 : Int32).toInt = 15 from by decide +kernel, Int.bmod_eq_of_le (by omega) (by omega)]
    omega
  refine ⟨(15 - x.toInt).toNat * 48 + j, by omega, ?_⟩
  rw [e3, e2, ha, show (48 : Int32) = nI 48 from by decide +kernel, pk_mul, nI_add]
theorem cmp_ne {x : Int64} {v : Int32} (e : v = lg_cmp x 0) (h : ¬ v = 0) : ¬ x = 0 := fun z => h (by rw [e, z]; decide +kernel)
theorem all_succ {f : Nat → Int32} {n : Nat} {v : Int32} (h : ∀ i : Nat, i < n → f i = 0) (hn : n < 2 ^ 31) (e : v = f (Int32.toNatClampNeg (nI n))) (z : v = 0) : ∀ i : Nat, i < n + 1 → f i = 0 := fun i hi => by
  rcases Nat.lt_or_eq_of_le (Nat.le_of_lt_succ hi) with h1 | rfl
  · exact h i h1
  · rw [nI_clamp hn] at e
    rw [← e, z]
theorem rg_ok {f : Nat → Int32} {a n j : Nat} {v : Int32} (h : a < n ∨ ∀ i : Nat, i < n → f i = 0) (hj : j < n) (hn : n < 2 ^ 31) (e : v = f (Int32.toNatClampNeg (nI j))) (z : ¬ v = 0) : a < n := by
  rcases h with h1 | h1
  · exact h1
  · rw [nI_clamp (by omega), h1 j hj] at e
    exact absurd e z
set_option maxHeartbeats 4000000 in
set_option maxRecDepth 100000 in
/-- GlyphLines$Picture.clear -/
theorem g_PI_clear (l : Launch) (dC : Nat → ClassId) (dI : Nat → Nat → Nat) (h0 : Nat) (iw : Nat) (ib : Nat) (cW : ClassId) (fw : Nat → Int64) (sz : Nat) : Met l y_PI_clear s_PI_clear ({ frames := 10, cells := 0, slots := 0, locals := 300 }) (va_Pc [.ref h0] (fun U => U.heap.size = sz ∧ va_P (dC, dI) cls_ [(h0, .inr (7, [.ref iw, .ref ib])), (iw, .inl (cW, 24, .inr (.inl (fw))))] U.heap ∧ va_K (dC, dI) cls_ [(cW, .long)] U ∧ va_D (fun _ => True) [(h0, .inr (7, [.ref iw, .ref ib])), (iw, .inl (cW, 24, .inr (.inl (fw))))])) (va_Qv (fun _ : Unit => True) (fun (_ : Unit) (t : State) => ∃ (fw_2 : Nat → Int64), va_P (dC, dI) cls_ [(h0, .inr (7, [.ref iw, .ref ib])), (iw, .inl (cW, 24, .inr (.inl (fw_2))))] t.heap ∧ va_K (dC, dI) cls_ [(cW, .long)] t ∧ va_D (va_A [(h0, .inr (7, [.ref iw, .ref ib])), (iw, .inl (cW, 24, .inr (.inl (fw))))] sz) [(h0, .inr (7, [.ref iw, .ref ib])), (iw, .inl (cW, 24, .inr (.inl (fw_2))))]) (va_A [(h0, .inr (7, [.ref iw, .ref ib])), (iw, .inl (cW, 24, .inr (.inl (fw))))] sz)) 0 0 (va_A [(h0, .inr (7, [.ref iw, .ref ib])), (iw, .inl (cW, 24, .inr (.inl (fw))))] sz) := by
  refine Met.ofW (cc := b_PI_clear) (maxL := 1) (ret := none) (by decide) rfl ?_
  intro p e s m args below meth c s₁ B hml hv
  obtain ⟨rfl, hsz, hP, hK, hD0⟩ := hv
  have hx := B.exec
  have hb := B.bytes
  have hr := B.returns
  have hts := atoms_spec (ws := s_PI_clear) B.pre
  have hown : s.vm.findClass R_PI = some m.cls := findClass_of_methodNamed B.named
  have hlocks := B.notSynchronized
  subst hsz
  have hD := hD0.self (sz := s.heap.size)
  generalize hAe : va_A [(h0, .inr (7, [.ref iw, .ref ib])), (iw, .inl (cW, 24, .inr (.inl (fw))))] s.heap.size = A at hD ⊢
  have hA : ∀ q : Nat, s.heap.size ≤ q → A q := fun q h => by rw [← hAe]; exact Or.inr h
  have hS : va_S A s.heap s.heap [] := va_S.rf
  have hP : va_P (dC, dI) cls_ [(h0, .inr (7, [.ref iw, .ref ib])), (iw, .inl (cW, 24, .inr (.inl (fw))))] s.heap := hP
  have hl := lv_entry ([.ref h0]) (n := 1) (Nat.le_of_ble_eq_true rfl)
  rw [lg_entry_eq]
  generalize (lg_sl ([.ref h0]) ++ List.replicate (1 - (lg_sl ([.ref h0])).length) Slot.unset).toArray = ls at hl ⊢
  have hl : lv_has ls 1 [(0, .ref h0)] := hl
  refine lv_aload_n hx hb d_PI_clear_0 rfl (lv_at hl 0 rfl) ?_
  refine va_get (D := (dC, dI)) (ci := 7) (v := .ref iw) (C := R_PI) (T := F_PI) (N := 2) hx hb hts in_PI hown hK hP 0 rfl rfl 0 (by decide) (hts _ (List.mem_cons_of_mem _ w_240)) (fun _ h9 => h9) rfl d_PI_clear_1 ?_
  refine lv_lconst (v := 0) hx hb d_PI_clear_4 (by decide) ?_
  have hPc := hP.sub (ws' := [(iw, .inl (cW, 24, .inr (.inl (fw))))]) [1] rfl
  have hDc := hD.sub (ws' := [(iw, .inl (cW, 24, .inr (.inl (fw))))]) [1] (by decide) rfl
  have hKc := hK.sub (tys' := [(cW, .long)]) [0] rfl
  have hFc := va_free (wc := [(iw, .inl (cW, 24, .inr (.inl (fw))))]) hD hS hA [1] rfl
  refine va_callv (va_runS (As := [.ref iw, .long 0]) (rest := []) ⟨hx, hb, hml, hown, hts⟩ (g_JA_fillJ l dC dI iw cW fw 0 s.heap.size) ⟨callB_of 2 hts (tw_in w_748) rfl rfl rfl (hts _ (List.mem_cons_of_mem _ w_21)) (hts _ (List.mem_cons_of_mem _ w_746)) (by decide +kernel) ⟨Nat.le_of_ble_eq_true rfl, Nat.le_of_ble_eq_true rfl⟩, (hts _ (List.mem_cons_of_mem _ w_747))⟩ ⟨fun a U g mk q => by obtain ⟨q0, q1, qP, qK, qD⟩ := q; exact ⟨q0, q1, qP, va_K.moved (u := U) (U := U.calling g mk a) (Vm.Alike.refl U.vm) qK, qD⟩, fun U hU hW => ⟨rfl, by rw [hU], by rw [hU]; exact hPc, va_K.moved hW.alike hKc, hDc.weaken (fun _ _ _ _ => trivial)⟩⟩ rfl rfl hl.1 rfl (lv_room (Nat.le_of_ble_eq_true rfl)) d_PI_clear_5 ⟨Nat.le_of_ble_eq_true rfl, Nat.le_of_ble_eq_true rfl⟩) hS (fun q _ h => hFc q h) hFc (fun u t H1 locs ht hvm hw hB hz1 hk1 hS => ?_)
  obtain ⟨gv_3074, hP1, hK1, hD1⟩ := hB
  rw [ht] at hP1
  have hK1 := va_K.moved hvm.symm hK1
  obtain ⟨hP, hD⟩ := va_join (wr := [(h0, .inr (7, [.ref iw, .ref ib]))]) (w1 := [(iw, .inl (cW, 24, .inr (.inl (gv_3074))))]) hP hD [1] [0] rfl rfl (by decide) (by decide) hk1 hFc hP1 hD1
  have hK := (hK.sub (tys' := []) [] rfl).app hK1
  generalize H1 = H at hP hS ⊢
  have hP : va_P (dC, dI) cls_ [(h0, .inr (7, [.ref iw, .ref ib])), (iw, .inl (cW, 24, .inr (.inl (gv_3074))))] H := hP
  have hD : va_D A [(h0, .inr (7, [.ref iw, .ref ib])), (iw, .inl (cW, 24, .inr (.inl (gv_3074))))] := hD
  have hK : va_K (dC, dI) cls_ [(cW, .long)] s := hK
  refine W.widen (k := 0) (n := 0) (Nat.le_of_ble_eq_true rfl) (Nat.le_of_ble_eq_true rfl) ?_
  have hP9 := hP.sub (ws' := [(h0, .inr (7, [.ref iw, .ref ib])), (iw, .inl (cW, 24, .inr (.inl (gv_3074))))]) [0, 1] rfl
  have hD9 := hD.sub (ws' := [(h0, .inr (7, [.ref iw, .ref ib])), (iw, .inl (cW, 24, .inr (.inl (gv_3074))))]) [0, 1] (by decide) rfl
  have hK9 := hK.sub (tys' := [(cW, .long)]) [0] rfl
  exact W.vret hx hb hr (fun t ht hW => ⟨⟨(), rfl, trivial, gv_3074, by rw [ht]; exact hP9, va_K.moved hW.alike hK9, hD9⟩, hS.F ht⟩) hS.2.2 d_PI_clear_8
set_option maxHeartbeats 4000000 in
set_option maxRecDepth 100000 in
/-- GlyphLines$Picture.beginGlyph -/
theorem g_PI_beginGlyph (l : Launch) (dC : Nat → ClassId) (dI : Nat → Nat → Nat) (h0 : Nat) (iw : Nat) (ib : Nat) (cS : ClassId) (fs : Nat → Int32) (sz : Nat) : Met l y_PI_beginGlyph s_PI_beginGlyph ({ frames := 10, cells := 0, slots := 0, locals := 300 }) (va_Pc [.ref h0] (fun U => U.heap.size = sz ∧ va_P (dC, dI) cls_ [(h0, .inr (7, [.ref iw, .ref ib])), (ib, .inl (cS, 1152, .inl (fs)))] U.heap ∧ va_K (dC, dI) cls_ [(cS, .int)] U ∧ va_D (fun _ => True) [(h0, .inr (7, [.ref iw, .ref ib])), (ib, .inl (cS, 1152, .inl (fs)))])) (va_Qv (fun _ : Unit => True) (fun (_ : Unit) (t : State) => ∃ (fs_2 : Nat → Int32), va_P (dC, dI) cls_ [(h0, .inr (7, [.ref iw, .ref ib])), (ib, .inl (cS, 1152, .inl (fs_2)))] t.heap ∧ va_K (dC, dI) cls_ [(cS, .int)] t ∧ va_D (va_A [(h0, .inr (7, [.ref iw, .ref ib])), (ib, .inl (cS, 1152, .inl (fs)))] sz) [(h0, .inr (7, [.ref iw, .ref ib])), (ib, .inl (cS, 1152, .inl (fs_2)))]) (va_A [(h0, .inr (7, [.ref iw, .ref ib])), (ib, .inl (cS, 1152, .inl (fs)))] sz)) 0 0 (va_A [(h0, .inr (7, [.ref iw, .ref ib])), (ib, .inl (cS, 1152, .inl (fs)))] sz) := by
  refine Met.ofW (cc := b_PI_beginGlyph) (maxL := 1) (ret := none) (by decide) rfl ?_
  intro p e s m args below meth c s₁ B hml hv
  obtain ⟨rfl, hsz, hP, hK, hD0⟩ := hv
  have hx := B.exec
  have hb := B.bytes
  have hr := B.returns
  have hts := atoms_spec (ws := s_PI_beginGlyph) B.pre
  have hown : s.vm.findClass R_PI = some m.cls := findClass_of_methodNamed B.named
  have hlocks := B.notSynchronized
  subst hsz
  have hD := hD0.self (sz := s.heap.size)
  generalize hAe : va_A [(h0, .inr (7, [.ref iw, .ref ib])), (ib, .inl (cS, 1152, .inl (fs)))] s.heap.size = A at hD ⊢
  have hA : ∀ q : Nat, s.heap.size ≤ q → A q := fun q h => by rw [← hAe]; exact Or.inr h
  have hS : va_S A s.heap s.heap [] := va_S.rf
  have hP : va_P (dC, dI) cls_ [(h0, .inr (7, [.ref iw, .ref ib])), (ib, .inl (cS, 1152, .inl (fs)))] s.heap := hP
  have hl := lv_entry ([.ref h0]) (n := 1) (Nat.le_of_ble_eq_true rfl)
  rw [lg_entry_eq]
  generalize (lg_sl ([.ref h0]) ++ List.replicate (1 - (lg_sl ([.ref h0])).length) Slot.unset).toArray = ls at hl ⊢
  have hl : lv_has ls 1 [(0, .ref h0)] := hl
  refine lv_aload_n hx hb d_PI_beginGlyph_0 rfl (lv_at hl 0 rfl) ?_
  refine va_get (D := (dC, dI)) (ci := 7) (v := .ref ib) (C := R_PI) (T := F_PI) (N := 2) hx hb hts in_PI hown hK hP 0 rfl rfl 1 (by decide) (hts _ (List.mem_cons_of_mem _ w_242)) (fun _ h9 => h9) rfl d_PI_beginGlyph_1 ?_
  refine lv_iconst (v := 0) hx hb d_PI_beginGlyph_4 (by decide) ?_
  have hPc := hP.sub (ws' := [(ib, .inl (cS, 1152, .inl (fs)))]) [1] rfl
  have hDc := hD.sub (ws' := [(ib, .inl (cS, 1152, .inl (fs)))]) [1] (by decide) rfl
  have hKc := hK.sub (tys' := [(cS, .int)]) [0] rfl
  have hFc := va_free (wc := [(ib, .inl (cS, 1152, .inl (fs)))]) hD hS hA [1] rfl
  refine va_callv (va_runS (As := [.ref ib, .int 0]) (rest := []) ⟨hx, hb, hml, hown, hts⟩ (g_JA_fillI l dC dI ib cS fs 0 s.heap.size) ⟨callB_of 2 hts (tw_in w_777) rfl rfl rfl (hts _ (List.mem_cons_of_mem _ w_21)) (hts _ (List.mem_cons_of_mem _ w_775)) (by decide +kernel) ⟨Nat.le_of_ble_eq_true rfl, Nat.le_of_ble_eq_true rfl⟩, (hts _ (List.mem_cons_of_mem _ w_776))⟩ ⟨fun a U g mk q => by obtain ⟨q0, q1, qP, qK, qD⟩ := q; exact ⟨q0, q1, qP, va_K.moved (u := U) (U := U.calling g mk a) (Vm.Alike.refl U.vm) qK, qD⟩, fun U hU hW => ⟨rfl, by rw [hU], by rw [hU]; exact hPc, va_K.moved hW.alike hKc, hDc.weaken (fun _ _ _ _ => trivial)⟩⟩ rfl rfl hl.1 rfl (lv_room (Nat.le_of_ble_eq_true rfl)) d_PI_beginGlyph_5 ⟨Nat.le_of_ble_eq_true rfl, Nat.le_of_ble_eq_true rfl⟩) hS (fun q _ h => hFc q h) hFc (fun u t H1 locs ht hvm hw hB hz1 hk1 hS => ?_)
  obtain ⟨gv_3075, hP1, hK1, hD1⟩ := hB
  rw [ht] at hP1
  have hK1 := va_K.moved hvm.symm hK1
  obtain ⟨hP, hD⟩ := va_join (wr := [(h0, .inr (7, [.ref iw, .ref ib]))]) (w1 := [(ib, .inl (cS, 1152, .inl (gv_3075)))]) hP hD [1] [0] rfl rfl (by decide) (by decide) hk1 hFc hP1 hD1
  have hK := (hK.sub (tys' := []) [] rfl).app hK1
  generalize H1 = H at hP hS ⊢
  have hP : va_P (dC, dI) cls_ [(h0, .inr (7, [.ref iw, .ref ib])), (ib, .inl (cS, 1152, .inl (gv_3075)))] H := hP
  have hD : va_D A [(h0, .inr (7, [.ref iw, .ref ib])), (ib, .inl (cS, 1152, .inl (gv_3075)))] := hD
  have hK : va_K (dC, dI) cls_ [(cS, .int)] s := hK
  refine W.widen (k := 0) (n := 0) (Nat.le_of_ble_eq_true rfl) (Nat.le_of_ble_eq_true rfl) ?_
  have hP9 := hP.sub (ws' := [(h0, .inr (7, [.ref iw, .ref ib])), (ib, .inl (cS, 1152, .inl (gv_3075)))]) [0, 1] rfl
  have hD9 := hD.sub (ws' := [(h0, .inr (7, [.ref iw, .ref ib])), (ib, .inl (cS, 1152, .inl (gv_3075)))]) [0, 1] (by decide) rfl
  have hK9 := hK.sub (tys' := [(cS, .int)]) [0] rfl
  exact W.vret hx hb hr (fun t ht hW => ⟨⟨(), rfl, trivial, gv_3075, by rw [ht]; exact hP9, va_K.moved hW.alike hK9, hD9⟩, hS.F ht⟩) hS.2.2 d_PI_beginGlyph_8
set_option maxHeartbeats 4000000 in
set_option maxRecDepth 100000 in
/-- GlyphLines$Picture.firstMiddle -/
theorem g_PI_firstMiddle (l : Launch) (dC : Nat → ClassId) (dI : Nat → Nat → Nat) (x : Int32) (sz : Nat) : Met l y_PI_firstMiddle s_PI_firstMiddle ({ frames := 8, cells := 0, slots := 0, locals := 200 }) (va_Pc [.int x] (fun U => U.heap.size = sz ∧ va_P (dC, dI) cls_ [] U.heap ∧ va_K (dC, dI) cls_ [] U ∧ va_D (fun _ => True) [])) (va_Qi (fun (r : Int32) (_ : Unit) => True) (fun (_ : Unit) (t : State) => True) (va_A [] sz)) 0 0 (va_A [] sz) := by
  refine Met.ofW (cc := b_PI_firstMiddle) (maxL := 1) (ret := (some .int)) (by decide) rfl ?_
  intro p e s m args below meth c s₁ B hml hv
  obtain ⟨rfl, hsz, hP, hK, hD0⟩ := hv
  have hx := B.exec
  have hb := B.bytes
  have hr := B.returns
  have hts := atoms_spec (ws := s_PI_firstMiddle) B.pre
  have hown : s.vm.findClass R_PI = some m.cls := findClass_of_methodNamed B.named
  have hlocks := B.notSynchronized
  subst hsz
  have hD := hD0.self (sz := s.heap.size)
  generalize hAe : va_A [] s.heap.size = A at hD ⊢
  have hA : ∀ q : Nat, s.heap.size ≤ q → A q := fun q h => by rw [← hAe]; exact Or.inr h
  have hS : va_S A s.heap s.heap [] := va_S.rf
  have hP : va_P (dC, dI) cls_ [] s.heap := hP
  have hl := lv_entry ([.int x]) (n := 1) (Nat.le_of_ble_eq_true rfl)
  rw [lg_entry_eq]
  generalize (lg_sl ([.int x]) ++ List.replicate (1 - (lg_sl ([.int x])).length) Slot.unset).toArray = ls at hl ⊢
  have hl : lv_has ls 1 [(0, .int x)] := hl
  refine lv_iload_n hx hb d_PI_firstMiddle_0 rfl (lv_at hl 0 rfl) ?_
  refine lv_bipush (v := 32) hx hb d_PI_firstMiddle_1 (by decide) ?_
  refine lv_iadd hx hb d_PI_firstMiddle_3 ?_
  refine lv_topi (fun v3076 ev3076 => ?_)
  refine lv_iconst (v := 1) hx hb d_PI_firstMiddle_4 (by decide) ?_
  refine lv_isub hx hb d_PI_firstMiddle_5 ?_
  refine lv_topi (fun v3077 ev3077 => ?_)
  refine lv_bipush (v := 6) hx hb d_PI_firstMiddle_6 (by decide) ?_
  refine lv_ishr hx hb d_PI_firstMiddle_8 ?_
  refine lv_topi (fun v3078 ev3078 => ?_)
  refine W.widen (k := 0) (n := 0) (Nat.le_of_ble_eq_true rfl) (Nat.le_of_ble_eq_true rfl) ?_
  exact W.iret (v := v3078) hx hb hr (fun t ht hW => ⟨⟨v3078, (), rfl, trivial, trivial⟩, hS.F ht⟩) hS.2.2 d_PI_firstMiddle_9
set_option maxHeartbeats 4000000 in
set_option maxRecDepth 100000 in
/-- GlyphLines$Picture.addLine -/
theorem g_PI_addLine (l : Launch) (dC : Nat → ClassId) (dI : Nat → Nat → Nat) (h0 : Nat) (iw : Nat) (ib : Nat) (cS : ClassId) (fs : Nat → Int32) (xa : Int32) (ya : Int32) (xb : Int32) (yb : Int32) (sz : Nat) : Met l y_PI_addLine s_PI_addLine ({ frames := 12, cells := 0, slots := 0, locals := 400 }) (va_Pc [.ref h0, .int xa, .int ya, .int xb, .int yb] (fun U => U.heap.size = sz ∧ va_P (dC, dI) cls_ [(h0, .inr (7, [.ref iw, .ref ib])), (ib, .inl (cS, 1152, .inl (fs)))] U.heap ∧ va_K (dC, dI) cls_ [(cS, .int)] U ∧ va_D (fun _ => True) [(h0, .inr (7, [.ref iw, .ref ib])), (ib, .inl (cS, 1152, .inl (fs)))])) (va_Qv (fun _ : Unit => True) (fun (_ : Unit) (t : State) => ∃ (gs : Nat → Int32), va_P (dC, dI) cls_ [(h0, .inr (7, [.ref iw, .ref ib])), (ib, .inl (cS, 1152, .inl (gs)))] t.heap ∧ va_K (dC, dI) cls_ [(cS, .int)] t ∧ va_D (va_A [(h0, .inr (7, [.ref iw, .ref ib])), (ib, .inl (cS, 1152, .inl (fs)))] sz) [(h0, .inr (7, [.ref iw, .ref ib])), (ib, .inl (cS, 1152, .inl (gs)))]) (va_A [(h0, .inr (7, [.ref iw, .ref ib])), (ib, .inl (cS, 1152, .inl (fs)))] sz)) 0 0 (va_A [(h0, .inr (7, [.ref iw, .ref ib])), (ib, .inl (cS, 1152, .inl (fs)))] sz) := by
  refine Met.ofW (cc := b_PI_addLine) (maxL := 15) (ret := none) (by decide) rfl ?_
  intro p e s m args below meth c s₁ B hml hv
  obtain ⟨rfl, hsz, hP, hK, hD0⟩ := hv
  have hx := B.exec
  have hb := B.bytes
  have hr := B.returns
  have hts := atoms_spec (ws := s_PI_addLine) B.pre
  have hown : s.vm.findClass R_PI = some m.cls := findClass_of_methodNamed B.named
  have hlocks := B.notSynchronized
  subst hsz
  have hD := hD0.self (sz := s.heap.size)
  generalize hAe : va_A [(h0, .inr (7, [.ref iw, .ref ib])), (ib, .inl (cS, 1152, .inl (fs)))] s.heap.size = A at hD ⊢
  have hA : ∀ q : Nat, s.heap.size ≤ q → A q := fun q h => by rw [← hAe]; exact Or.inr h
  have hS : va_S A s.heap s.heap [] := va_S.rf
  have hP : va_P (dC, dI) cls_ [(h0, .inr (7, [.ref iw, .ref ib])), (ib, .inl (cS, 1152, .inl (fs)))] s.heap := hP
  have hl := lv_entry ([.ref h0, .int xa, .int ya, .int xb, .int yb]) (n := 15) (Nat.le_of_ble_eq_true rfl)
  rw [lg_entry_eq]
  generalize (lg_sl ([.ref h0, .int xa, .int ya, .int xb, .int yb]) ++ List.replicate (15 - (lg_sl ([.ref h0, .int xa, .int ya, .int xb, .int yb])).length) Slot.unset).toArray = ls at hl ⊢
  have hl : lv_has ls 15 [(0, .ref h0), (1, .int xa), (2, .int ya), (3, .int xb), (4, .int yb)] := hl
  refine lv_iload hx hb d_PI_addLine_0 (lv_at hl 4 rfl) ?_
  refine lv_i2l (v := yb.toInt64) hx hb d_PI_addLine_2 (by first | rfl | decide +kernel) ?_
  refine lv_iload_n hx hb d_PI_addLine_3 rfl (lv_at hl 2 rfl) ?_
  refine lv_i2l (v := ya.toInt64) hx hb d_PI_addLine_4 (by first | rfl | decide +kernel) ?_
  refine lv_lsub hx hb d_PI_addLine_5 ?_
  refine lv_topl (fun v3079 ev3079 => ?_)
  refine lv_lstore (lv' := [(5, .long v3079), (0, .ref h0), (1, .int xa), (2, .int ya), (3, .int xb), (4, .int yb)]) hx hb d_PI_addLine_6 hl (by decide) rfl (fun ls hl => ?_)
  refine lv_lload hx hb d_PI_addLine_8 (lv_at hl 0 rfl) ?_
  refine lv_lconst (v := 0) hx hb d_PI_addLine_10 (by decide) ?_
  refine W.lcmp hx hb d_PI_addLine_11 ?_
  refine lv_topi (fun v3080 ev3080 => ?_)
  refine lv_if_ne (tgt := 16) hx hb d_PI_addLine_12 (by decide) (fun hc3081 => ?_) (fun hc3081 => ?_)
  · skip
    have hNZ : ¬ v3079 = 0 := cmp_ne ev3080 hc3081
    refine lv_iload_n hx hb d_PI_addLine_16 rfl (lv_at hl 3 rfl) ?_
    refine lv_iload hx hb d_PI_addLine_17 (lv_at hl 5 rfl) ?_
    refine va_mmin hx hb (by rw [hml]; exact hl.1.symm) hown (hts _ (List.mem_cons_of_mem _ w_805)) (hts _ (List.mem_cons_of_mem _ w_335)) (hts _ (List.mem_cons_of_mem _ w_17)) (hts _ (List.mem_cons_of_mem _ w_336)) (Nat.le_of_ble_eq_true rfl) (Nat.le_of_ble_eq_true rfl) (Nat.le_of_ble_eq_true rfl) (Nat.le_of_ble_eq_true rfl) d_PI_addLine_19 ?_
    refine lv_topi (fun v3082 ev3082 => ?_)
    have hPc := hP.sub (ws' := []) [] rfl
    have hDc := hD.sub (ws' := []) [] (by decide) rfl
    have hKc := hK.sub (tys' := []) [] rfl
    have hFc := va_free (wc := []) hD hS hA [] rfl
    refine va_calli (va_runS (As := [.int v3082]) (rest := []) ⟨hx, hb, hml, hown, hts⟩ (g_PI_firstMiddle l dC dI v3082 s.heap.size) (cwS 1 hts (tw_inS w_806 w_807 w_9 w_808) rfl rfl rfl (by decide +kernel) ⟨Nat.le_of_ble_eq_true rfl, Nat.le_of_ble_eq_true rfl⟩) ⟨fun a U g mk q => by obtain ⟨q0, q1, qP, qK, qD⟩ := q; exact ⟨q0, q1, qP, va_K.moved (u := U) (U := U.calling g mk a) (Vm.Alike.refl U.vm) qK, qD⟩, fun U hU hW => ⟨rfl, by rw [hU], by rw [hU]; exact hPc, va_K.moved hW.alike hKc, hDc.weaken (fun _ _ _ _ => trivial)⟩⟩ rfl rfl hl.1 rfl (lv_room (Nat.le_of_ble_eq_true rfl)) d_PI_addLine_22 ⟨Nat.le_of_ble_eq_true rfl, Nat.le_of_ble_eq_true rfl⟩) hS (fun q _ h => hFc q h) hFc (fun r3083 u t H1 locs ht hvm hw hB hz1 hk1 hS => ?_)
    have hP1 : va_P (dC, dI) cls_ [] H1 := fun k q h => by simp at h
    have hD1 : va_D (va_A [] s.heap.size) [] := ⟨fun i j p q h => by simp at h, fun k q h => by simp at h⟩
    obtain ⟨hP, hD⟩ := va_join (wr := [(h0, .inr (7, [.ref iw, .ref ib])), (ib, .inl (cS, 1152, .inl (fs)))]) (w1 := []) hP hD [] [0, 1] rfl rfl (by decide) (by decide) hk1 hFc hP1 hD1
    generalize H1 = H at hP hS ⊢
    have hP : va_P (dC, dI) cls_ [(h0, .inr (7, [.ref iw, .ref ib])), (ib, .inl (cS, 1152, .inl (fs)))] H := hP
    have hD : va_D A [(h0, .inr (7, [.ref iw, .ref ib])), (ib, .inl (cS, 1152, .inl (fs)))] := hD
    have hw_r3083 := hw
    refine lv_bipush (v := (-8)) hx hb d_PI_addLine_25 (by decide) ?_
    refine va_mmax hx hb (by rw [hml]; exact hl.1.symm) hown (hts _ (List.mem_cons_of_mem _ w_809)) (hts _ (List.mem_cons_of_mem _ w_350)) (hts _ (List.mem_cons_of_mem _ w_17)) (hts _ (List.mem_cons_of_mem _ w_351)) (Nat.le_of_ble_eq_true rfl) (Nat.le_of_ble_eq_true rfl) (Nat.le_of_ble_eq_true rfl) (Nat.le_of_ble_eq_true rfl) d_PI_addLine_27 ?_
    refine lv_topi (fun v3084 ev3084 => ?_)
    refine lv_istore (lv' := [(7, .int v3084), (5, .long v3079), (0, .ref h0), (1, .int xa), (2, .int ya), (3, .int xb), (4, .int yb)]) hx hb d_PI_addLine_30 hl (by decide) rfl (fun ls hl => ?_)
    refine lv_iload_n hx hb d_PI_addLine_32 rfl (lv_at hl 4 rfl) ?_
    refine lv_iload hx hb d_PI_addLine_33 (lv_at hl 6 rfl) ?_
    refine va_mmax hx hb (by rw [hml]; exact hl.1.symm) hown (hts _ (List.mem_cons_of_mem _ w_809)) (hts _ (List.mem_cons_of_mem _ w_350)) (hts _ (List.mem_cons_of_mem _ w_17)) (hts _ (List.mem_cons_of_mem _ w_351)) (Nat.le_of_ble_eq_true rfl) (Nat.le_of_ble_eq_true rfl) (Nat.le_of_ble_eq_true rfl) (Nat.le_of_ble_eq_true rfl) d_PI_addLine_35 ?_
    refine lv_topi (fun v3085 ev3085 => ?_)
    have hPc := hP.sub (ws' := []) [] rfl
    have hDc := hD.sub (ws' := []) [] (by decide) rfl
    have hKc := hK.sub (tys' := []) [] rfl
    have hFc := va_free (wc := []) hD hS hA [] rfl
    refine va_calli (va_runS (As := [.int v3085]) (rest := []) ⟨hx, hb, hml, hown, hts⟩ (g_PI_firstMiddle l dC dI v3085 H.size) (cwS 1 hts (tw_inS w_806 w_807 w_9 w_808) rfl rfl rfl (by decide +kernel) ⟨Nat.le_of_ble_eq_true rfl, Nat.le_of_ble_eq_true rfl⟩) ⟨fun a U g mk q => by obtain ⟨q0, q1, qP, qK, qD⟩ := q; exact ⟨q0, q1, qP, va_K.moved (u := U) (U := U.calling g mk a) (Vm.Alike.refl U.vm) qK, qD⟩, fun U hU hW => ⟨rfl, by rw [hU], by rw [hU]; exact hPc, va_K.moved hW.alike hKc, hDc.weaken (fun _ _ _ _ => trivial)⟩⟩ rfl rfl hl.1 rfl (lv_room (Nat.le_of_ble_eq_true rfl)) d_PI_addLine_38 ⟨Nat.le_of_ble_eq_true rfl, Nat.le_of_ble_eq_true rfl⟩) hS (fun q _ h => hFc q h) hFc (fun r3086 u t H1 locs ht hvm hw hB hz1 hk1 hS => ?_)
    have hP1 : va_P (dC, dI) cls_ [] H1 := fun k q h => by simp at h
    have hD1 : va_D (va_A [] H.size) [] := ⟨fun i j p q h => by simp at h, fun k q h => by simp at h⟩
    obtain ⟨hP, hD⟩ := va_join (wr := [(h0, .inr (7, [.ref iw, .ref ib])), (ib, .inl (cS, 1152, .inl (fs)))]) (w1 := []) hP hD [] [0, 1] rfl rfl (by decide) (by decide) hk1 hFc hP1 hD1
    generalize H1 = H at hP hS ⊢
    have hP : va_P (dC, dI) cls_ [(h0, .inr (7, [.ref iw, .ref ib])), (ib, .inl (cS, 1152, .inl (fs)))] H := hP
    have hD : va_D A [(h0, .inr (7, [.ref iw, .ref ib])), (ib, .inl (cS, 1152, .inl (fs)))] := hD
    have hw_r3086 := hw
    refine lv_iconst (v := 1) hx hb d_PI_addLine_41 (by decide) ?_
    refine lv_isub hx hb d_PI_addLine_42 ?_
    refine lv_topi (fun v3087 ev3087 => ?_)
    refine lv_bipush (v := 15) hx hb d_PI_addLine_43 (by decide) ?_
    refine va_mmin hx hb (by rw [hml]; exact hl.1.symm) hown (hts _ (List.mem_cons_of_mem _ w_805)) (hts _ (List.mem_cons_of_mem _ w_335)) (hts _ (List.mem_cons_of_mem _ w_17)) (hts _ (List.mem_cons_of_mem _ w_336)) (Nat.le_of_ble_eq_true rfl) (Nat.le_of_ble_eq_true rfl) (Nat.le_of_ble_eq_true rfl) (Nat.le_of_ble_eq_true rfl) d_PI_addLine_45 ?_
    refine lv_topi (fun v3088 ev3088 => ?_)
    refine lv_istore (lv' := [(8, .int v3088), (7, .int v3084), (5, .long v3079), (0, .ref h0), (1, .int xa), (2, .int ya), (3, .int xb), (4, .int yb)]) hx hb d_PI_addLine_48 hl (by decide) rfl (fun ls hl => ?_)
    have hTop := min15 ev3088
    have hBot := max8 ev3084
    refine lv_iload hx hb d_PI_addLine_50 (lv_at hl 1 rfl) ?_
    refine lv_istore (lv' := [(9, .int v3084), (8, .int v3088), (7, .int v3084), (5, .long v3079), (0, .ref h0), (1, .int xa), (2, .int ya), (3, .int xb), (4, .int yb)]) hx hb d_PI_addLine_52 hl (by decide) rfl (fun ls hl => ?_)
    have hP8 := hP.sub (ws' := [(h0, .inr (7, [.ref iw, .ref ib])), (ib, .inl (cS, 1152, .inl (fs)))]) [0, 1] rfl
    have hD8 := hD.sub (ws' := [(h0, .inr (7, [.ref iw, .ref ib])), (ib, .inl (cS, 1152, .inl (fs)))]) [0, 1] (by decide) rfl
    refine lv_loop (α := (Nat → Int32) × Int32) 54 (fun ⟨a_ib_3393, l9_3394⟩ H' locs' ls' => va_P (dC, dI) cls_ [(h0, .inr (7, [.ref iw, .ref ib])), (ib, .inl (cS, 1152, .inl (a_ib_3393)))] H' ∧ va_D A [(h0, .inr (7, [.ref iw, .ref ib])), (ib, .inl (cS, 1152, .inl (a_ib_3393)))] ∧ va_S A s.heap H' locs' ∧ lv_has ls' 15 [(9, .int l9_3394), (8, .int v3088), (7, .int v3084), (5, .long v3079), (0, .ref h0), (1, .int xa), (2, .int ya), (3, .int xb), (4, .int yb)] ∧ (-8 ≤ (l9_3394).toInt)) (fun ⟨a_ib_3393, l9_3394⟩ => []) (fun ⟨a_ib_3393, l9_3394⟩ => (16 - (l9_3394).toInt).toNat) ?_ (fs, v3084) H locs ls ⟨hP8, hD8, hS, lv_sub hl [0, 1, 2, 3, 4, 5, 6, 7, 8] rfl, by omega⟩
    intro ⟨a_ib_3393, l9_3394⟩ ih3395 H locs ls ⟨hP, hD, hS, hl, hf3396⟩
    show W p l e _ s m _ below meth c H locs _ _ _ (F0 m 54 ls [])
    have hP : va_P (dC, dI) cls_ [(h0, .inr (7, [.ref iw, .ref ib])), (ib, .inl (cS, 1152, .inl (a_ib_3393)))] H := hP
    have hD : va_D A [(h0, .inr (7, [.ref iw, .ref ib])), (ib, .inl (cS, 1152, .inl (a_ib_3393)))] := hD
    refine lv_iload hx hb d_PI_addLine_54 (lv_at hl 0 rfl) ?_
    refine lv_iload hx hb d_PI_addLine_56 (lv_at hl 1 rfl) ?_
    refine lv_icmp_gt (tgt := 150) hx hb d_PI_addLine_58 (by decide) (fun hc3439 => ?_) (fun hc3439 => ?_)
    · skip
      refine W.widen (k := 0) (n := 0) (Nat.le_of_ble_eq_true rfl) (Nat.le_of_ble_eq_true rfl) ?_
      have hP9 := hP.sub (ws' := [(h0, .inr (7, [.ref iw, .ref ib])), (ib, .inl (cS, 1152, .inl (a_ib_3393)))]) [0, 1] rfl
      have hD9 := hD.sub (ws' := [(h0, .inr (7, [.ref iw, .ref ib])), (ib, .inl (cS, 1152, .inl (a_ib_3393)))]) [0, 1] (by decide) rfl
      have hK9 := hK.sub (tys' := [(cS, .int)]) [0] rfl
      exact W.vret hx hb hr (fun t ht hW => ⟨⟨(), rfl, trivial, a_ib_3393, by rw [ht]; exact hP9, va_K.moved hW.alike hK9, hD9⟩, hS.F ht⟩) hS.2.2 d_PI_addLine_150
    · skip
      obtain ⟨hI1, hI2⟩ := ln_inc (by assumption) hc3439 hTop
      refine lv_iload hx hb d_PI_addLine_61 (lv_at hl 0 rfl) ?_
      refine lv_i2l (v := l9_3394.toInt64) hx hb d_PI_addLine_63 (by first | rfl | decide +kernel) ?_
      refine lv_bipush (v := 6) hx hb d_PI_addLine_64 (by decide) ?_
      refine lv_lshl (v := (l9_3394.toInt64 : Int64) <<< ((6 : Int32).toInt64 &&& 63)) hx hb d_PI_addLine_66 rfl ?_
      refine lv_topl (fun v3440 ev3440 => ?_)
      refine lv_ldc2 (v := 32) hx hb hown (hts _ (List.mem_cons_of_mem _ w_810)) d_PI_addLine_67 ?_
      refine lv_ladd hx hb d_PI_addLine_70 ?_
      refine lv_topl (fun v3441 ev3441 => ?_)
      refine lv_lstore (lv' := [(10, .long v3441), (9, .int l9_3394), (8, .int v3088), (7, .int v3084), (5, .long v3079), (0, .ref h0), (1, .int xa), (2, .int ya), (3, .int xb), (4, .int yb)]) hx hb d_PI_addLine_71 hl (by decide) rfl (fun ls hl => ?_)
      refine lv_iload_n hx hb d_PI_addLine_73 rfl (lv_at hl 6 rfl) ?_
      refine lv_i2l (v := xa.toInt64) hx hb d_PI_addLine_74 (by first | rfl | decide +kernel) ?_
      refine lv_lload hx hb d_PI_addLine_75 (lv_at hl 0 rfl) ?_
      refine lv_iload_n hx hb d_PI_addLine_77 rfl (lv_at hl 7 rfl) ?_
      refine lv_i2l (v := ya.toInt64) hx hb d_PI_addLine_78 (by first | rfl | decide +kernel) ?_
      refine lv_lsub hx hb d_PI_addLine_79 ?_
      refine lv_topl (fun v3442 ev3442 => ?_)
      refine lv_iload_n hx hb d_PI_addLine_80 rfl (lv_at hl 6 rfl) ?_
      refine lv_i2l (v := xa.toInt64) hx hb d_PI_addLine_81 (by first | rfl | decide +kernel) ?_
      refine lv_iload_n hx hb d_PI_addLine_82 rfl (lv_at hl 8 rfl) ?_
      refine lv_i2l (v := xb.toInt64) hx hb d_PI_addLine_83 (by first | rfl | decide +kernel) ?_
      refine lv_lsub hx hb d_PI_addLine_84 ?_
      refine lv_topl (fun v3443 ev3443 => ?_)
      refine lv_lmul hx hb d_PI_addLine_85 ?_
      refine lv_topl (fun v3444 ev3444 => ?_)
      refine lv_lload hx hb d_PI_addLine_86 (lv_at hl 4 rfl) ?_
      have hPc := hP.sub (ws' := []) [] rfl
      have hDc := hD.sub (ws' := []) [] (by decide) rfl
      have hKc := hK.sub (tys' := []) [] rfl
      have hFc := va_free (wc := []) hD hS hA [] rfl
      refine va_calll (va_runS (As := [.long v3444, .long v3079]) (rest := [.long xa.toInt64]) ⟨hx, hb, hml, hown, hts⟩ (g_JM_floorDivJJ l dC dI v3444 v3079 H.size (by assumption)) ⟨callB_of 2 hts (tw_in w_813) rfl rfl rfl (hts _ (List.mem_cons_of_mem _ w_17)) (hts _ (List.mem_cons_of_mem _ w_811)) (by decide +kernel) ⟨Nat.le_of_ble_eq_true rfl, Nat.le_of_ble_eq_true rfl⟩, (hts _ (List.mem_cons_of_mem _ w_812))⟩ ⟨fun a U g mk q => by obtain ⟨q0, q1, qP, qK, qD⟩ := q; exact ⟨q0, q1, qP, va_K.moved (u := U) (U := U.calling g mk a) (Vm.Alike.refl U.vm) qK, qD⟩, fun U hU hW => ⟨rfl, by rw [hU], by rw [hU]; exact hPc, va_K.moved hW.alike hKc, hDc.weaken (fun _ _ _ _ => trivial)⟩⟩ rfl rfl hl.1 rfl (lv_room (Nat.le_of_ble_eq_true rfl)) d_PI_addLine_88 ⟨Nat.le_of_ble_eq_true rfl, Nat.le_of_ble_eq_true rfl⟩) hS (fun q _ h => hFc q h) hFc (fun r3445 u t H1 locs ht hvm hw hB hz1 hk1 hS => ?_)
      have hP1 : va_P (dC, dI) cls_ [] H1 := fun k q h => by simp at h
      have hD1 : va_D (va_A [] H.size) [] := ⟨fun i j p q h => by simp at h, fun k q h => by simp at h⟩
      obtain ⟨hP, hD⟩ := va_join (wr := [(h0, .inr (7, [.ref iw, .ref ib])), (ib, .inl (cS, 1152, .inl (a_ib_3393)))]) (w1 := []) hP hD [] [0, 1] rfl rfl (by decide) (by decide) hk1 hFc hP1 hD1
      generalize H1 = H at hP hS ⊢
      have hP : va_P (dC, dI) cls_ [(h0, .inr (7, [.ref iw, .ref ib])), (ib, .inl (cS, 1152, .inl (a_ib_3393)))] H := hP
      have hD : va_D A [(h0, .inr (7, [.ref iw, .ref ib])), (ib, .inl (cS, 1152, .inl (a_ib_3393)))] := hD
      have hw_r3445 := hw
      refine lv_lsub hx hb d_PI_addLine_91 ?_
      refine lv_topl (fun v3446 ev3446 => ?_)
      refine lv_lstore (lv' := [(12, .long v3446), (10, .long v3441), (9, .int l9_3394), (8, .int v3088), (7, .int v3084), (5, .long v3079), (0, .ref h0), (1, .int xa), (2, .int ya), (3, .int xb), (4, .int yb)]) hx hb d_PI_addLine_92 hl (by decide) rfl (fun ls hl => ?_)
      refine lv_lload hx hb d_PI_addLine_94 (lv_at hl 0 rfl) ?_
      refine lv_l2i (v := v3446.toInt32) hx hb d_PI_addLine_96 rfl ?_
      refine lv_topi (fun v3447 ev3447 => ?_)
      have hPc := hP.sub (ws' := []) [] rfl
      have hDc := hD.sub (ws' := []) [] (by decide) rfl
      have hKc := hK.sub (tys' := []) [] rfl
      have hFc := va_free (wc := []) hD hS hA [] rfl
      refine va_calli (va_runS (As := [.int v3447]) (rest := []) ⟨hx, hb, hml, hown, hts⟩ (g_PI_firstMiddle l dC dI v3447 H.size) (cwS 1 hts (tw_inS w_806 w_807 w_9 w_808) rfl rfl rfl (by decide +kernel) ⟨Nat.le_of_ble_eq_true rfl, Nat.le_of_ble_eq_true rfl⟩) ⟨fun a U g mk q => by obtain ⟨q0, q1, qP, qK, qD⟩ := q; exact ⟨q0, q1, qP, va_K.moved (u := U) (U := U.calling g mk a) (Vm.Alike.refl U.vm) qK, qD⟩, fun U hU hW => ⟨rfl, by rw [hU], by rw [hU]; exact hPc, va_K.moved hW.alike hKc, hDc.weaken (fun _ _ _ _ => trivial)⟩⟩ rfl rfl hl.1 rfl (lv_room (Nat.le_of_ble_eq_true rfl)) d_PI_addLine_97 ⟨Nat.le_of_ble_eq_true rfl, Nat.le_of_ble_eq_true rfl⟩) hS (fun q _ h => hFc q h) hFc (fun r3448 u t H1 locs ht hvm hw hB hz1 hk1 hS => ?_)
      have hP1 : va_P (dC, dI) cls_ [] H1 := fun k q h => by simp at h
      have hD1 : va_D (va_A [] H.size) [] := ⟨fun i j p q h => by simp at h, fun k q h => by simp at h⟩
      obtain ⟨hP, hD⟩ := va_join (wr := [(h0, .inr (7, [.ref iw, .ref ib])), (ib, .inl (cS, 1152, .inl (a_ib_3393)))]) (w1 := []) hP hD [] [0, 1] rfl rfl (by decide) (by decide) hk1 hFc hP1 hD1
      generalize H1 = H at hP hS ⊢
      have hP : va_P (dC, dI) cls_ [(h0, .inr (7, [.ref iw, .ref ib])), (ib, .inl (cS, 1152, .inl (a_ib_3393)))] H := hP
      have hD : va_D A [(h0, .inr (7, [.ref iw, .ref ib])), (ib, .inl (cS, 1152, .inl (a_ib_3393)))] := hD
      have hw_r3448 := hw
      refine lv_iconst (v := 0) hx hb d_PI_addLine_100 (by decide) ?_
      refine va_mmax hx hb (by rw [hml]; exact hl.1.symm) hown (hts _ (List.mem_cons_of_mem _ w_809)) (hts _ (List.mem_cons_of_mem _ w_350)) (hts _ (List.mem_cons_of_mem _ w_17)) (hts _ (List.mem_cons_of_mem _ w_351)) (Nat.le_of_ble_eq_true rfl) (Nat.le_of_ble_eq_true rfl) (Nat.le_of_ble_eq_true rfl) (Nat.le_of_ble_eq_true rfl) d_PI_addLine_101 ?_
      refine lv_topi (fun v3449 ev3449 => ?_)
      refine lv_istore (lv' := [(14, .int v3449), (12, .long v3446), (10, .long v3441), (9, .int l9_3394), (8, .int v3088), (7, .int v3084), (5, .long v3079), (0, .ref h0), (1, .int xa), (2, .int ya), (3, .int xb), (4, .int yb)]) hx hb d_PI_addLine_104 hl (by decide) rfl (fun ls hl => ?_)
      refine lv_iload hx hb d_PI_addLine_106 (lv_at hl 0 rfl) ?_
      refine lv_bipush (v := 48) hx hb d_PI_addLine_108 (by decide) ?_
      refine lv_join (α := (Nat → Int32) × Int32) 144 (fun ⟨a_ib_3464, l14_3465⟩ H' locs' ls' => va_P (dC, dI) cls_ [(h0, .inr (7, [.ref iw, .ref ib])), (ib, .inl (cS, 1152, .inl (a_ib_3464)))] H' ∧ va_D A [(h0, .inr (7, [.ref iw, .ref ib])), (ib, .inl (cS, 1152, .inl (a_ib_3464)))] ∧ va_S A s.heap H' locs' ∧ lv_has ls' 15 [(14, .int l14_3465), (12, .long v3446), (10, .long v3441), (9, .int l9_3394), (8, .int v3088), (7, .int v3084), (5, .long v3079), (0, .ref h0), (1, .int xa), (2, .int ya), (3, .int xb), (4, .int yb)]) (fun ⟨a_ib_3464, l14_3465⟩ => []) ?_ (fun kj3466 => ?_)
      · skip
        intro ⟨a_ib_3464, l14_3465⟩ H locs ls ⟨hP, hD, hS, hl⟩
        show W p l e _ s m _ below meth c H locs _ _ _ (F0 m 144 ls [])
        have hP : va_P (dC, dI) cls_ [(h0, .inr (7, [.ref iw, .ref ib])), (ib, .inl (cS, 1152, .inl (a_ib_3464)))] H := hP
        have hD : va_D A [(h0, .inr (7, [.ref iw, .ref ib])), (ib, .inl (cS, 1152, .inl (a_ib_3464)))] := hD
        refine lv_iinc (k := 3) (v := l9_3394 + (1)) (lv' := [(9, .int (l9_3394 + (1))), (14, .int l14_3465), (12, .long v3446), (10, .long v3441), (8, .int v3088), (7, .int v3084), (5, .long v3079), (0, .ref h0), (1, .int xa), (2, .int ya), (3, .int xb), (4, .int yb)]) hx hb d_PI_addLine_144 hl rfl (by first | rfl | decide +kernel) (by decide) rfl (fun ls hl => ?_)
        refine lv_goto (tgt := 54) hx hb d_PI_addLine_147 (by decide) ?_
        have hP8 := hP.sub (ws' := [(h0, .inr (7, [.ref iw, .ref ib])), (ib, .inl (cS, 1152, .inl (a_ib_3464)))]) [0, 1] rfl
        have hD8 := hD.sub (ws' := [(h0, .inr (7, [.ref iw, .ref ib])), (ib, .inl (cS, 1152, .inl (a_ib_3464)))]) [0, 1] (by decide) rfl
        exact ih3395 (a_ib_3464, l9_3394 + (1)) H locs ls (by show (16 - ((l9_3394 + (1))).toInt).toNat < (16 - (l9_3394).toInt).toNat; omega) ⟨hP8, hD8, hS, lv_sub hl [0, 4, 5, 6, 7, 8, 9, 10, 11] rfl, by omega⟩
      · skip
        refine lv_icmp_ge (tgt := 144) hx hb d_PI_addLine_110 (by decide) (fun hc3467 => ?_) (fun hc3467 => ?_)
        · skip
          have hP8 := hP.sub (ws' := [(h0, .inr (7, [.ref iw, .ref ib])), (ib, .inl (cS, 1152, .inl (a_ib_3393)))]) [0, 1] rfl
          have hD8 := hD.sub (ws' := [(h0, .inr (7, [.ref iw, .ref ib])), (ib, .inl (cS, 1152, .inl (a_ib_3393)))]) [0, 1] (by decide) rfl
          exact kj3466 (a_ib_3393, v3449) H locs ls ⟨hP8, hD8, hS, lv_sub hl [0, 1, 2, 3, 4, 5, 6, 7, 8, 9, 10, 11] rfl⟩
        · skip
          obtain ⟨j3468, hj3468, rfl⟩ := px_of ev3449 hc3467
          refine lv_aload_n hx hb d_PI_addLine_113 rfl (lv_at hl 7 rfl) ?_
          refine va_get (D := (dC, dI)) (ci := 7) (v := .ref ib) (C := R_PI) (T := F_PI) (N := 2) hx hb hts in_PI hown hK hP 0 rfl rfl 1 (by decide) (hts _ (List.mem_cons_of_mem _ w_242)) (fun _ h9 => h9) rfl d_PI_addLine_114 ?_
          refine lv_bipush (v := 15) hx hb d_PI_addLine_117 (by decide) ?_
          refine lv_iload hx hb d_PI_addLine_119 (lv_at hl 3 rfl) ?_
          refine lv_isub hx hb d_PI_addLine_121 ?_
          refine lv_topi (fun v3469 ev3469 => ?_)
          refine lv_bipush (v := 48) hx hb d_PI_addLine_122 (by decide) ?_
          refine lv_imul hx hb d_PI_addLine_124 ?_
          refine lv_topi (fun v3470 ev3470 => ?_)
          refine lv_iload hx hb d_PI_addLine_125 (lv_at hl 0 rfl) ?_
          refine lv_iadd hx hb d_PI_addLine_127 ?_
          refine lv_topi (fun v3471 ev3471 => ?_)
          obtain ⟨kx3472, hkx3472, rfl⟩ := ln_ix (by assumption) hI2 hj3468 ev3469 ev3470 ev3471
          refine lv_dup2_11 hx hb d_PI_addLine_128 rfl rfl ?_
          refine va_iald hx hb hK hP 1 0 rfl rfl (pk_in (kx3472) 1152 (by omega) rfl (by decide)) d_PI_addLine_129 ?_
          refine lv_topi (fun v3473 ev3473 => ?_)
          refine lv_lload hx hb d_PI_addLine_130 (lv_at hl 6 rfl) ?_
          refine lv_lconst (v := 0) hx hb d_PI_addLine_132 (by decide) ?_
          refine W.lcmp hx hb d_PI_addLine_133 ?_
          refine lv_topi (fun v3474 ev3474 => ?_)
          refine lv_join (α := Int32) 142 (fun s0_3476 H' locs' ls' => va_P (dC, dI) cls_ [(h0, .inr (7, [.ref iw, .ref ib])), (ib, .inl (cS, 1152, .inl (a_ib_3393)))] H' ∧ va_D A [(h0, .inr (7, [.ref iw, .ref ib])), (ib, .inl (cS, 1152, .inl (a_ib_3393)))] ∧ va_S A s.heap H' locs' ∧ lv_has ls' 15 [(14, .int (nI (j3468))), (12, .long v3446), (10, .long v3441), (9, .int l9_3394), (8, .int v3088), (7, .int v3084), (5, .long v3079), (0, .ref h0), (1, .int xa), (2, .int ya), (3, .int xb), (4, .int yb)]) (fun s0_3476 => [.int s0_3476, .int v3473, .int (nI (kx3472)), .ref ib]) ?_ (fun kj3477 => ?_)
          · skip
            intro s0_3476 H locs ls ⟨hP, hD, hS, hl⟩
            show W p l e _ s m _ below meth c H locs _ _ _ (F0 m 142 ls [.int s0_3476, .int v3473, .int (nI (kx3472)), .ref ib])
            have hP : va_P (dC, dI) cls_ [(h0, .inr (7, [.ref iw, .ref ib])), (ib, .inl (cS, 1152, .inl (a_ib_3393)))] H := hP
            have hD : va_D A [(h0, .inr (7, [.ref iw, .ref ib])), (ib, .inl (cS, 1152, .inl (a_ib_3393)))] := hD
            refine lv_iadd hx hb d_PI_addLine_142 ?_
            refine lv_topi (fun v3478 ev3478 => ?_)
            refine va_iast hx hb hK hP hD hS 1 0 rfl rfl (pk_in (kx3472) 1152 (by omega) rfl (by decide)) d_PI_addLine_143 (fun H locs hP hD hS => ?_)
            have hP : va_P (dC, dI) cls_ [(h0, .inr (7, [.ref iw, .ref ib])), (ib, .inl (cS, 1152, .inl (upd (a_ib_3393) (Int32.toNatClampNeg (nI (kx3472))) (v3478))))] H := hP
            have hD : va_D A [(h0, .inr (7, [.ref iw, .ref ib])), (ib, .inl (cS, 1152, .inl (upd (a_ib_3393) (Int32.toNatClampNeg (nI (kx3472))) (v3478))))] := hD
            obtain ⟨g3479, eg3479⟩ : ∃ z : Nat → Int32, z = upd (a_ib_3393) (Int32.toNatClampNeg (nI (kx3472))) (v3478) := ⟨_, rfl⟩
            rw [← eg3479] at hP hD
            have hP : va_P (dC, dI) cls_ [(h0, .inr (7, [.ref iw, .ref ib])), (ib, .inl (cS, 1152, .inl (g3479)))] H := hP
            have hD : va_D A [(h0, .inr (7, [.ref iw, .ref ib])), (ib, .inl (cS, 1152, .inl (g3479)))] := hD
            have hP8 := hP.sub (ws' := [(h0, .inr (7, [.ref iw, .ref ib])), (ib, .inl (cS, 1152, .inl (g3479)))]) [0, 1] rfl
            have hD8 := hD.sub (ws' := [(h0, .inr (7, [.ref iw, .ref ib])), (ib, .inl (cS, 1152, .inl (g3479)))]) [0, 1] (by decide) rfl
            exact kj3466 (g3479, nI (j3468)) H locs ls ⟨hP8, hD8, hS, lv_sub hl [0, 1, 2, 3, 4, 5, 6, 7, 8, 9, 10, 11] rfl⟩
          · skip
            refine lv_if_le (tgt := 141) hx hb d_PI_addLine_134 (by decide) (fun hc3480 => ?_) (fun hc3480 => ?_)
            · skip
              refine lv_iconst (v := (-1)) hx hb d_PI_addLine_141 (by decide) ?_
              have hP8 := hP.sub (ws' := [(h0, .inr (7, [.ref iw, .ref ib])), (ib, .inl (cS, 1152, .inl (a_ib_3393)))]) [0, 1] rfl
              have hD8 := hD.sub (ws' := [(h0, .inr (7, [.ref iw, .ref ib])), (ib, .inl (cS, 1152, .inl (a_ib_3393)))]) [0, 1] (by decide) rfl
              exact kj3477 ((-1)) H locs ls ⟨hP8, hD8, hS, lv_sub hl [0, 1, 2, 3, 4, 5, 6, 7, 8, 9, 10, 11] rfl⟩
            · skip
              refine lv_iconst (v := 1) hx hb d_PI_addLine_137 (by decide) ?_
              refine lv_goto (tgt := 142) hx hb d_PI_addLine_138 (by decide) ?_
              have hP8 := hP.sub (ws' := [(h0, .inr (7, [.ref iw, .ref ib])), (ib, .inl (cS, 1152, .inl (a_ib_3393)))]) [0, 1] rfl
              have hD8 := hD.sub (ws' := [(h0, .inr (7, [.ref iw, .ref ib])), (ib, .inl (cS, 1152, .inl (a_ib_3393)))]) [0, 1] (by decide) rfl
              exact kj3477 (1) H locs ls ⟨hP8, hD8, hS, lv_sub hl [0, 1, 2, 3, 4, 5, 6, 7, 8, 9, 10, 11] rfl⟩
  · skip
    refine W.widen (k := 0) (n := 0) (Nat.le_of_ble_eq_true rfl) (Nat.le_of_ble_eq_true rfl) ?_
    have hP9 := hP.sub (ws' := [(h0, .inr (7, [.ref iw, .ref ib])), (ib, .inl (cS, 1152, .inl (fs)))]) [0, 1] rfl
    have hD9 := hD.sub (ws' := [(h0, .inr (7, [.ref iw, .ref ib])), (ib, .inl (cS, 1152, .inl (fs)))]) [0, 1] (by decide) rfl
    have hK9 := hK.sub (tys' := [(cS, .int)]) [0] rfl
    exact W.vret hx hb hr (fun t ht hW => ⟨⟨(), rfl, trivial, fs, by rw [ht]; exact hP9, va_K.moved hW.alike hK9, hD9⟩, hS.F ht⟩) hS.2.2 d_PI_addLine_15
set_option maxHeartbeats 4000000 in
set_option maxRecDepth 100000 in
/-- GlyphLines$Picture.endGlyph -/
theorem g_PI_endGlyph (l : Launch) (dC : Nat → ClassId) (dI : Nat → Nat → Nat) (h0 : Nat) (iw : Nat) (ib : Nat) (cW : ClassId) (fw : Nat → Int64) (cS : ClassId) (fs : Nat → Int32) (sz : Nat) : Met l y_PI_endGlyph s_PI_endGlyph ({ frames := 8, cells := 0, slots := 0, locals := 200 }) (va_Pc [.ref h0] (fun U => U.heap.size = sz ∧ va_P (dC, dI) cls_ [(h0, .inr (7, [.ref iw, .ref ib])), (iw, .inl (cW, 24, .inr (.inl (fw)))), (ib, .inl (cS, 1152, .inl (fs)))] U.heap ∧ va_K (dC, dI) cls_ [(cW, .long), (cS, .int)] U ∧ va_D (fun _ => True) [(h0, .inr (7, [.ref iw, .ref ib])), (iw, .inl (cW, 24, .inr (.inl (fw)))), (ib, .inl (cS, 1152, .inl (fs)))])) (va_Qv (fun _ : Unit => True) (fun (_ : Unit) (t : State) => ∃ (fw_2 : Nat → Int64), va_P (dC, dI) cls_ [(h0, .inr (7, [.ref iw, .ref ib])), (iw, .inl (cW, 24, .inr (.inl (fw_2)))), (ib, .inl (cS, 1152, .inl (fs)))] t.heap ∧ va_K (dC, dI) cls_ [(cW, .long), (cS, .int)] t ∧ va_D (va_A [(h0, .inr (7, [.ref iw, .ref ib])), (iw, .inl (cW, 24, .inr (.inl (fw)))), (ib, .inl (cS, 1152, .inl (fs)))] sz) [(h0, .inr (7, [.ref iw, .ref ib])), (iw, .inl (cW, 24, .inr (.inl (fw_2)))), (ib, .inl (cS, 1152, .inl (fs)))]) (va_A [(h0, .inr (7, [.ref iw, .ref ib])), (iw, .inl (cW, 24, .inr (.inl (fw)))), (ib, .inl (cS, 1152, .inl (fs)))] sz)) 0 0 (va_A [(h0, .inr (7, [.ref iw, .ref ib])), (iw, .inl (cW, 24, .inr (.inl (fw)))), (ib, .inl (cS, 1152, .inl (fs)))] sz) := by
  refine Met.ofW (cc := b_PI_endGlyph) (maxL := 4) (ret := none) (by decide) rfl ?_
  intro p e s m args below meth c s₁ B hml hv
  obtain ⟨rfl, hsz, hP, hK, hD0⟩ := hv
  have hx := B.exec
  have hb := B.bytes
  have hr := B.returns
  have hts := atoms_spec (ws := s_PI_endGlyph) B.pre
  have hown : s.vm.findClass R_PI = some m.cls := findClass_of_methodNamed B.named
  have hlocks := B.notSynchronized
  subst hsz
  have hD := hD0.self (sz := s.heap.size)
  generalize hAe : va_A [(h0, .inr (7, [.ref iw, .ref ib])), (iw, .inl (cW, 24, .inr (.inl (fw)))), (ib, .inl (cS, 1152, .inl (fs)))] s.heap.size = A at hD ⊢
  have hA : ∀ q : Nat, s.heap.size ≤ q → A q := fun q h => by rw [← hAe]; exact Or.inr h
  have hS : va_S A s.heap s.heap [] := va_S.rf
  have hP : va_P (dC, dI) cls_ [(h0, .inr (7, [.ref iw, .ref ib])), (iw, .inl (cW, 24, .inr (.inl (fw)))), (ib, .inl (cS, 1152, .inl (fs)))] s.heap := hP
  have hl := lv_entry ([.ref h0]) (n := 4) (Nat.le_of_ble_eq_true rfl)
  rw [lg_entry_eq]
  generalize (lg_sl ([.ref h0]) ++ List.replicate (4 - (lg_sl ([.ref h0])).length) Slot.unset).toArray = ls at hl ⊢
  have hl : lv_has ls 4 [(0, .ref h0)] := hl
  refine lv_iconst (v := 0) hx hb d_PI_endGlyph_0 (by decide) ?_
  refine lv_istore_n (lv' := [(1, .int 0), (0, .ref h0)]) hx hb d_PI_endGlyph_1 rfl hl (by decide) rfl (fun ls hl => ?_)
  have hP8 := hP.sub (ws' := [(h0, .inr (7, [.ref iw, .ref ib])), (iw, .inl (cW, 24, .inr (.inl (fw)))), (ib, .inl (cS, 1152, .inl (fs)))]) [0, 1, 2] rfl
  have hD8 := hD.sub (ws' := [(h0, .inr (7, [.ref iw, .ref ib])), (iw, .inl (cW, 24, .inr (.inl (fw)))), (ib, .inl (cS, 1152, .inl (fs)))]) [0, 1, 2] (by decide) rfl
  refine lv_loop (α := (Nat → Int64) × Nat) 2 (fun ⟨a_iw_4583, l1_4584⟩ H' locs' ls' => va_P (dC, dI) cls_ [(h0, .inr (7, [.ref iw, .ref ib])), (iw, .inl (cW, 24, .inr (.inl (a_iw_4583)))), (ib, .inl (cS, 1152, .inl (fs)))] H' ∧ va_D A [(h0, .inr (7, [.ref iw, .ref ib])), (iw, .inl (cW, 24, .inr (.inl (a_iw_4583)))), (ib, .inl (cS, 1152, .inl (fs)))] ∧ va_S A s.heap H' locs' ∧ lv_has ls' 4 [(1, .int (nI (l1_4584))), (0, .ref h0)] ∧ (l1_4584 ≤ 24)) (fun ⟨a_iw_4583, l1_4584⟩ => []) (fun ⟨a_iw_4583, l1_4584⟩ => 24 - l1_4584) ?_ (fw, 0) s.heap _ ls ⟨hP8, hD8, hS, lv_sub hl [0, 1] rfl, by omega⟩
  intro ⟨a_iw_4583, l1_4584⟩ ih4585 H locs ls ⟨hP, hD, hS, hl, hf4586⟩
  show W p l e _ s m _ below meth c H locs _ _ _ (F0 m 2 ls [])
  have hP : va_P (dC, dI) cls_ [(h0, .inr (7, [.ref iw, .ref ib])), (iw, .inl (cW, 24, .inr (.inl (a_iw_4583)))), (ib, .inl (cS, 1152, .inl (fs)))] H := hP
  have hD : va_D A [(h0, .inr (7, [.ref iw, .ref ib])), (iw, .inl (cW, 24, .inr (.inl (a_iw_4583)))), (ib, .inl (cS, 1152, .inl (fs)))] := hD
  refine lv_iload_n hx hb d_PI_endGlyph_2 rfl (lv_at hl 0 rfl) ?_
  refine lv_bipush (v := 24) hx hb d_PI_endGlyph_3 (by decide) ?_
  refine lv_icmp_ge (tgt := 60) hx hb d_PI_endGlyph_5 (by decide) (fun hc4743 => ?_) (fun hc4743 => ?_)
  · skip
    have hc4743n : 24 ≤ l1_4584 := (nI_leI (a := 24) (b := l1_4584) (by omega) (by omega)).mp hc4743
    refine W.widen (k := 0) (n := 0) (Nat.le_of_ble_eq_true rfl) (Nat.le_of_ble_eq_true rfl) ?_
    have hP9 := hP.sub (ws' := [(h0, .inr (7, [.ref iw, .ref ib])), (iw, .inl (cW, 24, .inr (.inl (a_iw_4583)))), (ib, .inl (cS, 1152, .inl (fs)))]) [0, 1, 2] rfl
    have hD9 := hD.sub (ws' := [(h0, .inr (7, [.ref iw, .ref ib])), (iw, .inl (cW, 24, .inr (.inl (a_iw_4583)))), (ib, .inl (cS, 1152, .inl (fs)))]) [0, 1, 2] (by decide) rfl
    have hK9 := hK.sub (tys' := [(cW, .long), (cS, .int)]) [0, 1] rfl
    exact W.vret hx hb hr (fun t ht hW => ⟨⟨(), rfl, trivial, a_iw_4583, by rw [ht]; exact hP9, va_K.moved hW.alike hK9, hD9⟩, hS.F ht⟩) hS.2.2 d_PI_endGlyph_60
  · skip
    have hc4743n : ¬ (24 ≤ l1_4584) := fun z => hc4743 ((nI_leI (a := 24) (b := l1_4584) (by omega) (by omega)).mpr z)
    refine lv_iconst (v := 0) hx hb d_PI_endGlyph_8 (by decide) ?_
    refine lv_istore_n (lv' := [(2, .int 0), (1, .int (nI (l1_4584))), (0, .ref h0)]) hx hb d_PI_endGlyph_9 rfl hl (by decide) rfl (fun ls hl => ?_)
    refine lv_iconst (v := 0) hx hb d_PI_endGlyph_10 (by decide) ?_
    refine lv_istore_n (lv' := [(3, .int 0), (2, .int 0), (1, .int (nI (l1_4584))), (0, .ref h0)]) hx hb d_PI_endGlyph_11 rfl hl (by decide) rfl (fun ls hl => ?_)
    have hP8 := hP.sub (ws' := [(h0, .inr (7, [.ref iw, .ref ib])), (iw, .inl (cW, 24, .inr (.inl (a_iw_4583)))), (ib, .inl (cS, 1152, .inl (fs)))]) [0, 1, 2] rfl
    have hD8 := hD.sub (ws' := [(h0, .inr (7, [.ref iw, .ref ib])), (iw, .inl (cW, 24, .inr (.inl (a_iw_4583)))), (ib, .inl (cS, 1152, .inl (fs)))]) [0, 1, 2] (by decide) rfl
    refine lv_loop (α := (Nat → Int64) × Nat × Int32) 12 (fun ⟨a_iw_4864, l3_4865, l2_4866⟩ H' locs' ls' => va_P (dC, dI) cls_ [(h0, .inr (7, [.ref iw, .ref ib])), (iw, .inl (cW, 24, .inr (.inl (a_iw_4864)))), (ib, .inl (cS, 1152, .inl (fs)))] H' ∧ va_D A [(h0, .inr (7, [.ref iw, .ref ib])), (iw, .inl (cW, 24, .inr (.inl (a_iw_4864)))), (ib, .inl (cS, 1152, .inl (fs)))] ∧ va_S A s.heap H' locs' ∧ lv_has ls' 4 [(3, .int (nI (l3_4865))), (2, .int l2_4866), (1, .int (nI (l1_4584))), (0, .ref h0)] ∧ (l3_4865 ≤ 48)) (fun ⟨a_iw_4864, l3_4865, l2_4866⟩ => []) (fun ⟨a_iw_4864, l3_4865, l2_4866⟩ => 48 - l3_4865) ?_ (a_iw_4583, 0, 0) H locs ls ⟨hP8, hD8, hS, lv_sub hl [0, 1, 2, 3] rfl, by omega⟩
    intro ⟨a_iw_4864, l3_4865, l2_4866⟩ ih4867 H locs ls ⟨hP, hD, hS, hl, hf4868⟩
    show W p l e _ s m _ below meth c H locs _ _ _ (F0 m 12 ls [])
    have hP : va_P (dC, dI) cls_ [(h0, .inr (7, [.ref iw, .ref ib])), (iw, .inl (cW, 24, .inr (.inl (a_iw_4864)))), (ib, .inl (cS, 1152, .inl (fs)))] H := hP
    have hD : va_D A [(h0, .inr (7, [.ref iw, .ref ib])), (iw, .inl (cW, 24, .inr (.inl (a_iw_4864)))), (ib, .inl (cS, 1152, .inl (fs)))] := hD
    refine lv_iload_n hx hb d_PI_endGlyph_12 rfl (lv_at hl 0 rfl) ?_
    refine lv_bipush (v := 48) hx hb d_PI_endGlyph_13 (by decide) ?_
    refine lv_icmp_ge (tgt := 54) hx hb d_PI_endGlyph_15 (by decide) (fun hc4884 => ?_) (fun hc4884 => ?_)
    · skip
      have hc4884n : 48 ≤ l3_4865 := (nI_leI (a := 48) (b := l3_4865) (by omega) (by omega)).mp hc4884
      refine lv_iinc (k := 2) (v := nI (l1_4584 + 1)) (lv' := [(1, .int (nI (l1_4584 + 1))), (3, .int (nI (l3_4865))), (2, .int l2_4866), (0, .ref h0)]) hx hb d_PI_endGlyph_54 hl rfl (nI_add (l1_4584) 1) (by decide) rfl (fun ls hl => ?_)
      refine lv_goto (tgt := 2) hx hb d_PI_endGlyph_57 (by decide) ?_
      have hP8 := hP.sub (ws' := [(h0, .inr (7, [.ref iw, .ref ib])), (iw, .inl (cW, 24, .inr (.inl (a_iw_4864)))), (ib, .inl (cS, 1152, .inl (fs)))]) [0, 1, 2] rfl
      have hD8 := hD.sub (ws' := [(h0, .inr (7, [.ref iw, .ref ib])), (iw, .inl (cW, 24, .inr (.inl (a_iw_4864)))), (ib, .inl (cS, 1152, .inl (fs)))]) [0, 1, 2] (by decide) rfl
      exact ih4585 (a_iw_4864, l1_4584 + 1) H locs ls (by show 24 - (l1_4584 + 1) < 24 - l1_4584; omega) ⟨hP8, hD8, hS, lv_sub hl [0, 3] rfl, by omega⟩
    · skip
      have hc4884n : ¬ (48 ≤ l3_4865) := fun z => hc4884 ((nI_leI (a := 48) (b := l3_4865) (by omega) (by omega)).mpr z)
      refine lv_iload_n hx hb d_PI_endGlyph_18 rfl (lv_at hl 1 rfl) ?_
      refine lv_aload_n hx hb d_PI_endGlyph_19 rfl (lv_at hl 3 rfl) ?_
      refine va_get (D := (dC, dI)) (ci := 7) (v := .ref ib) (C := R_PI) (T := F_PI) (N := 2) hx hb hts in_PI hown hK hP 0 rfl rfl 1 (by decide) (hts _ (List.mem_cons_of_mem _ w_242)) (fun _ h9 => h9) rfl d_PI_endGlyph_20 ?_
      refine lv_iload_n hx hb d_PI_endGlyph_23 rfl (lv_at hl 2 rfl) ?_
      refine lv_bipush (v := 48) hx hb d_PI_endGlyph_24 (by decide) ?_
      refine lv_imul hx hb d_PI_endGlyph_26 ?_
      refine lv_ci (y := nI (l1_4584 * 48)) (pk_mul (l1_4584) (48)) ?_
      refine lv_iload_n hx hb d_PI_endGlyph_27 rfl (lv_at hl 0 rfl) ?_
      refine lv_iadd hx hb d_PI_endGlyph_28 ?_
      refine lv_ci (y := nI (l1_4584 * 48 + l3_4865)) (nI_add (l1_4584 * 48) (l3_4865)) ?_
      refine va_iald hx hb hK hP 2 1 rfl rfl (pk_in (l1_4584 * 48 + l3_4865) 1152 (by omega) rfl (by decide)) d_PI_endGlyph_29 ?_
      refine lv_topi (fun v4885 ev4885 => ?_)
      refine lv_iadd hx hb d_PI_endGlyph_30 ?_
      refine lv_topi (fun v4886 ev4886 => ?_)
      refine lv_istore_n (lv' := [(2, .int v4886), (3, .int (nI (l3_4865))), (1, .int (nI (l1_4584))), (0, .ref h0)]) hx hb d_PI_endGlyph_31 rfl hl (by decide) rfl (fun ls hl => ?_)
      refine lv_iload_n hx hb d_PI_endGlyph_32 rfl (lv_at hl 0 rfl) ?_
      refine lv_join (α := (Nat → Int64)) 48 (fun a_iw_4892 H' locs' ls' => va_P (dC, dI) cls_ [(h0, .inr (7, [.ref iw, .ref ib])), (iw, .inl (cW, 24, .inr (.inl (a_iw_4892)))), (ib, .inl (cS, 1152, .inl (fs)))] H' ∧ va_D A [(h0, .inr (7, [.ref iw, .ref ib])), (iw, .inl (cW, 24, .inr (.inl (a_iw_4892)))), (ib, .inl (cS, 1152, .inl (fs)))] ∧ va_S A s.heap H' locs' ∧ lv_has ls' 4 [(2, .int v4886), (3, .int (nI (l3_4865))), (1, .int (nI (l1_4584))), (0, .ref h0)]) (fun a_iw_4892 => []) ?_ (fun kj4893 => ?_)
      · skip
        intro a_iw_4892 H locs ls ⟨hP, hD, hS, hl⟩
        show W p l e _ s m _ below meth c H locs _ _ _ (F0 m 48 ls [])
        have hP : va_P (dC, dI) cls_ [(h0, .inr (7, [.ref iw, .ref ib])), (iw, .inl (cW, 24, .inr (.inl (a_iw_4892)))), (ib, .inl (cS, 1152, .inl (fs)))] H := hP
        have hD : va_D A [(h0, .inr (7, [.ref iw, .ref ib])), (iw, .inl (cW, 24, .inr (.inl (a_iw_4892)))), (ib, .inl (cS, 1152, .inl (fs)))] := hD
        refine lv_iinc (k := 1) (v := nI (l3_4865 + 1)) (lv' := [(3, .int (nI (l3_4865 + 1))), (2, .int v4886), (1, .int (nI (l1_4584))), (0, .ref h0)]) hx hb d_PI_endGlyph_48 hl rfl (nI_add (l3_4865) 1) (by decide) rfl (fun ls hl => ?_)
        refine lv_goto (tgt := 12) hx hb d_PI_endGlyph_51 (by decide) ?_
        have hP8 := hP.sub (ws' := [(h0, .inr (7, [.ref iw, .ref ib])), (iw, .inl (cW, 24, .inr (.inl (a_iw_4892)))), (ib, .inl (cS, 1152, .inl (fs)))]) [0, 1, 2] rfl
        have hD8 := hD.sub (ws' := [(h0, .inr (7, [.ref iw, .ref ib])), (iw, .inl (cW, 24, .inr (.inl (a_iw_4892)))), (ib, .inl (cS, 1152, .inl (fs)))]) [0, 1, 2] (by decide) rfl
        exact ih4867 (a_iw_4892, l3_4865 + 1, v4886) H locs ls (by show 48 - (l3_4865 + 1) < 48 - l3_4865; omega) ⟨hP8, hD8, hS, lv_sub hl [0, 1, 2, 3] rfl, by omega⟩
      · skip
        refine lv_if_eq (tgt := 48) hx hb d_PI_endGlyph_33 (by decide) (fun hc4894 => ?_) (fun hc4894 => ?_)
        · skip
          have hP8 := hP.sub (ws' := [(h0, .inr (7, [.ref iw, .ref ib])), (iw, .inl (cW, 24, .inr (.inl (a_iw_4864)))), (ib, .inl (cS, 1152, .inl (fs)))]) [0, 1, 2] rfl
          have hD8 := hD.sub (ws' := [(h0, .inr (7, [.ref iw, .ref ib])), (iw, .inl (cW, 24, .inr (.inl (a_iw_4864)))), (ib, .inl (cS, 1152, .inl (fs)))]) [0, 1, 2] (by decide) rfl
          exact kj4893 (a_iw_4864) H locs ls ⟨hP8, hD8, hS, lv_sub hl [0, 1, 2, 3] rfl⟩
        · skip
          refine lv_aload_n hx hb d_PI_endGlyph_36 rfl (lv_at hl 3 rfl) ?_
          refine va_get (D := (dC, dI)) (ci := 7) (v := .ref iw) (C := R_PI) (T := F_PI) (N := 2) hx hb hts in_PI hown hK hP 0 rfl rfl 0 (by decide) (hts _ (List.mem_cons_of_mem _ w_240)) (fun _ h9 => h9) rfl d_PI_endGlyph_37 ?_
          refine lv_iload_n hx hb d_PI_endGlyph_40 rfl (lv_at hl 2 rfl) ?_
          refine lv_dup2_11 hx hb d_PI_endGlyph_41 rfl rfl ?_
          refine va_lald hx hb hK hP 1 0 rfl rfl (pk_in (l1_4584) 24 (by omega) rfl (by decide)) d_PI_endGlyph_42 ?_
          refine lv_topl (fun v4895 ev4895 => ?_)
          refine lv_lconst (v := 1) hx hb d_PI_endGlyph_43 (by decide) ?_
          refine lv_iload_n hx hb d_PI_endGlyph_44 rfl (lv_at hl 1 rfl) ?_
          refine lv_lshl (v := (1 : Int64) <<< ((nI (l3_4865) : Int32).toInt64 &&& 63)) hx hb d_PI_endGlyph_45 rfl ?_
          refine lv_topl (fun v4896 ev4896 => ?_)
          refine lv_lor hx hb d_PI_endGlyph_46 ?_
          refine lv_topl (fun v4897 ev4897 => ?_)
          refine va_last hx hb hK hP hD hS 1 0 rfl rfl (pk_in (l1_4584) 24 (by omega) rfl (by decide)) d_PI_endGlyph_47 (fun H locs hP hD hS => ?_)
          have hP : va_P (dC, dI) cls_ [(h0, .inr (7, [.ref iw, .ref ib])), (iw, .inl (cW, 24, .inr (.inl (vp_updL (a_iw_4864) (Int32.toNatClampNeg (nI (l1_4584))) (v4897))))), (ib, .inl (cS, 1152, .inl (fs)))] H := hP
          have hD : va_D A [(h0, .inr (7, [.ref iw, .ref ib])), (iw, .inl (cW, 24, .inr (.inl (vp_updL (a_iw_4864) (Int32.toNatClampNeg (nI (l1_4584))) (v4897))))), (ib, .inl (cS, 1152, .inl (fs)))] := hD
          obtain ⟨g4898, eg4898⟩ : ∃ z : Nat → Int64, z = vp_updL (a_iw_4864) (Int32.toNatClampNeg (nI (l1_4584))) (v4897) := ⟨_, rfl⟩
          rw [← eg4898] at hP hD
          have hP : va_P (dC, dI) cls_ [(h0, .inr (7, [.ref iw, .ref ib])), (iw, .inl (cW, 24, .inr (.inl (g4898)))), (ib, .inl (cS, 1152, .inl (fs)))] H := hP
          have hD : va_D A [(h0, .inr (7, [.ref iw, .ref ib])), (iw, .inl (cW, 24, .inr (.inl (g4898)))), (ib, .inl (cS, 1152, .inl (fs)))] := hD
          have hP8 := hP.sub (ws' := [(h0, .inr (7, [.ref iw, .ref ib])), (iw, .inl (cW, 24, .inr (.inl (g4898)))), (ib, .inl (cS, 1152, .inl (fs)))]) [0, 1, 2] rfl
          have hD8 := hD.sub (ws' := [(h0, .inr (7, [.ref iw, .ref ib])), (iw, .inl (cW, 24, .inr (.inl (g4898)))), (ib, .inl (cS, 1152, .inl (fs)))]) [0, 1, 2] (by decide) rfl
          exact kj4893 (g4898) H locs ls ⟨hP8, hD8, hS, lv_sub hl [0, 1, 2, 3] rfl⟩
