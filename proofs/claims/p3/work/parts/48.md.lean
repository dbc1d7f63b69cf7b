abbrev b_MD_scaled : ByteArray := prog_12_method_46_code
def y_MD_scaled : MethodName := ⟨R_MD, "scaled", "(II)I"⟩
def s_MD_scaled : List Cond := .code y_MD_scaled b_MD_scaled 5 (some .int) :: tw_T
abbrev b_MD_half : ByteArray := prog_12_method_47_code
def y_MD_half : MethodName := ⟨R_MD, "half", "(II)I"⟩
def s_MD_half : List Cond := .code y_MD_half b_MD_half 2 (some .int) :: tw_T
abbrev b_MD_far : ByteArray := prog_12_method_48_code
def y_MD_far : MethodName := ⟨R_MD, "far", "(II)I"⟩
def s_MD_far : List Cond := .code y_MD_far b_MD_far 2 (some .int) :: tw_T
abbrev b_MD_paintLine : ByteArray := prog_12_method_49_code
def y_MD_paintLine : MethodName := ⟨R_MD, "paintLine", "(IIII)V"⟩
def s_MD_paintLine : List Cond := .code y_MD_paintLine b_MD_paintLine 13 none :: tw_T
abbrev b_MD_wait7 : ByteArray := prog_12_method_50_code
def y_MD_wait7 : MethodName := ⟨R_MD, "wait7", "(IIIIIII)V"⟩
def s_MD_wait7 : List Cond := .code y_MD_wait7 b_MD_wait7 9 none :: tw_T
abbrev b_MD_isFlat : ByteArray := prog_12_method_51_code
def y_MD_isFlat : MethodName := ⟨R_MD, "isFlat", "(I)Z"⟩
def s_MD_isFlat : List Cond := .code y_MD_isFlat b_MD_isFlat 7 (some .boolean) :: tw_T
abbrev b_MD_paintCurves : ByteArray := prog_12_method_52_code
def y_MD_paintCurves : MethodName := ⟨R_MD, "paintCurves", "()V"⟩
def s_MD_paintCurves : List Cond := .code y_MD_paintCurves b_MD_paintCurves 13 none :: tw_T
theorem w_884 : (Jvm.Cond.fieldLink "GlyphLinesModel" (261 : Nat) "GlyphLinesModel" "waiting" "I") ∈ tw_T := tw_of 884 (by decide +kernel) (by decide +kernel)
theorem w_885 : (Jvm.Cond.fieldLink "GlyphLinesModel" (80 : Nat) "GlyphLinesModel" "curves" "[I") ∈ tw_T := tw_of 885 (by decide +kernel) (by decide +kernel)
theorem w_886 : (Jvm.Cond.fieldLink "GlyphLinesModel" (83 : Nat) "GlyphLinesModel" "windings" "[I") ∈ tw_T := tw_of 886 (by decide +kernel) (by decide +kernel)
theorem w_1158 : (Jvm.Cond.constantLong "GlyphLinesModel" (255 : Nat) (128 : Int64)) ∈ tw_T := tw_of 1158 (by decide +kernel) (by decide +kernel)
theorem w_1171 : (Jvm.Cond.methodLink "GlyphLinesModel" (276 : Nat) ({ cls := "GlyphLinesModel", name := "half", desc := "(II)I" } : Jvm.MethodName)) ∈ tw_T := tw_of 1171 (by decide +kernel) (by decide +kernel)
theorem w_1172 : (Jvm.Cond.static ({ cls := "GlyphLinesModel", name := "half", desc := "(II)I" } : Jvm.MethodName)) ∈ tw_T := tw_of 1172 (by decide +kernel) (by decide +kernel)
theorem w_1173 : (Jvm.Cond.code ({ cls := "GlyphLinesModel", name := "half", desc := "(II)I" } : Jvm.MethodName) prog_12_method_47_code (2 : Nat) (Option.some Jvm.ClassFile.FieldType.int)) ∈ tw_T := tw_of 1173 (by decide +kernel) (by decide +kernel)
theorem w_1178 : (Jvm.Cond.methodLink "GlyphLinesModel" (272 : Nat) ({ cls := "GlyphLinesModel", name := "paintLine", desc := "(IIII)V" } : Jvm.MethodName)) ∈ tw_T := tw_of 1178 (by decide +kernel) (by decide +kernel)
theorem w_1180 : (Jvm.Cond.instanceMethod ({ cls := "GlyphLinesModel", name := "paintLine", desc := "(IIII)V" } : Jvm.MethodName)) ∈ tw_T := tw_of 1180 (by decide +kernel) (by decide +kernel)
theorem w_1181 : (Jvm.Cond.code ({ cls := "GlyphLinesModel", name := "paintLine", desc := "(IIII)V" } : Jvm.MethodName) prog_12_method_49_code (13 : Nat) (Option.none : Option Jvm.ClassFile.FieldType)) ∈ tw_T := tw_of 1181 (by decide +kernel) (by decide +kernel)
theorem w_1182 : (Jvm.Cond.constantLong "GlyphLinesModel" (257 : Nat) (64 : Int64)) ∈ tw_T := tw_of 1182 (by decide +kernel) (by decide +kernel)
theorem w_1183 : (Jvm.Cond.constantLong "GlyphLinesModel" (259 : Nat) (32 : Int64)) ∈ tw_T := tw_of 1183 (by decide +kernel) (by decide +kernel)
theorem w_1184 : (Jvm.Cond.methodLink "GlyphLinesModel" (279 : Nat) ({ cls := "GlyphLinesModel", name := "wait7", desc := "(IIIIIII)V" } : Jvm.MethodName)) ∈ tw_T := tw_of 1184 (by decide +kernel) (by decide +kernel)
theorem w_1186 : (Jvm.Cond.instanceMethod ({ cls := "GlyphLinesModel", name := "wait7", desc := "(IIIIIII)V" } : Jvm.MethodName)) ∈ tw_T := tw_of 1186 (by decide +kernel) (by decide +kernel)
theorem w_1187 : (Jvm.Cond.code ({ cls := "GlyphLinesModel", name := "wait7", desc := "(IIIIIII)V" } : Jvm.MethodName) prog_12_method_50_code (9 : Nat) (Option.none : Option Jvm.ClassFile.FieldType)) ∈ tw_T := tw_of 1187 (by decide +kernel) (by decide +kernel)
theorem w_1192 : (Jvm.Cond.methodLink "GlyphLinesModel" (269 : Nat) ({ cls := "GlyphLinesModel", name := "isFlat", desc := "(I)Z" } : Jvm.MethodName)) ∈ tw_T := tw_of 1192 (by decide +kernel) (by decide +kernel)
theorem w_1194 : (Jvm.Cond.instanceMethod ({ cls := "GlyphLinesModel", name := "isFlat", desc := "(I)Z" } : Jvm.MethodName)) ∈ tw_T := tw_of 1194 (by decide +kernel) (by decide +kernel)
theorem w_1195 : (Jvm.Cond.code ({ cls := "GlyphLinesModel", name := "isFlat", desc := "(I)Z" } : Jvm.MethodName) prog_12_method_51_code (7 : Nat) (Option.some Jvm.ClassFile.FieldType.boolean)) ∈ tw_T := tw_of 1195 (by decide +kernel) (by decide +kernel)
theorem w_1196 : (Jvm.Cond.methodLink "GlyphLinesModel" (264 : Nat) ({ cls := "GlyphLinesModel", name := "far", desc := "(II)I" } : Jvm.MethodName)) ∈ tw_T := tw_of 1196 (by decide +kernel) (by decide +kernel)
theorem w_1197 : (Jvm.Cond.static ({ cls := "GlyphLinesModel", name := "far", desc := "(II)I" } : Jvm.MethodName)) ∈ tw_T := tw_of 1197 (by decide +kernel) (by decide +kernel)
theorem w_1198 : (Jvm.Cond.code ({ cls := "GlyphLinesModel", name := "far", desc := "(II)I" } : Jvm.MethodName) prog_12_method_48_code (2 : Nat) (Option.some Jvm.ClassFile.FieldType.int)) ∈ tw_T := tw_of 1198 (by decide +kernel) (by decide +kernel)
theorem w_1199 : (Jvm.Cond.constantLong "GlyphLinesModel" (267 : Nat) (-4 : Int64)) ∈ tw_T := tw_of 1199 (by decide +kernel) (by decide +kernel)
theorem wp_69 : Cond.selects "GlyphLinesModel" ({ cls := "GlyphLinesModel", name := "paintLine", desc := "(IIII)V" } : Jvm.MethodName) ({ cls := "GlyphLinesModel", name := "paintLine", desc := "(IIII)V" } : Jvm.MethodName) ∈ tw_T := tw_priv 69 (({ cls := "GlyphLinesModel", name := "paintLine", desc := "(IIII)V" } : Jvm.MethodName), 36) (by decide +kernel) (by decide +kernel)
theorem wp_70 : Cond.selects "GlyphLinesModel" ({ cls := "GlyphLinesModel", name := "wait7", desc := "(IIIIIII)V" } : Jvm.MethodName) ({ cls := "GlyphLinesModel", name := "wait7", desc := "(IIIIIII)V" } : Jvm.MethodName) ∈ tw_T := tw_priv 70 (({ cls := "GlyphLinesModel", name := "wait7", desc := "(IIIIIII)V" } : Jvm.MethodName), 36) (by decide +kernel) (by decide +kernel)
theorem wp_72 : Cond.selects "GlyphLinesModel" ({ cls := "GlyphLinesModel", name := "isFlat", desc := "(I)Z" } : Jvm.MethodName) ({ cls := "GlyphLinesModel", name := "isFlat", desc := "(I)Z" } : Jvm.MethodName) ∈ tw_T := tw_priv 72 (({ cls := "GlyphLinesModel", name := "isFlat", desc := "(I)Z" } : Jvm.MethodName), 36) (by decide +kernel) (by decide +kernel)
theorem d_MD_far_0 : decode b_MD_far 0 = .ok (.iload_n 0, 1) := by decide +kernel
theorem d_MD_far_1 : decode b_MD_far 1 = .ok (.iload_n 1, 1) := by decide +kernel
theorem d_MD_far_11 : decode b_MD_far 11 = .ok (.iload_n 0, 1) := by decide +kernel
theorem d_MD_far_12 : decode b_MD_far 12 = .ok (.iload_n 1, 1) := by decide +kernel
theorem d_MD_far_13 : decode b_MD_far 13 = .ok (.isub, 1) := by decide +kernel
theorem d_MD_far_14 : decode b_MD_far 14 = .ok (.ireturn, 1) := by decide +kernel
theorem d_MD_far_2 : decode b_MD_far 2 = .ok (.if_icmp .ge (9), 3) := by decide +kernel
theorem d_MD_far_5 : decode b_MD_far 5 = .ok (.iload_n 1, 1) := by decide +kernel
theorem d_MD_far_6 : decode b_MD_far 6 = .ok (.iload_n 0, 1) := by decide +kernel
theorem d_MD_far_7 : decode b_MD_far 7 = .ok (.isub, 1) := by decide +kernel
theorem d_MD_far_8 : decode b_MD_far 8 = .ok (.goto (6), 3) := by decide +kernel
theorem d_MD_half_0 : decode b_MD_half 0 = .ok (.iload_n 0, 1) := by decide +kernel
theorem d_MD_half_1 : decode b_MD_half 1 = .ok (.iload_n 1, 1) := by decide +kernel
theorem d_MD_half_2 : decode b_MD_half 2 = .ok (.iadd, 1) := by decide +kernel
theorem d_MD_half_3 : decode b_MD_half 3 = .ok (.iconst 1, 1) := by decide +kernel
theorem d_MD_half_4 : decode b_MD_half 4 = .ok (.ishr, 1) := by decide +kernel
theorem d_MD_half_5 : decode b_MD_half 5 = .ok (.ireturn, 1) := by decide +kernel
theorem d_MD_isFlat_0 : decode b_MD_isFlat 0 = .ok (.aload_n 0, 1) := by decide +kernel
theorem d_MD_isFlat_1 : decode b_MD_isFlat 1 = .ok (.getfield 80, 3) := by decide +kernel
theorem d_MD_isFlat_100 : decode b_MD_isFlat 100 = .ok (.iaload, 1) := by decide +kernel
theorem d_MD_isFlat_101 : decode b_MD_isFlat 101 = .ok (.iload_n 3, 1) := by decide +kernel
theorem d_MD_isFlat_102 : decode b_MD_isFlat 102 = .ok (.invokestatic 264, 3) := by decide +kernel
theorem d_MD_isFlat_105 : decode b_MD_isFlat 105 = .ok (.iconst 4, 1) := by decide +kernel
theorem d_MD_isFlat_106 : decode b_MD_isFlat 106 = .ok (.if_icmp .gt (7), 3) := by decide +kernel
theorem d_MD_isFlat_109 : decode b_MD_isFlat 109 = .ok (.iconst 1, 1) := by decide +kernel
theorem d_MD_isFlat_11 : decode b_MD_isFlat 11 = .ok (.iload_n 1, 1) := by decide +kernel
theorem d_MD_isFlat_110 : decode b_MD_isFlat 110 = .ok (.goto (4), 3) := by decide +kernel
theorem d_MD_isFlat_113 : decode b_MD_isFlat 113 = .ok (.iconst 0, 1) := by decide +kernel
theorem d_MD_isFlat_114 : decode b_MD_isFlat 114 = .ok (.ireturn, 1) := by decide +kernel
theorem d_MD_isFlat_115 : decode b_MD_isFlat 115 = .ok (.aload_n 0, 1) := by decide +kernel
theorem d_MD_isFlat_116 : decode b_MD_isFlat 116 = .ok (.getfield 80, 3) := by decide +kernel
theorem d_MD_isFlat_119 : decode b_MD_isFlat 119 = .ok (.iload_n 1, 1) := by decide +kernel
theorem d_MD_isFlat_12 : decode b_MD_isFlat 12 = .ok (.iconst 1, 1) := by decide +kernel
theorem d_MD_isFlat_120 : decode b_MD_isFlat 120 = .ok (.iconst 2, 1) := by decide +kernel
theorem d_MD_isFlat_121 : decode b_MD_isFlat 121 = .ok (.iadd, 1) := by decide +kernel
theorem d_MD_isFlat_122 : decode b_MD_isFlat 122 = .ok (.iaload, 1) := by decide +kernel
theorem d_MD_isFlat_123 : decode b_MD_isFlat 123 = .ok (.iload_n 2, 1) := by decide +kernel
theorem d_MD_isFlat_124 : decode b_MD_isFlat 124 = .ok (.isub, 1) := by decide +kernel
theorem d_MD_isFlat_125 : decode b_MD_isFlat 125 = .ok (.i2l, 1) := by decide +kernel
theorem d_MD_isFlat_126 : decode b_MD_isFlat 126 = .ok (.aload_n 0, 1) := by decide +kernel
theorem d_MD_isFlat_127 : decode b_MD_isFlat 127 = .ok (.getfield 80, 3) := by decide +kernel
theorem d_MD_isFlat_13 : decode b_MD_isFlat 13 = .ok (.iadd, 1) := by decide +kernel
theorem d_MD_isFlat_130 : decode b_MD_isFlat 130 = .ok (.iload_n 1, 1) := by decide +kernel
theorem d_MD_isFlat_131 : decode b_MD_isFlat 131 = .ok (.iconst 5, 1) := by decide +kernel
theorem d_MD_isFlat_132 : decode b_MD_isFlat 132 = .ok (.iadd, 1) := by decide +kernel
theorem d_MD_isFlat_133 : decode b_MD_isFlat 133 = .ok (.iaload, 1) := by decide +kernel
theorem d_MD_isFlat_134 : decode b_MD_isFlat 134 = .ok (.iload_n 3, 1) := by decide +kernel
theorem d_MD_isFlat_135 : decode b_MD_isFlat 135 = .ok (.isub, 1) := by decide +kernel
theorem d_MD_isFlat_136 : decode b_MD_isFlat 136 = .ok (.i2l, 1) := by decide +kernel
theorem d_MD_isFlat_137 : decode b_MD_isFlat 137 = .ok (.lmul, 1) := by decide +kernel
theorem d_MD_isFlat_138 : decode b_MD_isFlat 138 = .ok (.aload_n 0, 1) := by decide +kernel
theorem d_MD_isFlat_139 : decode b_MD_isFlat 139 = .ok (.getfield 80, 3) := by decide +kernel
theorem d_MD_isFlat_14 : decode b_MD_isFlat 14 = .ok (.iaload, 1) := by decide +kernel
theorem d_MD_isFlat_142 : decode b_MD_isFlat 142 = .ok (.iload_n 1, 1) := by decide +kernel
theorem d_MD_isFlat_143 : decode b_MD_isFlat 143 = .ok (.iconst 3, 1) := by decide +kernel
theorem d_MD_isFlat_144 : decode b_MD_isFlat 144 = .ok (.iadd, 1) := by decide +kernel
theorem d_MD_isFlat_145 : decode b_MD_isFlat 145 = .ok (.iaload, 1) := by decide +kernel
theorem d_MD_isFlat_146 : decode b_MD_isFlat 146 = .ok (.iload_n 3, 1) := by decide +kernel
theorem d_MD_isFlat_147 : decode b_MD_isFlat 147 = .ok (.isub, 1) := by decide +kernel
theorem d_MD_isFlat_148 : decode b_MD_isFlat 148 = .ok (.i2l, 1) := by decide +kernel
theorem d_MD_isFlat_149 : decode b_MD_isFlat 149 = .ok (.aload_n 0, 1) := by decide +kernel
theorem d_MD_isFlat_15 : decode b_MD_isFlat 15 = .ok (.istore_n 3, 1) := by decide +kernel
theorem d_MD_isFlat_150 : decode b_MD_isFlat 150 = .ok (.getfield 80, 3) := by decide +kernel
theorem d_MD_isFlat_153 : decode b_MD_isFlat 153 = .ok (.iload_n 1, 1) := by decide +kernel
theorem d_MD_isFlat_154 : decode b_MD_isFlat 154 = .ok (.iconst 4, 1) := by decide +kernel
theorem d_MD_isFlat_155 : decode b_MD_isFlat 155 = .ok (.iadd, 1) := by decide +kernel
theorem d_MD_isFlat_156 : decode b_MD_isFlat 156 = .ok (.iaload, 1) := by decide +kernel
theorem d_MD_isFlat_157 : decode b_MD_isFlat 157 = .ok (.iload_n 2, 1) := by decide +kernel
theorem d_MD_isFlat_158 : decode b_MD_isFlat 158 = .ok (.isub, 1) := by decide +kernel
theorem d_MD_isFlat_159 : decode b_MD_isFlat 159 = .ok (.i2l, 1) := by decide +kernel
theorem d_MD_isFlat_16 : decode b_MD_isFlat 16 = .ok (.aload_n 0, 1) := by decide +kernel
theorem d_MD_isFlat_160 : decode b_MD_isFlat 160 = .ok (.lmul, 1) := by decide +kernel
theorem d_MD_isFlat_161 : decode b_MD_isFlat 161 = .ok (.lsub, 1) := by decide +kernel
theorem d_MD_isFlat_162 : decode b_MD_isFlat 162 = .ok (.lstore 5, 2) := by decide +kernel
theorem d_MD_isFlat_164 : decode b_MD_isFlat 164 = .ok (.lload 5, 2) := by decide +kernel
theorem d_MD_isFlat_166 : decode b_MD_isFlat 166 = .ok (.ldc2_w 131, 3) := by decide +kernel
theorem d_MD_isFlat_169 : decode b_MD_isFlat 169 = .ok (.iload 4, 2) := by decide +kernel
theorem d_MD_isFlat_17 : decode b_MD_isFlat 17 = .ok (.getfield 80, 3) := by decide +kernel
theorem d_MD_isFlat_171 : decode b_MD_isFlat 171 = .ok (.i2l, 1) := by decide +kernel
theorem d_MD_isFlat_172 : decode b_MD_isFlat 172 = .ok (.lmul, 1) := by decide +kernel
theorem d_MD_isFlat_173 : decode b_MD_isFlat 173 = .ok (.lcmp, 1) := by decide +kernel
theorem d_MD_isFlat_174 : decode b_MD_isFlat 174 = .ok (.ifCond .gt (20), 3) := by decide +kernel
theorem d_MD_isFlat_177 : decode b_MD_isFlat 177 = .ok (.lload 5, 2) := by decide +kernel
theorem d_MD_isFlat_179 : decode b_MD_isFlat 179 = .ok (.ldc2_w 267, 3) := by decide +kernel
theorem d_MD_isFlat_182 : decode b_MD_isFlat 182 = .ok (.iload 4, 2) := by decide +kernel
theorem d_MD_isFlat_184 : decode b_MD_isFlat 184 = .ok (.i2l, 1) := by decide +kernel
theorem d_MD_isFlat_185 : decode b_MD_isFlat 185 = .ok (.lmul, 1) := by decide +kernel
theorem d_MD_isFlat_186 : decode b_MD_isFlat 186 = .ok (.lcmp, 1) := by decide +kernel
theorem d_MD_isFlat_187 : decode b_MD_isFlat 187 = .ok (.ifCond .lt (7), 3) := by decide +kernel
theorem d_MD_isFlat_190 : decode b_MD_isFlat 190 = .ok (.iconst 1, 1) := by decide +kernel
theorem d_MD_isFlat_191 : decode b_MD_isFlat 191 = .ok (.goto (4), 3) := by decide +kernel
theorem d_MD_isFlat_194 : decode b_MD_isFlat 194 = .ok (.iconst 0, 1) := by decide +kernel
theorem d_MD_isFlat_195 : decode b_MD_isFlat 195 = .ok (.ireturn, 1) := by decide +kernel
theorem d_MD_isFlat_20 : decode b_MD_isFlat 20 = .ok (.iload_n 1, 1) := by decide +kernel
theorem d_MD_isFlat_21 : decode b_MD_isFlat 21 = .ok (.iconst 4, 1) := by decide +kernel
theorem d_MD_isFlat_22 : decode b_MD_isFlat 22 = .ok (.iadd, 1) := by decide +kernel
theorem d_MD_isFlat_23 : decode b_MD_isFlat 23 = .ok (.iaload, 1) := by decide +kernel
theorem d_MD_isFlat_24 : decode b_MD_isFlat 24 = .ok (.iload_n 2, 1) := by decide +kernel
theorem d_MD_isFlat_25 : decode b_MD_isFlat 25 = .ok (.invokestatic 264, 3) := by decide +kernel
theorem d_MD_isFlat_28 : decode b_MD_isFlat 28 = .ok (.aload_n 0, 1) := by decide +kernel
theorem d_MD_isFlat_29 : decode b_MD_isFlat 29 = .ok (.getfield 80, 3) := by decide +kernel
theorem d_MD_isFlat_32 : decode b_MD_isFlat 32 = .ok (.iload_n 1, 1) := by decide +kernel
theorem d_MD_isFlat_33 : decode b_MD_isFlat 33 = .ok (.iconst 5, 1) := by decide +kernel
theorem d_MD_isFlat_34 : decode b_MD_isFlat 34 = .ok (.iadd, 1) := by decide +kernel
theorem d_MD_isFlat_35 : decode b_MD_isFlat 35 = .ok (.iaload, 1) := by decide +kernel
theorem d_MD_isFlat_36 : decode b_MD_isFlat 36 = .ok (.iload_n 3, 1) := by decide +kernel
theorem d_MD_isFlat_37 : decode b_MD_isFlat 37 = .ok (.invokestatic 264, 3) := by decide +kernel
theorem d_MD_isFlat_4 : decode b_MD_isFlat 4 = .ok (.iload_n 1, 1) := by decide +kernel
theorem d_MD_isFlat_40 : decode b_MD_isFlat 40 = .ok (.if_icmp .le (18), 3) := by decide +kernel
theorem d_MD_isFlat_43 : decode b_MD_isFlat 43 = .ok (.aload_n 0, 1) := by decide +kernel
theorem d_MD_isFlat_44 : decode b_MD_isFlat 44 = .ok (.getfield 80, 3) := by decide +kernel
theorem d_MD_isFlat_47 : decode b_MD_isFlat 47 = .ok (.iload_n 1, 1) := by decide +kernel
theorem d_MD_isFlat_48 : decode b_MD_isFlat 48 = .ok (.iconst 4, 1) := by decide +kernel
theorem d_MD_isFlat_49 : decode b_MD_isFlat 49 = .ok (.iadd, 1) := by decide +kernel
theorem d_MD_isFlat_5 : decode b_MD_isFlat 5 = .ok (.iaload, 1) := by decide +kernel
theorem d_MD_isFlat_50 : decode b_MD_isFlat 50 = .ok (.iaload, 1) := by decide +kernel
theorem d_MD_isFlat_51 : decode b_MD_isFlat 51 = .ok (.iload_n 2, 1) := by decide +kernel
theorem d_MD_isFlat_52 : decode b_MD_isFlat 52 = .ok (.invokestatic 264, 3) := by decide +kernel
theorem d_MD_isFlat_55 : decode b_MD_isFlat 55 = .ok (.goto (15), 3) := by decide +kernel
theorem d_MD_isFlat_58 : decode b_MD_isFlat 58 = .ok (.aload_n 0, 1) := by decide +kernel
theorem d_MD_isFlat_59 : decode b_MD_isFlat 59 = .ok (.getfield 80, 3) := by decide +kernel
theorem d_MD_isFlat_6 : decode b_MD_isFlat 6 = .ok (.istore_n 2, 1) := by decide +kernel
theorem d_MD_isFlat_62 : decode b_MD_isFlat 62 = .ok (.iload_n 1, 1) := by decide +kernel
theorem d_MD_isFlat_63 : decode b_MD_isFlat 63 = .ok (.iconst 5, 1) := by decide +kernel
theorem d_MD_isFlat_64 : decode b_MD_isFlat 64 = .ok (.iadd, 1) := by decide +kernel
theorem d_MD_isFlat_65 : decode b_MD_isFlat 65 = .ok (.iaload, 1) := by decide +kernel
theorem d_MD_isFlat_66 : decode b_MD_isFlat 66 = .ok (.iload_n 3, 1) := by decide +kernel
theorem d_MD_isFlat_67 : decode b_MD_isFlat 67 = .ok (.invokestatic 264, 3) := by decide +kernel
theorem d_MD_isFlat_7 : decode b_MD_isFlat 7 = .ok (.aload_n 0, 1) := by decide +kernel
theorem d_MD_isFlat_70 : decode b_MD_isFlat 70 = .ok (.istore 4, 2) := by decide +kernel
theorem d_MD_isFlat_72 : decode b_MD_isFlat 72 = .ok (.iload 4, 2) := by decide +kernel
theorem d_MD_isFlat_74 : decode b_MD_isFlat 74 = .ok (.ifCond .ne (41), 3) := by decide +kernel
theorem d_MD_isFlat_77 : decode b_MD_isFlat 77 = .ok (.aload_n 0, 1) := by decide +kernel
theorem d_MD_isFlat_78 : decode b_MD_isFlat 78 = .ok (.getfield 80, 3) := by decide +kernel
theorem d_MD_isFlat_8 : decode b_MD_isFlat 8 = .ok (.getfield 80, 3) := by decide +kernel
theorem d_MD_isFlat_81 : decode b_MD_isFlat 81 = .ok (.iload_n 1, 1) := by decide +kernel
theorem d_MD_isFlat_82 : decode b_MD_isFlat 82 = .ok (.iconst 2, 1) := by decide +kernel
theorem d_MD_isFlat_83 : decode b_MD_isFlat 83 = .ok (.iadd, 1) := by decide +kernel
theorem d_MD_isFlat_84 : decode b_MD_isFlat 84 = .ok (.iaload, 1) := by decide +kernel
theorem d_MD_isFlat_85 : decode b_MD_isFlat 85 = .ok (.iload_n 2, 1) := by decide +kernel
theorem d_MD_isFlat_86 : decode b_MD_isFlat 86 = .ok (.invokestatic 264, 3) := by decide +kernel
theorem d_MD_isFlat_89 : decode b_MD_isFlat 89 = .ok (.iconst 4, 1) := by decide +kernel
theorem d_MD_isFlat_90 : decode b_MD_isFlat 90 = .ok (.if_icmp .gt (23), 3) := by decide +kernel
theorem d_MD_isFlat_93 : decode b_MD_isFlat 93 = .ok (.aload_n 0, 1) := by decide +kernel
theorem d_MD_isFlat_94 : decode b_MD_isFlat 94 = .ok (.getfield 80, 3) := by decide +kernel
theorem d_MD_isFlat_97 : decode b_MD_isFlat 97 = .ok (.iload_n 1, 1) := by decide +kernel
theorem d_MD_isFlat_98 : decode b_MD_isFlat 98 = .ok (.iconst 3, 1) := by decide +kernel
theorem d_MD_isFlat_99 : decode b_MD_isFlat 99 = .ok (.iadd, 1) := by decide +kernel
theorem d_MD_paintCurves_0 : decode b_MD_paintCurves 0 = .ok (.aload_n 0, 1) := by decide +kernel
theorem d_MD_paintCurves_1 : decode b_MD_paintCurves 1 = .ok (.getfield 261, 3) := by decide +kernel
theorem d_MD_paintCurves_100 : decode b_MD_paintCurves 100 = .ok (.iload_n 1, 1) := by decide +kernel
theorem d_MD_paintCurves_101 : decode b_MD_paintCurves 101 = .ok (.invokevirtual 269, 3) := by decide +kernel
theorem d_MD_paintCurves_104 : decode b_MD_paintCurves 104 = .ok (.ifCond .eq (16), 3) := by decide +kernel
theorem d_MD_paintCurves_107 : decode b_MD_paintCurves 107 = .ok (.aload_n 0, 1) := by decide +kernel
theorem d_MD_paintCurves_108 : decode b_MD_paintCurves 108 = .ok (.iload_n 2, 1) := by decide +kernel
theorem d_MD_paintCurves_109 : decode b_MD_paintCurves 109 = .ok (.iload_n 3, 1) := by decide +kernel
theorem d_MD_paintCurves_110 : decode b_MD_paintCurves 110 = .ok (.iload 6, 2) := by decide +kernel
theorem d_MD_paintCurves_112 : decode b_MD_paintCurves 112 = .ok (.iload 7, 2) := by decide +kernel
theorem d_MD_paintCurves_114 : decode b_MD_paintCurves 114 = .ok (.invokevirtual 272, 3) := by decide +kernel
theorem d_MD_paintCurves_117 : decode b_MD_paintCurves 117 = .ok (.goto (95), 3) := by decide +kernel
theorem d_MD_paintCurves_12 : decode b_MD_paintCurves 12 = .ok (.iconst 1, 1) := by decide +kernel
theorem d_MD_paintCurves_120 : decode b_MD_paintCurves 120 = .ok (.iload_n 2, 1) := by decide +kernel
theorem d_MD_paintCurves_121 : decode b_MD_paintCurves 121 = .ok (.iload 4, 2) := by decide +kernel
theorem d_MD_paintCurves_123 : decode b_MD_paintCurves 123 = .ok (.invokestatic 276, 3) := by decide +kernel
theorem d_MD_paintCurves_126 : decode b_MD_paintCurves 126 = .ok (.istore 9, 2) := by decide +kernel
theorem d_MD_paintCurves_128 : decode b_MD_paintCurves 128 = .ok (.iload_n 3, 1) := by decide +kernel
theorem d_MD_paintCurves_129 : decode b_MD_paintCurves 129 = .ok (.iload 5, 2) := by decide +kernel
theorem d_MD_paintCurves_13 : decode b_MD_paintCurves 13 = .ok (.isub, 1) := by decide +kernel
theorem d_MD_paintCurves_131 : decode b_MD_paintCurves 131 = .ok (.invokestatic 276, 3) := by decide +kernel
theorem d_MD_paintCurves_134 : decode b_MD_paintCurves 134 = .ok (.istore 10, 2) := by decide +kernel
theorem d_MD_paintCurves_136 : decode b_MD_paintCurves 136 = .ok (.iload 4, 2) := by decide +kernel
theorem d_MD_paintCurves_138 : decode b_MD_paintCurves 138 = .ok (.iload 6, 2) := by decide +kernel
theorem d_MD_paintCurves_14 : decode b_MD_paintCurves 14 = .ok (.putfield 261, 3) := by decide +kernel
theorem d_MD_paintCurves_140 : decode b_MD_paintCurves 140 = .ok (.invokestatic 276, 3) := by decide +kernel
theorem d_MD_paintCurves_143 : decode b_MD_paintCurves 143 = .ok (.istore 11, 2) := by decide +kernel
theorem d_MD_paintCurves_145 : decode b_MD_paintCurves 145 = .ok (.iload 5, 2) := by decide +kernel
theorem d_MD_paintCurves_147 : decode b_MD_paintCurves 147 = .ok (.iload 7, 2) := by decide +kernel
theorem d_MD_paintCurves_149 : decode b_MD_paintCurves 149 = .ok (.invokestatic 276, 3) := by decide +kernel
theorem d_MD_paintCurves_152 : decode b_MD_paintCurves 152 = .ok (.istore 12, 2) := by decide +kernel
theorem d_MD_paintCurves_154 : decode b_MD_paintCurves 154 = .ok (.aload_n 0, 1) := by decide +kernel
theorem d_MD_paintCurves_155 : decode b_MD_paintCurves 155 = .ok (.iload_n 2, 1) := by decide +kernel
theorem d_MD_paintCurves_156 : decode b_MD_paintCurves 156 = .ok (.iload_n 3, 1) := by decide +kernel
theorem d_MD_paintCurves_157 : decode b_MD_paintCurves 157 = .ok (.iload 9, 2) := by decide +kernel
theorem d_MD_paintCurves_159 : decode b_MD_paintCurves 159 = .ok (.iload 10, 2) := by decide +kernel
theorem d_MD_paintCurves_161 : decode b_MD_paintCurves 161 = .ok (.iload 9, 2) := by decide +kernel
theorem d_MD_paintCurves_163 : decode b_MD_paintCurves 163 = .ok (.iload 11, 2) := by decide +kernel
theorem d_MD_paintCurves_165 : decode b_MD_paintCurves 165 = .ok (.invokestatic 276, 3) := by decide +kernel
theorem d_MD_paintCurves_168 : decode b_MD_paintCurves 168 = .ok (.iload 10, 2) := by decide +kernel
theorem d_MD_paintCurves_17 : decode b_MD_paintCurves 17 = .ok (.bipush 7, 2) := by decide +kernel
theorem d_MD_paintCurves_170 : decode b_MD_paintCurves 170 = .ok (.iload 12, 2) := by decide +kernel
theorem d_MD_paintCurves_172 : decode b_MD_paintCurves 172 = .ok (.invokestatic 276, 3) := by decide +kernel
theorem d_MD_paintCurves_175 : decode b_MD_paintCurves 175 = .ok (.iload 8, 2) := by decide +kernel
theorem d_MD_paintCurves_177 : decode b_MD_paintCurves 177 = .ok (.iconst 1, 1) := by decide +kernel
theorem d_MD_paintCurves_178 : decode b_MD_paintCurves 178 = .ok (.iadd, 1) := by decide +kernel
theorem d_MD_paintCurves_179 : decode b_MD_paintCurves 179 = .ok (.invokevirtual 279, 3) := by decide +kernel
theorem d_MD_paintCurves_182 : decode b_MD_paintCurves 182 = .ok (.aload_n 0, 1) := by decide +kernel
theorem d_MD_paintCurves_183 : decode b_MD_paintCurves 183 = .ok (.iload 9, 2) := by decide +kernel
theorem d_MD_paintCurves_185 : decode b_MD_paintCurves 185 = .ok (.iload 11, 2) := by decide +kernel
theorem d_MD_paintCurves_187 : decode b_MD_paintCurves 187 = .ok (.invokestatic 276, 3) := by decide +kernel
theorem d_MD_paintCurves_19 : decode b_MD_paintCurves 19 = .ok (.aload_n 0, 1) := by decide +kernel
theorem d_MD_paintCurves_190 : decode b_MD_paintCurves 190 = .ok (.iload 10, 2) := by decide +kernel
theorem d_MD_paintCurves_192 : decode b_MD_paintCurves 192 = .ok (.iload 12, 2) := by decide +kernel
theorem d_MD_paintCurves_194 : decode b_MD_paintCurves 194 = .ok (.invokestatic 276, 3) := by decide +kernel
theorem d_MD_paintCurves_197 : decode b_MD_paintCurves 197 = .ok (.iload 11, 2) := by decide +kernel
theorem d_MD_paintCurves_199 : decode b_MD_paintCurves 199 = .ok (.iload 12, 2) := by decide +kernel
theorem d_MD_paintCurves_20 : decode b_MD_paintCurves 20 = .ok (.getfield 261, 3) := by decide +kernel
theorem d_MD_paintCurves_201 : decode b_MD_paintCurves 201 = .ok (.iload 6, 2) := by decide +kernel
theorem d_MD_paintCurves_203 : decode b_MD_paintCurves 203 = .ok (.iload 7, 2) := by decide +kernel
theorem d_MD_paintCurves_205 : decode b_MD_paintCurves 205 = .ok (.iload 8, 2) := by decide +kernel
theorem d_MD_paintCurves_207 : decode b_MD_paintCurves 207 = .ok (.iconst 1, 1) := by decide +kernel
theorem d_MD_paintCurves_208 : decode b_MD_paintCurves 208 = .ok (.iadd, 1) := by decide +kernel
theorem d_MD_paintCurves_209 : decode b_MD_paintCurves 209 = .ok (.invokevirtual 279, 3) := by decide +kernel
theorem d_MD_paintCurves_212 : decode b_MD_paintCurves 212 = .ok (.goto (-212), 3) := by decide +kernel
theorem d_MD_paintCurves_215 : decode b_MD_paintCurves 215 = .ok (.return_, 1) := by decide +kernel
theorem d_MD_paintCurves_23 : decode b_MD_paintCurves 23 = .ok (.imul, 1) := by decide +kernel
theorem d_MD_paintCurves_24 : decode b_MD_paintCurves 24 = .ok (.istore_n 1, 1) := by decide +kernel
theorem d_MD_paintCurves_25 : decode b_MD_paintCurves 25 = .ok (.aload_n 0, 1) := by decide +kernel
theorem d_MD_paintCurves_26 : decode b_MD_paintCurves 26 = .ok (.getfield 80, 3) := by decide +kernel
theorem d_MD_paintCurves_29 : decode b_MD_paintCurves 29 = .ok (.iload_n 1, 1) := by decide +kernel
theorem d_MD_paintCurves_30 : decode b_MD_paintCurves 30 = .ok (.iaload, 1) := by decide +kernel
theorem d_MD_paintCurves_31 : decode b_MD_paintCurves 31 = .ok (.istore_n 2, 1) := by decide +kernel
theorem d_MD_paintCurves_32 : decode b_MD_paintCurves 32 = .ok (.aload_n 0, 1) := by decide +kernel
theorem d_MD_paintCurves_33 : decode b_MD_paintCurves 33 = .ok (.getfield 80, 3) := by decide +kernel
theorem d_MD_paintCurves_36 : decode b_MD_paintCurves 36 = .ok (.iload_n 1, 1) := by decide +kernel
theorem d_MD_paintCurves_37 : decode b_MD_paintCurves 37 = .ok (.iconst 1, 1) := by decide +kernel
theorem d_MD_paintCurves_38 : decode b_MD_paintCurves 38 = .ok (.iadd, 1) := by decide +kernel
theorem d_MD_paintCurves_39 : decode b_MD_paintCurves 39 = .ok (.iaload, 1) := by decide +kernel
theorem d_MD_paintCurves_4 : decode b_MD_paintCurves 4 = .ok (.ifCond .le (211), 3) := by decide +kernel
theorem d_MD_paintCurves_40 : decode b_MD_paintCurves 40 = .ok (.istore_n 3, 1) := by decide +kernel
theorem d_MD_paintCurves_41 : decode b_MD_paintCurves 41 = .ok (.aload_n 0, 1) := by decide +kernel
theorem d_MD_paintCurves_42 : decode b_MD_paintCurves 42 = .ok (.getfield 80, 3) := by decide +kernel
theorem d_MD_paintCurves_45 : decode b_MD_paintCurves 45 = .ok (.iload_n 1, 1) := by decide +kernel
theorem d_MD_paintCurves_46 : decode b_MD_paintCurves 46 = .ok (.iconst 2, 1) := by decide +kernel
theorem d_MD_paintCurves_47 : decode b_MD_paintCurves 47 = .ok (.iadd, 1) := by decide +kernel
theorem d_MD_paintCurves_48 : decode b_MD_paintCurves 48 = .ok (.iaload, 1) := by decide +kernel
theorem d_MD_paintCurves_49 : decode b_MD_paintCurves 49 = .ok (.istore 4, 2) := by decide +kernel
theorem d_MD_paintCurves_51 : decode b_MD_paintCurves 51 = .ok (.aload_n 0, 1) := by decide +kernel
theorem d_MD_paintCurves_52 : decode b_MD_paintCurves 52 = .ok (.getfield 80, 3) := by decide +kernel
theorem d_MD_paintCurves_55 : decode b_MD_paintCurves 55 = .ok (.iload_n 1, 1) := by decide +kernel
theorem d_MD_paintCurves_56 : decode b_MD_paintCurves 56 = .ok (.iconst 3, 1) := by decide +kernel
theorem d_MD_paintCurves_57 : decode b_MD_paintCurves 57 = .ok (.iadd, 1) := by decide +kernel
theorem d_MD_paintCurves_58 : decode b_MD_paintCurves 58 = .ok (.iaload, 1) := by decide +kernel
theorem d_MD_paintCurves_59 : decode b_MD_paintCurves 59 = .ok (.istore 5, 2) := by decide +kernel
theorem d_MD_paintCurves_61 : decode b_MD_paintCurves 61 = .ok (.aload_n 0, 1) := by decide +kernel
theorem d_MD_paintCurves_62 : decode b_MD_paintCurves 62 = .ok (.getfield 80, 3) := by decide +kernel
theorem d_MD_paintCurves_65 : decode b_MD_paintCurves 65 = .ok (.iload_n 1, 1) := by decide +kernel
theorem d_MD_paintCurves_66 : decode b_MD_paintCurves 66 = .ok (.iconst 4, 1) := by decide +kernel
theorem d_MD_paintCurves_67 : decode b_MD_paintCurves 67 = .ok (.iadd, 1) := by decide +kernel
theorem d_MD_paintCurves_68 : decode b_MD_paintCurves 68 = .ok (.iaload, 1) := by decide +kernel
theorem d_MD_paintCurves_69 : decode b_MD_paintCurves 69 = .ok (.istore 6, 2) := by decide +kernel
theorem d_MD_paintCurves_7 : decode b_MD_paintCurves 7 = .ok (.aload_n 0, 1) := by decide +kernel
theorem d_MD_paintCurves_71 : decode b_MD_paintCurves 71 = .ok (.aload_n 0, 1) := by decide +kernel
theorem d_MD_paintCurves_72 : decode b_MD_paintCurves 72 = .ok (.getfield 80, 3) := by decide +kernel
theorem d_MD_paintCurves_75 : decode b_MD_paintCurves 75 = .ok (.iload_n 1, 1) := by decide +kernel
theorem d_MD_paintCurves_76 : decode b_MD_paintCurves 76 = .ok (.iconst 5, 1) := by decide +kernel
theorem d_MD_paintCurves_77 : decode b_MD_paintCurves 77 = .ok (.iadd, 1) := by decide +kernel
theorem d_MD_paintCurves_78 : decode b_MD_paintCurves 78 = .ok (.iaload, 1) := by decide +kernel
theorem d_MD_paintCurves_79 : decode b_MD_paintCurves 79 = .ok (.istore 7, 2) := by decide +kernel
theorem d_MD_paintCurves_8 : decode b_MD_paintCurves 8 = .ok (.dup, 1) := by decide +kernel
theorem d_MD_paintCurves_81 : decode b_MD_paintCurves 81 = .ok (.aload_n 0, 1) := by decide +kernel
theorem d_MD_paintCurves_82 : decode b_MD_paintCurves 82 = .ok (.getfield 80, 3) := by decide +kernel
theorem d_MD_paintCurves_85 : decode b_MD_paintCurves 85 = .ok (.iload_n 1, 1) := by decide +kernel
theorem d_MD_paintCurves_86 : decode b_MD_paintCurves 86 = .ok (.bipush 6, 2) := by decide +kernel
theorem d_MD_paintCurves_88 : decode b_MD_paintCurves 88 = .ok (.iadd, 1) := by decide +kernel
theorem d_MD_paintCurves_89 : decode b_MD_paintCurves 89 = .ok (.iaload, 1) := by decide +kernel
theorem d_MD_paintCurves_9 : decode b_MD_paintCurves 9 = .ok (.getfield 261, 3) := by decide +kernel
theorem d_MD_paintCurves_90 : decode b_MD_paintCurves 90 = .ok (.istore 8, 2) := by decide +kernel
theorem d_MD_paintCurves_92 : decode b_MD_paintCurves 92 = .ok (.iload 8, 2) := by decide +kernel
theorem d_MD_paintCurves_94 : decode b_MD_paintCurves 94 = .ok (.bipush 6, 2) := by decide +kernel
theorem d_MD_paintCurves_96 : decode b_MD_paintCurves 96 = .ok (.if_icmp .eq (11), 3) := by decide +kernel
theorem d_MD_paintCurves_99 : decode b_MD_paintCurves 99 = .ok (.aload_n 0, 1) := by decide +kernel
theorem d_MD_paintLine_0 : decode b_MD_paintLine 0 = .ok (.iconst 0, 1) := by decide +kernel
theorem d_MD_paintLine_1 : decode b_MD_paintLine 1 = .ok (.istore 5, 2) := by decide +kernel
theorem d_MD_paintLine_10 : decode b_MD_paintLine 10 = .ok (.bipush 64, 2) := by decide +kernel
theorem d_MD_paintLine_100 : decode b_MD_paintLine 100 = .ok (.iload_n 3, 1) := by decide +kernel
theorem d_MD_paintLine_101 : decode b_MD_paintLine 101 = .ok (.iload_n 1, 1) := by decide +kernel
theorem d_MD_paintLine_102 : decode b_MD_paintLine 102 = .ok (.isub, 1) := by decide +kernel
theorem d_MD_paintLine_103 : decode b_MD_paintLine 103 = .ok (.i2l, 1) := by decide +kernel
theorem d_MD_paintLine_104 : decode b_MD_paintLine 104 = .ok (.lmul, 1) := by decide +kernel
theorem d_MD_paintLine_105 : decode b_MD_paintLine 105 = .ok (.ladd, 1) := by decide +kernel
theorem d_MD_paintLine_106 : decode b_MD_paintLine 106 = .ok (.lstore 11, 2) := by decide +kernel
theorem d_MD_paintLine_108 : decode b_MD_paintLine 108 = .ok (.lload 11, 2) := by decide +kernel
theorem d_MD_paintLine_110 : decode b_MD_paintLine 110 = .ok (.ldc2_w 257, 3) := by decide +kernel
theorem d_MD_paintLine_113 : decode b_MD_paintLine 113 = .ok (.iload 8, 2) := by decide +kernel
theorem d_MD_paintLine_115 : decode b_MD_paintLine 115 = .ok (.i2l, 1) := by decide +kernel
theorem d_MD_paintLine_116 : decode b_MD_paintLine 116 = .ok (.lmul, 1) := by decide +kernel
theorem d_MD_paintLine_117 : decode b_MD_paintLine 117 = .ok (.ldc2_w 259, 3) := by decide +kernel
theorem d_MD_paintLine_12 : decode b_MD_paintLine 12 = .ok (.bipush 15, 2) := by decide +kernel
theorem d_MD_paintLine_120 : decode b_MD_paintLine 120 = .ok (.ladd, 1) := by decide +kernel
theorem d_MD_paintLine_121 : decode b_MD_paintLine 121 = .ok (.lload 9, 2) := by decide +kernel
theorem d_MD_paintLine_123 : decode b_MD_paintLine 123 = .ok (.lmul, 1) := by decide +kernel
theorem d_MD_paintLine_124 : decode b_MD_paintLine 124 = .ok (.lcmp, 1) := by decide +kernel
theorem d_MD_paintLine_125 : decode b_MD_paintLine 125 = .ok (.ifCond .gt (32), 3) := by decide +kernel
theorem d_MD_paintLine_128 : decode b_MD_paintLine 128 = .ok (.aload_n 0, 1) := by decide +kernel
theorem d_MD_paintLine_129 : decode b_MD_paintLine 129 = .ok (.getfield 83, 3) := by decide +kernel
theorem d_MD_paintLine_132 : decode b_MD_paintLine 132 = .ok (.bipush 48, 2) := by decide +kernel
theorem d_MD_paintLine_134 : decode b_MD_paintLine 134 = .ok (.iload 5, 2) := by decide +kernel
theorem d_MD_paintLine_136 : decode b_MD_paintLine 136 = .ok (.imul, 1) := by decide +kernel
theorem d_MD_paintLine_137 : decode b_MD_paintLine 137 = .ok (.iload 8, 2) := by decide +kernel
theorem d_MD_paintLine_139 : decode b_MD_paintLine 139 = .ok (.iadd, 1) := by decide +kernel
theorem d_MD_paintLine_14 : decode b_MD_paintLine 14 = .ok (.iload 5, 2) := by decide +kernel
theorem d_MD_paintLine_140 : decode b_MD_paintLine 140 = .ok (.aload_n 0, 1) := by decide +kernel
theorem d_MD_paintLine_141 : decode b_MD_paintLine 141 = .ok (.getfield 83, 3) := by decide +kernel
theorem d_MD_paintLine_144 : decode b_MD_paintLine 144 = .ok (.bipush 48, 2) := by decide +kernel
theorem d_MD_paintLine_146 : decode b_MD_paintLine 146 = .ok (.iload 5, 2) := by decide +kernel
theorem d_MD_paintLine_148 : decode b_MD_paintLine 148 = .ok (.imul, 1) := by decide +kernel
theorem d_MD_paintLine_149 : decode b_MD_paintLine 149 = .ok (.iload 8, 2) := by decide +kernel
theorem d_MD_paintLine_151 : decode b_MD_paintLine 151 = .ok (.iadd, 1) := by decide +kernel
theorem d_MD_paintLine_152 : decode b_MD_paintLine 152 = .ok (.iaload, 1) := by decide +kernel
theorem d_MD_paintLine_153 : decode b_MD_paintLine 153 = .ok (.iload 7, 2) := by decide +kernel
theorem d_MD_paintLine_155 : decode b_MD_paintLine 155 = .ok (.iadd, 1) := by decide +kernel
theorem d_MD_paintLine_156 : decode b_MD_paintLine 156 = .ok (.iastore, 1) := by decide +kernel
theorem d_MD_paintLine_157 : decode b_MD_paintLine 157 = .ok (.iinc 8 (1), 3) := by decide +kernel
theorem d_MD_paintLine_16 : decode b_MD_paintLine 16 = .ok (.isub, 1) := by decide +kernel
theorem d_MD_paintLine_160 : decode b_MD_paintLine 160 = .ok (.goto (-97), 3) := by decide +kernel
theorem d_MD_paintLine_163 : decode b_MD_paintLine 163 = .ok (.iinc 5 (1), 3) := by decide +kernel
theorem d_MD_paintLine_166 : decode b_MD_paintLine 166 = .ok (.goto (-163), 3) := by decide +kernel
theorem d_MD_paintLine_169 : decode b_MD_paintLine 169 = .ok (.return_, 1) := by decide +kernel
theorem d_MD_paintLine_17 : decode b_MD_paintLine 17 = .ok (.imul, 1) := by decide +kernel
theorem d_MD_paintLine_18 : decode b_MD_paintLine 18 = .ok (.bipush 32, 2) := by decide +kernel
theorem d_MD_paintLine_20 : decode b_MD_paintLine 20 = .ok (.iadd, 1) := by decide +kernel
theorem d_MD_paintLine_21 : decode b_MD_paintLine 21 = .ok (.istore 6, 2) := by decide +kernel
theorem d_MD_paintLine_23 : decode b_MD_paintLine 23 = .ok (.iload_n 2, 1) := by decide +kernel
theorem d_MD_paintLine_24 : decode b_MD_paintLine 24 = .ok (.iload 6, 2) := by decide +kernel
theorem d_MD_paintLine_26 : decode b_MD_paintLine 26 = .ok (.if_icmp .gt (14), 3) := by decide +kernel
theorem d_MD_paintLine_29 : decode b_MD_paintLine 29 = .ok (.iload 4, 2) := by decide +kernel
theorem d_MD_paintLine_3 : decode b_MD_paintLine 3 = .ok (.iload 5, 2) := by decide +kernel
theorem d_MD_paintLine_31 : decode b_MD_paintLine 31 = .ok (.iload 6, 2) := by decide +kernel
theorem d_MD_paintLine_33 : decode b_MD_paintLine 33 = .ok (.if_icmp .le (7), 3) := by decide +kernel
theorem d_MD_paintLine_36 : decode b_MD_paintLine 36 = .ok (.iconst 1, 1) := by decide +kernel
theorem d_MD_paintLine_37 : decode b_MD_paintLine 37 = .ok (.goto (21), 3) := by decide +kernel
theorem d_MD_paintLine_40 : decode b_MD_paintLine 40 = .ok (.iload 4, 2) := by decide +kernel
theorem d_MD_paintLine_42 : decode b_MD_paintLine 42 = .ok (.iload 6, 2) := by decide +kernel
theorem d_MD_paintLine_44 : decode b_MD_paintLine 44 = .ok (.if_icmp .gt (13), 3) := by decide +kernel
theorem d_MD_paintLine_47 : decode b_MD_paintLine 47 = .ok (.iload_n 2, 1) := by decide +kernel
theorem d_MD_paintLine_48 : decode b_MD_paintLine 48 = .ok (.iload 6, 2) := by decide +kernel
theorem d_MD_paintLine_5 : decode b_MD_paintLine 5 = .ok (.bipush 24, 2) := by decide +kernel
theorem d_MD_paintLine_50 : decode b_MD_paintLine 50 = .ok (.if_icmp .le (7), 3) := by decide +kernel
theorem d_MD_paintLine_53 : decode b_MD_paintLine 53 = .ok (.iconst (-1), 1) := by decide +kernel
theorem d_MD_paintLine_54 : decode b_MD_paintLine 54 = .ok (.goto (4), 3) := by decide +kernel
theorem d_MD_paintLine_57 : decode b_MD_paintLine 57 = .ok (.iconst 0, 1) := by decide +kernel
theorem d_MD_paintLine_58 : decode b_MD_paintLine 58 = .ok (.istore 7, 2) := by decide +kernel
theorem d_MD_paintLine_60 : decode b_MD_paintLine 60 = .ok (.iconst 0, 1) := by decide +kernel
theorem d_MD_paintLine_61 : decode b_MD_paintLine 61 = .ok (.istore 8, 2) := by decide +kernel
theorem d_MD_paintLine_63 : decode b_MD_paintLine 63 = .ok (.iload 8, 2) := by decide +kernel
theorem d_MD_paintLine_65 : decode b_MD_paintLine 65 = .ok (.bipush 48, 2) := by decide +kernel
theorem d_MD_paintLine_67 : decode b_MD_paintLine 67 = .ok (.if_icmp .ge (96), 3) := by decide +kernel
theorem d_MD_paintLine_7 : decode b_MD_paintLine 7 = .ok (.if_icmp .ge (162), 3) := by decide +kernel
theorem d_MD_paintLine_70 : decode b_MD_paintLine 70 = .ok (.iload 7, 2) := by decide +kernel
theorem d_MD_paintLine_72 : decode b_MD_paintLine 72 = .ok (.ifCond .eq (91), 3) := by decide +kernel
theorem d_MD_paintLine_75 : decode b_MD_paintLine 75 = .ok (.iload 7, 2) := by decide +kernel
theorem d_MD_paintLine_77 : decode b_MD_paintLine 77 = .ok (.i2l, 1) := by decide +kernel
theorem d_MD_paintLine_78 : decode b_MD_paintLine 78 = .ok (.iload 4, 2) := by decide +kernel
theorem d_MD_paintLine_80 : decode b_MD_paintLine 80 = .ok (.iload_n 2, 1) := by decide +kernel
theorem d_MD_paintLine_81 : decode b_MD_paintLine 81 = .ok (.isub, 1) := by decide +kernel
theorem d_MD_paintLine_82 : decode b_MD_paintLine 82 = .ok (.i2l, 1) := by decide +kernel
theorem d_MD_paintLine_83 : decode b_MD_paintLine 83 = .ok (.lmul, 1) := by decide +kernel
theorem d_MD_paintLine_84 : decode b_MD_paintLine 84 = .ok (.lstore 9, 2) := by decide +kernel
theorem d_MD_paintLine_86 : decode b_MD_paintLine 86 = .ok (.iload_n 1, 1) := by decide +kernel
theorem d_MD_paintLine_87 : decode b_MD_paintLine 87 = .ok (.i2l, 1) := by decide +kernel
theorem d_MD_paintLine_88 : decode b_MD_paintLine 88 = .ok (.lload 9, 2) := by decide +kernel
theorem d_MD_paintLine_90 : decode b_MD_paintLine 90 = .ok (.lmul, 1) := by decide +kernel
theorem d_MD_paintLine_91 : decode b_MD_paintLine 91 = .ok (.iload 7, 2) := by decide +kernel
theorem d_MD_paintLine_93 : decode b_MD_paintLine 93 = .ok (.i2l, 1) := by decide +kernel
theorem d_MD_paintLine_94 : decode b_MD_paintLine 94 = .ok (.iload 6, 2) := by decide +kernel
theorem d_MD_paintLine_96 : decode b_MD_paintLine 96 = .ok (.iload_n 2, 1) := by decide +kernel
theorem d_MD_paintLine_97 : decode b_MD_paintLine 97 = .ok (.isub, 1) := by decide +kernel
theorem d_MD_paintLine_98 : decode b_MD_paintLine 98 = .ok (.i2l, 1) := by decide +kernel
theorem d_MD_paintLine_99 : decode b_MD_paintLine 99 = .ok (.lmul, 1) := by decide +kernel
theorem d_MD_scaled_0 : decode b_MD_scaled 0 = .ok (.aload_n 0, 1) := by decide +kernel
theorem d_MD_scaled_1 : decode b_MD_scaled 1 = .ok (.getfield 25, 3) := by decide +kernel
theorem d_MD_scaled_10 : decode b_MD_scaled 10 = .ok (.lstore_n 3, 1) := by decide +kernel
theorem d_MD_scaled_11 : decode b_MD_scaled 11 = .ok (.ldc2_w 255, 3) := by decide +kernel
theorem d_MD_scaled_14 : decode b_MD_scaled 14 = .ok (.iload_n 1, 1) := by decide +kernel
theorem d_MD_scaled_15 : decode b_MD_scaled 15 = .ok (.i2l, 1) := by decide +kernel
theorem d_MD_scaled_16 : decode b_MD_scaled 16 = .ok (.lmul, 1) := by decide +kernel
theorem d_MD_scaled_17 : decode b_MD_scaled 17 = .ok (.iload_n 2, 1) := by decide +kernel
theorem d_MD_scaled_18 : decode b_MD_scaled 18 = .ok (.i2l, 1) := by decide +kernel
theorem d_MD_scaled_19 : decode b_MD_scaled 19 = .ok (.lmul, 1) := by decide +kernel
theorem d_MD_scaled_20 : decode b_MD_scaled 20 = .ok (.lload_n 3, 1) := by decide +kernel
theorem d_MD_scaled_21 : decode b_MD_scaled 21 = .ok (.ladd, 1) := by decide +kernel
theorem d_MD_scaled_22 : decode b_MD_scaled 22 = .ok (.ldc2_w 119, 3) := by decide +kernel
theorem d_MD_scaled_25 : decode b_MD_scaled 25 = .ok (.lload_n 3, 1) := by decide +kernel
theorem d_MD_scaled_26 : decode b_MD_scaled 26 = .ok (.lmul, 1) := by decide +kernel
theorem d_MD_scaled_27 : decode b_MD_scaled 27 = .ok (.invokestatic 182, 3) := by decide +kernel
theorem d_MD_scaled_30 : decode b_MD_scaled 30 = .ok (.ireturn, 1) := by decide +kernel
theorem d_MD_scaled_4 : decode b_MD_scaled 4 = .ok (.aload_n 0, 1) := by decide +kernel
theorem d_MD_scaled_5 : decode b_MD_scaled 5 = .ok (.getfield 207, 3) := by decide +kernel
theorem d_MD_scaled_8 : decode b_MD_scaled 8 = .ok (.iaload, 1) := by decide +kernel
theorem d_MD_scaled_9 : decode b_MD_scaled 9 = .ok (.i2l, 1) := by decide +kernel
theorem d_MD_wait7_0 : decode b_MD_wait7 0 = .ok (.bipush 7, 2) := by decide +kernel
theorem d_MD_wait7_10 : decode b_MD_wait7 10 = .ok (.getfield 80, 3) := by decide +kernel
theorem d_MD_wait7_13 : decode b_MD_wait7 13 = .ok (.iload 8, 2) := by decide +kernel
theorem d_MD_wait7_15 : decode b_MD_wait7 15 = .ok (.iload_n 1, 1) := by decide +kernel
theorem d_MD_wait7_16 : decode b_MD_wait7 16 = .ok (.iastore, 1) := by decide +kernel
theorem d_MD_wait7_17 : decode b_MD_wait7 17 = .ok (.aload_n 0, 1) := by decide +kernel
theorem d_MD_wait7_18 : decode b_MD_wait7 18 = .ok (.getfield 80, 3) := by decide +kernel
theorem d_MD_wait7_2 : decode b_MD_wait7 2 = .ok (.aload_n 0, 1) := by decide +kernel
theorem d_MD_wait7_21 : decode b_MD_wait7 21 = .ok (.iload 8, 2) := by decide +kernel
theorem d_MD_wait7_23 : decode b_MD_wait7 23 = .ok (.iconst 1, 1) := by decide +kernel
theorem d_MD_wait7_24 : decode b_MD_wait7 24 = .ok (.iadd, 1) := by decide +kernel
theorem d_MD_wait7_25 : decode b_MD_wait7 25 = .ok (.iload_n 2, 1) := by decide +kernel
theorem d_MD_wait7_26 : decode b_MD_wait7 26 = .ok (.iastore, 1) := by decide +kernel
theorem d_MD_wait7_27 : decode b_MD_wait7 27 = .ok (.aload_n 0, 1) := by decide +kernel
theorem d_MD_wait7_28 : decode b_MD_wait7 28 = .ok (.getfield 80, 3) := by decide +kernel
theorem d_MD_wait7_3 : decode b_MD_wait7 3 = .ok (.getfield 261, 3) := by decide +kernel
theorem d_MD_wait7_31 : decode b_MD_wait7 31 = .ok (.iload 8, 2) := by decide +kernel
theorem d_MD_wait7_33 : decode b_MD_wait7 33 = .ok (.iconst 2, 1) := by decide +kernel
theorem d_MD_wait7_34 : decode b_MD_wait7 34 = .ok (.iadd, 1) := by decide +kernel
theorem d_MD_wait7_35 : decode b_MD_wait7 35 = .ok (.iload_n 3, 1) := by decide +kernel
theorem d_MD_wait7_36 : decode b_MD_wait7 36 = .ok (.iastore, 1) := by decide +kernel
theorem d_MD_wait7_37 : decode b_MD_wait7 37 = .ok (.aload_n 0, 1) := by decide +kernel
theorem d_MD_wait7_38 : decode b_MD_wait7 38 = .ok (.getfield 80, 3) := by decide +kernel
theorem d_MD_wait7_41 : decode b_MD_wait7 41 = .ok (.iload 8, 2) := by decide +kernel
theorem d_MD_wait7_43 : decode b_MD_wait7 43 = .ok (.iconst 3, 1) := by decide +kernel
theorem d_MD_wait7_44 : decode b_MD_wait7 44 = .ok (.iadd, 1) := by decide +kernel
theorem d_MD_wait7_45 : decode b_MD_wait7 45 = .ok (.iload 4, 2) := by decide +kernel
theorem d_MD_wait7_47 : decode b_MD_wait7 47 = .ok (.iastore, 1) := by decide +kernel
theorem d_MD_wait7_48 : decode b_MD_wait7 48 = .ok (.aload_n 0, 1) := by decide +kernel
theorem d_MD_wait7_49 : decode b_MD_wait7 49 = .ok (.getfield 80, 3) := by decide +kernel
theorem d_MD_wait7_52 : decode b_MD_wait7 52 = .ok (.iload 8, 2) := by decide +kernel
theorem d_MD_wait7_54 : decode b_MD_wait7 54 = .ok (.iconst 4, 1) := by decide +kernel
theorem d_MD_wait7_55 : decode b_MD_wait7 55 = .ok (.iadd, 1) := by decide +kernel
theorem d_MD_wait7_56 : decode b_MD_wait7 56 = .ok (.iload 5, 2) := by decide +kernel
theorem d_MD_wait7_58 : decode b_MD_wait7 58 = .ok (.iastore, 1) := by decide +kernel
theorem d_MD_wait7_59 : decode b_MD_wait7 59 = .ok (.aload_n 0, 1) := by decide +kernel
theorem d_MD_wait7_6 : decode b_MD_wait7 6 = .ok (.imul, 1) := by decide +kernel
theorem d_MD_wait7_60 : decode b_MD_wait7 60 = .ok (.getfield 80, 3) := by decide +kernel
theorem d_MD_wait7_63 : decode b_MD_wait7 63 = .ok (.iload 8, 2) := by decide +kernel
theorem d_MD_wait7_65 : decode b_MD_wait7 65 = .ok (.iconst 5, 1) := by decide +kernel
theorem d_MD_wait7_66 : decode b_MD_wait7 66 = .ok (.iadd, 1) := by decide +kernel
theorem d_MD_wait7_67 : decode b_MD_wait7 67 = .ok (.iload 6, 2) := by decide +kernel
theorem d_MD_wait7_69 : decode b_MD_wait7 69 = .ok (.iastore, 1) := by decide +kernel
theorem d_MD_wait7_7 : decode b_MD_wait7 7 = .ok (.istore 8, 2) := by decide +kernel
theorem d_MD_wait7_70 : decode b_MD_wait7 70 = .ok (.aload_n 0, 1) := by decide +kernel
theorem d_MD_wait7_71 : decode b_MD_wait7 71 = .ok (.getfield 80, 3) := by decide +kernel
theorem d_MD_wait7_74 : decode b_MD_wait7 74 = .ok (.iload 8, 2) := by decide +kernel
theorem d_MD_wait7_76 : decode b_MD_wait7 76 = .ok (.bipush 6, 2) := by decide +kernel
theorem d_MD_wait7_78 : decode b_MD_wait7 78 = .ok (.iadd, 1) := by decide +kernel
theorem d_MD_wait7_79 : decode b_MD_wait7 79 = .ok (.iload 7, 2) := by decide +kernel
theorem d_MD_wait7_81 : decode b_MD_wait7 81 = .ok (.iastore, 1) := by decide +kernel
theorem d_MD_wait7_82 : decode b_MD_wait7 82 = .ok (.aload_n 0, 1) := by decide +kernel
theorem d_MD_wait7_83 : decode b_MD_wait7 83 = .ok (.dup, 1) := by decide +kernel
theorem d_MD_wait7_84 : decode b_MD_wait7 84 = .ok (.getfield 261, 3) := by decide +kernel
theorem d_MD_wait7_87 : decode b_MD_wait7 87 = .ok (.iconst 1, 1) := by decide +kernel
theorem d_MD_wait7_88 : decode b_MD_wait7 88 = .ok (.iadd, 1) := by decide +kernel
theorem d_MD_wait7_89 : decode b_MD_wait7 89 = .ok (.putfield 261, 3) := by decide +kernel
theorem d_MD_wait7_9 : decode b_MD_wait7 9 = .ok (.aload_n 0, 1) := by decide +kernel
theorem d_MD_wait7_92 : decode b_MD_wait7 92 = .ok (.return_, 1) := by decide +kernel
def curF (c : Nat → Int32) (w : Nat) : Prop := ∀ j : Nat, j < w → ∃ t : Nat, j ≤ t ∧ t ≤ 6 ∧ c (7 * j + 6) = nI t
def mw (c : Nat → Int32) : Nat → Nat
  | 0 => 0
  | w + 1 => mw c w + (2 ^ (7 - bn c (7 * w + 6)) - 1)
theorem mw_keep {c c' : Nat → Int32} {w : Nat} (h : ∀ i : Nat, i < 7 * w → c' i = c i) : mw c' w = mw c w := by
  induction w with
  | zero => rfl
  | succ w ih =>
    unfold mw
    rw [ih (fun i hi => h i (by omega)), show bn c' (7 * w + 6) = bn c (7 * w + 6) by unfold bn; rw [h _ (by omega)]]
theorem mw_pop {c : Nat → Int32} {w t : Nat} (hw : 1 ≤ w) (ht : t ≤ 6) (e : c (7 * (w - 1) + 6) = nI t) : mw c w = mw c (w - 1) + (2 ^ (7 - t) - 1) ∧ 1 ≤ 2 ^ (7 - t) - 1 := by
  obtain ⟨k, rfl⟩ : ∃ k, w = k + 1 := ⟨w - 1, by omega⟩
  have hb : bn c (7 * k + 6) = t := by unfold bn; rw [show 7 * k + 6 = 7 * (k + 1 - 1) + 6 by omega, e, nI_clamp (by omega)]
  refine ⟨by rw [show k + 1 - 1 = k by omega, mw, hb], ?_⟩
  have : 2 ^ 1 ≤ 2 ^ (7 - t) := Nat.pow_le_pow_right (by decide) (by omega)
  omega
theorem mw_push {c : Nat → Int32} {k t : Nat} (ht : t ≤ 5) (e1 : c (7 * k + 6) = nI (t + 1)) (e2 : c (7 * (k + 1) + 6) = nI (t + 1)) : mw c (k + 2) + 1 = mw c k + (2 ^ (7 - t) - 1) := by
  have hb : bn c (7 * k + 6) = t + 1 := by unfold bn; rw [e1, nI_clamp (by omega)]
  have hb2 : bn c (7 * (k + 1) + 6) = t + 1 := by unfold bn; rw [e2, nI_clamp (by omega)]
  show mw c (k + 1) + _ + 1 = _
  rw [show mw c (k + 1) = mw c k + (2 ^ (7 - bn c (7 * k + 6)) - 1) from rfl, hb, hb2, show 7 - t = (7 - (t + 1)) + 1 by omega, Nat.pow_succ]
  have : 0 < 2 ^ (7 - (t + 1)) := Nat.two_pow_pos _
  omega
theorem curF_pop {c : Nat → Int32} {w : Nat} (h : curF c w) : curF c (w - 1) := fun j hj => h j (by omega)
theorem curF_at {c : Nat → Int32} {w : Nat} (h : curF c w) (hw : 1 ≤ w) : ∃ t : Nat, w - 1 ≤ t ∧ t ≤ 6 ∧ c (7 * (w - 1) + 6) = nI t := h (w - 1) (by omega)
theorem curF_push {c c1 c2 : Nat → Int32} {k t : Nat} (h : curF c k) (hk : k ≤ t) (ht : t ≤ 5) (h1 : ∀ i : Nat, i < 7 * k → c1 i = c i) (e1 : c1 (7 * k + 6) = nI (t + 1)) (h2 : ∀ i : Nat, i < 7 * (k + 1) → c2 i = c1 i) (e2 : c2 (7 * (k + 1) + 6) = nI (t + 1)) : curF c2 (k + 2) := fun j hj => by
  by_cases a : j = k + 1
  · exact ⟨t + 1, by omega, by omega, by rw [a]; exact e2⟩
  · by_cases b : j = k
    · exact ⟨t + 1, by omega, by omega, by rw [b, h2 _ (by omega)]; exact e1⟩
    · obtain ⟨u, u1, u2, u3⟩ := h j (by omega)
      exact ⟨u, u1, u2, by rw [h2 _ (by omega), h1 _ (by omega)]; exact u3⟩
theorem mw_step {c c1 c2 : Nat → Int32} {k t : Nat} (ht : t ≤ 5) (e0 : c (7 * k + 6) = nI t) (h1 : ∀ i : Nat, i < 7 * k → c1 i = c i) (e1 : c1 (7 * k + 6) = nI (t + 1)) (h2 : ∀ i : Nat, i < 7 * (k + 1) → c2 i = c1 i) (e2 : c2 (7 * (k + 1) + 6) = nI (t + 1)) : mw c2 (k + 2) < mw c (k + 1) := by
  have a := mw_push (c := c2) (k := k) ht (by rw [h2 _ (by omega)]; exact e1) e2
  have b := (mw_pop (c := c) (w := k + 1) (t := t) (by omega) (by omega) e0).1
  rw [show k + 1 - 1 = k by omega] at b
  have d : mw c2 k = mw c k := mw_keep (fun i hi => by rw [h2 _ (by omega), h1 _ (by omega)])
  omega
set_option maxHeartbeats 4000000 in
set_option maxRecDepth 100000 in
/-- GlyphLinesModel.scaled -/
theorem g_MD_scaled (l : Launch) (dC : Nat → ClassId) (dI : Nat → Nat → Nat) (m0 : Nat) (i_fault : Int32) (n_size : Nat) (r_file : Nat) (n_side : Nat) (o_font : Bool) (r_bytes : Nat) (r_places : Nat) (r_lengths : Nat) (r_glyphCount : Nat) (r_ems : Nat) (r_wides : Nat) (r_forms : Nat) (r_parts : Nat) (r_charts : Nat) (r_pointCount : Nat) (r_contourCount : Nat) (r_depths : Nat) (r_xs : Nat) (r_ys : Nat) (r_ons : Nat) (r_contours : Nat) (o_bad : Bool) (n_at : Nat) (n_end : Nat) (r_flags : Nat) (r_part : Nat) (n_typed : Nat) (r_text : Nat) (n_ring : Nat) (r_ringX : Nat) (r_ringY : Nat) (r_ringOn : Nat) (n_wait : Nat) (r_curves : Nat) (r_windings : Nat) (r_rows : Nat) (c_ems : ClassId) (v_ems : Nat → Int32) (sx9 : Int32) (pm9 : Int32) (em9 : Nat) (sz : Nat) (hq0 : n_size ≤ 1200) (hq1 : n_side ≤ 1) (hq2 : n_typed ≤ 12) (hq3 : v_ems (n_side) = nI em9) (hq4 : 1 ≤ em9) (hq5 : em9 ≤ 2048) : Met l y_MD_scaled s_MD_scaled ({ frames := 12, cells := 0, slots := 0, locals := 400 }) (va_Pc [.ref m0, .int sx9, .int pm9] (fun U => U.heap.size = sz ∧ va_P (dC, dI) cls_ [(m0, .inr (10, [.int i_fault, .int (nI (n_size)), .ref r_file, .int (nI (n_side)), .int (bI o_font), .ref r_bytes, .ref r_places, .ref r_lengths, .ref r_glyphCount, .ref r_ems, .ref r_wides, .ref r_forms, .ref r_parts, .ref r_charts, .ref r_pointCount, .ref r_contourCount, .ref r_depths, .ref r_xs, .ref r_ys, .ref r_ons, .ref r_contours, .int (bI o_bad), .int (nI (n_at)), .int (nI (n_end)), .ref r_flags, .ref r_part, .int (nI (n_typed)), .ref r_text, .int (nI (n_ring)), .ref r_ringX, .ref r_ringY, .ref r_ringOn, .int (nI (n_wait)), .ref r_curves, .ref r_windings, .ref r_rows])), (r_ems, .inl (c_ems, 2, .inl (v_ems)))] U.heap ∧ va_K (dC, dI) cls_ [(c_ems, .int)] U ∧ va_D (fun _ => True) [(m0, .inr (10, [.int i_fault, .int (nI (n_size)), .ref r_file, .int (nI (n_side)), .int (bI o_font), .ref r_bytes, .ref r_places, .ref r_lengths, .ref r_glyphCount, .ref r_ems, .ref r_wides, .ref r_forms, .ref r_parts, .ref r_charts, .ref r_pointCount, .ref r_contourCount, .ref r_depths, .ref r_xs, .ref r_ys, .ref r_ons, .ref r_contours, .int (bI o_bad), .int (nI (n_at)), .int (nI (n_end)), .ref r_flags, .ref r_part, .int (nI (n_typed)), .ref r_text, .int (nI (n_ring)), .ref r_ringX, .ref r_ringY, .ref r_ringOn, .int (nI (n_wait)), .ref r_curves, .ref r_windings, .ref r_rows])), (r_ems, .inl (c_ems, 2, .inl (v_ems)))])) (va_Qi (fun (r : Int32) (_ : Unit) => True) (fun (_ : Unit) (t : State) => va_P (dC, dI) cls_ [(m0, .inr (10, [.int i_fault, .int (nI (n_size)), .ref r_file, .int (nI (n_side)), .int (bI o_font), .ref r_bytes, .ref r_places, .ref r_lengths, .ref r_glyphCount, .ref r_ems, .ref r_wides, .ref r_forms, .ref r_parts, .ref r_charts, .ref r_pointCount, .ref r_contourCount, .ref r_depths, .ref r_xs, .ref r_ys, .ref r_ons, .ref r_contours, .int (bI o_bad), .int (nI (n_at)), .int (nI (n_end)), .ref r_flags, .ref r_part, .int (nI (n_typed)), .ref r_text, .int (nI (n_ring)), .ref r_ringX, .ref r_ringY, .ref r_ringOn, .int (nI (n_wait)), .ref r_curves, .ref r_windings, .ref r_rows])), (r_ems, .inl (c_ems, 2, .inl (v_ems)))] t.heap ∧ va_K (dC, dI) cls_ [(c_ems, .int)] t ∧ va_D (va_A [(m0, .inr (10, [.int i_fault, .int (nI (n_size)), .ref r_file, .int (nI (n_side)), .int (bI o_font), .ref r_bytes, .ref r_places, .ref r_lengths, .ref r_glyphCount, .ref r_ems, .ref r_wides, .ref r_forms, .ref r_parts, .ref r_charts, .ref r_pointCount, .ref r_contourCount, .ref r_depths, .ref r_xs, .ref r_ys, .ref r_ons, .ref r_contours, .int (bI o_bad), .int (nI (n_at)), .int (nI (n_end)), .ref r_flags, .ref r_part, .int (nI (n_typed)), .ref r_text, .int (nI (n_ring)), .ref r_ringX, .ref r_ringY, .ref r_ringOn, .int (nI (n_wait)), .ref r_curves, .ref r_windings, .ref r_rows])), (r_ems, .inl (c_ems, 2, .inl (v_ems)))] sz) [(m0, .inr (10, [.int i_fault, .int (nI (n_size)), .ref r_file, .int (nI (n_side)), .int (bI o_font), .ref r_bytes, .ref r_places, .ref r_lengths, .ref r_glyphCount, .ref r_ems, .ref r_wides, .ref r_forms, .ref r_parts, .ref r_charts, .ref r_pointCount, .ref r_contourCount, .ref r_depths, .ref r_xs, .ref r_ys, .ref r_ons, .ref r_contours, .int (bI o_bad), .int (nI (n_at)), .int (nI (n_end)), .ref r_flags, .ref r_part, .int (nI (n_typed)), .ref r_text, .int (nI (n_ring)), .ref r_ringX, .ref r_ringY, .ref r_ringOn, .int (nI (n_wait)), .ref r_curves, .ref r_windings, .ref r_rows])), (r_ems, .inl (c_ems, 2, .inl (v_ems)))]) (va_A [(m0, .inr (10, [.int i_fault, .int (nI (n_size)), .ref r_file, .int (nI (n_side)), .int (bI o_font), .ref r_bytes, .ref r_places, .ref r_lengths, .ref r_glyphCount, .ref r_ems, .ref r_wides, .ref r_forms, .ref r_parts, .ref r_charts, .ref r_pointCount, .ref r_contourCount, .ref r_depths, .ref r_xs, .ref r_ys, .ref r_ons, .ref r_contours, .int (bI o_bad), .int (nI (n_at)), .int (nI (n_end)), .ref r_flags, .ref r_part, .int (nI (n_typed)), .ref r_text, .int (nI (n_ring)), .ref r_ringX, .ref r_ringY, .ref r_ringOn, .int (nI (n_wait)), .ref r_curves, .ref r_windings, .ref r_rows])), (r_ems, .inl (c_ems, 2, .inl (v_ems)))] sz)) 0 0 (va_A [(m0, .inr (10, [.int i_fault, .int (nI (n_size)), .ref r_file, .int (nI (n_side)), .int (bI o_font), .ref r_bytes, .ref r_places, .ref r_lengths, .ref r_glyphCount, .ref r_ems, .ref r_wides, .ref r_forms, .ref r_parts, .ref r_charts, .ref r_pointCount, .ref r_contourCount, .ref r_depths, .ref r_xs, .ref r_ys, .ref r_ons, .ref r_contours, .int (bI o_bad), .int (nI (n_at)), .int (nI (n_end)), .ref r_flags, .ref r_part, .int (nI (n_typed)), .ref r_text, .int (nI (n_ring)), .ref r_ringX, .ref r_ringY, .ref r_ringOn, .int (nI (n_wait)), .ref r_curves, .ref r_windings, .ref r_rows])), (r_ems, .inl (c_ems, 2, .inl (v_ems)))] sz) := by
  refine Met.ofW (cc := b_MD_scaled) (maxL := 5) (ret := (some .int)) (by decide) rfl ?_
  intro p e s m args below meth c s₁ B hml hv
  obtain ⟨rfl, hsz, hP, hK, hD0⟩ := hv
  have hx := B.exec
  have hb := B.bytes
  have hr := B.returns
  have hts := atoms_spec (ws := s_MD_scaled) B.pre
  have hown : s.vm.findClass R_MD = some m.cls := findClass_of_methodNamed B.named
  have hlocks := B.notSynchronized
  subst hsz
  have hD := hD0.self (sz := s.heap.size)
  generalize hAe : va_A [(m0, .inr (10, [.int i_fault, .int (nI (n_size)), .ref r_file, .int (nI (n_side)), .int (bI o_font), .ref r_bytes, .ref r_places, .ref r_lengths, .ref r_glyphCount, .ref r_ems, .ref r_wides, .ref r_forms, .ref r_parts, .ref r_charts, .ref r_pointCount, .ref r_contourCount, .ref r_depths, .ref r_xs, .ref r_ys, .ref r_ons, .ref r_contours, .int (bI o_bad), .int (nI (n_at)), .int (nI (n_end)), .ref r_flags, .ref r_part, .int (nI (n_typed)), .ref r_text, .int (nI (n_ring)), .ref r_ringX, .ref r_ringY, .ref r_ringOn, .int (nI (n_wait)), .ref r_curves, .ref r_windings, .ref r_rows])), (r_ems, .inl (c_ems, 2, .inl (v_ems)))] s.heap.size = A at hD ⊢
  have hA : ∀ q : Nat, s.heap.size ≤ q → A q := fun q h => by rw [← hAe]; exact Or.inr h
  have hS : va_S A s.heap s.heap [] := va_S.rf
  have hP : va_P (dC, dI) cls_ [(m0, .inr (10, [.int i_fault, .int (nI (n_size)), .ref r_file, .int (nI (n_side)), .int (bI o_font), .ref r_bytes, .ref r_places, .ref r_lengths, .ref r_glyphCount, .ref r_ems, .ref r_wides, .ref r_forms, .ref r_parts, .ref r_charts, .ref r_pointCount, .ref r_contourCount, .ref r_depths, .ref r_xs, .ref r_ys, .ref r_ons, .ref r_contours, .int (bI o_bad), .int (nI (n_at)), .int (nI (n_end)), .ref r_flags, .ref r_part, .int (nI (n_typed)), .ref r_text, .int (nI (n_ring)), .ref r_ringX, .ref r_ringY, .ref r_ringOn, .int (nI (n_wait)), .ref r_curves, .ref r_windings, .ref r_rows])), (r_ems, .inl (c_ems, 2, .inl (v_ems)))] s.heap := hP
  have hl := lv_entry ([.ref m0, .int sx9, .int pm9]) (n := 5) (Nat.le_of_ble_eq_true rfl)
  rw [lg_entry_eq]
  generalize (lg_sl ([.ref m0, .int sx9, .int pm9]) ++ List.replicate (5 - (lg_sl ([.ref m0, .int sx9, .int pm9])).length) Slot.unset).toArray = ls at hl ⊢
  have hl : lv_has ls 5 [(0, .ref m0), (1, .int sx9), (2, .int pm9)] := hl
  refine lv_aload_n hx hb d_MD_scaled_0 rfl (lv_at hl 0 rfl) ?_
  refine va_get (D := (dC, dI)) (ci := 10) (v := .ref r_ems) (C := R_MD) (T := F_MD) (N := 36) hx hb hts in_MD hown hK hP 0 rfl rfl 9 (by decide) (hts _ (List.mem_cons_of_mem _ w_861)) (fun _ h9 => h9) rfl d_MD_scaled_1 ?_
  refine lv_aload_n hx hb d_MD_scaled_4 rfl (lv_at hl 0 rfl) ?_
  refine va_get (D := (dC, dI)) (ci := 10) (v := .int (nI (n_side))) (C := R_MD) (T := F_MD) (N := 36) hx hb hts in_MD hown hK hP 0 rfl rfl 3 (by decide) (hts _ (List.mem_cons_of_mem _ w_855)) (fun _ h9 => h9) rfl d_MD_scaled_5 ?_
  refine va_iald hx hb hK hP 1 0 rfl rfl (pk_in (n_side) 2 (by omega) rfl (by decide)) d_MD_scaled_8 ?_
  refine lv_ci (y := nI (em9)) (by rw [nI_clamp (show n_side < 2 ^ 31 by omega)]; assumption) ?_
  refine lv_i2l (v := (nI (em9)).toInt64) hx hb d_MD_scaled_9 rfl ?_
  refine lv_cl (y := lN (em9)) (nI_l (by omega)) ?_
  refine lv_lstore_n (lv' := [(3, .long (lN (em9))), (0, .ref m0), (1, .int sx9), (2, .int pm9)]) hx hb d_MD_scaled_10 rfl hl (by decide) rfl (fun ls hl => ?_)
  refine lv_ldc2 (v := 128) hx hb hown (hts _ (List.mem_cons_of_mem _ w_1158)) d_MD_scaled_11 ?_
  refine lv_iload_n hx hb d_MD_scaled_14 rfl (lv_at hl 2 rfl) ?_
  refine lv_i2l (v := sx9.toInt64) hx hb d_MD_scaled_15 (by first | rfl | decide +kernel) ?_
  refine lv_lmul hx hb d_MD_scaled_16 ?_
  refine lv_topl (fun v15241 ev15241 => ?_)
  refine lv_iload_n hx hb d_MD_scaled_17 rfl (lv_at hl 3 rfl) ?_
  refine lv_i2l (v := pm9.toInt64) hx hb d_MD_scaled_18 (by first | rfl | decide +kernel) ?_
  refine lv_lmul hx hb d_MD_scaled_19 ?_
  refine lv_topl (fun v15242 ev15242 => ?_)
  refine lv_lload_n hx hb d_MD_scaled_20 rfl (lv_at hl 0 rfl) ?_
  refine lv_ladd hx hb d_MD_scaled_21 ?_
  refine lv_topl (fun v15243 ev15243 => ?_)
  refine lv_ldc2 (v := 2) hx hb hown (hts _ (List.mem_cons_of_mem _ w_1031)) d_MD_scaled_22 ?_
  refine lv_lload_n hx hb d_MD_scaled_25 rfl (lv_at hl 0 rfl) ?_
  refine lv_lmul hx hb d_MD_scaled_26 ?_
  refine lv_cl (y := lN (2 * em9)) (lN_mul (2) (em9)) ?_
  have hNZ : ¬ lN (2 * em9) = 0 := lN_ne0 (by omega) (by omega)
  have hPc := hP.sub (ws' := []) [] rfl
  have hDc := hD.sub (ws' := []) [] (by decide) rfl
  have hKc := hK.sub (tys' := []) [] rfl
  have hFc := va_free (wc := []) hD hS hA [] rfl
  refine va_calli (va_runS (As := [.long v15243, .long (lN (2 * em9))]) (rest := []) ⟨hx, hb, hml, hown, hts⟩ (g_MD_down l dC dI v15243 (lN (2 * em9)) s.heap.size (by assumption)) (cwS 2 hts (tw_inS w_1103 w_1104 w_11 w_1105) rfl rfl rfl (by decide +kernel) ⟨Nat.le_of_ble_eq_true rfl, Nat.le_of_ble_eq_true rfl⟩) ⟨fun a U g mk q => by obtain ⟨q0, q1, qP, qK, qD⟩ := q; exact ⟨q0, q1, qP, va_K.moved (u := U) (U := U.calling g mk a) (Vm.Alike.refl U.vm) qK, qD⟩, fun U hU hW => ⟨rfl, by rw [hU], by rw [hU]; exact hPc, va_K.moved hW.alike hKc, hDc.weaken (fun _ _ _ _ => trivial)⟩⟩ rfl rfl hl.1 rfl (lv_room (Nat.le_of_ble_eq_true rfl)) d_MD_scaled_27 ⟨Nat.le_of_ble_eq_true rfl, Nat.le_of_ble_eq_true rfl⟩) hS (fun q _ h => hFc q h) hFc (fun r15244 u t H1 locs ht hvm hw hB hz1 hk1 hS => ?_)
  have hP1 : va_P (dC, dI) cls_ [] H1 := fun k q h => by simp at h
  have hD1 : va_D (va_A [] s.heap.size) [] := ⟨fun i j p q h => by simp at h, fun k q h => by simp at h⟩
  obtain ⟨hP, hD⟩ := va_join (wr := [(m0, .inr (10, [.int i_fault, .int (nI (n_size)), .ref r_file, .int (nI (n_side)), .int (bI o_font), .ref r_bytes, .ref r_places, .ref r_lengths, .ref r_glyphCount, .ref r_ems, .ref r_wides, .ref r_forms, .ref r_parts, .ref r_charts, .ref r_pointCount, .ref r_contourCount, .ref r_depths, .ref r_xs, .ref r_ys, .ref r_ons, .ref r_contours, .int (bI o_bad), .int (nI (n_at)), .int (nI (n_end)), .ref r_flags, .ref r_part, .int (nI (n_typed)), .ref r_text, .int (nI (n_ring)), .ref r_ringX, .ref r_ringY, .ref r_ringOn, .int (nI (n_wait)), .ref r_curves, .ref r_windings, .ref r_rows])), (r_ems, .inl (c_ems, 2, .inl (v_ems)))]) (w1 := []) hP hD [] [0, 1] rfl rfl (by decide) (by decide) hk1 hFc hP1 hD1
  generalize H1 = H at hP hS ⊢
  have hP : va_P (dC, dI) cls_ [(m0, .inr (10, [.int i_fault, .int (nI (n_size)), .ref r_file, .int (nI (n_side)), .int (bI o_font), .ref r_bytes, .ref r_places, .ref r_lengths, .ref r_glyphCount, .ref r_ems, .ref r_wides, .ref r_forms, .ref r_parts, .ref r_charts, .ref r_pointCount, .ref r_contourCount, .ref r_depths, .ref r_xs, .ref r_ys, .ref r_ons, .ref r_contours, .int (bI o_bad), .int (nI (n_at)), .int (nI (n_end)), .ref r_flags, .ref r_part, .int (nI (n_typed)), .ref r_text, .int (nI (n_ring)), .ref r_ringX, .ref r_ringY, .ref r_ringOn, .int (nI (n_wait)), .ref r_curves, .ref r_windings, .ref r_rows])), (r_ems, .inl (c_ems, 2, .inl (v_ems)))] H := hP
  have hD : va_D A [(m0, .inr (10, [.int i_fault, .int (nI (n_size)), .ref r_file, .int (nI (n_side)), .int (bI o_font), .ref r_bytes, .ref r_places, .ref r_lengths, .ref r_glyphCount, .ref r_ems, .ref r_wides, .ref r_forms, .ref r_parts, .ref r_charts, .ref r_pointCount, .ref r_contourCount, .ref r_depths, .ref r_xs, .ref r_ys, .ref r_ons, .ref r_contours, .int (bI o_bad), .int (nI (n_at)), .int (nI (n_end)), .ref r_flags, .ref r_part, .int (nI (n_typed)), .ref r_text, .int (nI (n_ring)), .ref r_ringX, .ref r_ringY, .ref r_ringOn, .int (nI (n_wait)), .ref r_curves, .ref r_windings, .ref r_rows])), (r_ems, .inl (c_ems, 2, .inl (v_ems)))] := hD
  have hw_r15244 := hw
  refine W.widen (k := 0) (n := 0) (Nat.le_of_ble_eq_true rfl) (Nat.le_of_ble_eq_true rfl) ?_
  have hP9 := hP.sub (ws' := [(m0, .inr (10, [.int i_fault, .int (nI (n_size)), .ref r_file, .int (nI (n_side)), .int (bI o_font), .ref r_bytes, .ref r_places, .ref r_lengths, .ref r_glyphCount, .ref r_ems, .ref r_wides, .ref r_forms, .ref r_parts, .ref r_charts, .ref r_pointCount, .ref r_contourCount, .ref r_depths, .ref r_xs, .ref r_ys, .ref r_ons, .ref r_contours, .int (bI o_bad), .int (nI (n_at)), .int (nI (n_end)), .ref r_flags, .ref r_part, .int (nI (n_typed)), .ref r_text, .int (nI (n_ring)), .ref r_ringX, .ref r_ringY, .ref r_ringOn, .int (nI (n_wait)), .ref r_curves, .ref r_windings, .ref r_rows])), (r_ems, .inl (c_ems, 2, .inl (v_ems)))]) [0, 1] rfl
  have hD9 := hD.sub (ws' := [(m0, .inr (10, [.int i_fault, .int (nI (n_size)), .ref r_file, .int (nI (n_side)), .int (bI o_font), .ref r_bytes, .ref r_places, .ref r_lengths, .ref r_glyphCount, .ref r_ems, .ref r_wides, .ref r_forms, .ref r_parts, .ref r_charts, .ref r_pointCount, .ref r_contourCount, .ref r_depths, .ref r_xs, .ref r_ys, .ref r_ons, .ref r_contours, .int (bI o_bad), .int (nI (n_at)), .int (nI (n_end)), .ref r_flags, .ref r_part, .int (nI (n_typed)), .ref r_text, .int (nI (n_ring)), .ref r_ringX, .ref r_ringY, .ref r_ringOn, .int (nI (n_wait)), .ref r_curves, .ref r_windings, .ref r_rows])), (r_ems, .inl (c_ems, 2, .inl (v_ems)))]) [0, 1] (by decide) rfl
  have hK9 := hK.sub (tys' := [(c_ems, .int)]) [0] rfl
  exact W.iret (v := r15244) hx hb hr (fun t ht hW => ⟨⟨r15244, (), rfl, trivial, by rw [ht]; exact hP9, va_K.moved hW.alike hK9, hD9⟩, hS.F ht⟩) hS.2.2 d_MD_scaled_30
set_option maxHeartbeats 4000000 in
set_option maxRecDepth 100000 in
/-- GlyphLinesModel.half -/
theorem g_MD_half (l : Launch) (dC : Nat → ClassId) (dI : Nat → Nat → Nat) (x9 : Int32) (y9_ : Int32) (sz : Nat) : Met l y_MD_half s_MD_half ({ frames := 8, cells := 0, slots := 0, locals := 200 }) (va_Pc [.int x9, .int y9_] (fun U => U.heap.size = sz ∧ va_P (dC, dI) cls_ [] U.heap ∧ va_K (dC, dI) cls_ [] U ∧ va_D (fun _ => True) [])) (va_Qi (fun (r : Int32) (_ : Unit) => True) (fun (_ : Unit) (t : State) => True) (va_A [] sz)) 0 0 (va_A [] sz) := by
  refine Met.ofW (cc := b_MD_half) (maxL := 2) (ret := (some .int)) (by decide) rfl ?_
  intro p e s m args below meth c s₁ B hml hv
  obtain ⟨rfl, hsz, hP, hK, hD0⟩ := hv
  have hx := B.exec
  have hb := B.bytes
  have hr := B.returns
  have hts := atoms_spec (ws := s_MD_half) B.pre
  have hown : s.vm.findClass R_MD = some m.cls := findClass_of_methodNamed B.named
  have hlocks := B.notSynchronized
  subst hsz
  have hD := hD0.self (sz := s.heap.size)
  generalize hAe : va_A [] s.heap.size = A at hD ⊢
  have hA : ∀ q : Nat, s.heap.size ≤ q → A q := fun q h => by rw [← hAe]; exact Or.inr h
  have hS : va_S A s.heap s.heap [] := va_S.rf
  have hP : va_P (dC, dI) cls_ [] s.heap := hP
  have hl := lv_entry ([.int x9, .int y9_]) (n := 2) (Nat.le_of_ble_eq_true rfl)
  rw [lg_entry_eq]
  generalize (lg_sl ([.int x9, .int y9_]) ++ List.replicate (2 - (lg_sl ([.int x9, .int y9_])).length) Slot.unset).toArray = ls at hl ⊢
  have hl : lv_has ls 2 [(0, .int x9), (1, .int y9_)] := hl
  refine lv_iload_n hx hb d_MD_half_0 rfl (lv_at hl 0 rfl) ?_
  refine lv_iload_n hx hb d_MD_half_1 rfl (lv_at hl 1 rfl) ?_
  refine lv_iadd hx hb d_MD_half_2 ?_
  refine lv_topi (fun v15245 ev15245 => ?_)
  refine lv_iconst (v := 1) hx hb d_MD_half_3 (by decide) ?_
  refine lv_ishr hx hb d_MD_half_4 ?_
  refine lv_topi (fun v15246 ev15246 => ?_)
  refine W.widen (k := 0) (n := 0) (Nat.le_of_ble_eq_true rfl) (Nat.le_of_ble_eq_true rfl) ?_
  exact W.iret (v := v15246) hx hb hr (fun t ht hW => ⟨⟨v15246, (), rfl, trivial, trivial⟩, hS.F ht⟩) hS.2.2 d_MD_half_5
set_option maxHeartbeats 4000000 in
set_option maxRecDepth 100000 in
/-- GlyphLinesModel.far -/
theorem g_MD_far (l : Launch) (dC : Nat → ClassId) (dI : Nat → Nat → Nat) (x9 : Int32) (y9_ : Int32) (sz : Nat) : Met l y_MD_far s_MD_far ({ frames := 8, cells := 0, slots := 0, locals := 200 }) (va_Pc [.int x9, .int y9_] (fun U => U.heap.size = sz ∧ va_P (dC, dI) cls_ [] U.heap ∧ va_K (dC, dI) cls_ [] U ∧ va_D (fun _ => True) [])) (va_Qi (fun (r : Int32) (_ : Unit) => True) (fun (_ : Unit) (t : State) => True) (va_A [] sz)) 0 0 (va_A [] sz) := by
  refine Met.ofW (cc := b_MD_far) (maxL := 2) (ret := (some .int)) (by decide) rfl ?_
  intro p e s m args below meth c s₁ B hml hv
  obtain ⟨rfl, hsz, hP, hK, hD0⟩ := hv
  have hx := B.exec
  have hb := B.bytes
  have hr := B.returns
  have hts := atoms_spec (ws := s_MD_far) B.pre
  have hown : s.vm.findClass R_MD = some m.cls := findClass_of_methodNamed B.named
  have hlocks := B.notSynchronized
  subst hsz
  have hD := hD0.self (sz := s.heap.size)
  generalize hAe : va_A [] s.heap.size = A at hD ⊢
  have hA : ∀ q : Nat, s.heap.size ≤ q → A q := fun q h => by rw [← hAe]; exact Or.inr h
  have hS : va_S A s.heap s.heap [] := va_S.rf
  have hP : va_P (dC, dI) cls_ [] s.heap := hP
  have hl := lv_entry ([.int x9, .int y9_]) (n := 2) (Nat.le_of_ble_eq_true rfl)
  rw [lg_entry_eq]
  generalize (lg_sl ([.int x9, .int y9_]) ++ List.replicate (2 - (lg_sl ([.int x9, .int y9_])).length) Slot.unset).toArray = ls at hl ⊢
  have hl : lv_has ls 2 [(0, .int x9), (1, .int y9_)] := hl
  refine lv_iload_n hx hb d_MD_far_0 rfl (lv_at hl 0 rfl) ?_
  refine lv_iload_n hx hb d_MD_far_1 rfl (lv_at hl 1 rfl) ?_
  refine lv_icmp_ge (tgt := 11) hx hb d_MD_far_2 (by decide) (fun hc15247 => ?_) (fun hc15247 => ?_)
  · skip
    refine lv_iload_n hx hb d_MD_far_11 rfl (lv_at hl 0 rfl) ?_
    refine lv_iload_n hx hb d_MD_far_12 rfl (lv_at hl 1 rfl) ?_
    refine lv_isub hx hb d_MD_far_13 ?_
    refine lv_topi (fun v15248 ev15248 => ?_)
    refine W.widen (k := 0) (n := 0) (Nat.le_of_ble_eq_true rfl) (Nat.le_of_ble_eq_true rfl) ?_
    exact W.iret (v := v15248) hx hb hr (fun t ht hW => ⟨⟨v15248, (), rfl, trivial, trivial⟩, hS.F ht⟩) hS.2.2 d_MD_far_14
  · skip
    refine lv_iload_n hx hb d_MD_far_5 rfl (lv_at hl 1 rfl) ?_
    refine lv_iload_n hx hb d_MD_far_6 rfl (lv_at hl 0 rfl) ?_
    refine lv_isub hx hb d_MD_far_7 ?_
    refine lv_topi (fun v15249 ev15249 => ?_)
    refine lv_goto (tgt := 14) hx hb d_MD_far_8 (by decide) ?_
    refine W.widen (k := 0) (n := 0) (Nat.le_of_ble_eq_true rfl) (Nat.le_of_ble_eq_true rfl) ?_
    exact W.iret (v := v15249) hx hb hr (fun t ht hW => ⟨⟨v15249, (), rfl, trivial, trivial⟩, hS.F ht⟩) hS.2.2 d_MD_far_14
set_option maxHeartbeats 4000000 in
set_option maxRecDepth 100000 in
/-- GlyphLinesModel.paintLine -/
theorem g_MD_paintLine (l : Launch) (dC : Nat → ClassId) (dI : Nat → Nat → Nat) (m0 : Nat) (i_fault : Int32) (n_size : Nat) (r_file : Nat) (n_side : Nat) (o_font : Bool) (r_bytes : Nat) (r_places : Nat) (r_lengths : Nat) (r_glyphCount : Nat) (r_ems : Nat) (r_wides : Nat) (r_forms : Nat) (r_parts : Nat) (r_charts : Nat) (r_pointCount : Nat) (r_contourCount : Nat) (r_depths : Nat) (r_xs : Nat) (r_ys : Nat) (r_ons : Nat) (r_contours : Nat) (o_bad : Bool) (n_at : Nat) (n_end : Nat) (r_flags : Nat) (r_part : Nat) (n_typed : Nat) (r_text : Nat) (n_ring : Nat) (r_ringX : Nat) (r_ringY : Nat) (r_ringOn : Nat) (n_wait : Nat) (r_curves : Nat) (r_windings : Nat) (r_rows : Nat) (c_windings : ClassId) (v_windings : Nat → Int32) (xa9 : Int32) (ya9 : Int32) (xb9 : Int32) (yb9 : Int32) (sz : Nat) (hq0 : n_size ≤ 1200) (hq1 : n_side ≤ 1) (hq2 : n_typed ≤ 12) : Met l y_MD_paintLine s_MD_paintLine ({ frames := 10, cells := 0, slots := 0, locals := 300 }) (va_Pc [.ref m0, .int xa9, .int ya9, .int xb9, .int yb9] (fun U => U.heap.size = sz ∧ va_P (dC, dI) cls_ [(m0, .inr (10, [.int i_fault, .int (nI (n_size)), .ref r_file, .int (nI (n_side)), .int (bI o_font), .ref r_bytes, .ref r_places, .ref r_lengths, .ref r_glyphCount, .ref r_ems, .ref r_wides, .ref r_forms, .ref r_parts, .ref r_charts, .ref r_pointCount, .ref r_contourCount, .ref r_depths, .ref r_xs, .ref r_ys, .ref r_ons, .ref r_contours, .int (bI o_bad), .int (nI (n_at)), .int (nI (n_end)), .ref r_flags, .ref r_part, .int (nI (n_typed)), .ref r_text, .int (nI (n_ring)), .ref r_ringX, .ref r_ringY, .ref r_ringOn, .int (nI (n_wait)), .ref r_curves, .ref r_windings, .ref r_rows])), (r_windings, .inl (c_windings, 1152, .inl (v_windings)))] U.heap ∧ va_K (dC, dI) cls_ [(c_windings, .int)] U ∧ va_D (fun _ => True) [(m0, .inr (10, [.int i_fault, .int (nI (n_size)), .ref r_file, .int (nI (n_side)), .int (bI o_font), .ref r_bytes, .ref r_places, .ref r_lengths, .ref r_glyphCount, .ref r_ems, .ref r_wides, .ref r_forms, .ref r_parts, .ref r_charts, .ref r_pointCount, .ref r_contourCount, .ref r_depths, .ref r_xs, .ref r_ys, .ref r_ons, .ref r_contours, .int (bI o_bad), .int (nI (n_at)), .int (nI (n_end)), .ref r_flags, .ref r_part, .int (nI (n_typed)), .ref r_text, .int (nI (n_ring)), .ref r_ringX, .ref r_ringY, .ref r_ringOn, .int (nI (n_wait)), .ref r_curves, .ref r_windings, .ref r_rows])), (r_windings, .inl (c_windings, 1152, .inl (v_windings)))])) (va_Qv (fun _ : Unit => True) (fun (_ : Unit) (t : State) => ∃ (v_windings_2 : Nat → Int32), va_P (dC, dI) cls_ [(m0, .inr (10, [.int i_fault, .int (nI (n_size)), .ref r_file, .int (nI (n_side)), .int (bI o_font), .ref r_bytes, .ref r_places, .ref r_lengths, .ref r_glyphCount, .ref r_ems, .ref r_wides, .ref r_forms, .ref r_parts, .ref r_charts, .ref r_pointCount, .ref r_contourCount, .ref r_depths, .ref r_xs, .ref r_ys, .ref r_ons, .ref r_contours, .int (bI o_bad), .int (nI (n_at)), .int (nI (n_end)), .ref r_flags, .ref r_part, .int (nI (n_typed)), .ref r_text, .int (nI (n_ring)), .ref r_ringX, .ref r_ringY, .ref r_ringOn, .int (nI (n_wait)), .ref r_curves, .ref r_windings, .ref r_rows])), (r_windings, .inl (c_windings, 1152, .inl (v_windings_2)))] t.heap ∧ va_K (dC, dI) cls_ [(c_windings, .int)] t ∧ va_D (va_A [(m0, .inr (10, [.int i_fault, .int (nI (n_size)), .ref r_file, .int (nI (n_side)), .int (bI o_font), .ref r_bytes, .ref r_places, .ref r_lengths, .ref r_glyphCount, .ref r_ems, .ref r_wides, .ref r_forms, .ref r_parts, .ref r_charts, .ref r_pointCount, .ref r_contourCount, .ref r_depths, .ref r_xs, .ref r_ys, .ref r_ons, .ref r_contours, .int (bI o_bad), .int (nI (n_at)), .int (nI (n_end)), .ref r_flags, .ref r_part, .int (nI (n_typed)), .ref r_text, .int (nI (n_ring)), .ref r_ringX, .ref r_ringY, .ref r_ringOn, .int (nI (n_wait)), .ref r_curves, .ref r_windings, .ref r_rows])), (r_windings, .inl (c_windings, 1152, .inl (v_windings)))] sz) [(m0, .inr (10, [.int i_fault, .int (nI (n_size)), .ref r_file, .int (nI (n_side)), .int (bI o_font), .ref r_bytes, .ref r_places, .ref r_lengths, .ref r_glyphCount, .ref r_ems, .ref r_wides, .ref r_forms, .ref r_parts, .ref r_charts, .ref r_pointCount, .ref r_contourCount, .ref r_depths, .ref r_xs, .ref r_ys, .ref r_ons, .ref r_contours, .int (bI o_bad), .int (nI (n_at)), .int (nI (n_end)), .ref r_flags, .ref r_part, .int (nI (n_typed)), .ref r_text, .int (nI (n_ring)), .ref r_ringX, .ref r_ringY, .ref r_ringOn, .int (nI (n_wait)), .ref r_curves, .ref r_windings, .ref r_rows])), (r_windings, .inl (c_windings, 1152, .inl (v_windings_2)))]) (va_A [(m0, .inr (10, [.int i_fault, .int (nI (n_size)), .ref r_file, .int (nI (n_side)), .int (bI o_font), .ref r_bytes, .ref r_places, .ref r_lengths, .ref r_glyphCount, .ref r_ems, .ref r_wides, .ref r_forms, .ref r_parts, .ref r_charts, .ref r_pointCount, .ref r_contourCount, .ref r_depths, .ref r_xs, .ref r_ys, .ref r_ons, .ref r_contours, .int (bI o_bad), .int (nI (n_at)), .int (nI (n_end)), .ref r_flags, .ref r_part, .int (nI (n_typed)), .ref r_text, .int (nI (n_ring)), .ref r_ringX, .ref r_ringY, .ref r_ringOn, .int (nI (n_wait)), .ref r_curves, .ref r_windings, .ref r_rows])), (r_windings, .inl (c_windings, 1152, .inl (v_windings)))] sz)) 0 0 (va_A [(m0, .inr (10, [.int i_fault, .int (nI (n_size)), .ref r_file, .int (nI (n_side)), .int (bI o_font), .ref r_bytes, .ref r_places, .ref r_lengths, .ref r_glyphCount, .ref r_ems, .ref r_wides, .ref r_forms, .ref r_parts, .ref r_charts, .ref r_pointCount, .ref r_contourCount, .ref r_depths, .ref r_xs, .ref r_ys, .ref r_ons, .ref r_contours, .int (bI o_bad), .int (nI (n_at)), .int (nI (n_end)), .ref r_flags, .ref r_part, .int (nI (n_typed)), .ref r_text, .int (nI (n_ring)), .ref r_ringX, .ref r_ringY, .ref r_ringOn, .int (nI (n_wait)), .ref r_curves, .ref r_windings, .ref r_rows])), (r_windings, .inl (c_windings, 1152, .inl (v_windings)))] sz) := by
  refine Met.ofW (cc := b_MD_paintLine) (maxL := 13) (ret := none) (by decide) rfl ?_
  intro p e s m args below meth c s₁ B hml hv
  obtain ⟨rfl, hsz, hP, hK, hD0⟩ := hv
  have hx := B.exec
  have hb := B.bytes
  have hr := B.returns
  have hts := atoms_spec (ws := s_MD_paintLine) B.pre
  have hown : s.vm.findClass R_MD = some m.cls := findClass_of_methodNamed B.named
  have hlocks := B.notSynchronized
  subst hsz
  have hD := hD0.self (sz := s.heap.size)
  generalize hAe : va_A [(m0, .inr (10, [.int i_fault, .int (nI (n_size)), .ref r_file, .int (nI (n_side)), .int (bI o_font), .ref r_bytes, .ref r_places, .ref r_lengths, .ref r_glyphCount, .ref r_ems, .ref r_wides, .ref r_forms, .ref r_parts, .ref r_charts, .ref r_pointCount, .ref r_contourCount, .ref r_depths, .ref r_xs, .ref r_ys, .ref r_ons, .ref r_contours, .int (bI o_bad), .int (nI (n_at)), .int (nI (n_end)), .ref r_flags, .ref r_part, .int (nI (n_typed)), .ref r_text, .int (nI (n_ring)), .ref r_ringX, .ref r_ringY, .ref r_ringOn, .int (nI (n_wait)), .ref r_curves, .ref r_windings, .ref r_rows])), (r_windings, .inl (c_windings, 1152, .inl (v_windings)))] s.heap.size = A at hD ⊢
  have hA : ∀ q : Nat, s.heap.size ≤ q → A q := fun q h => by rw [← hAe]; exact Or.inr h
  have hS : va_S A s.heap s.heap [] := va_S.rf
  have hP : va_P (dC, dI) cls_ [(m0, .inr (10, [.int i_fault, .int (nI (n_size)), .ref r_file, .int (nI (n_side)), .int (bI o_font), .ref r_bytes, .ref r_places, .ref r_lengths, .ref r_glyphCount, .ref r_ems, .ref r_wides, .ref r_forms, .ref r_parts, .ref r_charts, .ref r_pointCount, .ref r_contourCount, .ref r_depths, .ref r_xs, .ref r_ys, .ref r_ons, .ref r_contours, .int (bI o_bad), .int (nI (n_at)), .int (nI (n_end)), .ref r_flags, .ref r_part, .int (nI (n_typed)), .ref r_text, .int (nI (n_ring)), .ref r_ringX, .ref r_ringY, .ref r_ringOn, .int (nI (n_wait)), .ref r_curves, .ref r_windings, .ref r_rows])), (r_windings, .inl (c_windings, 1152, .inl (v_windings)))] s.heap := hP
  have hl := lv_entry ([.ref m0, .int xa9, .int ya9, .int xb9, .int yb9]) (n := 13) (Nat.le_of_ble_eq_true rfl)
  rw [lg_entry_eq]
  generalize (lg_sl ([.ref m0, .int xa9, .int ya9, .int xb9, .int yb9]) ++ List.replicate (13 - (lg_sl ([.ref m0, .int xa9, .int ya9, .int xb9, .int yb9])).length) Slot.unset).toArray = ls at hl ⊢
  have hl : lv_has ls 13 [(0, .ref m0), (1, .int xa9), (2, .int ya9), (3, .int xb9), (4, .int yb9)] := hl
  refine lv_iconst (v := 0) hx hb d_MD_paintLine_0 (by decide) ?_
  refine lv_istore (lv' := [(5, .int 0), (0, .ref m0), (1, .int xa9), (2, .int ya9), (3, .int xb9), (4, .int yb9)]) hx hb d_MD_paintLine_1 hl (by decide) rfl (fun ls hl => ?_)
  have hP8 := hP.sub (ws' := [(m0, .inr (10, [.int i_fault, .int (nI (n_size)), .ref r_file, .int (nI (n_side)), .int (bI o_font), .ref r_bytes, .ref r_places, .ref r_lengths, .ref r_glyphCount, .ref r_ems, .ref r_wides, .ref r_forms, .ref r_parts, .ref r_charts, .ref r_pointCount, .ref r_contourCount, .ref r_depths, .ref r_xs, .ref r_ys, .ref r_ons, .ref r_contours, .int (bI o_bad), .int (nI (n_at)), .int (nI (n_end)), .ref r_flags, .ref r_part, .int (nI (n_typed)), .ref r_text, .int (nI (n_ring)), .ref r_ringX, .ref r_ringY, .ref r_ringOn, .int (nI (n_wait)), .ref r_curves, .ref r_windings, .ref r_rows])), (r_windings, .inl (c_windings, 1152, .inl (v_windings)))]) [0, 1] rfl
  have hD8 := hD.sub (ws' := [(m0, .inr (10, [.int i_fault, .int (nI (n_size)), .ref r_file, .int (nI (n_side)), .int (bI o_font), .ref r_bytes, .ref r_places, .ref r_lengths, .ref r_glyphCount, .ref r_ems, .ref r_wides, .ref r_forms, .ref r_parts, .ref r_charts, .ref r_pointCount, .ref r_contourCount, .ref r_depths, .ref r_xs, .ref r_ys, .ref r_ons, .ref r_contours, .int (bI o_bad), .int (nI (n_at)), .int (nI (n_end)), .ref r_flags, .ref r_part, .int (nI (n_typed)), .ref r_text, .int (nI (n_ring)), .ref r_ringX, .ref r_ringY, .ref r_ringOn, .int (nI (n_wait)), .ref r_curves, .ref r_windings, .ref r_rows])), (r_windings, .inl (c_windings, 1152, .inl (v_windings)))]) [0, 1] (by decide) rfl
  refine lv_loop (α := (Nat → Int32) × Nat) 3 (fun ⟨a_r_windings_16429, l5_16430⟩ H' locs' ls' => va_P (dC, dI) cls_ [(m0, .inr (10, [.int i_fault, .int (nI (n_size)), .ref r_file, .int (nI (n_side)), .int (bI o_font), .ref r_bytes, .ref r_places, .ref r_lengths, .ref r_glyphCount, .ref r_ems, .ref r_wides, .ref r_forms, .ref r_parts, .ref r_charts, .ref r_pointCount, .ref r_contourCount, .ref r_depths, .ref r_xs, .ref r_ys, .ref r_ons, .ref r_contours, .int (bI o_bad), .int (nI (n_at)), .int (nI (n_end)), .ref r_flags, .ref r_part, .int (nI (n_typed)), .ref r_text, .int (nI (n_ring)), .ref r_ringX, .ref r_ringY, .ref r_ringOn, .int (nI (n_wait)), .ref r_curves, .ref r_windings, .ref r_rows])), (r_windings, .inl (c_windings, 1152, .inl (a_r_windings_16429)))] H' ∧ va_D A [(m0, .inr (10, [.int i_fault, .int (nI (n_size)), .ref r_file, .int (nI (n_side)), .int (bI o_font), .ref r_bytes, .ref r_places, .ref r_lengths, .ref r_glyphCount, .ref r_ems, .ref r_wides, .ref r_forms, .ref r_parts, .ref r_charts, .ref r_pointCount, .ref r_contourCount, .ref r_depths, .ref r_xs, .ref r_ys, .ref r_ons, .ref r_contours, .int (bI o_bad), .int (nI (n_at)), .int (nI (n_end)), .ref r_flags, .ref r_part, .int (nI (n_typed)), .ref r_text, .int (nI (n_ring)), .ref r_ringX, .ref r_ringY, .ref r_ringOn, .int (nI (n_wait)), .ref r_curves, .ref r_windings, .ref r_rows])), (r_windings, .inl (c_windings, 1152, .inl (a_r_windings_16429)))] ∧ va_S A s.heap H' locs' ∧ lv_has ls' 13 [(5, .int (nI (l5_16430))), (0, .ref m0), (1, .int xa9), (2, .int ya9), (3, .int xb9), (4, .int yb9)] ∧ (l5_16430 ≤ 24)) (fun ⟨a_r_windings_16429, l5_16430⟩ => []) (fun ⟨a_r_windings_16429, l5_16430⟩ => 24 - l5_16430) ?_ (v_windings, 0) s.heap _ ls ⟨hP8, hD8, hS, lv_sub hl [0, 1, 2, 3, 4, 5] rfl, by omega⟩
  intro ⟨a_r_windings_16429, l5_16430⟩ ih16431 H locs ls ⟨hP, hD, hS, hl, hf16432⟩
  show W p l e _ s m _ below meth c H locs _ _ _ (F0 m 3 ls [])
  have hP : va_P (dC, dI) cls_ [(m0, .inr (10, [.int i_fault, .int (nI (n_size)), .ref r_file, .int (nI (n_side)), .int (bI o_font), .ref r_bytes, .ref r_places, .ref r_lengths, .ref r_glyphCount, .ref r_ems, .ref r_wides, .ref r_forms, .ref r_parts, .ref r_charts, .ref r_pointCount, .ref r_contourCount, .ref r_depths, .ref r_xs, .ref r_ys, .ref r_ons, .ref r_contours, .int (bI o_bad), .int (nI (n_at)), .int (nI (n_end)), .ref r_flags, .ref r_part, .int (nI (n_typed)), .ref r_text, .int (nI (n_ring)), .ref r_ringX, .ref r_ringY, .ref r_ringOn, .int (nI (n_wait)), .ref r_curves, .ref r_windings, .ref r_rows])), (r_windings, .inl (c_windings, 1152, .inl (a_r_windings_16429)))] H := hP
  have hD : va_D A [(m0, .inr (10, [.int i_fault, .int (nI (n_size)), .ref r_file, .int (nI (n_side)), .int (bI o_font), .ref r_bytes, .ref r_places, .ref r_lengths, .ref r_glyphCount, .ref r_ems, .ref r_wides, .ref r_forms, .ref r_parts, .ref r_charts, .ref r_pointCount, .ref r_contourCount, .ref r_depths, .ref r_xs, .ref r_ys, .ref r_ons, .ref r_contours, .int (bI o_bad), .int (nI (n_at)), .int (nI (n_end)), .ref r_flags, .ref r_part, .int (nI (n_typed)), .ref r_text, .int (nI (n_ring)), .ref r_ringX, .ref r_ringY, .ref r_ringOn, .int (nI (n_wait)), .ref r_curves, .ref r_windings, .ref r_rows])), (r_windings, .inl (c_windings, 1152, .inl (a_r_windings_16429)))] := hD
  refine lv_iload hx hb d_MD_paintLine_3 (lv_at hl 0 rfl) ?_
  refine lv_bipush (v := 24) hx hb d_MD_paintLine_5 (by decide) ?_
  refine lv_icmp_ge (tgt := 169) hx hb d_MD_paintLine_7 (by decide) (fun hc16600 => ?_) (fun hc16600 => ?_)
  · skip
    have hc16600n : 24 ≤ l5_16430 := (nI_leI (a := 24) (b := l5_16430) (by omega) (by omega)).mp hc16600
    refine W.widen (k := 0) (n := 0) (Nat.le_of_ble_eq_true rfl) (Nat.le_of_ble_eq_true rfl) ?_
    have hP9 := hP.sub (ws' := [(m0, .inr (10, [.int i_fault, .int (nI (n_size)), .ref r_file, .int (nI (n_side)), .int (bI o_font), .ref r_bytes, .ref r_places, .ref r_lengths, .ref r_glyphCount, .ref r_ems, .ref r_wides, .ref r_forms, .ref r_parts, .ref r_charts, .ref r_pointCount, .ref r_contourCount, .ref r_depths, .ref r_xs, .ref r_ys, .ref r_ons, .ref r_contours, .int (bI o_bad), .int (nI (n_at)), .int (nI (n_end)), .ref r_flags, .ref r_part, .int (nI (n_typed)), .ref r_text, .int (nI (n_ring)), .ref r_ringX, .ref r_ringY, .ref r_ringOn, .int (nI (n_wait)), .ref r_curves, .ref r_windings, .ref r_rows])), (r_windings, .inl (c_windings, 1152, .inl (a_r_windings_16429)))]) [0, 1] rfl
    have hD9 := hD.sub (ws' := [(m0, .inr (10, [.int i_fault, .int (nI (n_size)), .ref r_file, .int (nI (n_side)), .int (bI o_font), .ref r_bytes, .ref r_places, .ref r_lengths, .ref r_glyphCount, .ref r_ems, .ref r_wides, .ref r_forms, .ref r_parts, .ref r_charts, .ref r_pointCount, .ref r_contourCount, .ref r_depths, .ref r_xs, .ref r_ys, .ref r_ons, .ref r_contours, .int (bI o_bad), .int (nI (n_at)), .int (nI (n_end)), .ref r_flags, .ref r_part, .int (nI (n_typed)), .ref r_text, .int (nI (n_ring)), .ref r_ringX, .ref r_ringY, .ref r_ringOn, .int (nI (n_wait)), .ref r_curves, .ref r_windings, .ref r_rows])), (r_windings, .inl (c_windings, 1152, .inl (a_r_windings_16429)))]) [0, 1] (by decide) rfl
    have hK9 := hK.sub (tys' := [(c_windings, .int)]) [0] rfl
    exact W.vret hx hb hr (fun t ht hW => ⟨⟨(), rfl, trivial, a_r_windings_16429, by rw [ht]; exact hP9, va_K.moved hW.alike hK9, hD9⟩, hS.F ht⟩) hS.2.2 d_MD_paintLine_169
  · skip
    have hc16600n : ¬ (24 ≤ l5_16430) := fun z => hc16600 ((nI_leI (a := 24) (b := l5_16430) (by omega) (by omega)).mpr z)
    refine lv_bipush (v := 64) hx hb d_MD_paintLine_10 (by decide) ?_
    refine lv_bipush (v := 15) hx hb d_MD_paintLine_12 (by decide) ?_
    refine lv_iload hx hb d_MD_paintLine_14 (lv_at hl 0 rfl) ?_
    refine lv_isub hx hb d_MD_paintLine_16 ?_
    refine lv_topi (fun v16601 ev16601 => ?_)
    refine lv_imul hx hb d_MD_paintLine_17 ?_
    refine lv_topi (fun v16602 ev16602 => ?_)
    refine lv_bipush (v := 32) hx hb d_MD_paintLine_18 (by decide) ?_
    refine lv_iadd hx hb d_MD_paintLine_20 ?_
    refine lv_topi (fun v16603 ev16603 => ?_)
    refine lv_istore (lv' := [(6, .int v16603), (5, .int (nI (l5_16430))), (0, .ref m0), (1, .int xa9), (2, .int ya9), (3, .int xb9), (4, .int yb9)]) hx hb d_MD_paintLine_21 hl (by decide) rfl (fun ls hl => ?_)
    refine lv_iload_n hx hb d_MD_paintLine_23 rfl (lv_at hl 4 rfl) ?_
    refine lv_iload hx hb d_MD_paintLine_24 (lv_at hl 0 rfl) ?_
    refine lv_join (α := Int32) 58 (fun s0_16610 H' locs' ls' => va_P (dC, dI) cls_ [(m0, .inr (10, [.int i_fault, .int (nI (n_size)), .ref r_file, .int (nI (n_side)), .int (bI o_font), .ref r_bytes, .ref r_places, .ref r_lengths, .ref r_glyphCount, .ref r_ems, .ref r_wides, .ref r_forms, .ref r_parts, .ref r_charts, .ref r_pointCount, .ref r_contourCount, .ref r_depths, .ref r_xs, .ref r_ys, .ref r_ons, .ref r_contours, .int (bI o_bad), .int (nI (n_at)), .int (nI (n_end)), .ref r_flags, .ref r_part, .int (nI (n_typed)), .ref r_text, .int (nI (n_ring)), .ref r_ringX, .ref r_ringY, .ref r_ringOn, .int (nI (n_wait)), .ref r_curves, .ref r_windings, .ref r_rows])), (r_windings, .inl (c_windings, 1152, .inl (a_r_windings_16429)))] H' ∧ va_D A [(m0, .inr (10, [.int i_fault, .int (nI (n_size)), .ref r_file, .int (nI (n_side)), .int (bI o_font), .ref r_bytes, .ref r_places, .ref r_lengths, .ref r_glyphCount, .ref r_ems, .ref r_wides, .ref r_forms, .ref r_parts, .ref r_charts, .ref r_pointCount, .ref r_contourCount, .ref r_depths, .ref r_xs, .ref r_ys, .ref r_ons, .ref r_contours, .int (bI o_bad), .int (nI (n_at)), .int (nI (n_end)), .ref r_flags, .ref r_part, .int (nI (n_typed)), .ref r_text, .int (nI (n_ring)), .ref r_ringX, .ref r_ringY, .ref r_ringOn, .int (nI (n_wait)), .ref r_curves, .ref r_windings, .ref r_rows])), (r_windings, .inl (c_windings, 1152, .inl (a_r_windings_16429)))] ∧ va_S A s.heap H' locs' ∧ lv_has ls' 13 [(6, .int v16603), (5, .int (nI (l5_16430))), (0, .ref m0), (1, .int xa9), (2, .int ya9), (3, .int xb9), (4, .int yb9)]) (fun s0_16610 => [.int s0_16610]) ?_ (fun kj16611 => ?_)
    · skip
      intro s0_16610 H locs ls ⟨hP, hD, hS, hl⟩
      show W p l e _ s m _ below meth c H locs _ _ _ (F0 m 58 ls [.int s0_16610])
      have hP : va_P (dC, dI) cls_ [(m0, .inr (10, [.int i_fault, .int (nI (n_size)), .ref r_file, .int (nI (n_side)), .int (bI o_font), .ref r_bytes, .ref r_places, .ref r_lengths, .ref r_glyphCount, .ref r_ems, .ref r_wides, .ref r_forms, .ref r_parts, .ref r_charts, .ref r_pointCount, .ref r_contourCount, .ref r_depths, .ref r_xs, .ref r_ys, .ref r_ons, .ref r_contours, .int (bI o_bad), .int (nI (n_at)), .int (nI (n_end)), .ref r_flags, .ref r_part, .int (nI (n_typed)), .ref r_text, .int (nI (n_ring)), .ref r_ringX, .ref r_ringY, .ref r_ringOn, .int (nI (n_wait)), .ref r_curves, .ref r_windings, .ref r_rows])), (r_windings, .inl (c_windings, 1152, .inl (a_r_windings_16429)))] H := hP
      have hD : va_D A [(m0, .inr (10, [.int i_fault, .int (nI (n_size)), .ref r_file, .int (nI (n_side)), .int (bI o_font), .ref r_bytes, .ref r_places, .ref r_lengths, .ref r_glyphCount, .ref r_ems, .ref r_wides, .ref r_forms, .ref r_parts, .ref r_charts, .ref r_pointCount, .ref r_contourCount, .ref r_depths, .ref r_xs, .ref r_ys, .ref r_ons, .ref r_contours, .int (bI o_bad), .int (nI (n_at)), .int (nI (n_end)), .ref r_flags, .ref r_part, .int (nI (n_typed)), .ref r_text, .int (nI (n_ring)), .ref r_ringX, .ref r_ringY, .ref r_ringOn, .int (nI (n_wait)), .ref r_curves, .ref r_windings, .ref r_rows])), (r_windings, .inl (c_windings, 1152, .inl (a_r_windings_16429)))] := hD
      refine lv_istore (lv' := [(7, .int s0_16610), (6, .int v16603), (5, .int (nI (l5_16430))), (0, .ref m0), (1, .int xa9), (2, .int ya9), (3, .int xb9), (4, .int yb9)]) hx hb d_MD_paintLine_58 hl (by decide) rfl (fun ls hl => ?_)
      refine lv_iconst (v := 0) hx hb d_MD_paintLine_60 (by decide) ?_
      refine lv_istore (lv' := [(8, .int 0), (7, .int s0_16610), (6, .int v16603), (5, .int (nI (l5_16430))), (0, .ref m0), (1, .int xa9), (2, .int ya9), (3, .int xb9), (4, .int yb9)]) hx hb d_MD_paintLine_61 hl (by decide) rfl (fun ls hl => ?_)
      refine lv_join (α := (Nat → Int32) × Nat) 163 (fun ⟨a_r_windings_16685, l8_16686⟩ H' locs' ls' => va_P (dC, dI) cls_ [(m0, .inr (10, [.int i_fault, .int (nI (n_size)), .ref r_file, .int (nI (n_side)), .int (bI o_font), .ref r_bytes, .ref r_places, .ref r_lengths, .ref r_glyphCount, .ref r_ems, .ref r_wides, .ref r_forms, .ref r_parts, .ref r_charts, .ref r_pointCount, .ref r_contourCount, .ref r_depths, .ref r_xs, .ref r_ys, .ref r_ons, .ref r_contours, .int (bI o_bad), .int (nI (n_at)), .int (nI (n_end)), .ref r_flags, .ref r_part, .int (nI (n_typed)), .ref r_text, .int (nI (n_ring)), .ref r_ringX, .ref r_ringY, .ref r_ringOn, .int (nI (n_wait)), .ref r_curves, .ref r_windings, .ref r_rows])), (r_windings, .inl (c_windings, 1152, .inl (a_r_windings_16685)))] H' ∧ va_D A [(m0, .inr (10, [.int i_fault, .int (nI (n_size)), .ref r_file, .int (nI (n_side)), .int (bI o_font), .ref r_bytes, .ref r_places, .ref r_lengths, .ref r_glyphCount, .ref r_ems, .ref r_wides, .ref r_forms, .ref r_parts, .ref r_charts, .ref r_pointCount, .ref r_contourCount, .ref r_depths, .ref r_xs, .ref r_ys, .ref r_ons, .ref r_contours, .int (bI o_bad), .int (nI (n_at)), .int (nI (n_end)), .ref r_flags, .ref r_part, .int (nI (n_typed)), .ref r_text, .int (nI (n_ring)), .ref r_ringX, .ref r_ringY, .ref r_ringOn, .int (nI (n_wait)), .ref r_curves, .ref r_windings, .ref r_rows])), (r_windings, .inl (c_windings, 1152, .inl (a_r_windings_16685)))] ∧ va_S A s.heap H' locs' ∧ lv_has ls' 13 [(8, .int (nI (l8_16686))), (7, .int s0_16610), (6, .int v16603), (5, .int (nI (l5_16430))), (0, .ref m0), (1, .int xa9), (2, .int ya9), (3, .int xb9), (4, .int yb9)]) (fun ⟨a_r_windings_16685, l8_16686⟩ => []) ?_ (fun kj16687 => ?_)
      · skip
        intro ⟨a_r_windings_16685, l8_16686⟩ H locs ls ⟨hP, hD, hS, hl⟩
        show W p l e _ s m _ below meth c H locs _ _ _ (F0 m 163 ls [])
        have hP : va_P (dC, dI) cls_ [(m0, .inr (10, [.int i_fault, .int (nI (n_size)), .ref r_file, .int (nI (n_side)), .int (bI o_font), .ref r_bytes, .ref r_places, .ref r_lengths, .ref r_glyphCount, .ref r_ems, .ref r_wides, .ref r_forms, .ref r_parts, .ref r_charts, .ref r_pointCount, .ref r_contourCount, .ref r_depths, .ref r_xs, .ref r_ys, .ref r_ons, .ref r_contours, .int (bI o_bad), .int (nI (n_at)), .int (nI (n_end)), .ref r_flags, .ref r_part, .int (nI (n_typed)), .ref r_text, .int (nI (n_ring)), .ref r_ringX, .ref r_ringY, .ref r_ringOn, .int (nI (n_wait)), .ref r_curves, .ref r_windings, .ref r_rows])), (r_windings, .inl (c_windings, 1152, .inl (a_r_windings_16685)))] H := hP
        have hD : va_D A [(m0, .inr (10, [.int i_fault, .int (nI (n_size)), .ref r_file, .int (nI (n_side)), .int (bI o_font), .ref r_bytes, .ref r_places, .ref r_lengths, .ref r_glyphCount, .ref r_ems, .ref r_wides, .ref r_forms, .ref r_parts, .ref r_charts, .ref r_pointCount, .ref r_contourCount, .ref r_depths, .ref r_xs, .ref r_ys, .ref r_ons, .ref r_contours, .int (bI o_bad), .int (nI (n_at)), .int (nI (n_end)), .ref r_flags, .ref r_part, .int (nI (n_typed)), .ref r_text, .int (nI (n_ring)), .ref r_ringX, .ref r_ringY, .ref r_ringOn, .int (nI (n_wait)), .ref r_curves, .ref r_windings, .ref r_rows])), (r_windings, .inl (c_windings, 1152, .inl (a_r_windings_16685)))] := hD
        refine lv_iinc (k := 3) (v := nI (l5_16430 + 1)) (lv' := [(5, .int (nI (l5_16430 + 1))), (8, .int (nI (l8_16686))), (7, .int s0_16610), (6, .int v16603), (0, .ref m0), (1, .int xa9), (2, .int ya9), (3, .int xb9), (4, .int yb9)]) hx hb d_MD_paintLine_163 hl rfl (nI_add (l5_16430) 1) (by decide) rfl (fun ls hl => ?_)
        refine lv_goto (tgt := 3) hx hb d_MD_paintLine_166 (by decide) ?_
        have hP8 := hP.sub (ws' := [(m0, .inr (10, [.int i_fault, .int (nI (n_size)), .ref r_file, .int (nI (n_side)), .int (bI o_font), .ref r_bytes, .ref r_places, .ref r_lengths, .ref r_glyphCount, .ref r_ems, .ref r_wides, .ref r_forms, .ref r_parts, .ref r_charts, .ref r_pointCount, .ref r_contourCount, .ref r_depths, .ref r_xs, .ref r_ys, .ref r_ons, .ref r_contours, .int (bI o_bad), .int (nI (n_at)), .int (nI (n_end)), .ref r_flags, .ref r_part, .int (nI (n_typed)), .ref r_text, .int (nI (n_ring)), .ref r_ringX, .ref r_ringY, .ref r_ringOn, .int (nI (n_wait)), .ref r_curves, .ref r_windings, .ref r_rows])), (r_windings, .inl (c_windings, 1152, .inl (a_r_windings_16685)))]) [0, 1] rfl
        have hD8 := hD.sub (ws' := [(m0, .inr (10, [.int i_fault, .int (nI (n_size)), .ref r_file, .int (nI (n_side)), .int (bI o_font), .ref r_bytes, .ref r_places, .ref r_lengths, .ref r_glyphCount, .ref r_ems, .ref r_wides, .ref r_forms, .ref r_parts, .ref r_charts, .ref r_pointCount, .ref r_contourCount, .ref r_depths, .ref r_xs, .ref r_ys, .ref r_ons, .ref r_contours, .int (bI o_bad), .int (nI (n_at)), .int (nI (n_end)), .ref r_flags, .ref r_part, .int (nI (n_typed)), .ref r_text, .int (nI (n_ring)), .ref r_ringX, .ref r_ringY, .ref r_ringOn, .int (nI (n_wait)), .ref r_curves, .ref r_windings, .ref r_rows])), (r_windings, .inl (c_windings, 1152, .inl (a_r_windings_16685)))]) [0, 1] (by decide) rfl
        exact ih16431 (a_r_windings_16685, l5_16430 + 1) H locs ls (by show 24 - (l5_16430 + 1) < 24 - l5_16430; omega) ⟨hP8, hD8, hS, lv_sub hl [0, 4, 5, 6, 7, 8] rfl, by omega⟩
      · skip
        have hP8 := hP.sub (ws' := [(m0, .inr (10, [.int i_fault, .int (nI (n_size)), .ref r_file, .int (nI (n_side)), .int (bI o_font), .ref r_bytes, .ref r_places, .ref r_lengths, .ref r_glyphCount, .ref r_ems, .ref r_wides, .ref r_forms, .ref r_parts, .ref r_charts, .ref r_pointCount, .ref r_contourCount, .ref r_depths, .ref r_xs, .ref r_ys, .ref r_ons, .ref r_contours, .int (bI o_bad), .int (nI (n_at)), .int (nI (n_end)), .ref r_flags, .ref r_part, .int (nI (n_typed)), .ref r_text, .int (nI (n_ring)), .ref r_ringX, .ref r_ringY, .ref r_ringOn, .int (nI (n_wait)), .ref r_curves, .ref r_windings, .ref r_rows])), (r_windings, .inl (c_windings, 1152, .inl (a_r_windings_16429)))]) [0, 1] rfl
        have hD8 := hD.sub (ws' := [(m0, .inr (10, [.int i_fault, .int (nI (n_size)), .ref r_file, .int (nI (n_side)), .int (bI o_font), .ref r_bytes, .ref r_places, .ref r_lengths, .ref r_glyphCount, .ref r_ems, .ref r_wides, .ref r_forms, .ref r_parts, .ref r_charts, .ref r_pointCount, .ref r_contourCount, .ref r_depths, .ref r_xs, .ref r_ys, .ref r_ons, .ref r_contours, .int (bI o_bad), .int (nI (n_at)), .int (nI (n_end)), .ref r_flags, .ref r_part, .int (nI (n_typed)), .ref r_text, .int (nI (n_ring)), .ref r_ringX, .ref r_ringY, .ref r_ringOn, .int (nI (n_wait)), .ref r_curves, .ref r_windings, .ref r_rows])), (r_windings, .inl (c_windings, 1152, .inl (a_r_windings_16429)))]) [0, 1] (by decide) rfl
        refine lv_loop (α := (Nat → Int32) × Nat) 63 (fun ⟨a_r_windings_16735, l8_16736⟩ H' locs' ls' => va_P (dC, dI) cls_ [(m0, .inr (10, [.int i_fault, .int (nI (n_size)), .ref r_file, .int (nI (n_side)), .int (bI o_font), .ref r_bytes, .ref r_places, .ref r_lengths, .ref r_glyphCount, .ref r_ems, .ref r_wides, .ref r_forms, .ref r_parts, .ref r_charts, .ref r_pointCount, .ref r_contourCount, .ref r_depths, .ref r_xs, .ref r_ys, .ref r_ons, .ref r_contours, .int (bI o_bad), .int (nI (n_at)), .int (nI (n_end)), .ref r_flags, .ref r_part, .int (nI (n_typed)), .ref r_text, .int (nI (n_ring)), .ref r_ringX, .ref r_ringY, .ref r_ringOn, .int (nI (n_wait)), .ref r_curves, .ref r_windings, .ref r_rows])), (r_windings, .inl (c_windings, 1152, .inl (a_r_windings_16735)))] H' ∧ va_D A [(m0, .inr (10, [.int i_fault, .int (nI (n_size)), .ref r_file, .int (nI (n_side)), .int (bI o_font), .ref r_bytes, .ref r_places, .ref r_lengths, .ref r_glyphCount, .ref r_ems, .ref r_wides, .ref r_forms, .ref r_parts, .ref r_charts, .ref r_pointCount, .ref r_contourCount, .ref r_depths, .ref r_xs, .ref r_ys, .ref r_ons, .ref r_contours, .int (bI o_bad), .int (nI (n_at)), .int (nI (n_end)), .ref r_flags, .ref r_part, .int (nI (n_typed)), .ref r_text, .int (nI (n_ring)), .ref r_ringX, .ref r_ringY, .ref r_ringOn, .int (nI (n_wait)), .ref r_curves, .ref r_windings, .ref r_rows])), (r_windings, .inl (c_windings, 1152, .inl (a_r_windings_16735)))] ∧ va_S A s.heap H' locs' ∧ lv_has ls' 13 [(8, .int (nI (l8_16736))), (7, .int s0_16610), (6, .int v16603), (5, .int (nI (l5_16430))), (0, .ref m0), (1, .int xa9), (2, .int ya9), (3, .int xb9), (4, .int yb9)] ∧ (l8_16736 ≤ 48)) (fun ⟨a_r_windings_16735, l8_16736⟩ => []) (fun ⟨a_r_windings_16735, l8_16736⟩ => 48 - l8_16736) ?_ (a_r_windings_16429, 0) H locs ls ⟨hP8, hD8, hS, lv_sub hl [0, 1, 2, 3, 4, 5, 6, 7, 8] rfl, by omega⟩
        intro ⟨a_r_windings_16735, l8_16736⟩ ih16737 H locs ls ⟨hP, hD, hS, hl, hf16738⟩
        show W p l e _ s m _ below meth c H locs _ _ _ (F0 m 63 ls [])
        have hP : va_P (dC, dI) cls_ [(m0, .inr (10, [.int i_fault, .int (nI (n_size)), .ref r_file, .int (nI (n_side)), .int (bI o_font), .ref r_bytes, .ref r_places, .ref r_lengths, .ref r_glyphCount, .ref r_ems, .ref r_wides, .ref r_forms, .ref r_parts, .ref r_charts, .ref r_pointCount, .ref r_contourCount, .ref r_depths, .ref r_xs, .ref r_ys, .ref r_ons, .ref r_contours, .int (bI o_bad), .int (nI (n_at)), .int (nI (n_end)), .ref r_flags, .ref r_part, .int (nI (n_typed)), .ref r_text, .int (nI (n_ring)), .ref r_ringX, .ref r_ringY, .ref r_ringOn, .int (nI (n_wait)), .ref r_curves, .ref r_windings, .ref r_rows])), (r_windings, .inl (c_windings, 1152, .inl (a_r_windings_16735)))] H := hP
        have hD : va_D A [(m0, .inr (10, [.int i_fault, .int (nI (n_size)), .ref r_file, .int (nI (n_side)), .int (bI o_font), .ref r_bytes, .ref r_places, .ref r_lengths, .ref r_glyphCount, .ref r_ems, .ref r_wides, .ref r_forms, .ref r_parts, .ref r_charts, .ref r_pointCount, .ref r_contourCount, .ref r_depths, .ref r_xs, .ref r_ys, .ref r_ons, .ref r_contours, .int (bI o_bad), .int (nI (n_at)), .int (nI (n_end)), .ref r_flags, .ref r_part, .int (nI (n_typed)), .ref r_text, .int (nI (n_ring)), .ref r_ringX, .ref r_ringY, .ref r_ringOn, .int (nI (n_wait)), .ref r_curves, .ref r_windings, .ref r_rows])), (r_windings, .inl (c_windings, 1152, .inl (a_r_windings_16735)))] := hD
        refine lv_iload hx hb d_MD_paintLine_63 (lv_at hl 0 rfl) ?_
        refine lv_bipush (v := 48) hx hb d_MD_paintLine_65 (by decide) ?_
        refine lv_icmp_ge (tgt := 163) hx hb d_MD_paintLine_67 (by decide) (fun hc16739 => ?_) (fun hc16739 => ?_)
        · skip
          have hc16739n : 48 ≤ l8_16736 := (nI_leI (a := 48) (b := l8_16736) (by omega) (by omega)).mp hc16739
          have hP8 := hP.sub (ws' := [(m0, .inr (10, [.int i_fault, .int (nI (n_size)), .ref r_file, .int (nI (n_side)), .int (bI o_font), .ref r_bytes, .ref r_places, .ref r_lengths, .ref r_glyphCount, .ref r_ems, .ref r_wides, .ref r_forms, .ref r_parts, .ref r_charts, .ref r_pointCount, .ref r_contourCount, .ref r_depths, .ref r_xs, .ref r_ys, .ref r_ons, .ref r_contours, .int (bI o_bad), .int (nI (n_at)), .int (nI (n_end)), .ref r_flags, .ref r_part, .int (nI (n_typed)), .ref r_text, .int (nI (n_ring)), .ref r_ringX, .ref r_ringY, .ref r_ringOn, .int (nI (n_wait)), .ref r_curves, .ref r_windings, .ref r_rows])), (r_windings, .inl (c_windings, 1152, .inl (a_r_windings_16735)))]) [0, 1] rfl
          have hD8 := hD.sub (ws' := [(m0, .inr (10, [.int i_fault, .int (nI (n_size)), .ref r_file, .int (nI (n_side)), .int (bI o_font), .ref r_bytes, .ref r_places, .ref r_lengths, .ref r_glyphCount, .ref r_ems, .ref r_wides, .ref r_forms, .ref r_parts, .ref r_charts, .ref r_pointCount, .ref r_contourCount, .ref r_depths, .ref r_xs, .ref r_ys, .ref r_ons, .ref r_contours, .int (bI o_bad), .int (nI (n_at)), .int (nI (n_end)), .ref r_flags, .ref r_part, .int (nI (n_typed)), .ref r_text, .int (nI (n_ring)), .ref r_ringX, .ref r_ringY, .ref r_ringOn, .int (nI (n_wait)), .ref r_curves, .ref r_windings, .ref r_rows])), (r_windings, .inl (c_windings, 1152, .inl (a_r_windings_16735)))]) [0, 1] (by decide) rfl
          exact kj16687 (a_r_windings_16735, l8_16736) H locs ls ⟨hP8, hD8, hS, lv_sub hl [0, 1, 2, 3, 4, 5, 6, 7, 8] rfl⟩
        · skip
          have hc16739n : ¬ (48 ≤ l8_16736) := fun z => hc16739 ((nI_leI (a := 48) (b := l8_16736) (by omega) (by omega)).mpr z)
          refine lv_iload hx hb d_MD_paintLine_70 (lv_at hl 1 rfl) ?_
          refine lv_if_eq (tgt := 163) hx hb d_MD_paintLine_72 (by decide) (fun hc16740 => ?_) (fun hc16740 => ?_)
          · skip
            have hP8 := hP.sub (ws' := [(m0, .inr (10, [.int i_fault, .int (nI (n_size)), .ref r_file, .int (nI (n_side)), .int (bI o_font), .ref r_bytes, .ref r_places, .ref r_lengths, .ref r_glyphCount, .ref r_ems, .ref r_wides, .ref r_forms, .ref r_parts, .ref r_charts, .ref r_pointCount, .ref r_contourCount, .ref r_depths, .ref r_xs, .ref r_ys, .ref r_ons, .ref r_contours, .int (bI o_bad), .int (nI (n_at)), .int (nI (n_end)), .ref r_flags, .ref r_part, .int (nI (n_typed)), .ref r_text, .int (nI (n_ring)), .ref r_ringX, .ref r_ringY, .ref r_ringOn, .int (nI (n_wait)), .ref r_curves, .ref r_windings, .ref r_rows])), (r_windings, .inl (c_windings, 1152, .inl (a_r_windings_16735)))]) [0, 1] rfl
            have hD8 := hD.sub (ws' := [(m0, .inr (10, [.int i_fault, .int (nI (n_size)), .ref r_file, .int (nI (n_side)), .int (bI o_font), .ref r_bytes, .ref r_places, .ref r_lengths, .ref r_glyphCount, .ref r_ems, .ref r_wides, .ref r_forms, .ref r_parts, .ref r_charts, .ref r_pointCount, .ref r_contourCount, .ref r_depths, .ref r_xs, .ref r_ys, .ref r_ons, .ref r_contours, .int (bI o_bad), .int (nI (n_at)), .int (nI (n_end)), .ref r_flags, .ref r_part, .int (nI (n_typed)), .ref r_text, .int (nI (n_ring)), .ref r_ringX, .ref r_ringY, .ref r_ringOn, .int (nI (n_wait)), .ref r_curves, .ref r_windings, .ref r_rows])), (r_windings, .inl (c_windings, 1152, .inl (a_r_windings_16735)))]) [0, 1] (by decide) rfl
            exact kj16687 (a_r_windings_16735, l8_16736) H locs ls ⟨hP8, hD8, hS, lv_sub hl [0, 1, 2, 3, 4, 5, 6, 7, 8] rfl⟩
          · skip
            refine lv_iload hx hb d_MD_paintLine_75 (lv_at hl 1 rfl) ?_
            refine lv_i2l (v := s0_16610.toInt64) hx hb d_MD_paintLine_77 (by first | rfl | decide +kernel) ?_
            refine lv_iload hx hb d_MD_paintLine_78 (lv_at hl 8 rfl) ?_
            refine lv_iload_n hx hb d_MD_paintLine_80 rfl (lv_at hl 6 rfl) ?_
            refine lv_isub hx hb d_MD_paintLine_81 ?_
            refine lv_topi (fun v16741 ev16741 => ?_)
            refine lv_i2l (v := v16741.toInt64) hx hb d_MD_paintLine_82 (by first | rfl | decide +kernel) ?_
            refine lv_lmul hx hb d_MD_paintLine_83 ?_
            refine lv_topl (fun v16742 ev16742 => ?_)
            refine lv_lstore (lv' := [(9, .long v16742), (8, .int (nI (l8_16736))), (7, .int s0_16610), (6, .int v16603), (5, .int (nI (l5_16430))), (0, .ref m0), (1, .int xa9), (2, .int ya9), (3, .int xb9), (4, .int yb9)]) hx hb d_MD_paintLine_84 hl (by decide) rfl (fun ls hl => ?_)
            refine lv_iload_n hx hb d_MD_paintLine_86 rfl (lv_at hl 6 rfl) ?_
            refine lv_i2l (v := xa9.toInt64) hx hb d_MD_paintLine_87 (by first | rfl | decide +kernel) ?_
            refine lv_lload hx hb d_MD_paintLine_88 (lv_at hl 0 rfl) ?_
            refine lv_lmul hx hb d_MD_paintLine_90 ?_
            refine lv_topl (fun v16743 ev16743 => ?_)
            refine lv_iload hx hb d_MD_paintLine_91 (lv_at hl 2 rfl) ?_
            refine lv_i2l (v := s0_16610.toInt64) hx hb d_MD_paintLine_93 (by first | rfl | decide +kernel) ?_
            refine lv_iload hx hb d_MD_paintLine_94 (lv_at hl 3 rfl) ?_
            refine lv_iload_n hx hb d_MD_paintLine_96 rfl (lv_at hl 7 rfl) ?_
            refine lv_isub hx hb d_MD_paintLine_97 ?_
            refine lv_topi (fun v16744 ev16744 => ?_)
            refine lv_i2l (v := v16744.toInt64) hx hb d_MD_paintLine_98 (by first | rfl | decide +kernel) ?_
            refine lv_lmul hx hb d_MD_paintLine_99 ?_
            refine lv_topl (fun v16745 ev16745 => ?_)
            refine lv_iload_n hx hb d_MD_paintLine_100 rfl (lv_at hl 8 rfl) ?_
            refine lv_iload_n hx hb d_MD_paintLine_101 rfl (lv_at hl 6 rfl) ?_
            refine lv_isub hx hb d_MD_paintLine_102 ?_
            refine lv_topi (fun v16746 ev16746 => ?_)
            refine lv_i2l (v := v16746.toInt64) hx hb d_MD_paintLine_103 (by first | rfl | decide +kernel) ?_
            refine lv_lmul hx hb d_MD_paintLine_104 ?_
            refine lv_topl (fun v16747 ev16747 => ?_)
            refine lv_ladd hx hb d_MD_paintLine_105 ?_
            refine lv_topl (fun v16748 ev16748 => ?_)
            refine lv_lstore (lv' := [(11, .long v16748), (9, .long v16742), (8, .int (nI (l8_16736))), (7, .int s0_16610), (6, .int v16603), (5, .int (nI (l5_16430))), (0, .ref m0), (1, .int xa9), (2, .int ya9), (3, .int xb9), (4, .int yb9)]) hx hb d_MD_paintLine_106 hl (by decide) rfl (fun ls hl => ?_)
            refine lv_lload hx hb d_MD_paintLine_108 (lv_at hl 0 rfl) ?_
            refine lv_ldc2 (v := 64) hx hb hown (hts _ (List.mem_cons_of_mem _ w_1182)) d_MD_paintLine_110 ?_
            refine lv_iload hx hb d_MD_paintLine_113 (lv_at hl 2 rfl) ?_
            refine lv_i2l (v := (nI (l8_16736)).toInt64) hx hb d_MD_paintLine_115 rfl ?_
            refine lv_cl (y := lN (l8_16736)) (nI_l (by omega)) ?_
            refine lv_lmul hx hb d_MD_paintLine_116 ?_
            refine lv_cl (y := lN (64 * l8_16736)) (lN_mul (64) (l8_16736)) ?_
            refine lv_ldc2 (v := 32) hx hb hown (hts _ (List.mem_cons_of_mem _ w_1183)) d_MD_paintLine_117 ?_
            refine lv_ladd hx hb d_MD_paintLine_120 ?_
            refine lv_cl (y := lN (64 * l8_16736 + 32)) (lN_add (64 * l8_16736) (32)) ?_
            refine lv_lload hx hb d_MD_paintLine_121 (lv_at hl 1 rfl) ?_
            refine lv_lmul hx hb d_MD_paintLine_123 ?_
            refine lv_topl (fun v16749 ev16749 => ?_)
            refine W.lcmp hx hb d_MD_paintLine_124 ?_
            refine lv_topi (fun v16750 ev16750 => ?_)
            refine lv_join (α := (Nat → Int32)) 157 (fun a_r_windings_16755 H' locs' ls' => va_P (dC, dI) cls_ [(m0, .inr (10, [.int i_fault, .int (nI (n_size)), .ref r_file, .int (nI (n_side)), .int (bI o_font), .ref r_bytes, .ref r_places, .ref r_lengths, .ref r_glyphCount, .ref r_ems, .ref r_wides, .ref r_forms, .ref r_parts, .ref r_charts, .ref r_pointCount, .ref r_contourCount, .ref r_depths, .ref r_xs, .ref r_ys, .ref r_ons, .ref r_contours, .int (bI o_bad), .int (nI (n_at)), .int (nI (n_end)), .ref r_flags, .ref r_part, .int (nI (n_typed)), .ref r_text, .int (nI (n_ring)), .ref r_ringX, .ref r_ringY, .ref r_ringOn, .int (nI (n_wait)), .ref r_curves, .ref r_windings, .ref r_rows])), (r_windings, .inl (c_windings, 1152, .inl (a_r_windings_16755)))] H' ∧ va_D A [(m0, .inr (10, [.int i_fault, .int (nI (n_size)), .ref r_file, .int (nI (n_side)), .int (bI o_font), .ref r_bytes, .ref r_places, .ref r_lengths, .ref r_glyphCount, .ref r_ems, .ref r_wides, .ref r_forms, .ref r_parts, .ref r_charts, .ref r_pointCount, .ref r_contourCount, .ref r_depths, .ref r_xs, .ref r_ys, .ref r_ons, .ref r_contours, .int (bI o_bad), .int (nI (n_at)), .int (nI (n_end)), .ref r_flags, .ref r_part, .int (nI (n_typed)), .ref r_text, .int (nI (n_ring)), .ref r_ringX, .ref r_ringY, .ref r_ringOn, .int (nI (n_wait)), .ref r_curves, .ref r_windings, .ref r_rows])), (r_windings, .inl (c_windings, 1152, .inl (a_r_windings_16755)))] ∧ va_S A s.heap H' locs' ∧ lv_has ls' 13 [(11, .long v16748), (9, .long v16742), (8, .int (nI (l8_16736))), (7, .int s0_16610), (6, .int v16603), (5, .int (nI (l5_16430))), (0, .ref m0), (1, .int xa9), (2, .int ya9), (3, .int xb9), (4, .int yb9)]) (fun a_r_windings_16755 => []) ?_ (fun kj16756 => ?_)
            · skip
              intro a_r_windings_16755 H locs ls ⟨hP, hD, hS, hl⟩
              show W p l e _ s m _ below meth c H locs _ _ _ (F0 m 157 ls [])
              have hP : va_P (dC, dI) cls_ [(m0, .inr (10, [.int i_fault, .int (nI (n_size)), .ref r_file, .int (nI (n_side)), .int (bI o_font), .ref r_bytes, .ref r_places, .ref r_lengths, .ref r_glyphCount, .ref r_ems, .ref r_wides, .ref r_forms, .ref r_parts, .ref r_charts, .ref r_pointCount, .ref r_contourCount, .ref r_depths, .ref r_xs, .ref r_ys, .ref r_ons, .ref r_contours, .int (bI o_bad), .int (nI (n_at)), .int (nI (n_end)), .ref r_flags, .ref r_part, .int (nI (n_typed)), .ref r_text, .int (nI (n_ring)), .ref r_ringX, .ref r_ringY, .ref r_ringOn, .int (nI (n_wait)), .ref r_curves, .ref r_windings, .ref r_rows])), (r_windings, .inl (c_windings, 1152, .inl (a_r_windings_16755)))] H := hP
              have hD : va_D A [(m0, .inr (10, [.int i_fault, .int (nI (n_size)), .ref r_file, .int (nI (n_side)), .int (bI o_font), .ref r_bytes, .ref r_places, .ref r_lengths, .ref r_glyphCount, .ref r_ems, .ref r_wides, .ref r_forms, .ref r_parts, .ref r_charts, .ref r_pointCount, .ref r_contourCount, .ref r_depths, .ref r_xs, .ref r_ys, .ref r_ons, .ref r_contours, .int (bI o_bad), .int (nI (n_at)), .int (nI (n_end)), .ref r_flags, .ref r_part, .int (nI (n_typed)), .ref r_text, .int (nI (n_ring)), .ref r_ringX, .ref r_ringY, .ref r_ringOn, .int (nI (n_wait)), .ref r_curves, .ref r_windings, .ref r_rows])), (r_windings, .inl (c_windings, 1152, .inl (a_r_windings_16755)))] := hD
              refine lv_iinc (k := 2) (v := nI (l8_16736 + 1)) (lv' := [(8, .int (nI (l8_16736 + 1))), (11, .long v16748), (9, .long v16742), (7, .int s0_16610), (6, .int v16603), (5, .int (nI (l5_16430))), (0, .ref m0), (1, .int xa9), (2, .int ya9), (3, .int xb9), (4, .int yb9)]) hx hb d_MD_paintLine_157 hl rfl (nI_add (l8_16736) 1) (by decide) rfl (fun ls hl => ?_)
              refine lv_goto (tgt := 63) hx hb d_MD_paintLine_160 (by decide) ?_
              have hP8 := hP.sub (ws' := [(m0, .inr (10, [.int i_fault, .int (nI (n_size)), .ref r_file, .int (nI (n_side)), .int (bI o_font), .ref r_bytes, .ref r_places, .ref r_lengths, .ref r_glyphCount, .ref r_ems, .ref r_wides, .ref r_forms, .ref r_parts, .ref r_charts, .ref r_pointCount, .ref r_contourCount, .ref r_depths, .ref r_xs, .ref r_ys, .ref r_ons, .ref r_contours, .int (bI o_bad), .int (nI (n_at)), .int (nI (n_end)), .ref r_flags, .ref r_part, .int (nI (n_typed)), .ref r_text, .int (nI (n_ring)), .ref r_ringX, .ref r_ringY, .ref r_ringOn, .int (nI (n_wait)), .ref r_curves, .ref r_windings, .ref r_rows])), (r_windings, .inl (c_windings, 1152, .inl (a_r_windings_16755)))]) [0, 1] rfl
              have hD8 := hD.sub (ws' := [(m0, .inr (10, [.int i_fault, .int (nI (n_size)), .ref r_file, .int (nI (n_side)), .int (bI o_font), .ref r_bytes, .ref r_places, .ref r_lengths, .ref r_glyphCount, .ref r_ems, .ref r_wides, .ref r_forms, .ref r_parts, .ref r_charts, .ref r_pointCount, .ref r_contourCount, .ref r_depths, .ref r_xs, .ref r_ys, .ref r_ons, .ref r_contours, .int (bI o_bad), .int (nI (n_at)), .int (nI (n_end)), .ref r_flags, .ref r_part, .int (nI (n_typed)), .ref r_text, .int (nI (n_ring)), .ref r_ringX, .ref r_ringY, .ref r_ringOn, .int (nI (n_wait)), .ref r_curves, .ref r_windings, .ref r_rows])), (r_windings, .inl (c_windings, 1152, .inl (a_r_windings_16755)))]) [0, 1] (by decide) rfl
              exact ih16737 (a_r_windings_16755, l8_16736 + 1) H locs ls (by show 48 - (l8_16736 + 1) < 48 - l8_16736; omega) ⟨hP8, hD8, hS, lv_sub hl [0, 3, 4, 5, 6, 7, 8, 9, 10] rfl, by omega⟩
            · skip
              refine lv_if_gt (tgt := 157) hx hb d_MD_paintLine_125 (by decide) (fun hc16757 => ?_) (fun hc16757 => ?_)
              · skip
                have hP8 := hP.sub (ws' := [(m0, .inr (10, [.int i_fault, .int (nI (n_size)), .ref r_file, .int (nI (n_side)), .int (bI o_font), .ref r_bytes, .ref r_places, .ref r_lengths, .ref r_glyphCount, .ref r_ems, .ref r_wides, .ref r_forms, .ref r_parts, .ref r_charts, .ref r_pointCount, .ref r_contourCount, .ref r_depths, .ref r_xs, .ref r_ys, .ref r_ons, .ref r_contours, .int (bI o_bad), .int (nI (n_at)), .int (nI (n_end)), .ref r_flags, .ref r_part, .int (nI (n_typed)), .ref r_text, .int (nI (n_ring)), .ref r_ringX, .ref r_ringY, .ref r_ringOn, .int (nI (n_wait)), .ref r_curves, .ref r_windings, .ref r_rows])), (r_windings, .inl (c_windings, 1152, .inl (a_r_windings_16735)))]) [0, 1] rfl
                have hD8 := hD.sub (ws' := [(m0, .inr (10, [.int i_fault, .int (nI (n_size)), .ref r_file, .int (nI (n_side)), .int (bI o_font), .ref r_bytes, .ref r_places, .ref r_lengths, .ref r_glyphCount, .ref r_ems, .ref r_wides, .ref r_forms, .ref r_parts, .ref r_charts, .ref r_pointCount, .ref r_contourCount, .ref r_depths, .ref r_xs, .ref r_ys, .ref r_ons, .ref r_contours, .int (bI o_bad), .int (nI (n_at)), .int (nI (n_end)), .ref r_flags, .ref r_part, .int (nI (n_typed)), .ref r_text, .int (nI (n_ring)), .ref r_ringX, .ref r_ringY, .ref r_ringOn, .int (nI (n_wait)), .ref r_curves, .ref r_windings, .ref r_rows])), (r_windings, .inl (c_windings, 1152, .inl (a_r_windings_16735)))]) [0, 1] (by decide) rfl
                exact kj16756 (a_r_windings_16735) H locs ls ⟨hP8, hD8, hS, lv_sub hl [0, 1, 2, 3, 4, 5, 6, 7, 8, 9, 10] rfl⟩
              · skip
                refine lv_aload_n hx hb d_MD_paintLine_128 rfl (lv_at hl 6 rfl) ?_
                refine va_get (D := (dC, dI)) (ci := 10) (v := .ref r_windings) (C := R_MD) (T := F_MD) (N := 36) hx hb hts in_MD hown hK hP 0 rfl rfl 34 (by decide) (hts _ (List.mem_cons_of_mem _ w_886)) (fun _ h9 => h9) rfl d_MD_paintLine_129 ?_
                refine lv_bipush (v := 48) hx hb d_MD_paintLine_132 (by decide) ?_
                refine lv_iload hx hb d_MD_paintLine_134 (lv_at hl 5 rfl) ?_
                refine lv_imul hx hb d_MD_paintLine_136 ?_
                refine lv_ci (y := nI (48 * l5_16430)) (pk_mul (48) (l5_16430)) ?_
                refine lv_iload hx hb d_MD_paintLine_137 (lv_at hl 2 rfl) ?_
                refine lv_iadd hx hb d_MD_paintLine_139 ?_
                refine lv_ci (y := nI (48 * l5_16430 + l8_16736)) (nI_add (48 * l5_16430) (l8_16736)) ?_
                refine lv_aload_n hx hb d_MD_paintLine_140 rfl (lv_at hl 6 rfl) ?_
                refine va_get (D := (dC, dI)) (ci := 10) (v := .ref r_windings) (C := R_MD) (T := F_MD) (N := 36) hx hb hts in_MD hown hK hP 0 rfl rfl 34 (by decide) (hts _ (List.mem_cons_of_mem _ w_886)) (fun _ h9 => h9) rfl d_MD_paintLine_141 ?_
                refine lv_bipush (v := 48) hx hb d_MD_paintLine_144 (by decide) ?_
                refine lv_iload hx hb d_MD_paintLine_146 (lv_at hl 5 rfl) ?_
                refine lv_imul hx hb d_MD_paintLine_148 ?_
                refine lv_ci (y := nI (48 * l5_16430)) (pk_mul (48) (l5_16430)) ?_
                refine lv_iload hx hb d_MD_paintLine_149 (lv_at hl 2 rfl) ?_
                refine lv_iadd hx hb d_MD_paintLine_151 ?_
                refine lv_ci (y := nI (48 * l5_16430 + l8_16736)) (nI_add (48 * l5_16430) (l8_16736)) ?_
                refine va_iald hx hb hK hP 1 0 rfl rfl (pk_in (48 * l5_16430 + l8_16736) 1152 (by omega) rfl (by decide)) d_MD_paintLine_152 ?_
                refine lv_topi (fun v16758 ev16758 => ?_)
                refine lv_iload hx hb d_MD_paintLine_153 (lv_at hl 3 rfl) ?_
                refine lv_iadd hx hb d_MD_paintLine_155 ?_
                refine lv_topi (fun v16759 ev16759 => ?_)
                refine va_iast hx hb hK hP hD hS 1 0 rfl rfl (pk_in (48 * l5_16430 + l8_16736) 1152 (by omega) rfl (by decide)) d_MD_paintLine_156 (fun H locs hP hD hS => ?_)
                have hP : va_P (dC, dI) cls_ [(m0, .inr (10, [.int i_fault, .int (nI (n_size)), .ref r_file, .int (nI (n_side)), .int (bI o_font), .ref r_bytes, .ref r_places, .ref r_lengths, .ref r_glyphCount, .ref r_ems, .ref r_wides, .ref r_forms, .ref r_parts, .ref r_charts, .ref r_pointCount, .ref r_contourCount, .ref r_depths, .ref r_xs, .ref r_ys, .ref r_ons, .ref r_contours, .int (bI o_bad), .int (nI (n_at)), .int (nI (n_end)), .ref r_flags, .ref r_part, .int (nI (n_typed)), .ref r_text, .int (nI (n_ring)), .ref r_ringX, .ref r_ringY, .ref r_ringOn, .int (nI (n_wait)), .ref r_curves, .ref r_windings, .ref r_rows])), (r_windings, .inl (c_windings, 1152, .inl (upd (a_r_windings_16735) (Int32.toNatClampNeg (nI (48 * l5_16430 + l8_16736))) (v16759))))] H := hP
                have hD : va_D A [(m0, .inr (10, [.int i_fault, .int (nI (n_size)), .ref r_file, .int (nI (n_side)), .int (bI o_font), .ref r_bytes, .ref r_places, .ref r_lengths, .ref r_glyphCount, .ref r_ems, .ref r_wides, .ref r_forms, .ref r_parts, .ref r_charts, .ref r_pointCount, .ref r_contourCount, .ref r_depths, .ref r_xs, .ref r_ys, .ref r_ons, .ref r_contours, .int (bI o_bad), .int (nI (n_at)), .int (nI (n_end)), .ref r_flags, .ref r_part, .int (nI (n_typed)), .ref r_text, .int (nI (n_ring)), .ref r_ringX, .ref r_ringY, .ref r_ringOn, .int (nI (n_wait)), .ref r_curves, .ref r_windings, .ref r_rows])), (r_windings, .inl (c_windings, 1152, .inl (upd (a_r_windings_16735) (Int32.toNatClampNeg (nI (48 * l5_16430 + l8_16736))) (v16759))))] := hD
                obtain ⟨g16760, eg16760⟩ : ∃ z : Nat → Int32, z = upd (a_r_windings_16735) (Int32.toNatClampNeg (nI (48 * l5_16430 + l8_16736))) (v16759) := ⟨_, rfl⟩
                rw [← eg16760] at hP hD
                have hP : va_P (dC, dI) cls_ [(m0, .inr (10, [.int i_fault, .int (nI (n_size)), .ref r_file, .int (nI (n_side)), .int (bI o_font), .ref r_bytes, .ref r_places, .ref r_lengths, .ref r_glyphCount, .ref r_ems, .ref r_wides, .ref r_forms, .ref r_parts, .ref r_charts, .ref r_pointCount, .ref r_contourCount, .ref r_depths, .ref r_xs, .ref r_ys, .ref r_ons, .ref r_contours, .int (bI o_bad), .int (nI (n_at)), .int (nI (n_end)), .ref r_flags, .ref r_part, .int (nI (n_typed)), .ref r_text, .int (nI (n_ring)), .ref r_ringX, .ref r_ringY, .ref r_ringOn, .int (nI (n_wait)), .ref r_curves, .ref r_windings, .ref r_rows])), (r_windings, .inl (c_windings, 1152, .inl (g16760)))] H := hP
                have hD : va_D A [(m0, .inr (10, [.int i_fault, .int (nI (n_size)), .ref r_file, .int (nI (n_side)), .int (bI o_font), .ref r_bytes, .ref r_places, .ref r_lengths, .ref r_glyphCount, .ref r_ems, .ref r_wides, .ref r_forms, .ref r_parts, .ref r_charts, .ref r_pointCount, .ref r_contourCount, .ref r_depths, .ref r_xs, .ref r_ys, .ref r_ons, .ref r_contours, .int (bI o_bad), .int (nI (n_at)), .int (nI (n_end)), .ref r_flags, .ref r_part, .int (nI (n_typed)), .ref r_text, .int (nI (n_ring)), .ref r_ringX, .ref r_ringY, .ref r_ringOn, .int (nI (n_wait)), .ref r_curves, .ref r_windings, .ref r_rows])), (r_windings, .inl (c_windings, 1152, .inl (g16760)))] := hD
                have hP8 := hP.sub (ws' := [(m0, .inr (10, [.int i_fault, .int (nI (n_size)), .ref r_file, .int (nI (n_side)), .int (bI o_font), .ref r_bytes, .ref r_places, .ref r_lengths, .ref r_glyphCount, .ref r_ems, .ref r_wides, .ref r_forms, .ref r_parts, .ref r_charts, .ref r_pointCount, .ref r_contourCount, .ref r_depths, .ref r_xs, .ref r_ys, .ref r_ons, .ref r_contours, .int (bI o_bad), .int (nI (n_at)), .int (nI (n_end)), .ref r_flags, .ref r_part, .int (nI (n_typed)), .ref r_text, .int (nI (n_ring)), .ref r_ringX, .ref r_ringY, .ref r_ringOn, .int (nI (n_wait)), .ref r_curves, .ref r_windings, .ref r_rows])), (r_windings, .inl (c_windings, 1152, .inl (g16760)))]) [0, 1] rfl
                have hD8 := hD.sub (ws' := [(m0, .inr (10, [.int i_fault, .int (nI (n_size)), .ref r_file, .int (nI (n_side)), .int (bI o_font), .ref r_bytes, .ref r_places, .ref r_lengths, .ref r_glyphCount, .ref r_ems, .ref r_wides, .ref r_forms, .ref r_parts, .ref r_charts, .ref r_pointCount, .ref r_contourCount, .ref r_depths, .ref r_xs, .ref r_ys, .ref r_ons, .ref r_contours, .int (bI o_bad), .int (nI (n_at)), .int (nI (n_end)), .ref r_flags, .ref r_part, .int (nI (n_typed)), .ref r_text, .int (nI (n_ring)), .ref r_ringX, .ref r_ringY, .ref r_ringOn, .int (nI (n_wait)), .ref r_curves, .ref r_windings, .ref r_rows])), (r_windings, .inl (c_windings, 1152, .inl (g16760)))]) [0, 1] (by decide) rfl
                exact kj16756 (g16760) H locs ls ⟨hP8, hD8, hS, lv_sub hl [0, 1, 2, 3, 4, 5, 6, 7, 8, 9, 10] rfl⟩
    · skip
      refine lv_icmp_gt (tgt := 40) hx hb d_MD_paintLine_26 (by decide) (fun hc16761 => ?_) (fun hc16761 => ?_)
      · skip
        refine lv_iload hx hb d_MD_paintLine_40 (lv_at hl 6 rfl) ?_
        refine lv_iload hx hb d_MD_paintLine_42 (lv_at hl 0 rfl) ?_
        refine lv_icmp_gt (tgt := 57) hx hb d_MD_paintLine_44 (by decide) (fun hc16762 => ?_) (fun hc16762 => ?_)
        · skip
          refine lv_iconst (v := 0) hx hb d_MD_paintLine_57 (by decide) ?_
          have hP8 := hP.sub (ws' := [(m0, .inr (10, [.int i_fault, .int (nI (n_size)), .ref r_file, .int (nI (n_side)), .int (bI o_font), .ref r_bytes, .ref r_places, .ref r_lengths, .ref r_glyphCount, .ref r_ems, .ref r_wides, .ref r_forms, .ref r_parts, .ref r_charts, .ref r_pointCount, .ref r_contourCount, .ref r_depths, .ref r_xs, .ref r_ys, .ref r_ons, .ref r_contours, .int (bI o_bad), .int (nI (n_at)), .int (nI (n_end)), .ref r_flags, .ref r_part, .int (nI (n_typed)), .ref r_text, .int (nI (n_ring)), .ref r_ringX, .ref r_ringY, .ref r_ringOn, .int (nI (n_wait)), .ref r_curves, .ref r_windings, .ref r_rows])), (r_windings, .inl (c_windings, 1152, .inl (a_r_windings_16429)))]) [0, 1] rfl
          have hD8 := hD.sub (ws' := [(m0, .inr (10, [.int i_fault, .int (nI (n_size)), .ref r_file, .int (nI (n_side)), .int (bI o_font), .ref r_bytes, .ref r_places, .ref r_lengths, .ref r_glyphCount, .ref r_ems, .ref r_wides, .ref r_forms, .ref r_parts, .ref r_charts, .ref r_pointCount, .ref r_contourCount, .ref r_depths, .ref r_xs, .ref r_ys, .ref r_ons, .ref r_contours, .int (bI o_bad), .int (nI (n_at)), .int (nI (n_end)), .ref r_flags, .ref r_part, .int (nI (n_typed)), .ref r_text, .int (nI (n_ring)), .ref r_ringX, .ref r_ringY, .ref r_ringOn, .int (nI (n_wait)), .ref r_curves, .ref r_windings, .ref r_rows])), (r_windings, .inl (c_windings, 1152, .inl (a_r_windings_16429)))]) [0, 1] (by decide) rfl
          exact kj16611 (0) H locs ls ⟨hP8, hD8, hS, lv_sub hl [0, 1, 2, 3, 4, 5, 6] rfl⟩
        · skip
          refine lv_iload_n hx hb d_MD_paintLine_47 rfl (lv_at hl 4 rfl) ?_
          refine lv_iload hx hb d_MD_paintLine_48 (lv_at hl 0 rfl) ?_
          refine lv_icmp_le (tgt := 57) hx hb d_MD_paintLine_50 (by decide) (fun hc16763 => ?_) (fun hc16763 => ?_)
          · skip
            refine lv_iconst (v := 0) hx hb d_MD_paintLine_57 (by decide) ?_
            have hP8 := hP.sub (ws' := [(m0, .inr (10, [.int i_fault, .int (nI (n_size)), .ref r_file, .int (nI (n_side)), .int (bI o_font), .ref r_bytes, .ref r_places, .ref r_lengths, .ref r_glyphCount, .ref r_ems, .ref r_wides, .ref r_forms, .ref r_parts, .ref r_charts, .ref r_pointCount, .ref r_contourCount, .ref r_depths, .ref r_xs, .ref r_ys, .ref r_ons, .ref r_contours, .int (bI o_bad), .int (nI (n_at)), .int (nI (n_end)), .ref r_flags, .ref r_part, .int (nI (n_typed)), .ref r_text, .int (nI (n_ring)), .ref r_ringX, .ref r_ringY, .ref r_ringOn, .int (nI (n_wait)), .ref r_curves, .ref r_windings, .ref r_rows])), (r_windings, .inl (c_windings, 1152, .inl (a_r_windings_16429)))]) [0, 1] rfl
            have hD8 := hD.sub (ws' := [(m0, .inr (10, [.int i_fault, .int (nI (n_size)), .ref r_file, .int (nI (n_side)), .int (bI o_font), .ref r_bytes, .ref r_places, .ref r_lengths, .ref r_glyphCount, .ref r_ems, .ref r_wides, .ref r_forms, .ref r_parts, .ref r_charts, .ref r_pointCount, .ref r_contourCount, .ref r_depths, .ref r_xs, .ref r_ys, .ref r_ons, .ref r_contours, .int (bI o_bad), .int (nI (n_at)), .int (nI (n_end)), .ref r_flags, .ref r_part, .int (nI (n_typed)), .ref r_text, .int (nI (n_ring)), .ref r_ringX, .ref r_ringY, .ref r_ringOn, .int (nI (n_wait)), .ref r_curves, .ref r_windings, .ref r_rows])), (r_windings, .inl (c_windings, 1152, .inl (a_r_windings_16429)))]) [0, 1] (by decide) rfl
            exact kj16611 (0) H locs ls ⟨hP8, hD8, hS, lv_sub hl [0, 1, 2, 3, 4, 5, 6] rfl⟩
          · skip
            refine lv_iconst (v := (-1)) hx hb d_MD_paintLine_53 (by decide) ?_
            refine lv_goto (tgt := 58) hx hb d_MD_paintLine_54 (by decide) ?_
            have hP8 := hP.sub (ws' := [(m0, .inr (10, [.int i_fault, .int (nI (n_size)), .ref r_file, .int (nI (n_side)), .int (bI o_font), .ref r_bytes, .ref r_places, .ref r_lengths, .ref r_glyphCount, .ref r_ems, .ref r_wides, .ref r_forms, .ref r_parts, .ref r_charts, .ref r_pointCount, .ref r_contourCount, .ref r_depths, .ref r_xs, .ref r_ys, .ref r_ons, .ref r_contours, .int (bI o_bad), .int (nI (n_at)), .int (nI (n_end)), .ref r_flags, .ref r_part, .int (nI (n_typed)), .ref r_text, .int (nI (n_ring)), .ref r_ringX, .ref r_ringY, .ref r_ringOn, .int (nI (n_wait)), .ref r_curves, .ref r_windings, .ref r_rows])), (r_windings, .inl (c_windings, 1152, .inl (a_r_windings_16429)))]) [0, 1] rfl
            have hD8 := hD.sub (ws' := [(m0, .inr (10, [.int i_fault, .int (nI (n_size)), .ref r_file, .int (nI (n_side)), .int (bI o_font), .ref r_bytes, .ref r_places, .ref r_lengths, .ref r_glyphCount, .ref r_ems, .ref r_wides, .ref r_forms, .ref r_parts, .ref r_charts, .ref r_pointCount, .ref r_contourCount, .ref r_depths, .ref r_xs, .ref r_ys, .ref r_ons, .ref r_contours, .int (bI o_bad), .int (nI (n_at)), .int (nI (n_end)), .ref r_flags, .ref r_part, .int (nI (n_typed)), .ref r_text, .int (nI (n_ring)), .ref r_ringX, .ref r_ringY, .ref r_ringOn, .int (nI (n_wait)), .ref r_curves, .ref r_windings, .ref r_rows])), (r_windings, .inl (c_windings, 1152, .inl (a_r_windings_16429)))]) [0, 1] (by decide) rfl
            exact kj16611 ((-1)) H locs ls ⟨hP8, hD8, hS, lv_sub hl [0, 1, 2, 3, 4, 5, 6] rfl⟩
      · skip
        refine lv_iload hx hb d_MD_paintLine_29 (lv_at hl 6 rfl) ?_
        refine lv_iload hx hb d_MD_paintLine_31 (lv_at hl 0 rfl) ?_
        refine lv_icmp_le (tgt := 40) hx hb d_MD_paintLine_33 (by decide) (fun hc16764 => ?_) (fun hc16764 => ?_)
        · skip
          refine lv_iload hx hb d_MD_paintLine_40 (lv_at hl 6 rfl) ?_
          refine lv_iload hx hb d_MD_paintLine_42 (lv_at hl 0 rfl) ?_
          refine lv_icmp_gt (tgt := 57) hx hb d_MD_paintLine_44 (by decide) (fun hc16765 => ?_) (fun hc16765 => ?_)
          · skip
            refine lv_iconst (v := 0) hx hb d_MD_paintLine_57 (by decide) ?_
            have hP8 := hP.sub (ws' := [(m0, .inr (10, [.int i_fault, .int (nI (n_size)), .ref r_file, .int (nI (n_side)), .int (bI o_font), .ref r_bytes, .ref r_places, .ref r_lengths, .ref r_glyphCount, .ref r_ems, .ref r_wides, .ref r_forms, .ref r_parts, .ref r_charts, .ref r_pointCount, .ref r_contourCount, .ref r_depths, .ref r_xs, .ref r_ys, .ref r_ons, .ref r_contours, .int (bI o_bad), .int (nI (n_at)), .int (nI (n_end)), .ref r_flags, .ref r_part, .int (nI (n_typed)), .ref r_text, .int (nI (n_ring)), .ref r_ringX, .ref r_ringY, .ref r_ringOn, .int (nI (n_wait)), .ref r_curves, .ref r_windings, .ref r_rows])), (r_windings, .inl (c_windings, 1152, .inl (a_r_windings_16429)))]) [0, 1] rfl
            have hD8 := hD.sub (ws' := [(m0, .inr (10, [.int i_fault, .int (nI (n_size)), .ref r_file, .int (nI (n_side)), .int (bI o_font), .ref r_bytes, .ref r_places, .ref r_lengths, .ref r_glyphCount, .ref r_ems, .ref r_wides, .ref r_forms, .ref r_parts, .ref r_charts, .ref r_pointCount, .ref r_contourCount, .ref r_depths, .ref r_xs, .ref r_ys, .ref r_ons, .ref r_contours, .int (bI o_bad), .int (nI (n_at)), .int (nI (n_end)), .ref r_flags, .ref r_part, .int (nI (n_typed)), .ref r_text, .int (nI (n_ring)), .ref r_ringX, .ref r_ringY, .ref r_ringOn, .int (nI (n_wait)), .ref r_curves, .ref r_windings, .ref r_rows])), (r_windings, .inl (c_windings, 1152, .inl (a_r_windings_16429)))]) [0, 1] (by decide) rfl
            exact kj16611 (0) H locs ls ⟨hP8, hD8, hS, lv_sub hl [0, 1, 2, 3, 4, 5, 6] rfl⟩
          · skip
            refine lv_iload_n hx hb d_MD_paintLine_47 rfl (lv_at hl 4 rfl) ?_
            refine lv_iload hx hb d_MD_paintLine_48 (lv_at hl 0 rfl) ?_
            refine lv_icmp_le (tgt := 57) hx hb d_MD_paintLine_50 (by decide) (fun hc16766 => ?_) (fun hc16766 => ?_)
            · skip
              refine lv_iconst (v := 0) hx hb d_MD_paintLine_57 (by decide) ?_
              have hP8 := hP.sub (ws' := [(m0, .inr (10, [.int i_fault, .int (nI (n_size)), .ref r_file, .int (nI (n_side)), .int (bI o_font), .ref r_bytes, .ref r_places, .ref r_lengths, .ref r_glyphCount, .ref r_ems, .ref r_wides, .ref r_forms, .ref r_parts, .ref r_charts, .ref r_pointCount, .ref r_contourCount, .ref r_depths, .ref r_xs, .ref r_ys, .ref r_ons, .ref r_contours, .int (bI o_bad), .int (nI (n_at)), .int (nI (n_end)), .ref r_flags, .ref r_part, .int (nI (n_typed)), .ref r_text, .int (nI (n_ring)), .ref r_ringX, .ref r_ringY, .ref r_ringOn, .int (nI (n_wait)), .ref r_curves, .ref r_windings, .ref r_rows])), (r_windings, .inl (c_windings, 1152, .inl (a_r_windings_16429)))]) [0, 1] rfl
              have hD8 := hD.sub (ws' := [(m0, .inr (10, [.int i_fault, .int (nI (n_size)), .ref r_file, .int (nI (n_side)), .int (bI o_font), .ref r_bytes, .ref r_places, .ref r_lengths, .ref r_glyphCount, .ref r_ems, .ref r_wides, .ref r_forms, .ref r_parts, .ref r_charts, .ref r_pointCount, .ref r_contourCount, .ref r_depths, .ref r_xs, .ref r_ys, .ref r_ons, .ref r_contours, .int (bI o_bad), .int (nI (n_at)), .int (nI (n_end)), .ref r_flags, .ref r_part, .int (nI (n_typed)), .ref r_text, .int (nI (n_ring)), .ref r_ringX, .ref r_ringY, .ref r_ringOn, .int (nI (n_wait)), .ref r_curves, .ref r_windings, .ref r_rows])), (r_windings, .inl (c_windings, 1152, .inl (a_r_windings_16429)))]) [0, 1] (by decide) rfl
              exact kj16611 (0) H locs ls ⟨hP8, hD8, hS, lv_sub hl [0, 1, 2, 3, 4, 5, 6] rfl⟩
            · skip
              refine lv_iconst (v := (-1)) hx hb d_MD_paintLine_53 (by decide) ?_
              refine lv_goto (tgt := 58) hx hb d_MD_paintLine_54 (by decide) ?_
              have hP8 := hP.sub (ws' := [(m0, .inr (10, [.int i_fault, .int (nI (n_size)), .ref r_file, .int (nI (n_side)), .int (bI o_font), .ref r_bytes, .ref r_places, .ref r_lengths, .ref r_glyphCount, .ref r_ems, .ref r_wides, .ref r_forms, .ref r_parts, .ref r_charts, .ref r_pointCount, .ref r_contourCount, .ref r_depths, .ref r_xs, .ref r_ys, .ref r_ons, .ref r_contours, .int (bI o_bad), .int (nI (n_at)), .int (nI (n_end)), .ref r_flags, .ref r_part, .int (nI (n_typed)), .ref r_text, .int (nI (n_ring)), .ref r_ringX, .ref r_ringY, .ref r_ringOn, .int (nI (n_wait)), .ref r_curves, .ref r_windings, .ref r_rows])), (r_windings, .inl (c_windings, 1152, .inl (a_r_windings_16429)))]) [0, 1] rfl
              have hD8 := hD.sub (ws' := [(m0, .inr (10, [.int i_fault, .int (nI (n_size)), .ref r_file, .int (nI (n_side)), .int (bI o_font), .ref r_bytes, .ref r_places, .ref r_lengths, .ref r_glyphCount, .ref r_ems, .ref r_wides, .ref r_forms, .ref r_parts, .ref r_charts, .ref r_pointCount, .ref r_contourCount, .ref r_depths, .ref r_xs, .ref r_ys, .ref r_ons, .ref r_contours, .int (bI o_bad), .int (nI (n_at)), .int (nI (n_end)), .ref r_flags, .ref r_part, .int (nI (n_typed)), .ref r_text, .int (nI (n_ring)), .ref r_ringX, .ref r_ringY, .ref r_ringOn, .int (nI (n_wait)), .ref r_curves, .ref r_windings, .ref r_rows])), (r_windings, .inl (c_windings, 1152, .inl (a_r_windings_16429)))]) [0, 1] (by decide) rfl
              exact kj16611 ((-1)) H locs ls ⟨hP8, hD8, hS, lv_sub hl [0, 1, 2, 3, 4, 5, 6] rfl⟩
        · skip
          refine lv_iconst (v := 1) hx hb d_MD_paintLine_36 (by decide) ?_
          refine lv_goto (tgt := 58) hx hb d_MD_paintLine_37 (by decide) ?_
          have hP8 := hP.sub (ws' := [(m0, .inr (10, [.int i_fault, .int (nI (n_size)), .ref r_file, .int (nI (n_side)), .int (bI o_font), .ref r_bytes, .ref r_places, .ref r_lengths, .ref r_glyphCount, .ref r_ems, .ref r_wides, .ref r_forms, .ref r_parts, .ref r_charts, .ref r_pointCount, .ref r_contourCount, .ref r_depths, .ref r_xs, .ref r_ys, .ref r_ons, .ref r_contours, .int (bI o_bad), .int (nI (n_at)), .int (nI (n_end)), .ref r_flags, .ref r_part, .int (nI (n_typed)), .ref r_text, .int (nI (n_ring)), .ref r_ringX, .ref r_ringY, .ref r_ringOn, .int (nI (n_wait)), .ref r_curves, .ref r_windings, .ref r_rows])), (r_windings, .inl (c_windings, 1152, .inl (a_r_windings_16429)))]) [0, 1] rfl
          have hD8 := hD.sub (ws' := [(m0, .inr (10, [.int i_fault, .int (nI (n_size)), .ref r_file, .int (nI (n_side)), .int (bI o_font), .ref r_bytes, .ref r_places, .ref r_lengths, .ref r_glyphCount, .ref r_ems, .ref r_wides, .ref r_forms, .ref r_parts, .ref r_charts, .ref r_pointCount, .ref r_contourCount, .ref r_depths, .ref r_xs, .ref r_ys, .ref r_ons, .ref r_contours, .int (bI o_bad), .int (nI (n_at)), .int (nI (n_end)), .ref r_flags, .ref r_part, .int (nI (n_typed)), .ref r_text, .int (nI (n_ring)), .ref r_ringX, .ref r_ringY, .ref r_ringOn, .int (nI (n_wait)), .ref r_curves, .ref r_windings, .ref r_rows])), (r_windings, .inl (c_windings, 1152, .inl (a_r_windings_16429)))]) [0, 1] (by decide) rfl
          exact kj16611 (1) H locs ls ⟨hP8, hD8, hS, lv_sub hl [0, 1, 2, 3, 4, 5, 6] rfl⟩
set_option maxHeartbeats 4000000 in
set_option maxRecDepth 100000 in
/-- GlyphLinesModel.wait7 -/
theorem g_MD_wait7 (l : Launch) (dC : Nat → ClassId) (dI : Nat → Nat → Nat) (m0 : Nat) (i_fault : Int32) (n_size : Nat) (r_file : Nat) (n_side : Nat) (o_font : Bool) (r_bytes : Nat) (r_places : Nat) (r_lengths : Nat) (r_glyphCount : Nat) (r_ems : Nat) (r_wides : Nat) (r_forms : Nat) (r_parts : Nat) (r_charts : Nat) (r_pointCount : Nat) (r_contourCount : Nat) (r_depths : Nat) (r_xs : Nat) (r_ys : Nat) (r_ons : Nat) (r_contours : Nat) (o_bad : Bool) (n_at : Nat) (n_end : Nat) (r_flags : Nat) (r_part : Nat) (n_typed : Nat) (r_text : Nat) (n_ring : Nat) (r_ringX : Nat) (r_ringY : Nat) (r_ringOn : Nat) (n_wait : Nat) (r_curves : Nat) (r_windings : Nat) (r_rows : Nat) (c_curves : ClassId) (v_curves : Nat → Int32) (pa9 : Int32) (pb9 : Int32) (pc9 : Int32) (pd9 : Int32) (pe9 : Int32) (pg9 : Int32) (tm9 : Nat) (sz : Nat) (hq0 : n_size ≤ 1200) (hq1 : n_side ≤ 1) (hq2 : n_typed ≤ 12) (hq3 : n_wait ≤ 18) : Met l y_MD_wait7 s_MD_wait7 ({ frames := 8, cells := 0, slots := 0, locals := 200 }) (va_Pc [.ref m0, .int pa9, .int pb9, .int pc9, .int pd9, .int pe9, .int pg9, .int (nI (tm9))] (fun U => U.heap.size = sz ∧ va_P (dC, dI) cls_ [(m0, .inr (10, [.int i_fault, .int (nI (n_size)), .ref r_file, .int (nI (n_side)), .int (bI o_font), .ref r_bytes, .ref r_places, .ref r_lengths, .ref r_glyphCount, .ref r_ems, .ref r_wides, .ref r_forms, .ref r_parts, .ref r_charts, .ref r_pointCount, .ref r_contourCount, .ref r_depths, .ref r_xs, .ref r_ys, .ref r_ons, .ref r_contours, .int (bI o_bad), .int (nI (n_at)), .int (nI (n_end)), .ref r_flags, .ref r_part, .int (nI (n_typed)), .ref r_text, .int (nI (n_ring)), .ref r_ringX, .ref r_ringY, .ref r_ringOn, .int (nI (n_wait)), .ref r_curves, .ref r_windings, .ref r_rows])), (r_curves, .inl (c_curves, 140, .inl (v_curves)))] U.heap ∧ va_K (dC, dI) cls_ [(c_curves, .int)] U ∧ va_D (fun _ => True) [(m0, .inr (10, [.int i_fault, .int (nI (n_size)), .ref r_file, .int (nI (n_side)), .int (bI o_font), .ref r_bytes, .ref r_places, .ref r_lengths, .ref r_glyphCount, .ref r_ems, .ref r_wides, .ref r_forms, .ref r_parts, .ref r_charts, .ref r_pointCount, .ref r_contourCount, .ref r_depths, .ref r_xs, .ref r_ys, .ref r_ons, .ref r_contours, .int (bI o_bad), .int (nI (n_at)), .int (nI (n_end)), .ref r_flags, .ref r_part, .int (nI (n_typed)), .ref r_text, .int (nI (n_ring)), .ref r_ringX, .ref r_ringY, .ref r_ringOn, .int (nI (n_wait)), .ref r_curves, .ref r_windings, .ref r_rows])), (r_curves, .inl (c_curves, 140, .inl (v_curves)))])) (va_Qv (fun _ : Unit => True) (fun (_ : Unit) (t : State) => ∃ (n_wait_2 : Nat) (v_curves_2 : Nat → Int32), n_wait_2 = n_wait + 1 ∧ (∀ i : Nat, i < 7 * n_wait → v_curves_2 i = v_curves i) ∧ v_curves_2 (7 * n_wait + 6) = nI tm9 ∧ va_P (dC, dI) cls_ [(m0, .inr (10, [.int i_fault, .int (nI (n_size)), .ref r_file, .int (nI (n_side)), .int (bI o_font), .ref r_bytes, .ref r_places, .ref r_lengths, .ref r_glyphCount, .ref r_ems, .ref r_wides, .ref r_forms, .ref r_parts, .ref r_charts, .ref r_pointCount, .ref r_contourCount, .ref r_depths, .ref r_xs, .ref r_ys, .ref r_ons, .ref r_contours, .int (bI o_bad), .int (nI (n_at)), .int (nI (n_end)), .ref r_flags, .ref r_part, .int (nI (n_typed)), .ref r_text, .int (nI (n_ring)), .ref r_ringX, .ref r_ringY, .ref r_ringOn, .int (nI (n_wait_2)), .ref r_curves, .ref r_windings, .ref r_rows])), (r_curves, .inl (c_curves, 140, .inl (v_curves_2)))] t.heap ∧ va_K (dC, dI) cls_ [(c_curves, .int)] t ∧ va_D (va_A [(m0, .inr (10, [.int i_fault, .int (nI (n_size)), .ref r_file, .int (nI (n_side)), .int (bI o_font), .ref r_bytes, .ref r_places, .ref r_lengths, .ref r_glyphCount, .ref r_ems, .ref r_wides, .ref r_forms, .ref r_parts, .ref r_charts, .ref r_pointCount, .ref r_contourCount, .ref r_depths, .ref r_xs, .ref r_ys, .ref r_ons, .ref r_contours, .int (bI o_bad), .int (nI (n_at)), .int (nI (n_end)), .ref r_flags, .ref r_part, .int (nI (n_typed)), .ref r_text, .int (nI (n_ring)), .ref r_ringX, .ref r_ringY, .ref r_ringOn, .int (nI (n_wait)), .ref r_curves, .ref r_windings, .ref r_rows])), (r_curves, .inl (c_curves, 140, .inl (v_curves)))] sz) [(m0, .inr (10, [.int i_fault, .int (nI (n_size)), .ref r_file, .int (nI (n_side)), .int (bI o_font), .ref r_bytes, .ref r_places, .ref r_lengths, .ref r_glyphCount, .ref r_ems, .ref r_wides, .ref r_forms, .ref r_parts, .ref r_charts, .ref r_pointCount, .ref r_contourCount, .ref r_depths, .ref r_xs, .ref r_ys, .ref r_ons, .ref r_contours, .int (bI o_bad), .int (nI (n_at)), .int (nI (n_end)), .ref r_flags, .ref r_part, .int (nI (n_typed)), .ref r_text, .int (nI (n_ring)), .ref r_ringX, .ref r_ringY, .ref r_ringOn, .int (nI (n_wait_2)), .ref r_curves, .ref r_windings, .ref r_rows])), (r_curves, .inl (c_curves, 140, .inl (v_curves_2)))]) (va_A [(m0, .inr (10, [.int i_fault, .int (nI (n_size)), .ref r_file, .int (nI (n_side)), .int (bI o_font), .ref r_bytes, .ref r_places, .ref r_lengths, .ref r_glyphCount, .ref r_ems, .ref r_wides, .ref r_forms, .ref r_parts, .ref r_charts, .ref r_pointCount, .ref r_contourCount, .ref r_depths, .ref r_xs, .ref r_ys, .ref r_ons, .ref r_contours, .int (bI o_bad), .int (nI (n_at)), .int (nI (n_end)), .ref r_flags, .ref r_part, .int (nI (n_typed)), .ref r_text, .int (nI (n_ring)), .ref r_ringX, .ref r_ringY, .ref r_ringOn, .int (nI (n_wait)), .ref r_curves, .ref r_windings, .ref r_rows])), (r_curves, .inl (c_curves, 140, .inl (v_curves)))] sz)) 0 0 (va_A [(m0, .inr (10, [.int i_fault, .int (nI (n_size)), .ref r_file, .int (nI (n_side)), .int (bI o_font), .ref r_bytes, .ref r_places, .ref r_lengths, .ref r_glyphCount, .ref r_ems, .ref r_wides, .ref r_forms, .ref r_parts, .ref r_charts, .ref r_pointCount, .ref r_contourCount, .ref r_depths, .ref r_xs, .ref r_ys, .ref r_ons, .ref r_contours, .int (bI o_bad), .int (nI (n_at)), .int (nI (n_end)), .ref r_flags, .ref r_part, .int (nI (n_typed)), .ref r_text, .int (nI (n_ring)), .ref r_ringX, .ref r_ringY, .ref r_ringOn, .int (nI (n_wait)), .ref r_curves, .ref r_windings, .ref r_rows])), (r_curves, .inl (c_curves, 140, .inl (v_curves)))] sz) := by
  refine Met.ofW (cc := b_MD_wait7) (maxL := 9) (ret := none) (by decide) rfl ?_
  intro p e s m args below meth c s₁ B hml hv
  obtain ⟨rfl, hsz, hP, hK, hD0⟩ := hv
  have hx := B.exec
  have hb := B.bytes
  have hr := B.returns
  have hts := atoms_spec (ws := s_MD_wait7) B.pre
  have hown : s.vm.findClass R_MD = some m.cls := findClass_of_methodNamed B.named
  have hlocks := B.notSynchronized
  subst hsz
  have hD := hD0.self (sz := s.heap.size)
  generalize hAe : va_A [(m0, .inr (10, [.int i_fault, .int (nI (n_size)), .ref r_file, .int (nI (n_side)), .int (bI o_font), .ref r_bytes, .ref r_places, .ref r_lengths, .ref r_glyphCount, .ref r_ems, .ref r_wides, .ref r_forms, .ref r_parts, .ref r_charts, .ref r_pointCount, .ref r_contourCount, .ref r_depths, .ref r_xs, .ref r_ys, .ref r_ons, .ref r_contours, .int (bI o_bad), .int (nI (n_at)), .int (nI (n_end)), .ref r_flags, .ref r_part, .int (nI (n_typed)), .ref r_text, .int (nI (n_ring)), .ref r_ringX, .ref r_ringY, .ref r_ringOn, .int (nI (n_wait)), .ref r_curves, .ref r_windings, .ref r_rows])), (r_curves, .inl (c_curves, 140, .inl (v_curves)))] s.heap.size = A at hD ⊢
  have hA : ∀ q : Nat, s.heap.size ≤ q → A q := fun q h => by rw [← hAe]; exact Or.inr h
  have hS : va_S A s.heap s.heap [] := va_S.rf
  have hP : va_P (dC, dI) cls_ [(m0, .inr (10, [.int i_fault, .int (nI (n_size)), .ref r_file, .int (nI (n_side)), .int (bI o_font), .ref r_bytes, .ref r_places, .ref r_lengths, .ref r_glyphCount, .ref r_ems, .ref r_wides, .ref r_forms, .ref r_parts, .ref r_charts, .ref r_pointCount, .ref r_contourCount, .ref r_depths, .ref r_xs, .ref r_ys, .ref r_ons, .ref r_contours, .int (bI o_bad), .int (nI (n_at)), .int (nI (n_end)), .ref r_flags, .ref r_part, .int (nI (n_typed)), .ref r_text, .int (nI (n_ring)), .ref r_ringX, .ref r_ringY, .ref r_ringOn, .int (nI (n_wait)), .ref r_curves, .ref r_windings, .ref r_rows])), (r_curves, .inl (c_curves, 140, .inl (v_curves)))] s.heap := hP
  have hl := lv_entry ([.ref m0, .int pa9, .int pb9, .int pc9, .int pd9, .int pe9, .int pg9, .int (nI (tm9))]) (n := 9) (Nat.le_of_ble_eq_true rfl)
  rw [lg_entry_eq]
  generalize (lg_sl ([.ref m0, .int pa9, .int pb9, .int pc9, .int pd9, .int pe9, .int pg9, .int (nI (tm9))]) ++ List.replicate (9 - (lg_sl ([.ref m0, .int pa9, .int pb9, .int pc9, .int pd9, .int pe9, .int pg9, .int (nI (tm9))])).length) Slot.unset).toArray = ls at hl ⊢
  have hl : lv_has ls 9 [(0, .ref m0), (1, .int pa9), (2, .int pb9), (3, .int pc9), (4, .int pd9), (5, .int pe9), (6, .int pg9), (7, .int (nI (tm9)))] := hl
  refine lv_bipush (v := 7) hx hb d_MD_wait7_0 (by decide) ?_
  refine lv_aload_n hx hb d_MD_wait7_2 rfl (lv_at hl 0 rfl) ?_
  refine va_get (D := (dC, dI)) (ci := 10) (v := .int (nI (n_wait))) (C := R_MD) (T := F_MD) (N := 36) hx hb hts in_MD hown hK hP 0 rfl rfl 32 (by decide) (hts _ (List.mem_cons_of_mem _ w_884)) (fun _ h9 => h9) rfl d_MD_wait7_3 ?_
  refine lv_imul hx hb d_MD_wait7_6 ?_
  refine lv_ci (y := nI (7 * n_wait)) (pk_mul (7) (n_wait)) ?_
  refine lv_istore (lv' := [(8, .int (nI (7 * n_wait))), (0, .ref m0), (1, .int pa9), (2, .int pb9), (3, .int pc9), (4, .int pd9), (5, .int pe9), (6, .int pg9), (7, .int (nI (tm9)))]) hx hb d_MD_wait7_7 hl (by decide) rfl (fun ls hl => ?_)
  refine lv_aload_n hx hb d_MD_wait7_9 rfl (lv_at hl 1 rfl) ?_
  refine va_get (D := (dC, dI)) (ci := 10) (v := .ref r_curves) (C := R_MD) (T := F_MD) (N := 36) hx hb hts in_MD hown hK hP 0 rfl rfl 33 (by decide) (hts _ (List.mem_cons_of_mem _ w_885)) (fun _ h9 => h9) rfl d_MD_wait7_10 ?_
  refine lv_iload hx hb d_MD_wait7_13 (lv_at hl 0 rfl) ?_
  refine lv_iload_n hx hb d_MD_wait7_15 rfl (lv_at hl 2 rfl) ?_
  refine va_iast hx hb hK hP hD hS 1 0 rfl rfl (pk_in (7 * n_wait) 140 (by omega) rfl (by decide)) d_MD_wait7_16 (fun H locs hP hD hS => ?_)
  have hP : va_P (dC, dI) cls_ [(m0, .inr (10, [.int i_fault, .int (nI (n_size)), .ref r_file, .int (nI (n_side)), .int (bI o_font), .ref r_bytes, .ref r_places, .ref r_lengths, .ref r_glyphCount, .ref r_ems, .ref r_wides, .ref r_forms, .ref r_parts, .ref r_charts, .ref r_pointCount, .ref r_contourCount, .ref r_depths, .ref r_xs, .ref r_ys, .ref r_ons, .ref r_contours, .int (bI o_bad), .int (nI (n_at)), .int (nI (n_end)), .ref r_flags, .ref r_part, .int (nI (n_typed)), .ref r_text, .int (nI (n_ring)), .ref r_ringX, .ref r_ringY, .ref r_ringOn, .int (nI (n_wait)), .ref r_curves, .ref r_windings, .ref r_rows])), (r_curves, .inl (c_curves, 140, .inl (upd (v_curves) (Int32.toNatClampNeg (nI (7 * n_wait))) (pa9))))] H := hP
  have hD : va_D A [(m0, .inr (10, [.int i_fault, .int (nI (n_size)), .ref r_file, .int (nI (n_side)), .int (bI o_font), .ref r_bytes, .ref r_places, .ref r_lengths, .ref r_glyphCount, .ref r_ems, .ref r_wides, .ref r_forms, .ref r_parts, .ref r_charts, .ref r_pointCount, .ref r_contourCount, .ref r_depths, .ref r_xs, .ref r_ys, .ref r_ons, .ref r_contours, .int (bI o_bad), .int (nI (n_at)), .int (nI (n_end)), .ref r_flags, .ref r_part, .int (nI (n_typed)), .ref r_text, .int (nI (n_ring)), .ref r_ringX, .ref r_ringY, .ref r_ringOn, .int (nI (n_wait)), .ref r_curves, .ref r_windings, .ref r_rows])), (r_curves, .inl (c_curves, 140, .inl (upd (v_curves) (Int32.toNatClampNeg (nI (7 * n_wait))) (pa9))))] := hD
  obtain ⟨g16767, eg16767⟩ : ∃ z : Nat → Int32, z = upd (v_curves) (Int32.toNatClampNeg (nI (7 * n_wait))) (pa9) := ⟨_, rfl⟩
  rw [← eg16767] at hP hD
  have hP : va_P (dC, dI) cls_ [(m0, .inr (10, [.int i_fault, .int (nI (n_size)), .ref r_file, .int (nI (n_side)), .int (bI o_font), .ref r_bytes, .ref r_places, .ref r_lengths, .ref r_glyphCount, .ref r_ems, .ref r_wides, .ref r_forms, .ref r_parts, .ref r_charts, .ref r_pointCount, .ref r_contourCount, .ref r_depths, .ref r_xs, .ref r_ys, .ref r_ons, .ref r_contours, .int (bI o_bad), .int (nI (n_at)), .int (nI (n_end)), .ref r_flags, .ref r_part, .int (nI (n_typed)), .ref r_text, .int (nI (n_ring)), .ref r_ringX, .ref r_ringY, .ref r_ringOn, .int (nI (n_wait)), .ref r_curves, .ref r_windings, .ref r_rows])), (r_curves, .inl (c_curves, 140, .inl (g16767)))] H := hP
  have hD : va_D A [(m0, .inr (10, [.int i_fault, .int (nI (n_size)), .ref r_file, .int (nI (n_side)), .int (bI o_font), .ref r_bytes, .ref r_places, .ref r_lengths, .ref r_glyphCount, .ref r_ems, .ref r_wides, .ref r_forms, .ref r_parts, .ref r_charts, .ref r_pointCount, .ref r_contourCount, .ref r_depths, .ref r_xs, .ref r_ys, .ref r_ons, .ref r_contours, .int (bI o_bad), .int (nI (n_at)), .int (nI (n_end)), .ref r_flags, .ref r_part, .int (nI (n_typed)), .ref r_text, .int (nI (n_ring)), .ref r_ringX, .ref r_ringY, .ref r_ringOn, .int (nI (n_wait)), .ref r_curves, .ref r_windings, .ref r_rows])), (r_curves, .inl (c_curves, 140, .inl (g16767)))] := hD
  refine lv_aload_n hx hb d_MD_wait7_17 rfl (lv_at hl 1 rfl) ?_
  refine va_get (D := (dC, dI)) (ci := 10) (v := .ref r_curves) (C := R_MD) (T := F_MD) (N := 36) hx hb hts in_MD hown hK hP 0 rfl rfl 33 (by decide) (hts _ (List.mem_cons_of_mem _ w_885)) (fun _ h9 => h9) rfl d_MD_wait7_18 ?_
  refine lv_iload hx hb d_MD_wait7_21 (lv_at hl 0 rfl) ?_
  refine lv_iconst (v := 1) hx hb d_MD_wait7_23 (by decide) ?_
  refine lv_iadd hx hb d_MD_wait7_24 ?_
  refine lv_ci (y := nI (7 * n_wait + 1)) (nI_add (7 * n_wait) (1)) ?_
  refine lv_iload_n hx hb d_MD_wait7_25 rfl (lv_at hl 3 rfl) ?_
  refine va_iast hx hb hK hP hD hS 1 0 rfl rfl (pk_in (7 * n_wait + 1) 140 (by omega) rfl (by decide)) d_MD_wait7_26 (fun H locs hP hD hS => ?_)
  have hP : va_P (dC, dI) cls_ [(m0, .inr (10, [.int i_fault, .int (nI (n_size)), .ref r_file, .int (nI (n_side)), .int (bI o_font), .ref r_bytes, .ref r_places, .ref r_lengths, .ref r_glyphCount, .ref r_ems, .ref r_wides, .ref r_forms, .ref r_parts, .ref r_charts, .ref r_pointCount, .ref r_contourCount, .ref r_depths, .ref r_xs, .ref r_ys, .ref r_ons, .ref r_contours, .int (bI o_bad), .int (nI (n_at)), .int (nI (n_end)), .ref r_flags, .ref r_part, .int (nI (n_typed)), .ref r_text, .int (nI (n_ring)), .ref r_ringX, .ref r_ringY, .ref r_ringOn, .int (nI (n_wait)), .ref r_curves, .ref r_windings, .ref r_rows])), (r_curves, .inl (c_curves, 140, .inl (upd (g16767) (Int32.toNatClampNeg (nI (7 * n_wait + 1))) (pb9))))] H := hP
  have hD : va_D A [(m0, .inr (10, [.int i_fault, .int (nI (n_size)), .ref r_file, .int (nI (n_side)), .int (bI o_font), .ref r_bytes, .ref r_places, .ref r_lengths, .ref r_glyphCount, .ref r_ems, .ref r_wides, .ref r_forms, .ref r_parts, .ref r_charts, .ref r_pointCount, .ref r_contourCount, .ref r_depths, .ref r_xs, .ref r_ys, .ref r_ons, .ref r_contours, .int (bI o_bad), .int (nI (n_at)), .int (nI (n_end)), .ref r_flags, .ref r_part, .int (nI (n_typed)), .ref r_text, .int (nI (n_ring)), .ref r_ringX, .ref r_ringY, .ref r_ringOn, .int (nI (n_wait)), .ref r_curves, .ref r_windings, .ref r_rows])), (r_curves, .inl (c_curves, 140, .inl (upd (g16767) (Int32.toNatClampNeg (nI (7 * n_wait + 1))) (pb9))))] := hD
  obtain ⟨g16768, eg16768⟩ : ∃ z : Nat → Int32, z = upd (g16767) (Int32.toNatClampNeg (nI (7 * n_wait + 1))) (pb9) := ⟨_, rfl⟩
  rw [← eg16768] at hP hD
  have hP : va_P (dC, dI) cls_ [(m0, .inr (10, [.int i_fault, .int (nI (n_size)), .ref r_file, .int (nI (n_side)), .int (bI o_font), .ref r_bytes, .ref r_places, .ref r_lengths, .ref r_glyphCount, .ref r_ems, .ref r_wides, .ref r_forms, .ref r_parts, .ref r_charts, .ref r_pointCount, .ref r_contourCount, .ref r_depths, .ref r_xs, .ref r_ys, .ref r_ons, .ref r_contours, .int (bI o_bad), .int (nI (n_at)), .int (nI (n_end)), .ref r_flags, .ref r_part, .int (nI (n_typed)), .ref r_text, .int (nI (n_ring)), .ref r_ringX, .ref r_ringY, .ref r_ringOn, .int (nI (n_wait)), .ref r_curves, .ref r_windings, .ref r_rows])), (r_curves, .inl (c_curves, 140, .inl (g16768)))] H := hP
  have hD : va_D A [(m0, .inr (10, [.int i_fault, .int (nI (n_size)), .ref r_file, .int (nI (n_side)), .int (bI o_font), .ref r_bytes, .ref r_places, .ref r_lengths, .ref r_glyphCount, .ref r_ems, .ref r_wides, .ref r_forms, .ref r_parts, .ref r_charts, .ref r_pointCount, .ref r_contourCount, .ref r_depths, .ref r_xs, .ref r_ys, .ref r_ons, .ref r_contours, .int (bI o_bad), .int (nI (n_at)), .int (nI (n_end)), .ref r_flags, .ref r_part, .int (nI (n_typed)), .ref r_text, .int (nI (n_ring)), .ref r_ringX, .ref r_ringY, .ref r_ringOn, .int (nI (n_wait)), .ref r_curves, .ref r_windings, .ref r_rows])), (r_curves, .inl (c_curves, 140, .inl (g16768)))] := hD
  refine lv_aload_n hx hb d_MD_wait7_27 rfl (lv_at hl 1 rfl) ?_
  refine va_get (D := (dC, dI)) (ci := 10) (v := .ref r_curves) (C := R_MD) (T := F_MD) (N := 36) hx hb hts in_MD hown hK hP 0 rfl rfl 33 (by decide) (hts _ (List.mem_cons_of_mem _ w_885)) (fun _ h9 => h9) rfl d_MD_wait7_28 ?_
  refine lv_iload hx hb d_MD_wait7_31 (lv_at hl 0 rfl) ?_
  refine lv_iconst (v := 2) hx hb d_MD_wait7_33 (by decide) ?_
  refine lv_iadd hx hb d_MD_wait7_34 ?_
  refine lv_ci (y := nI (7 * n_wait + 2)) (nI_add (7 * n_wait) (2)) ?_
  refine lv_iload_n hx hb d_MD_wait7_35 rfl (lv_at hl 4 rfl) ?_
  refine va_iast hx hb hK hP hD hS 1 0 rfl rfl (pk_in (7 * n_wait + 2) 140 (by omega) rfl (by decide)) d_MD_wait7_36 (fun H locs hP hD hS => ?_)
  have hP : va_P (dC, dI) cls_ [(m0, .inr (10, [.int i_fault, .int (nI (n_size)), .ref r_file, .int (nI (n_side)), .int (bI o_font), .ref r_bytes, .ref r_places, .ref r_lengths, .ref r_glyphCount, .ref r_ems, .ref r_wides, .ref r_forms, .ref r_parts, .ref r_charts, .ref r_pointCount, .ref r_contourCount, .ref r_depths, .ref r_xs, .ref r_ys, .ref r_ons, .ref r_contours, .int (bI o_bad), .int (nI (n_at)), .int (nI (n_end)), .ref r_flags, .ref r_part, .int (nI (n_typed)), .ref r_text, .int (nI (n_ring)), .ref r_ringX, .ref r_ringY, .ref r_ringOn, .int (nI (n_wait)), .ref r_curves, .ref r_windings, .ref r_rows])), (r_curves, .inl (c_curves, 140, .inl (upd (g16768) (Int32.toNatClampNeg (nI (7 * n_wait + 2))) (pc9))))] H := hP
  have hD : va_D A [(m0, .inr (10, [.int i_fault, .int (nI (n_size)), .ref r_file, .int (nI (n_side)), .int (bI o_font), .ref r_bytes, .ref r_places, .ref r_lengths, .ref r_glyphCount, .ref r_ems, .ref r_wides, .ref r_forms, .ref r_parts, .ref r_charts, .ref r_pointCount, .ref r_contourCount, .ref r_depths, .ref r_xs, .ref r_ys, .ref r_ons, .ref r_contours, .int (bI o_bad), .int (nI (n_at)), .int (nI (n_end)), .ref r_flags, .ref r_part, .int (nI (n_typed)), .ref r_text, .int (nI (n_ring)), .ref r_ringX, .ref r_ringY, .ref r_ringOn, .int (nI (n_wait)), .ref r_curves, .ref r_windings, .ref r_rows])), (r_curves, .inl (c_curves, 140, .inl (upd (g16768) (Int32.toNatClampNeg (nI (7 * n_wait + 2))) (pc9))))] := hD
  obtain ⟨g16769, eg16769⟩ : ∃ z : Nat → Int32, z = upd (g16768) (Int32.toNatClampNeg (nI (7 * n_wait + 2))) (pc9) := ⟨_, rfl⟩
  rw [← eg16769] at hP hD
  have hP : va_P (dC, dI) cls_ [(m0, .inr (10, [.int i_fault, .int (nI (n_size)), .ref r_file, .int (nI (n_side)), .int (bI o_font), .ref r_bytes, .ref r_places, .ref r_lengths, .ref r_glyphCount, .ref r_ems, .ref r_wides, .ref r_forms, .ref r_parts, .ref r_charts, .ref r_pointCount, .ref r_contourCount, .ref r_depths, .ref r_xs, .ref r_ys, .ref r_ons, .ref r_contours, .int (bI o_bad), .int (nI (n_at)), .int (nI (n_end)), .ref r_flags, .ref r_part, .int (nI (n_typed)), .ref r_text, .int (nI (n_ring)), .ref r_ringX, .ref r_ringY, .ref r_ringOn, .int (nI (n_wait)), .ref r_curves, .ref r_windings, .ref r_rows])), (r_curves, .inl (c_curves, 140, .inl (g16769)))] H := hP
  have hD : va_D A [(m0, .inr (10, [.int i_fault, .int (nI (n_size)), .ref r_file, .int (nI (n_side)), .int (bI o_font), .ref r_bytes, .ref r_places, .ref r_lengths, .ref r_glyphCount, .ref r_ems, .ref r_wides, .ref r_forms, .ref r_parts, .ref r_charts, .ref r_pointCount, .ref r_contourCount, .ref r_depths, .ref r_xs, .ref r_ys, .ref r_ons, .ref r_contours, .int (bI o_bad), .int (nI (n_at)), .int (nI (n_end)), .ref r_flags, .ref r_part, .int (nI (n_typed)), .ref r_text, .int (nI (n_ring)), .ref r_ringX, .ref r_ringY, .ref r_ringOn, .int (nI (n_wait)), .ref r_curves, .ref r_windings, .ref r_rows])), (r_curves, .inl (c_curves, 140, .inl (g16769)))] := hD
  refine lv_aload_n hx hb d_MD_wait7_37 rfl (lv_at hl 1 rfl) ?_
  refine va_get (D := (dC, dI)) (ci := 10) (v := .ref r_curves) (C := R_MD) (T := F_MD) (N := 36) hx hb hts in_MD hown hK hP 0 rfl rfl 33 (by decide) (hts _ (List.mem_cons_of_mem _ w_885)) (fun _ h9 => h9) rfl d_MD_wait7_38 ?_
  refine lv_iload hx hb d_MD_wait7_41 (lv_at hl 0 rfl) ?_
  refine lv_iconst (v := 3) hx hb d_MD_wait7_43 (by decide) ?_
  refine lv_iadd hx hb d_MD_wait7_44 ?_
  refine lv_ci (y := nI (7 * n_wait + 3)) (nI_add (7 * n_wait) (3)) ?_
  refine lv_iload hx hb d_MD_wait7_45 (lv_at hl 5 rfl) ?_
  refine va_iast hx hb hK hP hD hS 1 0 rfl rfl (pk_in (7 * n_wait + 3) 140 (by omega) rfl (by decide)) d_MD_wait7_47 (fun H locs hP hD hS => ?_)
  have hP : va_P (dC, dI) cls_ [(m0, .inr (10, [.int i_fault, .int (nI (n_size)), .ref r_file, .int (nI (n_side)), .int (bI o_font), .ref r_bytes, .ref r_places, .ref r_lengths, .ref r_glyphCount, .ref r_ems, .ref r_wides, .ref r_forms, .ref r_parts, .ref r_charts, .ref r_pointCount, .ref r_contourCount, .ref r_depths, .ref r_xs, .ref r_ys, .ref r_ons, .ref r_contours, .int (bI o_bad), .int (nI (n_at)), .int (nI (n_end)), .ref r_flags, .ref r_part, .int (nI (n_typed)), .ref r_text, .int (nI (n_ring)), .ref r_ringX, .ref r_ringY, .ref r_ringOn, .int (nI (n_wait)), .ref r_curves, .ref r_windings, .ref r_rows])), (r_curves, .inl (c_curves, 140, .inl (upd (g16769) (Int32.toNatClampNeg (nI (7 * n_wait + 3))) (pd9))))] H := hP
  have hD : va_D A [(m0, .inr (10, [.int i_fault, .int (nI (n_size)), .ref r_file, .int (nI (n_side)), .int (bI o_font), .ref r_bytes, .ref r_places, .ref r_lengths, .ref r_glyphCount, .ref r_ems, .ref r_wides, .ref r_forms, .ref r_parts, .ref r_charts, .ref r_pointCount, .ref r_contourCount, .ref r_depths, .ref r_xs, .ref r_ys, .ref r_ons, .ref r_contours, .int (bI o_bad), .int (nI (n_at)), .int (nI (n_end)), .ref r_flags, .ref r_part, .int (nI (n_typed)), .ref r_text, .int (nI (n_ring)), .ref r_ringX, .ref r_ringY, .ref r_ringOn, .int (nI (n_wait)), .ref r_curves, .ref r_windings, .ref r_rows])), (r_curves, .inl (c_curves, 140, .inl (upd (g16769) (Int32.toNatClampNeg (nI (7 * n_wait + 3))) (pd9))))] := hD
  obtain ⟨g16770, eg16770⟩ : ∃ z : Nat → Int32, z = upd (g16769) (Int32.toNatClampNeg (nI (7 * n_wait + 3))) (pd9) := ⟨_, rfl⟩
  rw [← eg16770] at hP hD
  have hP : va_P (dC, dI) cls_ [(m0, .inr (10, [.int i_fault, .int (nI (n_size)), .ref r_file, .int (nI (n_side)), .int (bI o_font), .ref r_bytes, .ref r_places, .ref r_lengths, .ref r_glyphCount, .ref r_ems, .ref r_wides, .ref r_forms, .ref r_parts, .ref r_charts, .ref r_pointCount, .ref r_contourCount, .ref r_depths, .ref r_xs, .ref r_ys, .ref r_ons, .ref r_contours, .int (bI o_bad), .int (nI (n_at)), .int (nI (n_end)), .ref r_flags, .ref r_part, .int (nI (n_typed)), .ref r_text, .int (nI (n_ring)), .ref r_ringX, .ref r_ringY, .ref r_ringOn, .int (nI (n_wait)), .ref r_curves, .ref r_windings, .ref r_rows])), (r_curves, .inl (c_curves, 140, .inl (g16770)))] H := hP
  have hD : va_D A [(m0, .inr (10, [.int i_fault, .int (nI (n_size)), .ref r_file, .int (nI (n_side)), .int (bI o_font), .ref r_bytes, .ref r_places, .ref r_lengths, .ref r_glyphCount, .ref r_ems, .ref r_wides, .ref r_forms, .ref r_parts, .ref r_charts, .ref r_pointCount, .ref r_contourCount, .ref r_depths, .ref r_xs, .ref r_ys, .ref r_ons, .ref r_contours, .int (bI o_bad), .int (nI (n_at)), .int (nI (n_end)), .ref r_flags, .ref r_part, .int (nI (n_typed)), .ref r_text, .int (nI (n_ring)), .ref r_ringX, .ref r_ringY, .ref r_ringOn, .int (nI (n_wait)), .ref r_curves, .ref r_windings, .ref r_rows])), (r_curves, .inl (c_curves, 140, .inl (g16770)))] := hD
  refine lv_aload_n hx hb d_MD_wait7_48 rfl (lv_at hl 1 rfl) ?_
  refine va_get (D := (dC, dI)) (ci := 10) (v := .ref r_curves) (C := R_MD) (T := F_MD) (N := 36) hx hb hts in_MD hown hK hP 0 rfl rfl 33 (by decide) (hts _ (List.mem_cons_of_mem _ w_885)) (fun _ h9 => h9) rfl d_MD_wait7_49 ?_
  refine lv_iload hx hb d_MD_wait7_52 (lv_at hl 0 rfl) ?_
  refine lv_iconst (v := 4) hx hb d_MD_wait7_54 (by decide) ?_
  refine lv_iadd hx hb d_MD_wait7_55 ?_
  refine lv_ci (y := nI (7 * n_wait + 4)) (nI_add (7 * n_wait) (4)) ?_
  refine lv_iload hx hb d_MD_wait7_56 (lv_at hl 6 rfl) ?_
  refine va_iast hx hb hK hP hD hS 1 0 rfl rfl (pk_in (7 * n_wait + 4) 140 (by omega) rfl (by decide)) d_MD_wait7_58 (fun H locs hP hD hS => ?_)
  have hP : va_P (dC, dI) cls_ [(m0, .inr (10, [.int i_fault, .int (nI (n_size)), .ref r_file, .int (nI (n_side)), .int (bI o_font), .ref r_bytes, .ref r_places, .ref r_lengths, .ref r_glyphCount, .ref r_ems, .ref r_wides, .ref r_forms, .ref r_parts, .ref r_charts, .ref r_pointCount, .ref r_contourCount, .ref r_depths, .ref r_xs, .ref r_ys, .ref r_ons, .ref r_contours, .int (bI o_bad), .int (nI (n_at)), .int (nI (n_end)), .ref r_flags, .ref r_part, .int (nI (n_typed)), .ref r_text, .int (nI (n_ring)), .ref r_ringX, .ref r_ringY, .ref r_ringOn, .int (nI (n_wait)), .ref r_curves, .ref r_windings, .ref r_rows])), (r_curves, .inl (c_curves, 140, .inl (upd (g16770) (Int32.toNatClampNeg (nI (7 * n_wait + 4))) (pe9))))] H := hP
  have hD : va_D A [(m0, .inr (10, [.int i_fault, .int (nI (n_size)), .ref r_file, .int (nI (n_side)), .int (bI o_font), .ref r_bytes, .ref r_places, .ref r_lengths, .ref r_glyphCount, .ref r_ems, .ref r_wides, .ref r_forms, .ref r_parts, .ref r_charts, .ref r_pointCount, .ref r_contourCount, .ref r_depths, .ref r_xs, .ref r_ys, .ref r_ons, .ref r_contours, .int (bI o_bad), .int (nI (n_at)), .int (nI (n_end)), .ref r_flags, .ref r_part, .int (nI (n_typed)), .ref r_text, .int (nI (n_ring)), .ref r_ringX, .ref r_ringY, .ref r_ringOn, .int (nI (n_wait)), .ref r_curves, .ref r_windings, .ref r_rows])), (r_curves, .inl (c_curves, 140, .inl (upd (g16770) (Int32.toNatClampNeg (nI (7 * n_wait + 4))) (pe9))))] := hD
  obtain ⟨g16771, eg16771⟩ : ∃ z : Nat → Int32, z = upd (g16770) (Int32.toNatClampNeg (nI (7 * n_wait + 4))) (pe9) := ⟨_, rfl⟩
  rw [← eg16771] at hP hD
  have hP : va_P (dC, dI) cls_ [(m0, .inr (10, [.int i_fault, .int (nI (n_size)), .ref r_file, .int (nI (n_side)), .int (bI o_font), .ref r_bytes, .ref r_places, .ref r_lengths, .ref r_glyphCount, .ref r_ems, .ref r_wides, .ref r_forms, .ref r_parts, .ref r_charts, .ref r_pointCount, .ref r_contourCount, .ref r_depths, .ref r_xs, .ref r_ys, .ref r_ons, .ref r_contours, .int (bI o_bad), .int (nI (n_at)), .int (nI (n_end)), .ref r_flags, .ref r_part, .int (nI (n_typed)), .ref r_text, .int (nI (n_ring)), .ref r_ringX, .ref r_ringY, .ref r_ringOn, .int (nI (n_wait)), .ref r_curves, .ref r_windings, .ref r_rows])), (r_curves, .inl (c_curves, 140, .inl (g16771)))] H := hP
  have hD : va_D A [(m0, .inr (10, [.int i_fault, .int (nI (n_size)), .ref r_file, .int (nI (n_side)), .int (bI o_font), .ref r_bytes, .ref r_places, .ref r_lengths, .ref r_glyphCount, .ref r_ems, .ref r_wides, .ref r_forms, .ref r_parts, .ref r_charts, .ref r_pointCount, .ref r_contourCount, .ref r_depths, .ref r_xs, .ref r_ys, .ref r_ons, .ref r_contours, .int (bI o_bad), .int (nI (n_at)), .int (nI (n_end)), .ref r_flags, .ref r_part, .int (nI (n_typed)), .ref r_text, .int (nI (n_ring)), .ref r_ringX, .ref r_ringY, .ref r_ringOn, .int (nI (n_wait)), .ref r_curves, .ref r_windings, .ref r_rows])), (r_curves, .inl (c_curves, 140, .inl (g16771)))] := hD
  refine lv_aload_n hx hb d_MD_wait7_59 rfl (lv_at hl 1 rfl) ?_
  refine va_get (D := (dC, dI)) (ci := 10) (v := .ref r_curves) (C := R_MD) (T := F_MD) (N := 36) hx hb hts in_MD hown hK hP 0 rfl rfl 33 (by decide) (hts _ (List.mem_cons_of_mem _ w_885)) (fun _ h9 => h9) rfl d_MD_wait7_60 ?_
  refine lv_iload hx hb d_MD_wait7_63 (lv_at hl 0 rfl) ?_
  refine lv_iconst (v := 5) hx hb d_MD_wait7_65 (by decide) ?_
  refine lv_iadd hx hb d_MD_wait7_66 ?_
  refine lv_ci (y := nI (7 * n_wait + 5)) (nI_add (7 * n_wait) (5)) ?_
  refine lv_iload hx hb d_MD_wait7_67 (lv_at hl 7 rfl) ?_
  refine va_iast hx hb hK hP hD hS 1 0 rfl rfl (pk_in (7 * n_wait + 5) 140 (by omega) rfl (by decide)) d_MD_wait7_69 (fun H locs hP hD hS => ?_)
  have hP : va_P (dC, dI) cls_ [(m0, .inr (10, [.int i_fault, .int (nI (n_size)), .ref r_file, .int (nI (n_side)), .int (bI o_font), .ref r_bytes, .ref r_places, .ref r_lengths, .ref r_glyphCount, .ref r_ems, .ref r_wides, .ref r_forms, .ref r_parts, .ref r_charts, .ref r_pointCount, .ref r_contourCount, .ref r_depths, .ref r_xs, .ref r_ys, .ref r_ons, .ref r_contours, .int (bI o_bad), .int (nI (n_at)), .int (nI (n_end)), .ref r_flags, .ref r_part, .int (nI (n_typed)), .ref r_text, .int (nI (n_ring)), .ref r_ringX, .ref r_ringY, .ref r_ringOn, .int (nI (n_wait)), .ref r_curves, .ref r_windings, .ref r_rows])), (r_curves, .inl (c_curves, 140, .inl (upd (g16771) (Int32.toNatClampNeg (nI (7 * n_wait + 5))) (pg9))))] H := hP
  have hD : va_D A [(m0, .inr (10, [.int i_fault, .int (nI (n_size)), .ref r_file, .int (nI (n_side)), .int (bI o_font), .ref r_bytes, .ref r_places, .ref r_lengths, .ref r_glyphCount, .ref r_ems, .ref r_wides, .ref r_forms, .ref r_parts, .ref r_charts, .ref r_pointCount, .ref r_contourCount, .ref r_depths, .ref r_xs, .ref r_ys, .ref r_ons, .ref r_contours, .int (bI o_bad), .int (nI (n_at)), .int (nI (n_end)), .ref r_flags, .ref r_part, .int (nI (n_typed)), .ref r_text, .int (nI (n_ring)), .ref r_ringX, .ref r_ringY, .ref r_ringOn, .int (nI (n_wait)), .ref r_curves, .ref r_windings, .ref r_rows])), (r_curves, .inl (c_curves, 140, .inl (upd (g16771) (Int32.toNatClampNeg (nI (7 * n_wait + 5))) (pg9))))] := hD
  obtain ⟨g16772, eg16772⟩ : ∃ z : Nat → Int32, z = upd (g16771) (Int32.toNatClampNeg (nI (7 * n_wait + 5))) (pg9) := ⟨_, rfl⟩
  rw [← eg16772] at hP hD
  have hP : va_P (dC, dI) cls_ [(m0, .inr (10, [.int i_fault, .int (nI (n_size)), .ref r_file, .int (nI (n_side)), .int (bI o_font), .ref r_bytes, .ref r_places, .ref r_lengths, .ref r_glyphCount, .ref r_ems, .ref r_wides, .ref r_forms, .ref r_parts, .ref r_charts, .ref r_pointCount, .ref r_contourCount, .ref r_depths, .ref r_xs, .ref r_ys, .ref r_ons, .ref r_contours, .int (bI o_bad), .int (nI (n_at)), .int (nI (n_end)), .ref r_flags, .ref r_part, .int (nI (n_typed)), .ref r_text, .int (nI (n_ring)), .ref r_ringX, .ref r_ringY, .ref r_ringOn, .int (nI (n_wait)), .ref r_curves, .ref r_windings, .ref r_rows])), (r_curves, .inl (c_curves, 140, .inl (g16772)))] H := hP
  have hD : va_D A [(m0, .inr (10, [.int i_fault, .int (nI (n_size)), .ref r_file, .int (nI (n_side)), .int (bI o_font), .ref r_bytes, .ref r_places, .ref r_lengths, .ref r_glyphCount, .ref r_ems, .ref r_wides, .ref r_forms, .ref r_parts, .ref r_charts, .ref r_pointCount, .ref r_contourCount, .ref r_depths, .ref r_xs, .ref r_ys, .ref r_ons, .ref r_contours, .int (bI o_bad), .int (nI (n_at)), .int (nI (n_end)), .ref r_flags, .ref r_part, .int (nI (n_typed)), .ref r_text, .int (nI (n_ring)), .ref r_ringX, .ref r_ringY, .ref r_ringOn, .int (nI (n_wait)), .ref r_curves, .ref r_windings, .ref r_rows])), (r_curves, .inl (c_curves, 140, .inl (g16772)))] := hD
  refine lv_aload_n hx hb d_MD_wait7_70 rfl (lv_at hl 1 rfl) ?_
  refine va_get (D := (dC, dI)) (ci := 10) (v := .ref r_curves) (C := R_MD) (T := F_MD) (N := 36) hx hb hts in_MD hown hK hP 0 rfl rfl 33 (by decide) (hts _ (List.mem_cons_of_mem _ w_885)) (fun _ h9 => h9) rfl d_MD_wait7_71 ?_
  refine lv_iload hx hb d_MD_wait7_74 (lv_at hl 0 rfl) ?_
  refine lv_bipush (v := 6) hx hb d_MD_wait7_76 (by decide) ?_
  refine lv_iadd hx hb d_MD_wait7_78 ?_
  refine lv_ci (y := nI (7 * n_wait + 6)) (nI_add (7 * n_wait) (6)) ?_
  refine lv_iload hx hb d_MD_wait7_79 (lv_at hl 8 rfl) ?_
  refine va_iast hx hb hK hP hD hS 1 0 rfl rfl (pk_in (7 * n_wait + 6) 140 (by omega) rfl (by decide)) d_MD_wait7_81 (fun H locs hP hD hS => ?_)
  have hP : va_P (dC, dI) cls_ [(m0, .inr (10, [.int i_fault, .int (nI (n_size)), .ref r_file, .int (nI (n_side)), .int (bI o_font), .ref r_bytes, .ref r_places, .ref r_lengths, .ref r_glyphCount, .ref r_ems, .ref r_wides, .ref r_forms, .ref r_parts, .ref r_charts, .ref r_pointCount, .ref r_contourCount, .ref r_depths, .ref r_xs, .ref r_ys, .ref r_ons, .ref r_contours, .int (bI o_bad), .int (nI (n_at)), .int (nI (n_end)), .ref r_flags, .ref r_part, .int (nI (n_typed)), .ref r_text, .int (nI (n_ring)), .ref r_ringX, .ref r_ringY, .ref r_ringOn, .int (nI (n_wait)), .ref r_curves, .ref r_windings, .ref r_rows])), (r_curves, .inl (c_curves, 140, .inl (upd (g16772) (Int32.toNatClampNeg (nI (7 * n_wait + 6))) (nI (tm9)))))] H := hP
  have hD : va_D A [(m0, .inr (10, [.int i_fault, .int (nI (n_size)), .ref r_file, .int (nI (n_side)), .int (bI o_font), .ref r_bytes, .ref r_places, .ref r_lengths, .ref r_glyphCount, .ref r_ems, .ref r_wides, .ref r_forms, .ref r_parts, .ref r_charts, .ref r_pointCount, .ref r_contourCount, .ref r_depths, .ref r_xs, .ref r_ys, .ref r_ons, .ref r_contours, .int (bI o_bad), .int (nI (n_at)), .int (nI (n_end)), .ref r_flags, .ref r_part, .int (nI (n_typed)), .ref r_text, .int (nI (n_ring)), .ref r_ringX, .ref r_ringY, .ref r_ringOn, .int (nI (n_wait)), .ref r_curves, .ref r_windings, .ref r_rows])), (r_curves, .inl (c_curves, 140, .inl (upd (g16772) (Int32.toNatClampNeg (nI (7 * n_wait + 6))) (nI (tm9)))))] := hD
  obtain ⟨g16773, eg16773⟩ : ∃ z : Nat → Int32, z = upd (g16772) (Int32.toNatClampNeg (nI (7 * n_wait + 6))) (nI (tm9)) := ⟨_, rfl⟩
  rw [← eg16773] at hP hD
  have hP : va_P (dC, dI) cls_ [(m0, .inr (10, [.int i_fault, .int (nI (n_size)), .ref r_file, .int (nI (n_side)), .int (bI o_font), .ref r_bytes, .ref r_places, .ref r_lengths, .ref r_glyphCount, .ref r_ems, .ref r_wides, .ref r_forms, .ref r_parts, .ref r_charts, .ref r_pointCount, .ref r_contourCount, .ref r_depths, .ref r_xs, .ref r_ys, .ref r_ons, .ref r_contours, .int (bI o_bad), .int (nI (n_at)), .int (nI (n_end)), .ref r_flags, .ref r_part, .int (nI (n_typed)), .ref r_text, .int (nI (n_ring)), .ref r_ringX, .ref r_ringY, .ref r_ringOn, .int (nI (n_wait)), .ref r_curves, .ref r_windings, .ref r_rows])), (r_curves, .inl (c_curves, 140, .inl (g16773)))] H := hP
  have hD : va_D A [(m0, .inr (10, [.int i_fault, .int (nI (n_size)), .ref r_file, .int (nI (n_side)), .int (bI o_font), .ref r_bytes, .ref r_places, .ref r_lengths, .ref r_glyphCount, .ref r_ems, .ref r_wides, .ref r_forms, .ref r_parts, .ref r_charts, .ref r_pointCount, .ref r_contourCount, .ref r_depths, .ref r_xs, .ref r_ys, .ref r_ons, .ref r_contours, .int (bI o_bad), .int (nI (n_at)), .int (nI (n_end)), .ref r_flags, .ref r_part, .int (nI (n_typed)), .ref r_text, .int (nI (n_ring)), .ref r_ringX, .ref r_ringY, .ref r_ringOn, .int (nI (n_wait)), .ref r_curves, .ref r_windings, .ref r_rows])), (r_curves, .inl (c_curves, 140, .inl (g16773)))] := hD
  have hkg16773 : g16773 (7 * n_wait + 6) = nI (tm9) := by rw [eg16773, nI_clamp (show 7 * n_wait + 6 < 2 ^ 31 by omega)]; exact up_same _ _ _
  refine lv_aload_n hx hb d_MD_wait7_82 rfl (lv_at hl 1 rfl) ?_
  refine lv_dup hx hb d_MD_wait7_83 rfl ?_
  refine va_get (D := (dC, dI)) (ci := 10) (v := .int (nI (n_wait))) (C := R_MD) (T := F_MD) (N := 36) hx hb hts in_MD hown hK hP 0 rfl rfl 32 (by decide) (hts _ (List.mem_cons_of_mem _ w_884)) (fun _ h9 => h9) rfl d_MD_wait7_84 ?_
  refine lv_iconst (v := 1) hx hb d_MD_wait7_87 (by decide) ?_
  refine lv_iadd hx hb d_MD_wait7_88 ?_
  refine lv_ci (y := nI (n_wait + 1)) (nI_add (n_wait) (1)) ?_
  refine va_put (D := (dC, dI)) (ci := 10) (v := .int (nI (n_wait + 1))) (ty := .int) (C := R_MD) (T := F_MD) (N := 36) hx hb hts in_MD t_MD t_MD_ok n_MD hown hK hP hD hS 0 rfl rfl 32 (by decide) (hts _ (List.mem_cons_of_mem _ w_884)) (fun _ h9 => h9) rfl  (by decide +kernel) rfl rfl (Nat.le_of_ble_eq_true rfl) d_MD_wait7_89 (fun H locs hP hD hS => ?_)
  have hP : va_P (dC, dI) cls_ [(m0, .inr (10, [.int i_fault, .int (nI (n_size)), .ref r_file, .int (nI (n_side)), .int (bI o_font), .ref r_bytes, .ref r_places, .ref r_lengths, .ref r_glyphCount, .ref r_ems, .ref r_wides, .ref r_forms, .ref r_parts, .ref r_charts, .ref r_pointCount, .ref r_contourCount, .ref r_depths, .ref r_xs, .ref r_ys, .ref r_ons, .ref r_contours, .int (bI o_bad), .int (nI (n_at)), .int (nI (n_end)), .ref r_flags, .ref r_part, .int (nI (n_typed)), .ref r_text, .int (nI (n_ring)), .ref r_ringX, .ref r_ringY, .ref r_ringOn, .int (nI (n_wait + 1)), .ref r_curves, .ref r_windings, .ref r_rows])), (r_curves, .inl (c_curves, 140, .inl (g16773)))] H := hP
  have hD : va_D A [(m0, .inr (10, [.int i_fault, .int (nI (n_size)), .ref r_file, .int (nI (n_side)), .int (bI o_font), .ref r_bytes, .ref r_places, .ref r_lengths, .ref r_glyphCount, .ref r_ems, .ref r_wides, .ref r_forms, .ref r_parts, .ref r_charts, .ref r_pointCount, .ref r_contourCount, .ref r_depths, .ref r_xs, .ref r_ys, .ref r_ons, .ref r_contours, .int (bI o_bad), .int (nI (n_at)), .int (nI (n_end)), .ref r_flags, .ref r_part, .int (nI (n_typed)), .ref r_text, .int (nI (n_ring)), .ref r_ringX, .ref r_ringY, .ref r_ringOn, .int (nI (n_wait + 1)), .ref r_curves, .ref r_windings, .ref r_rows])), (r_curves, .inl (c_curves, 140, .inl (g16773)))] := hD
  refine W.widen (k := 0) (n := 0) (Nat.le_of_ble_eq_true rfl) (Nat.le_of_ble_eq_true rfl) ?_
  have hP9 := hP.sub (ws' := [(m0, .inr (10, [.int i_fault, .int (nI (n_size)), .ref r_file, .int (nI (n_side)), .int (bI o_font), .ref r_bytes, .ref r_places, .ref r_lengths, .ref r_glyphCount, .ref r_ems, .ref r_wides, .ref r_forms, .ref r_parts, .ref r_charts, .ref r_pointCount, .ref r_contourCount, .ref r_depths, .ref r_xs, .ref r_ys, .ref r_ons, .ref r_contours, .int (bI o_bad), .int (nI (n_at)), .int (nI (n_end)), .ref r_flags, .ref r_part, .int (nI (n_typed)), .ref r_text, .int (nI (n_ring)), .ref r_ringX, .ref r_ringY, .ref r_ringOn, .int (nI (n_wait + 1)), .ref r_curves, .ref r_windings, .ref r_rows])), (r_curves, .inl (c_curves, 140, .inl (g16773)))]) [0, 1] rfl
  have hD9 := hD.sub (ws' := [(m0, .inr (10, [.int i_fault, .int (nI (n_size)), .ref r_file, .int (nI (n_side)), .int (bI o_font), .ref r_bytes, .ref r_places, .ref r_lengths, .ref r_glyphCount, .ref r_ems, .ref r_wides, .ref r_forms, .ref r_parts, .ref r_charts, .ref r_pointCount, .ref r_contourCount, .ref r_depths, .ref r_xs, .ref r_ys, .ref r_ons, .ref r_contours, .int (bI o_bad), .int (nI (n_at)), .int (nI (n_end)), .ref r_flags, .ref r_part, .int (nI (n_typed)), .ref r_text, .int (nI (n_ring)), .ref r_ringX, .ref r_ringY, .ref r_ringOn, .int (nI (n_wait + 1)), .ref r_curves, .ref r_windings, .ref r_rows])), (r_curves, .inl (c_curves, 140, .inl (g16773)))]) [0, 1] (by decide) rfl
  have hK9 := hK.sub (tys' := [(c_curves, .int)]) [0] rfl
  exact W.vret hx hb hr (fun t ht hW => ⟨⟨(), rfl, trivial, (n_wait + 1), g16773, by omega, (fun i hi => by subst_vars; simp only [nI_clamp (show 7 * n_wait < 2 ^ 31 by omega), nI_clamp (show 7 * n_wait + 1 < 2 ^ 31 by omega), nI_clamp (show 7 * n_wait + 2 < 2 ^ 31 by omega), nI_clamp (show 7 * n_wait + 3 < 2 ^ 31 by omega), nI_clamp (show 7 * n_wait + 4 < 2 ^ 31 by omega), nI_clamp (show 7 * n_wait + 5 < 2 ^ 31 by omega), nI_clamp (show 7 * n_wait + 6 < 2 ^ 31 by omega)]; rw [up_ne (by omega), up_ne (by omega), up_ne (by omega), up_ne (by omega), up_ne (by omega), up_ne (by omega), up_ne (by omega)]), (by rw [eg16773, nI_clamp (show 7 * n_wait + 6 < 2 ^ 31 by omega)]; exact up_same _ _ _), by rw [ht]; exact hP9, va_K.moved hW.alike hK9, hD9⟩, hS.F ht⟩) hS.2.2 d_MD_wait7_92
set_option maxHeartbeats 4000000 in
set_option maxRecDepth 100000 in
/-- GlyphLinesModel.isFlat -/
theorem g_MD_isFlat (l : Launch) (dC : Nat → ClassId) (dI : Nat → Nat → Nat) (m0 : Nat) (i_fault : Int32) (n_size : Nat) (r_file : Nat) (n_side : Nat) (o_font : Bool) (r_bytes : Nat) (r_places : Nat) (r_lengths : Nat) (r_glyphCount : Nat) (r_ems : Nat) (r_wides : Nat) (r_forms : Nat) (r_parts : Nat) (r_charts : Nat) (r_pointCount : Nat) (r_contourCount : Nat) (r_depths : Nat) (r_xs : Nat) (r_ys : Nat) (r_ons : Nat) (r_contours : Nat) (o_bad : Bool) (n_at : Nat) (n_end : Nat) (r_flags : Nat) (r_part : Nat) (n_typed : Nat) (r_text : Nat) (n_ring : Nat) (r_ringX : Nat) (r_ringY : Nat) (r_ringOn : Nat) (n_wait : Nat) (r_curves : Nat) (r_windings : Nat) (r_rows : Nat) (c_curves : ClassId) (v_curves : Nat → Int32) (k9 : Nat) (sz : Nat) (hq0 : n_size ≤ 1200) (hq1 : n_side ≤ 1) (hq2 : n_typed ≤ 12) (hq3 : k9 + 6 < 140) : Met l y_MD_isFlat s_MD_isFlat ({ frames := 10, cells := 0, slots := 0, locals := 300 }) (va_Pc [.ref m0, .int (nI (k9))] (fun U => U.heap.size = sz ∧ va_P (dC, dI) cls_ [(m0, .inr (10, [.int i_fault, .int (nI (n_size)), .ref r_file, .int (nI (n_side)), .int (bI o_font), .ref r_bytes, .ref r_places, .ref r_lengths, .ref r_glyphCount, .ref r_ems, .ref r_wides, .ref r_forms, .ref r_parts, .ref r_charts, .ref r_pointCount, .ref r_contourCount, .ref r_depths, .ref r_xs, .ref r_ys, .ref r_ons, .ref r_contours, .int (bI o_bad), .int (nI (n_at)), .int (nI (n_end)), .ref r_flags, .ref r_part, .int (nI (n_typed)), .ref r_text, .int (nI (n_ring)), .ref r_ringX, .ref r_ringY, .ref r_ringOn, .int (nI (n_wait)), .ref r_curves, .ref r_windings, .ref r_rows])), (r_curves, .inl (c_curves, 140, .inl (v_curves)))] U.heap ∧ va_K (dC, dI) cls_ [(c_curves, .int)] U ∧ va_D (fun _ => True) [(m0, .inr (10, [.int i_fault, .int (nI (n_size)), .ref r_file, .int (nI (n_side)), .int (bI o_font), .ref r_bytes, .ref r_places, .ref r_lengths, .ref r_glyphCount, .ref r_ems, .ref r_wides, .ref r_forms, .ref r_parts, .ref r_charts, .ref r_pointCount, .ref r_contourCount, .ref r_depths, .ref r_xs, .ref r_ys, .ref r_ons, .ref r_contours, .int (bI o_bad), .int (nI (n_at)), .int (nI (n_end)), .ref r_flags, .ref r_part, .int (nI (n_typed)), .ref r_text, .int (nI (n_ring)), .ref r_ringX, .ref r_ringY, .ref r_ringOn, .int (nI (n_wait)), .ref r_curves, .ref r_windings, .ref r_rows])), (r_curves, .inl (c_curves, 140, .inl (v_curves)))])) (va_Qi (fun (r : Int32) (_ : Unit) => ∃ b9 : Bool, r = bI b9) (fun (_ : Unit) (t : State) => va_P (dC, dI) cls_ [(m0, .inr (10, [.int i_fault, .int (nI (n_size)), .ref r_file, .int (nI (n_side)), .int (bI o_font), .ref r_bytes, .ref r_places, .ref r_lengths, .ref r_glyphCount, .ref r_ems, .ref r_wides, .ref r_forms, .ref r_parts, .ref r_charts, .ref r_pointCount, .ref r_contourCount, .ref r_depths, .ref r_xs, .ref r_ys, .ref r_ons, .ref r_contours, .int (bI o_bad), .int (nI (n_at)), .int (nI (n_end)), .ref r_flags, .ref r_part, .int (nI (n_typed)), .ref r_text, .int (nI (n_ring)), .ref r_ringX, .ref r_ringY, .ref r_ringOn, .int (nI (n_wait)), .ref r_curves, .ref r_windings, .ref r_rows])), (r_curves, .inl (c_curves, 140, .inl (v_curves)))] t.heap ∧ va_K (dC, dI) cls_ [(c_curves, .int)] t ∧ va_D (va_A [(m0, .inr (10, [.int i_fault, .int (nI (n_size)), .ref r_file, .int (nI (n_side)), .int (bI o_font), .ref r_bytes, .ref r_places, .ref r_lengths, .ref r_glyphCount, .ref r_ems, .ref r_wides, .ref r_forms, .ref r_parts, .ref r_charts, .ref r_pointCount, .ref r_contourCount, .ref r_depths, .ref r_xs, .ref r_ys, .ref r_ons, .ref r_contours, .int (bI o_bad), .int (nI (n_at)), .int (nI (n_end)), .ref r_flags, .ref r_part, .int (nI (n_typed)), .ref r_text, .int (nI (n_ring)), .ref r_ringX, .ref r_ringY, .ref r_ringOn, .int (nI (n_wait)), .ref r_curves, .ref r_windings, .ref r_rows])), (r_curves, .inl (c_curves, 140, .inl (v_curves)))] sz) [(m0, .inr (10, [.int i_fault, .int (nI (n_size)), .ref r_file, .int (nI (n_side)), .int (bI o_font), .ref r_bytes, .ref r_places, .ref r_lengths, .ref r_glyphCount, .ref r_ems, .ref r_wides, .ref r_forms, .ref r_parts, .ref r_charts, .ref r_pointCount, .ref r_contourCount, .ref r_depths, .ref r_xs, .ref r_ys, .ref r_ons, .ref r_contours, .int (bI o_bad), .int (nI (n_at)), .int (nI (n_end)), .ref r_flags, .ref r_part, .int (nI (n_typed)), .ref r_text, .int (nI (n_ring)), .ref r_ringX, .ref r_ringY, .ref r_ringOn, .int (nI (n_wait)), .ref r_curves, .ref r_windings, .ref r_rows])), (r_curves, .inl (c_curves, 140, .inl (v_curves)))]) (va_A [(m0, .inr (10, [.int i_fault, .int (nI (n_size)), .ref r_file, .int (nI (n_side)), .int (bI o_font), .ref r_bytes, .ref r_places, .ref r_lengths, .ref r_glyphCount, .ref r_ems, .ref r_wides, .ref r_forms, .ref r_parts, .ref r_charts, .ref r_pointCount, .ref r_contourCount, .ref r_depths, .ref r_xs, .ref r_ys, .ref r_ons, .ref r_contours, .int (bI o_bad), .int (nI (n_at)), .int (nI (n_end)), .ref r_flags, .ref r_part, .int (nI (n_typed)), .ref r_text, .int (nI (n_ring)), .ref r_ringX, .ref r_ringY, .ref r_ringOn, .int (nI (n_wait)), .ref r_curves, .ref r_windings, .ref r_rows])), (r_curves, .inl (c_curves, 140, .inl (v_curves)))] sz)) 0 0 (va_A [(m0, .inr (10, [.int i_fault, .int (nI (n_size)), .ref r_file, .int (nI (n_side)), .int (bI o_font), .ref r_bytes, .ref r_places, .ref r_lengths, .ref r_glyphCount, .ref r_ems, .ref r_wides, .ref r_forms, .ref r_parts, .ref r_charts, .ref r_pointCount, .ref r_contourCount, .ref r_depths, .ref r_xs, .ref r_ys, .ref r_ons, .ref r_contours, .int (bI o_bad), .int (nI (n_at)), .int (nI (n_end)), .ref r_flags, .ref r_part, .int (nI (n_typed)), .ref r_text, .int (nI (n_ring)), .ref r_ringX, .ref r_ringY, .ref r_ringOn, .int (nI (n_wait)), .ref r_curves, .ref r_windings, .ref r_rows])), (r_curves, .inl (c_curves, 140, .inl (v_curves)))] sz) := by
  refine Met.ofW (cc := b_MD_isFlat) (maxL := 7) (ret := (some .boolean)) (by decide) rfl ?_
  intro p e s m args below meth c s₁ B hml hv
  obtain ⟨rfl, hsz, hP, hK, hD0⟩ := hv
  have hx := B.exec
  have hb := B.bytes
  have hr := B.returns
  have hts := atoms_spec (ws := s_MD_isFlat) B.pre
  have hown : s.vm.findClass R_MD = some m.cls := findClass_of_methodNamed B.named
  have hlocks := B.notSynchronized
  subst hsz
  have hD := hD0.self (sz := s.heap.size)
  generalize hAe : va_A [(m0, .inr (10, [.int i_fault, .int (nI (n_size)), .ref r_file, .int (nI (n_side)), .int (bI o_font), .ref r_bytes, .ref r_places, .ref r_lengths, .ref r_glyphCount, .ref r_ems, .ref r_wides, .ref r_forms, .ref r_parts, .ref r_charts, .ref r_pointCount, .ref r_contourCount, .ref r_depths, .ref r_xs, .ref r_ys, .ref r_ons, .ref r_contours, .int (bI o_bad), .int (nI (n_at)), .int (nI (n_end)), .ref r_flags, .ref r_part, .int (nI (n_typed)), .ref r_text, .int (nI (n_ring)), .ref r_ringX, .ref r_ringY, .ref r_ringOn, .int (nI (n_wait)), .ref r_curves, .ref r_windings, .ref r_rows])), (r_curves, .inl (c_curves, 140, .inl (v_curves)))] s.heap.size = A at hD ⊢
  have hA : ∀ q : Nat, s.heap.size ≤ q → A q := fun q h => by rw [← hAe]; exact Or.inr h
  have hS : va_S A s.heap s.heap [] := va_S.rf
  have hP : va_P (dC, dI) cls_ [(m0, .inr (10, [.int i_fault, .int (nI (n_size)), .ref r_file, .int (nI (n_side)), .int (bI o_font), .ref r_bytes, .ref r_places, .ref r_lengths, .ref r_glyphCount, .ref r_ems, .ref r_wides, .ref r_forms, .ref r_parts, .ref r_charts, .ref r_pointCount, .ref r_contourCount, .ref r_depths, .ref r_xs, .ref r_ys, .ref r_ons, .ref r_contours, .int (bI o_bad), .int (nI (n_at)), .int (nI (n_end)), .ref r_flags, .ref r_part, .int (nI (n_typed)), .ref r_text, .int (nI (n_ring)), .ref r_ringX, .ref r_ringY, .ref r_ringOn, .int (nI (n_wait)), .ref r_curves, .ref r_windings, .ref r_rows])), (r_curves, .inl (c_curves, 140, .inl (v_curves)))] s.heap := hP
  have hl := lv_entry ([.ref m0, .int (nI (k9))]) (n := 7) (Nat.le_of_ble_eq_true rfl)
  rw [lg_entry_eq]
  generalize (lg_sl ([.ref m0, .int (nI (k9))]) ++ List.replicate (7 - (lg_sl ([.ref m0, .int (nI (k9))])).length) Slot.unset).toArray = ls at hl ⊢
  have hl : lv_has ls 7 [(0, .ref m0), (1, .int (nI (k9)))] := hl
  refine lv_aload_n hx hb d_MD_isFlat_0 rfl (lv_at hl 0 rfl) ?_
  refine va_get (D := (dC, dI)) (ci := 10) (v := .ref r_curves) (C := R_MD) (T := F_MD) (N := 36) hx hb hts in_MD hown hK hP 0 rfl rfl 33 (by decide) (hts _ (List.mem_cons_of_mem _ w_885)) (fun _ h9 => h9) rfl d_MD_isFlat_1 ?_
  refine lv_iload_n hx hb d_MD_isFlat_4 rfl (lv_at hl 1 rfl) ?_
  refine va_iald hx hb hK hP 1 0 rfl rfl (pk_in (k9) 140 (by omega) rfl (by decide)) d_MD_isFlat_5 ?_
  refine lv_topi (fun v16774 ev16774 => ?_)
  refine lv_istore_n (lv' := [(2, .int v16774), (0, .ref m0), (1, .int (nI (k9)))]) hx hb d_MD_isFlat_6 rfl hl (by decide) rfl (fun ls hl => ?_)
  refine lv_aload_n hx hb d_MD_isFlat_7 rfl (lv_at hl 1 rfl) ?_
  refine va_get (D := (dC, dI)) (ci := 10) (v := .ref r_curves) (C := R_MD) (T := F_MD) (N := 36) hx hb hts in_MD hown hK hP 0 rfl rfl 33 (by decide) (hts _ (List.mem_cons_of_mem _ w_885)) (fun _ h9 => h9) rfl d_MD_isFlat_8 ?_
  refine lv_iload_n hx hb d_MD_isFlat_11 rfl (lv_at hl 2 rfl) ?_
  refine lv_iconst (v := 1) hx hb d_MD_isFlat_12 (by decide) ?_
  refine lv_iadd hx hb d_MD_isFlat_13 ?_
  refine lv_ci (y := nI (k9 + 1)) (nI_add (k9) (1)) ?_
  refine va_iald hx hb hK hP 1 0 rfl rfl (pk_in (k9 + 1) 140 (by omega) rfl (by decide)) d_MD_isFlat_14 ?_
  refine lv_topi (fun v16775 ev16775 => ?_)
  refine lv_istore_n (lv' := [(3, .int v16775), (2, .int v16774), (0, .ref m0), (1, .int (nI (k9)))]) hx hb d_MD_isFlat_15 rfl hl (by decide) rfl (fun ls hl => ?_)
  refine lv_aload_n hx hb d_MD_isFlat_16 rfl (lv_at hl 2 rfl) ?_
  refine va_get (D := (dC, dI)) (ci := 10) (v := .ref r_curves) (C := R_MD) (T := F_MD) (N := 36) hx hb hts in_MD hown hK hP 0 rfl rfl 33 (by decide) (hts _ (List.mem_cons_of_mem _ w_885)) (fun _ h9 => h9) rfl d_MD_isFlat_17 ?_
  refine lv_iload_n hx hb d_MD_isFlat_20 rfl (lv_at hl 3 rfl) ?_
  refine lv_iconst (v := 4) hx hb d_MD_isFlat_21 (by decide) ?_
  refine lv_iadd hx hb d_MD_isFlat_22 ?_
  refine lv_ci (y := nI (k9 + 4)) (nI_add (k9) (4)) ?_
  refine va_iald hx hb hK hP 1 0 rfl rfl (pk_in (k9 + 4) 140 (by omega) rfl (by decide)) d_MD_isFlat_23 ?_
  refine lv_topi (fun v16776 ev16776 => ?_)
  refine lv_iload_n hx hb d_MD_isFlat_24 rfl (lv_at hl 1 rfl) ?_
  have hPc := hP.sub (ws' := []) [] rfl
  have hDc := hD.sub (ws' := []) [] (by decide) rfl
  have hKc := hK.sub (tys' := []) [] rfl
  have hFc := va_free (wc := []) hD hS hA [] rfl
  refine va_calli (va_runS (As := [.int v16776, .int v16774]) (rest := []) ⟨hx, hb, hml, hown, hts⟩ (g_MD_far l dC dI v16776 v16774 s.heap.size) (cwS 2 hts (tw_inS w_1196 w_1197 w_11 w_1198) rfl rfl rfl (by decide +kernel) ⟨Nat.le_of_ble_eq_true rfl, Nat.le_of_ble_eq_true rfl⟩) ⟨fun a U g mk q => by obtain ⟨q0, q1, qP, qK, qD⟩ := q; exact ⟨q0, q1, qP, va_K.moved (u := U) (U := U.calling g mk a) (Vm.Alike.refl U.vm) qK, qD⟩, fun U hU hW => ⟨rfl, by rw [hU], by rw [hU]; exact hPc, va_K.moved hW.alike hKc, hDc.weaken (fun _ _ _ _ => trivial)⟩⟩ rfl rfl hl.1 rfl (lv_room (Nat.le_of_ble_eq_true rfl)) d_MD_isFlat_25 ⟨Nat.le_of_ble_eq_true rfl, Nat.le_of_ble_eq_true rfl⟩) hS (fun q _ h => hFc q h) hFc (fun r16777 u t H1 locs ht hvm hw hB hz1 hk1 hS => ?_)
  have hP1 : va_P (dC, dI) cls_ [] H1 := fun k q h => by simp at h
  have hD1 : va_D (va_A [] s.heap.size) [] := ⟨fun i j p q h => by simp at h, fun k q h => by simp at h⟩
  obtain ⟨hP, hD⟩ := va_join (wr := [(m0, .inr (10, [.int i_fault, .int (nI (n_size)), .ref r_file, .int (nI (n_side)), .int (bI o_font), .ref r_bytes, .ref r_places, .ref r_lengths, .ref r_glyphCount, .ref r_ems, .ref r_wides, .ref r_forms, .ref r_parts, .ref r_charts, .ref r_pointCount, .ref r_contourCount, .ref r_depths, .ref r_xs, .ref r_ys, .ref r_ons, .ref r_contours, .int (bI o_bad), .int (nI (n_at)), .int (nI (n_end)), .ref r_flags, .ref r_part, .int (nI (n_typed)), .ref r_text, .int (nI (n_ring)), .ref r_ringX, .ref r_ringY, .ref r_ringOn, .int (nI (n_wait)), .ref r_curves, .ref r_windings, .ref r_rows])), (r_curves, .inl (c_curves, 140, .inl (v_curves)))]) (w1 := []) hP hD [] [0, 1] rfl rfl (by decide) (by decide) hk1 hFc hP1 hD1
  generalize H1 = H at hP hS ⊢
  have hP : va_P (dC, dI) cls_ [(m0, .inr (10, [.int i_fault, .int (nI (n_size)), .ref r_file, .int (nI (n_side)), .int (bI o_font), .ref r_bytes, .ref r_places, .ref r_lengths, .ref r_glyphCount, .ref r_ems, .ref r_wides, .ref r_forms, .ref r_parts, .ref r_charts, .ref r_pointCount, .ref r_contourCount, .ref r_depths, .ref r_xs, .ref r_ys, .ref r_ons, .ref r_contours, .int (bI o_bad), .int (nI (n_at)), .int (nI (n_end)), .ref r_flags, .ref r_part, .int (nI (n_typed)), .ref r_text, .int (nI (n_ring)), .ref r_ringX, .ref r_ringY, .ref r_ringOn, .int (nI (n_wait)), .ref r_curves, .ref r_windings, .ref r_rows])), (r_curves, .inl (c_curves, 140, .inl (v_curves)))] H := hP
  have hD : va_D A [(m0, .inr (10, [.int i_fault, .int (nI (n_size)), .ref r_file, .int (nI (n_side)), .int (bI o_font), .ref r_bytes, .ref r_places, .ref r_lengths, .ref r_glyphCount, .ref r_ems, .ref r_wides, .ref r_forms, .ref r_parts, .ref r_charts, .ref r_pointCount, .ref r_contourCount, .ref r_depths, .ref r_xs, .ref r_ys, .ref r_ons, .ref r_contours, .int (bI o_bad), .int (nI (n_at)), .int (nI (n_end)), .ref r_flags, .ref r_part, .int (nI (n_typed)), .ref r_text, .int (nI (n_ring)), .ref r_ringX, .ref r_ringY, .ref r_ringOn, .int (nI (n_wait)), .ref r_curves, .ref r_windings, .ref r_rows])), (r_curves, .inl (c_curves, 140, .inl (v_curves)))] := hD
  have hw_r16777 := hw
  refine lv_aload_n hx hb d_MD_isFlat_28 rfl (lv_at hl 2 rfl) ?_
  refine va_get (D := (dC, dI)) (ci := 10) (v := .ref r_curves) (C := R_MD) (T := F_MD) (N := 36) hx hb hts in_MD hown hK hP 0 rfl rfl 33 (by decide) (hts _ (List.mem_cons_of_mem _ w_885)) (fun _ h9 => h9) rfl d_MD_isFlat_29 ?_
  refine lv_iload_n hx hb d_MD_isFlat_32 rfl (lv_at hl 3 rfl) ?_
  refine lv_iconst (v := 5) hx hb d_MD_isFlat_33 (by decide) ?_
  refine lv_iadd hx hb d_MD_isFlat_34 ?_
  refine lv_ci (y := nI (k9 + 5)) (nI_add (k9) (5)) ?_
  refine va_iald hx hb hK hP 1 0 rfl rfl (pk_in (k9 + 5) 140 (by omega) rfl (by decide)) d_MD_isFlat_35 ?_
  refine lv_topi (fun v16778 ev16778 => ?_)
  refine lv_iload_n hx hb d_MD_isFlat_36 rfl (lv_at hl 0 rfl) ?_
  have hPc := hP.sub (ws' := []) [] rfl
  have hDc := hD.sub (ws' := []) [] (by decide) rfl
  have hKc := hK.sub (tys' := []) [] rfl
  have hFc := va_free (wc := []) hD hS hA [] rfl
  refine va_calli (va_runS (As := [.int v16778, .int v16775]) (rest := [.int r16777]) ⟨hx, hb, hml, hown, hts⟩ (g_MD_far l dC dI v16778 v16775 H.size) (cwS 2 hts (tw_inS w_1196 w_1197 w_11 w_1198) rfl rfl rfl (by decide +kernel) ⟨Nat.le_of_ble_eq_true rfl, Nat.le_of_ble_eq_true rfl⟩) ⟨fun a U g mk q => by obtain ⟨q0, q1, qP, qK, qD⟩ := q; exact ⟨q0, q1, qP, va_K.moved (u := U) (U := U.calling g mk a) (Vm.Alike.refl U.vm) qK, qD⟩, fun U hU hW => ⟨rfl, by rw [hU], by rw [hU]; exact hPc, va_K.moved hW.alike hKc, hDc.weaken (fun _ _ _ _ => trivial)⟩⟩ rfl rfl hl.1 rfl (lv_room (Nat.le_of_ble_eq_true rfl)) d_MD_isFlat_37 ⟨Nat.le_of_ble_eq_true rfl, Nat.le_of_ble_eq_true rfl⟩) hS (fun q _ h => hFc q h) hFc (fun r16779 u t H1 locs ht hvm hw hB hz1 hk1 hS => ?_)
  have hP1 : va_P (dC, dI) cls_ [] H1 := fun k q h => by simp at h
  have hD1 : va_D (va_A [] H.size) [] := ⟨fun i j p q h => by simp at h, fun k q h => by simp at h⟩
  obtain ⟨hP, hD⟩ := va_join (wr := [(m0, .inr (10, [.int i_fault, .int (nI (n_size)), .ref r_file, .int (nI (n_side)), .int (bI o_font), .ref r_bytes, .ref r_places, .ref r_lengths, .ref r_glyphCount, .ref r_ems, .ref r_wides, .ref r_forms, .ref r_parts, .ref r_charts, .ref r_pointCount, .ref r_contourCount, .ref r_depths, .ref r_xs, .ref r_ys, .ref r_ons, .ref r_contours, .int (bI o_bad), .int (nI (n_at)), .int (nI (n_end)), .ref r_flags, .ref r_part, .int (nI (n_typed)), .ref r_text, .int (nI (n_ring)), .ref r_ringX, .ref r_ringY, .ref r_ringOn, .int (nI (n_wait)), .ref r_curves, .ref r_windings, .ref r_rows])), (r_curves, .inl (c_curves, 140, .inl (v_curves)))]) (w1 := []) hP hD [] [0, 1] rfl rfl (by decide) (by decide) hk1 hFc hP1 hD1
  generalize H1 = H at hP hS ⊢
  have hP : va_P (dC, dI) cls_ [(m0, .inr (10, [.int i_fault, .int (nI (n_size)), .ref r_file, .int (nI (n_side)), .int (bI o_font), .ref r_bytes, .ref r_places, .ref r_lengths, .ref r_glyphCount, .ref r_ems, .ref r_wides, .ref r_forms, .ref r_parts, .ref r_charts, .ref r_pointCount, .ref r_contourCount, .ref r_depths, .ref r_xs, .ref r_ys, .ref r_ons, .ref r_contours, .int (bI o_bad), .int (nI (n_at)), .int (nI (n_end)), .ref r_flags, .ref r_part, .int (nI (n_typed)), .ref r_text, .int (nI (n_ring)), .ref r_ringX, .ref r_ringY, .ref r_ringOn, .int (nI (n_wait)), .ref r_curves, .ref r_windings, .ref r_rows])), (r_curves, .inl (c_curves, 140, .inl (v_curves)))] H := hP
  have hD : va_D A [(m0, .inr (10, [.int i_fault, .int (nI (n_size)), .ref r_file, .int (nI (n_side)), .int (bI o_font), .ref r_bytes, .ref r_places, .ref r_lengths, .ref r_glyphCount, .ref r_ems, .ref r_wides, .ref r_forms, .ref r_parts, .ref r_charts, .ref r_pointCount, .ref r_contourCount, .ref r_depths, .ref r_xs, .ref r_ys, .ref r_ons, .ref r_contours, .int (bI o_bad), .int (nI (n_at)), .int (nI (n_end)), .ref r_flags, .ref r_part, .int (nI (n_typed)), .ref r_text, .int (nI (n_ring)), .ref r_ringX, .ref r_ringY, .ref r_ringOn, .int (nI (n_wait)), .ref r_curves, .ref r_windings, .ref r_rows])), (r_curves, .inl (c_curves, 140, .inl (v_curves)))] := hD
  have hw_r16779 := hw
  refine lv_join (α := Int32) 70 (fun s0_16785 H' locs' ls' => va_P (dC, dI) cls_ [(m0, .inr (10, [.int i_fault, .int (nI (n_size)), .ref r_file, .int (nI (n_side)), .int (bI o_font), .ref r_bytes, .ref r_places, .ref r_lengths, .ref r_glyphCount, .ref r_ems, .ref r_wides, .ref r_forms, .ref r_parts, .ref r_charts, .ref r_pointCount, .ref r_contourCount, .ref r_depths, .ref r_xs, .ref r_ys, .ref r_ons, .ref r_contours, .int (bI o_bad), .int (nI (n_at)), .int (nI (n_end)), .ref r_flags, .ref r_part, .int (nI (n_typed)), .ref r_text, .int (nI (n_ring)), .ref r_ringX, .ref r_ringY, .ref r_ringOn, .int (nI (n_wait)), .ref r_curves, .ref r_windings, .ref r_rows])), (r_curves, .inl (c_curves, 140, .inl (v_curves)))] H' ∧ va_D A [(m0, .inr (10, [.int i_fault, .int (nI (n_size)), .ref r_file, .int (nI (n_side)), .int (bI o_font), .ref r_bytes, .ref r_places, .ref r_lengths, .ref r_glyphCount, .ref r_ems, .ref r_wides, .ref r_forms, .ref r_parts, .ref r_charts, .ref r_pointCount, .ref r_contourCount, .ref r_depths, .ref r_xs, .ref r_ys, .ref r_ons, .ref r_contours, .int (bI o_bad), .int (nI (n_at)), .int (nI (n_end)), .ref r_flags, .ref r_part, .int (nI (n_typed)), .ref r_text, .int (nI (n_ring)), .ref r_ringX, .ref r_ringY, .ref r_ringOn, .int (nI (n_wait)), .ref r_curves, .ref r_windings, .ref r_rows])), (r_curves, .inl (c_curves, 140, .inl (v_curves)))] ∧ va_S A s.heap H' locs' ∧ lv_has ls' 7 [(3, .int v16775), (2, .int v16774), (0, .ref m0), (1, .int (nI (k9)))]) (fun s0_16785 => [.int s0_16785]) ?_ (fun kj16786 => ?_)
  · skip
    intro s0_16785 H locs ls ⟨hP, hD, hS, hl⟩
    show W p l e _ s m _ below meth c H locs _ _ _ (F0 m 70 ls [.int s0_16785])
    have hP : va_P (dC, dI) cls_ [(m0, .inr (10, [.int i_fault, .int (nI (n_size)), .ref r_file, .int (nI (n_side)), .int (bI o_font), .ref r_bytes, .ref r_places, .ref r_lengths, .ref r_glyphCount, .ref r_ems, .ref r_wides, .ref r_forms, .ref r_parts, .ref r_charts, .ref r_pointCount, .ref r_contourCount, .ref r_depths, .ref r_xs, .ref r_ys, .ref r_ons, .ref r_contours, .int (bI o_bad), .int (nI (n_at)), .int (nI (n_end)), .ref r_flags, .ref r_part, .int (nI (n_typed)), .ref r_text, .int (nI (n_ring)), .ref r_ringX, .ref r_ringY, .ref r_ringOn, .int (nI (n_wait)), .ref r_curves, .ref r_windings, .ref r_rows])), (r_curves, .inl (c_curves, 140, .inl (v_curves)))] H := hP
    have hD : va_D A [(m0, .inr (10, [.int i_fault, .int (nI (n_size)), .ref r_file, .int (nI (n_side)), .int (bI o_font), .ref r_bytes, .ref r_places, .ref r_lengths, .ref r_glyphCount, .ref r_ems, .ref r_wides, .ref r_forms, .ref r_parts, .ref r_charts, .ref r_pointCount, .ref r_contourCount, .ref r_depths, .ref r_xs, .ref r_ys, .ref r_ons, .ref r_contours, .int (bI o_bad), .int (nI (n_at)), .int (nI (n_end)), .ref r_flags, .ref r_part, .int (nI (n_typed)), .ref r_text, .int (nI (n_ring)), .ref r_ringX, .ref r_ringY, .ref r_ringOn, .int (nI (n_wait)), .ref r_curves, .ref r_windings, .ref r_rows])), (r_curves, .inl (c_curves, 140, .inl (v_curves)))] := hD
    refine lv_istore (lv' := [(4, .int s0_16785), (3, .int v16775), (2, .int v16774), (0, .ref m0), (1, .int (nI (k9)))]) hx hb d_MD_isFlat_70 hl (by decide) rfl (fun ls hl => ?_)
    refine lv_iload hx hb d_MD_isFlat_72 (lv_at hl 0 rfl) ?_
    refine lv_if_ne (tgt := 115) hx hb d_MD_isFlat_74 (by decide) (fun hc16787 => ?_) (fun hc16787 => ?_)
    · skip
      refine lv_aload_n hx hb d_MD_isFlat_115 rfl (lv_at hl 3 rfl) ?_
      refine va_get (D := (dC, dI)) (ci := 10) (v := .ref r_curves) (C := R_MD) (T := F_MD) (N := 36) hx hb hts in_MD hown hK hP 0 rfl rfl 33 (by decide) (hts _ (List.mem_cons_of_mem _ w_885)) (fun _ h9 => h9) rfl d_MD_isFlat_116 ?_
      refine lv_iload_n hx hb d_MD_isFlat_119 rfl (lv_at hl 4 rfl) ?_
      refine lv_iconst (v := 2) hx hb d_MD_isFlat_120 (by decide) ?_
      refine lv_iadd hx hb d_MD_isFlat_121 ?_
      refine lv_ci (y := nI (k9 + 2)) (nI_add (k9) (2)) ?_
      refine va_iald hx hb hK hP 1 0 rfl rfl (pk_in (k9 + 2) 140 (by omega) rfl (by decide)) d_MD_isFlat_122 ?_
      refine lv_topi (fun v16788 ev16788 => ?_)
      refine lv_iload_n hx hb d_MD_isFlat_123 rfl (lv_at hl 2 rfl) ?_
      refine lv_isub hx hb d_MD_isFlat_124 ?_
      refine lv_topi (fun v16789 ev16789 => ?_)
      refine lv_i2l (v := v16789.toInt64) hx hb d_MD_isFlat_125 (by first | rfl | decide +kernel) ?_
      refine lv_aload_n hx hb d_MD_isFlat_126 rfl (lv_at hl 3 rfl) ?_
      refine va_get (D := (dC, dI)) (ci := 10) (v := .ref r_curves) (C := R_MD) (T := F_MD) (N := 36) hx hb hts in_MD hown hK hP 0 rfl rfl 33 (by decide) (hts _ (List.mem_cons_of_mem _ w_885)) (fun _ h9 => h9) rfl d_MD_isFlat_127 ?_
      refine lv_iload_n hx hb d_MD_isFlat_130 rfl (lv_at hl 4 rfl) ?_
      refine lv_iconst (v := 5) hx hb d_MD_isFlat_131 (by decide) ?_
      refine lv_iadd hx hb d_MD_isFlat_132 ?_
      refine lv_ci (y := nI (k9 + 5)) (nI_add (k9) (5)) ?_
      refine va_iald hx hb hK hP 1 0 rfl rfl (pk_in (k9 + 5) 140 (by omega) rfl (by decide)) d_MD_isFlat_133 ?_
      refine lv_topi (fun v16790 ev16790 => ?_)
      refine lv_iload_n hx hb d_MD_isFlat_134 rfl (lv_at hl 1 rfl) ?_
      refine lv_isub hx hb d_MD_isFlat_135 ?_
      refine lv_topi (fun v16791 ev16791 => ?_)
      refine lv_i2l (v := v16791.toInt64) hx hb d_MD_isFlat_136 (by first | rfl | decide +kernel) ?_
      refine lv_lmul hx hb d_MD_isFlat_137 ?_
      refine lv_topl (fun v16792 ev16792 => ?_)
      refine lv_aload_n hx hb d_MD_isFlat_138 rfl (lv_at hl 3 rfl) ?_
      refine va_get (D := (dC, dI)) (ci := 10) (v := .ref r_curves) (C := R_MD) (T := F_MD) (N := 36) hx hb hts in_MD hown hK hP 0 rfl rfl 33 (by decide) (hts _ (List.mem_cons_of_mem _ w_885)) (fun _ h9 => h9) rfl d_MD_isFlat_139 ?_
      refine lv_iload_n hx hb d_MD_isFlat_142 rfl (lv_at hl 4 rfl) ?_
      refine lv_iconst (v := 3) hx hb d_MD_isFlat_143 (by decide) ?_
      refine lv_iadd hx hb d_MD_isFlat_144 ?_
      refine lv_ci (y := nI (k9 + 3)) (nI_add (k9) (3)) ?_
      refine va_iald hx hb hK hP 1 0 rfl rfl (pk_in (k9 + 3) 140 (by omega) rfl (by decide)) d_MD_isFlat_145 ?_
      refine lv_topi (fun v16793 ev16793 => ?_)
      refine lv_iload_n hx hb d_MD_isFlat_146 rfl (lv_at hl 1 rfl) ?_
      refine lv_isub hx hb d_MD_isFlat_147 ?_
      refine lv_topi (fun v16794 ev16794 => ?_)
      refine lv_i2l (v := v16794.toInt64) hx hb d_MD_isFlat_148 (by first | rfl | decide +kernel) ?_
      refine lv_aload_n hx hb d_MD_isFlat_149 rfl (lv_at hl 3 rfl) ?_
      refine va_get (D := (dC, dI)) (ci := 10) (v := .ref r_curves) (C := R_MD) (T := F_MD) (N := 36) hx hb hts in_MD hown hK hP 0 rfl rfl 33 (by decide) (hts _ (List.mem_cons_of_mem _ w_885)) (fun _ h9 => h9) rfl d_MD_isFlat_150 ?_
      refine lv_iload_n hx hb d_MD_isFlat_153 rfl (lv_at hl 4 rfl) ?_
      refine lv_iconst (v := 4) hx hb d_MD_isFlat_154 (by decide) ?_
      refine lv_iadd hx hb d_MD_isFlat_155 ?_
      refine lv_ci (y := nI (k9 + 4)) (nI_add (k9) (4)) ?_
      refine va_iald hx hb hK hP 1 0 rfl rfl (pk_in (k9 + 4) 140 (by omega) rfl (by decide)) d_MD_isFlat_156 ?_
      refine lv_topi (fun v16795 ev16795 => ?_)
      refine lv_iload_n hx hb d_MD_isFlat_157 rfl (lv_at hl 2 rfl) ?_
      refine lv_isub hx hb d_MD_isFlat_158 ?_
      refine lv_topi (fun v16796 ev16796 => ?_)
      refine lv_i2l (v := v16796.toInt64) hx hb d_MD_isFlat_159 (by first | rfl | decide +kernel) ?_
      refine lv_lmul hx hb d_MD_isFlat_160 ?_
      refine lv_topl (fun v16797 ev16797 => ?_)
      refine lv_lsub hx hb d_MD_isFlat_161 ?_
      refine lv_topl (fun v16798 ev16798 => ?_)
      refine lv_lstore (lv' := [(5, .long v16798), (4, .int s0_16785), (3, .int v16775), (2, .int v16774), (0, .ref m0), (1, .int (nI (k9)))]) hx hb d_MD_isFlat_162 hl (by decide) rfl (fun ls hl => ?_)
      refine lv_lload hx hb d_MD_isFlat_164 (lv_at hl 0 rfl) ?_
      refine lv_ldc2 (v := 4) hx hb hown (hts _ (List.mem_cons_of_mem _ w_1026)) d_MD_isFlat_166 ?_
      refine lv_iload hx hb d_MD_isFlat_169 (lv_at hl 1 rfl) ?_
      refine lv_i2l (v := s0_16785.toInt64) hx hb d_MD_isFlat_171 (by first | rfl | decide +kernel) ?_
      refine lv_lmul hx hb d_MD_isFlat_172 ?_
      refine lv_topl (fun v16799 ev16799 => ?_)
      refine W.lcmp hx hb d_MD_isFlat_173 ?_
      refine lv_topi (fun v16800 ev16800 => ?_)
      refine lv_join (α := Bool) 195 (fun s0_16805 H' locs' ls' => va_P (dC, dI) cls_ [(m0, .inr (10, [.int i_fault, .int (nI (n_size)), .ref r_file, .int (nI (n_side)), .int (bI o_font), .ref r_bytes, .ref r_places, .ref r_lengths, .ref r_glyphCount, .ref r_ems, .ref r_wides, .ref r_forms, .ref r_parts, .ref r_charts, .ref r_pointCount, .ref r_contourCount, .ref r_depths, .ref r_xs, .ref r_ys, .ref r_ons, .ref r_contours, .int (bI o_bad), .int (nI (n_at)), .int (nI (n_end)), .ref r_flags, .ref r_part, .int (nI (n_typed)), .ref r_text, .int (nI (n_ring)), .ref r_ringX, .ref r_ringY, .ref r_ringOn, .int (nI (n_wait)), .ref r_curves, .ref r_windings, .ref r_rows])), (r_curves, .inl (c_curves, 140, .inl (v_curves)))] H' ∧ va_D A [(m0, .inr (10, [.int i_fault, .int (nI (n_size)), .ref r_file, .int (nI (n_side)), .int (bI o_font), .ref r_bytes, .ref r_places, .ref r_lengths, .ref r_glyphCount, .ref r_ems, .ref r_wides, .ref r_forms, .ref r_parts, .ref r_charts, .ref r_pointCount, .ref r_contourCount, .ref r_depths, .ref r_xs, .ref r_ys, .ref r_ons, .ref r_contours, .int (bI o_bad), .int (nI (n_at)), .int (nI (n_end)), .ref r_flags, .ref r_part, .int (nI (n_typed)), .ref r_text, .int (nI (n_ring)), .ref r_ringX, .ref r_ringY, .ref r_ringOn, .int (nI (n_wait)), .ref r_curves, .ref r_windings, .ref r_rows])), (r_curves, .inl (c_curves, 140, .inl (v_curves)))] ∧ va_S A s.heap H' locs' ∧ lv_has ls' 7 [(5, .long v16798), (4, .int s0_16785), (3, .int v16775), (2, .int v16774), (0, .ref m0), (1, .int (nI (k9)))]) (fun s0_16805 => [.int (bI s0_16805)]) ?_ (fun kj16806 => ?_)
      · skip
        intro s0_16805 H locs ls ⟨hP, hD, hS, hl⟩
        show W p l e _ s m _ below meth c H locs _ _ _ (F0 m 195 ls [.int (bI s0_16805)])
        have hP : va_P (dC, dI) cls_ [(m0, .inr (10, [.int i_fault, .int (nI (n_size)), .ref r_file, .int (nI (n_side)), .int (bI o_font), .ref r_bytes, .ref r_places, .ref r_lengths, .ref r_glyphCount, .ref r_ems, .ref r_wides, .ref r_forms, .ref r_parts, .ref r_charts, .ref r_pointCount, .ref r_contourCount, .ref r_depths, .ref r_xs, .ref r_ys, .ref r_ons, .ref r_contours, .int (bI o_bad), .int (nI (n_at)), .int (nI (n_end)), .ref r_flags, .ref r_part, .int (nI (n_typed)), .ref r_text, .int (nI (n_ring)), .ref r_ringX, .ref r_ringY, .ref r_ringOn, .int (nI (n_wait)), .ref r_curves, .ref r_windings, .ref r_rows])), (r_curves, .inl (c_curves, 140, .inl (v_curves)))] H := hP
        have hD : va_D A [(m0, .inr (10, [.int i_fault, .int (nI (n_size)), .ref r_file, .int (nI (n_side)), .int (bI o_font), .ref r_bytes, .ref r_places, .ref r_lengths, .ref r_glyphCount, .ref r_ems, .ref r_wides, .ref r_forms, .ref r_parts, .ref r_charts, .ref r_pointCount, .ref r_contourCount, .ref r_depths, .ref r_xs, .ref r_ys, .ref r_ons, .ref r_contours, .int (bI o_bad), .int (nI (n_at)), .int (nI (n_end)), .ref r_flags, .ref r_part, .int (nI (n_typed)), .ref r_text, .int (nI (n_ring)), .ref r_ringX, .ref r_ringY, .ref r_ringOn, .int (nI (n_wait)), .ref r_curves, .ref r_windings, .ref r_rows])), (r_curves, .inl (c_curves, 140, .inl (v_curves)))] := hD
        refine W.widen (k := 0) (n := 0) (Nat.le_of_ble_eq_true rfl) (Nat.le_of_ble_eq_true rfl) ?_
        have hP9 := hP.sub (ws' := [(m0, .inr (10, [.int i_fault, .int (nI (n_size)), .ref r_file, .int (nI (n_side)), .int (bI o_font), .ref r_bytes, .ref r_places, .ref r_lengths, .ref r_glyphCount, .ref r_ems, .ref r_wides, .ref r_forms, .ref r_parts, .ref r_charts, .ref r_pointCount, .ref r_contourCount, .ref r_depths, .ref r_xs, .ref r_ys, .ref r_ons, .ref r_contours, .int (bI o_bad), .int (nI (n_at)), .int (nI (n_end)), .ref r_flags, .ref r_part, .int (nI (n_typed)), .ref r_text, .int (nI (n_ring)), .ref r_ringX, .ref r_ringY, .ref r_ringOn, .int (nI (n_wait)), .ref r_curves, .ref r_windings, .ref r_rows])), (r_curves, .inl (c_curves, 140, .inl (v_curves)))]) [0, 1] rfl
        have hD9 := hD.sub (ws' := [(m0, .inr (10, [.int i_fault, .int (nI (n_size)), .ref r_file, .int (nI (n_side)), .int (bI o_font), .ref r_bytes, .ref r_places, .ref r_lengths, .ref r_glyphCount, .ref r_ems, .ref r_wides, .ref r_forms, .ref r_parts, .ref r_charts, .ref r_pointCount, .ref r_contourCount, .ref r_depths, .ref r_xs, .ref r_ys, .ref r_ons, .ref r_contours, .int (bI o_bad), .int (nI (n_at)), .int (nI (n_end)), .ref r_flags, .ref r_part, .int (nI (n_typed)), .ref r_text, .int (nI (n_ring)), .ref r_ringX, .ref r_ringY, .ref r_ringOn, .int (nI (n_wait)), .ref r_curves, .ref r_windings, .ref r_rows])), (r_curves, .inl (c_curves, 140, .inl (v_curves)))]) [0, 1] (by decide) rfl
        have hK9 := hK.sub (tys' := [(c_curves, .int)]) [0] rfl
        exact W.zret (v := bI s0_16805) (ty := .boolean) hx hb hr (bI_n _) (fun t ht hW => ⟨⟨bI s0_16805, (), rfl, ⟨s0_16805, rfl⟩, by rw [ht]; exact hP9, va_K.moved hW.alike hK9, hD9⟩, hS.F ht⟩) hS.2.2 d_MD_isFlat_195
      · skip
        refine lv_if_gt (tgt := 194) hx hb d_MD_isFlat_174 (by decide) (fun hc16807 => ?_) (fun hc16807 => ?_)
        · skip
          refine lv_iconst (v := 0) hx hb d_MD_isFlat_194 (by decide) ?_
          have hP8 := hP.sub (ws' := [(m0, .inr (10, [.int i_fault, .int (nI (n_size)), .ref r_file, .int (nI (n_side)), .int (bI o_font), .ref r_bytes, .ref r_places, .ref r_lengths, .ref r_glyphCount, .ref r_ems, .ref r_wides, .ref r_forms, .ref r_parts, .ref r_charts, .ref r_pointCount, .ref r_contourCount, .ref r_depths, .ref r_xs, .ref r_ys, .ref r_ons, .ref r_contours, .int (bI o_bad), .int (nI (n_at)), .int (nI (n_end)), .ref r_flags, .ref r_part, .int (nI (n_typed)), .ref r_text, .int (nI (n_ring)), .ref r_ringX, .ref r_ringY, .ref r_ringOn, .int (nI (n_wait)), .ref r_curves, .ref r_windings, .ref r_rows])), (r_curves, .inl (c_curves, 140, .inl (v_curves)))]) [0, 1] rfl
          have hD8 := hD.sub (ws' := [(m0, .inr (10, [.int i_fault, .int (nI (n_size)), .ref r_file, .int (nI (n_side)), .int (bI o_font), .ref r_bytes, .ref r_places, .ref r_lengths, .ref r_glyphCount, .ref r_ems, .ref r_wides, .ref r_forms, .ref r_parts, .ref r_charts, .ref r_pointCount, .ref r_contourCount, .ref r_depths, .ref r_xs, .ref r_ys, .ref r_ons, .ref r_contours, .int (bI o_bad), .int (nI (n_at)), .int (nI (n_end)), .ref r_flags, .ref r_part, .int (nI (n_typed)), .ref r_text, .int (nI (n_ring)), .ref r_ringX, .ref r_ringY, .ref r_ringOn, .int (nI (n_wait)), .ref r_curves, .ref r_windings, .ref r_rows])), (r_curves, .inl (c_curves, 140, .inl (v_curves)))]) [0, 1] (by decide) rfl
          exact kj16806 (false) H locs ls ⟨hP8, hD8, hS, lv_sub hl [0, 1, 2, 3, 4, 5] rfl⟩
        · skip
          refine lv_lload hx hb d_MD_isFlat_177 (lv_at hl 0 rfl) ?_
          refine lv_ldc2 (v := (-4)) hx hb hown (hts _ (List.mem_cons_of_mem _ w_1199)) d_MD_isFlat_179 ?_
          refine lv_iload hx hb d_MD_isFlat_182 (lv_at hl 1 rfl) ?_
          refine lv_i2l (v := s0_16785.toInt64) hx hb d_MD_isFlat_184 (by first | rfl | decide +kernel) ?_
          refine lv_lmul hx hb d_MD_isFlat_185 ?_
          refine lv_topl (fun v16808 ev16808 => ?_)
          refine W.lcmp hx hb d_MD_isFlat_186 ?_
          refine lv_topi (fun v16809 ev16809 => ?_)
          refine lv_if_lt (tgt := 194) hx hb d_MD_isFlat_187 (by decide) (fun hc16810 => ?_) (fun hc16810 => ?_)
          · skip
            refine lv_iconst (v := 0) hx hb d_MD_isFlat_194 (by decide) ?_
            have hP8 := hP.sub (ws' := [(m0, .inr (10, [.int i_fault, .int (nI (n_size)), .ref r_file, .int (nI (n_side)), .int (bI o_font), .ref r_bytes, .ref r_places, .ref r_lengths, .ref r_glyphCount, .ref r_ems, .ref r_wides, .ref r_forms, .ref r_parts, .ref r_charts, .ref r_pointCount, .ref r_contourCount, .ref r_depths, .ref r_xs, .ref r_ys, .ref r_ons, .ref r_contours, .int (bI o_bad), .int (nI (n_at)), .int (nI (n_end)), .ref r_flags, .ref r_part, .int (nI (n_typed)), .ref r_text, .int (nI (n_ring)), .ref r_ringX, .ref r_ringY, .ref r_ringOn, .int (nI (n_wait)), .ref r_curves, .ref r_windings, .ref r_rows])), (r_curves, .inl (c_curves, 140, .inl (v_curves)))]) [0, 1] rfl
            have hD8 := hD.sub (ws' := [(m0, .inr (10, [.int i_fault, .int (nI (n_size)), .ref r_file, .int (nI (n_side)), .int (bI o_font), .ref r_bytes, .ref r_places, .ref r_lengths, .ref r_glyphCount, .ref r_ems, .ref r_wides, .ref r_forms, .ref r_parts, .ref r_charts, .ref r_pointCount, .ref r_contourCount, .ref r_depths, .ref r_xs, .ref r_ys, .ref r_ons, .ref r_contours, .int (bI o_bad), .int (nI (n_at)), .int (nI (n_end)), .ref r_flags, .ref r_part, .int (nI (n_typed)), .ref r_text, .int (nI (n_ring)), .ref r_ringX, .ref r_ringY, .ref r_ringOn, .int (nI (n_wait)), .ref r_curves, .ref r_windings, .ref r_rows])), (r_curves, .inl (c_curves, 140, .inl (v_curves)))]) [0, 1] (by decide) rfl
            exact kj16806 (false) H locs ls ⟨hP8, hD8, hS, lv_sub hl [0, 1, 2, 3, 4, 5] rfl⟩
          · skip
            refine lv_iconst (v := 1) hx hb d_MD_isFlat_190 (by decide) ?_
            refine lv_goto (tgt := 195) hx hb d_MD_isFlat_191 (by decide) ?_
            have hP8 := hP.sub (ws' := [(m0, .inr (10, [.int i_fault, .int (nI (n_size)), .ref r_file, .int (nI (n_side)), .int (bI o_font), .ref r_bytes, .ref r_places, .ref r_lengths, .ref r_glyphCount, .ref r_ems, .ref r_wides, .ref r_forms, .ref r_parts, .ref r_charts, .ref r_pointCount, .ref r_contourCount, .ref r_depths, .ref r_xs, .ref r_ys, .ref r_ons, .ref r_contours, .int (bI o_bad), .int (nI (n_at)), .int (nI (n_end)), .ref r_flags, .ref r_part, .int (nI (n_typed)), .ref r_text, .int (nI (n_ring)), .ref r_ringX, .ref r_ringY, .ref r_ringOn, .int (nI (n_wait)), .ref r_curves, .ref r_windings, .ref r_rows])), (r_curves, .inl (c_curves, 140, .inl (v_curves)))]) [0, 1] rfl
            have hD8 := hD.sub (ws' := [(m0, .inr (10, [.int i_fault, .int (nI (n_size)), .ref r_file, .int (nI (n_side)), .int (bI o_font), .ref r_bytes, .ref r_places, .ref r_lengths, .ref r_glyphCount, .ref r_ems, .ref r_wides, .ref r_forms, .ref r_parts, .ref r_charts, .ref r_pointCount, .ref r_contourCount, .ref r_depths, .ref r_xs, .ref r_ys, .ref r_ons, .ref r_contours, .int (bI o_bad), .int (nI (n_at)), .int (nI (n_end)), .ref r_flags, .ref r_part, .int (nI (n_typed)), .ref r_text, .int (nI (n_ring)), .ref r_ringX, .ref r_ringY, .ref r_ringOn, .int (nI (n_wait)), .ref r_curves, .ref r_windings, .ref r_rows])), (r_curves, .inl (c_curves, 140, .inl (v_curves)))]) [0, 1] (by decide) rfl
            exact kj16806 (true) H locs ls ⟨hP8, hD8, hS, lv_sub hl [0, 1, 2, 3, 4, 5] rfl⟩
    · skip
      refine lv_aload_n hx hb d_MD_isFlat_77 rfl (lv_at hl 3 rfl) ?_
      refine va_get (D := (dC, dI)) (ci := 10) (v := .ref r_curves) (C := R_MD) (T := F_MD) (N := 36) hx hb hts in_MD hown hK hP 0 rfl rfl 33 (by decide) (hts _ (List.mem_cons_of_mem _ w_885)) (fun _ h9 => h9) rfl d_MD_isFlat_78 ?_
      refine lv_iload_n hx hb d_MD_isFlat_81 rfl (lv_at hl 4 rfl) ?_
      refine lv_iconst (v := 2) hx hb d_MD_isFlat_82 (by decide) ?_
      refine lv_iadd hx hb d_MD_isFlat_83 ?_
      refine lv_ci (y := nI (k9 + 2)) (nI_add (k9) (2)) ?_
      refine va_iald hx hb hK hP 1 0 rfl rfl (pk_in (k9 + 2) 140 (by omega) rfl (by decide)) d_MD_isFlat_84 ?_
      refine lv_topi (fun v16811 ev16811 => ?_)
      refine lv_iload_n hx hb d_MD_isFlat_85 rfl (lv_at hl 2 rfl) ?_
      have hPc := hP.sub (ws' := []) [] rfl
      have hDc := hD.sub (ws' := []) [] (by decide) rfl
      have hKc := hK.sub (tys' := []) [] rfl
      have hFc := va_free (wc := []) hD hS hA [] rfl
      refine va_calli (va_runS (As := [.int v16811, .int v16774]) (rest := []) ⟨hx, hb, hml, hown, hts⟩ (g_MD_far l dC dI v16811 v16774 H.size) (cwS 2 hts (tw_inS w_1196 w_1197 w_11 w_1198) rfl rfl rfl (by decide +kernel) ⟨Nat.le_of_ble_eq_true rfl, Nat.le_of_ble_eq_true rfl⟩) ⟨fun a U g mk q => by obtain ⟨q0, q1, qP, qK, qD⟩ := q; exact ⟨q0, q1, qP, va_K.moved (u := U) (U := U.calling g mk a) (Vm.Alike.refl U.vm) qK, qD⟩, fun U hU hW => ⟨rfl, by rw [hU], by rw [hU]; exact hPc, va_K.moved hW.alike hKc, hDc.weaken (fun _ _ _ _ => trivial)⟩⟩ rfl rfl hl.1 rfl (lv_room (Nat.le_of_ble_eq_true rfl)) d_MD_isFlat_86 ⟨Nat.le_of_ble_eq_true rfl, Nat.le_of_ble_eq_true rfl⟩) hS (fun q _ h => hFc q h) hFc (fun r16812 u t H1 locs ht hvm hw hB hz1 hk1 hS => ?_)
      have hP1 : va_P (dC, dI) cls_ [] H1 := fun k q h => by simp at h
      have hD1 : va_D (va_A [] H.size) [] := ⟨fun i j p q h => by simp at h, fun k q h => by simp at h⟩
      obtain ⟨hP, hD⟩ := va_join (wr := [(m0, .inr (10, [.int i_fault, .int (nI (n_size)), .ref r_file, .int (nI (n_side)), .int (bI o_font), .ref r_bytes, .ref r_places, .ref r_lengths, .ref r_glyphCount, .ref r_ems, .ref r_wides, .ref r_forms, .ref r_parts, .ref r_charts, .ref r_pointCount, .ref r_contourCount, .ref r_depths, .ref r_xs, .ref r_ys, .ref r_ons, .ref r_contours, .int (bI o_bad), .int (nI (n_at)), .int (nI (n_end)), .ref r_flags, .ref r_part, .int (nI (n_typed)), .ref r_text, .int (nI (n_ring)), .ref r_ringX, .ref r_ringY, .ref r_ringOn, .int (nI (n_wait)), .ref r_curves, .ref r_windings, .ref r_rows])), (r_curves, .inl (c_curves, 140, .inl (v_curves)))]) (w1 := []) hP hD [] [0, 1] rfl rfl (by decide) (by decide) hk1 hFc hP1 hD1
      generalize H1 = H at hP hS ⊢
      have hP : va_P (dC, dI) cls_ [(m0, .inr (10, [.int i_fault, .int (nI (n_size)), .ref r_file, .int (nI (n_side)), .int (bI o_font), .ref r_bytes, .ref r_places, .ref r_lengths, .ref r_glyphCount, .ref r_ems, .ref r_wides, .ref r_forms, .ref r_parts, .ref r_charts, .ref r_pointCount, .ref r_contourCount, .ref r_depths, .ref r_xs, .ref r_ys, .ref r_ons, .ref r_contours, .int (bI o_bad), .int (nI (n_at)), .int (nI (n_end)), .ref r_flags, .ref r_part, .int (nI (n_typed)), .ref r_text, .int (nI (n_ring)), .ref r_ringX, .ref r_ringY, .ref r_ringOn, .int (nI (n_wait)), .ref r_curves, .ref r_windings, .ref r_rows])), (r_curves, .inl (c_curves, 140, .inl (v_curves)))] H := hP
      have hD : va_D A [(m0, .inr (10, [.int i_fault, .int (nI (n_size)), .ref r_file, .int (nI (n_side)), .int (bI o_font), .ref r_bytes, .ref r_places, .ref r_lengths, .ref r_glyphCount, .ref r_ems, .ref r_wides, .ref r_forms, .ref r_parts, .ref r_charts, .ref r_pointCount, .ref r_contourCount, .ref r_depths, .ref r_xs, .ref r_ys, .ref r_ons, .ref r_contours, .int (bI o_bad), .int (nI (n_at)), .int (nI (n_end)), .ref r_flags, .ref r_part, .int (nI (n_typed)), .ref r_text, .int (nI (n_ring)), .ref r_ringX, .ref r_ringY, .ref r_ringOn, .int (nI (n_wait)), .ref r_curves, .ref r_windings, .ref r_rows])), (r_curves, .inl (c_curves, 140, .inl (v_curves)))] := hD
      have hw_r16812 := hw
      refine lv_iconst (v := 4) hx hb d_MD_isFlat_89 (by decide) ?_
      refine lv_join (α := Bool) 114 (fun s0_16817 H' locs' ls' => va_P (dC, dI) cls_ [(m0, .inr (10, [.int i_fault, .int (nI (n_size)), .ref r_file, .int (nI (n_side)), .int (bI o_font), .ref r_bytes, .ref r_places, .ref r_lengths, .ref r_glyphCount, .ref r_ems, .ref r_wides, .ref r_forms, .ref r_parts, .ref r_charts, .ref r_pointCount, .ref r_contourCount, .ref r_depths, .ref r_xs, .ref r_ys, .ref r_ons, .ref r_contours, .int (bI o_bad), .int (nI (n_at)), .int (nI (n_end)), .ref r_flags, .ref r_part, .int (nI (n_typed)), .ref r_text, .int (nI (n_ring)), .ref r_ringX, .ref r_ringY, .ref r_ringOn, .int (nI (n_wait)), .ref r_curves, .ref r_windings, .ref r_rows])), (r_curves, .inl (c_curves, 140, .inl (v_curves)))] H' ∧ va_D A [(m0, .inr (10, [.int i_fault, .int (nI (n_size)), .ref r_file, .int (nI (n_side)), .int (bI o_font), .ref r_bytes, .ref r_places, .ref r_lengths, .ref r_glyphCount, .ref r_ems, .ref r_wides, .ref r_forms, .ref r_parts, .ref r_charts, .ref r_pointCount, .ref r_contourCount, .ref r_depths, .ref r_xs, .ref r_ys, .ref r_ons, .ref r_contours, .int (bI o_bad), .int (nI (n_at)), .int (nI (n_end)), .ref r_flags, .ref r_part, .int (nI (n_typed)), .ref r_text, .int (nI (n_ring)), .ref r_ringX, .ref r_ringY, .ref r_ringOn, .int (nI (n_wait)), .ref r_curves, .ref r_windings, .ref r_rows])), (r_curves, .inl (c_curves, 140, .inl (v_curves)))] ∧ va_S A s.heap H' locs' ∧ lv_has ls' 7 [(4, .int s0_16785), (3, .int v16775), (2, .int v16774), (0, .ref m0), (1, .int (nI (k9)))]) (fun s0_16817 => [.int (bI s0_16817)]) ?_ (fun kj16818 => ?_)
      · skip
        intro s0_16817 H locs ls ⟨hP, hD, hS, hl⟩
        show W p l e _ s m _ below meth c H locs _ _ _ (F0 m 114 ls [.int (bI s0_16817)])
        have hP : va_P (dC, dI) cls_ [(m0, .inr (10, [.int i_fault, .int (nI (n_size)), .ref r_file, .int (nI (n_side)), .int (bI o_font), .ref r_bytes, .ref r_places, .ref r_lengths, .ref r_glyphCount, .ref r_ems, .ref r_wides, .ref r_forms, .ref r_parts, .ref r_charts, .ref r_pointCount, .ref r_contourCount, .ref r_depths, .ref r_xs, .ref r_ys, .ref r_ons, .ref r_contours, .int (bI o_bad), .int (nI (n_at)), .int (nI (n_end)), .ref r_flags, .ref r_part, .int (nI (n_typed)), .ref r_text, .int (nI (n_ring)), .ref r_ringX, .ref r_ringY, .ref r_ringOn, .int (nI (n_wait)), .ref r_curves, .ref r_windings, .ref r_rows])), (r_curves, .inl (c_curves, 140, .inl (v_curves)))] H := hP
        have hD : va_D A [(m0, .inr (10, [.int i_fault, .int (nI (n_size)), .ref r_file, .int (nI (n_side)), .int (bI o_font), .ref r_bytes, .ref r_places, .ref r_lengths, .ref r_glyphCount, .ref r_ems, .ref r_wides, .ref r_forms, .ref r_parts, .ref r_charts, .ref r_pointCount, .ref r_contourCount, .ref r_depths, .ref r_xs, .ref r_ys, .ref r_ons, .ref r_contours, .int (bI o_bad), .int (nI (n_at)), .int (nI (n_end)), .ref r_flags, .ref r_part, .int (nI (n_typed)), .ref r_text, .int (nI (n_ring)), .ref r_ringX, .ref r_ringY, .ref r_ringOn, .int (nI (n_wait)), .ref r_curves, .ref r_windings, .ref r_rows])), (r_curves, .inl (c_curves, 140, .inl (v_curves)))] := hD
        refine W.widen (k := 0) (n := 0) (Nat.le_of_ble_eq_true rfl) (Nat.le_of_ble_eq_true rfl) ?_
        have hP9 := hP.sub (ws' := [(m0, .inr (10, [.int i_fault, .int (nI (n_size)), .ref r_file, .int (nI (n_side)), .int (bI o_font), .ref r_bytes, .ref r_places, .ref r_lengths, .ref r_glyphCount, .ref r_ems, .ref r_wides, .ref r_forms, .ref r_parts, .ref r_charts, .ref r_pointCount, .ref r_contourCount, .ref r_depths, .ref r_xs, .ref r_ys, .ref r_ons, .ref r_contours, .int (bI o_bad), .int (nI (n_at)), .int (nI (n_end)), .ref r_flags, .ref r_part, .int (nI (n_typed)), .ref r_text, .int (nI (n_ring)), .ref r_ringX, .ref r_ringY, .ref r_ringOn, .int (nI (n_wait)), .ref r_curves, .ref r_windings, .ref r_rows])), (r_curves, .inl (c_curves, 140, .inl (v_curves)))]) [0, 1] rfl
        have hD9 := hD.sub (ws' := [(m0, .inr (10, [.int i_fault, .int (nI (n_size)), .ref r_file, .int (nI (n_side)), .int (bI o_font), .ref r_bytes, .ref r_places, .ref r_lengths, .ref r_glyphCount, .ref r_ems, .ref r_wides, .ref r_forms, .ref r_parts, .ref r_charts, .ref r_pointCount, .ref r_contourCount, .ref r_depths, .ref r_xs, .ref r_ys, .ref r_ons, .ref r_contours, .int (bI o_bad), .int (nI (n_at)), .int (nI (n_end)), .ref r_flags, .ref r_part, .int (nI (n_typed)), .ref r_text, .int (nI (n_ring)), .ref r_ringX, .ref r_ringY, .ref r_ringOn, .int (nI (n_wait)), .ref r_curves, .ref r_windings, .ref r_rows])), (r_curves, .inl (c_curves, 140, .inl (v_curves)))]) [0, 1] (by decide) rfl
        have hK9 := hK.sub (tys' := [(c_curves, .int)]) [0] rfl
        exact W.zret (v := bI s0_16817) (ty := .boolean) hx hb hr (bI_n _) (fun t ht hW => ⟨⟨bI s0_16817, (), rfl, ⟨s0_16817, rfl⟩, by rw [ht]; exact hP9, va_K.moved hW.alike hK9, hD9⟩, hS.F ht⟩) hS.2.2 d_MD_isFlat_114
      · skip
        refine lv_icmp_gt (tgt := 113) hx hb d_MD_isFlat_90 (by decide) (fun hc16819 => ?_) (fun hc16819 => ?_)
        · skip
          refine lv_iconst (v := 0) hx hb d_MD_isFlat_113 (by decide) ?_
          have hP8 := hP.sub (ws' := [(m0, .inr (10, [.int i_fault, .int (nI (n_size)), .ref r_file, .int (nI (n_side)), .int (bI o_font), .ref r_bytes, .ref r_places, .ref r_lengths, .ref r_glyphCount, .ref r_ems, .ref r_wides, .ref r_forms, .ref r_parts, .ref r_charts, .ref r_pointCount, .ref r_contourCount, .ref r_depths, .ref r_xs, .ref r_ys, .ref r_ons, .ref r_contours, .int (bI o_bad), .int (nI (n_at)), .int (nI (n_end)), .ref r_flags, .ref r_part, .int (nI (n_typed)), .ref r_text, .int (nI (n_ring)), .ref r_ringX, .ref r_ringY, .ref r_ringOn, .int (nI (n_wait)), .ref r_curves, .ref r_windings, .ref r_rows])), (r_curves, .inl (c_curves, 140, .inl (v_curves)))]) [0, 1] rfl
          have hD8 := hD.sub (ws' := [(m0, .inr (10, [.int i_fault, .int (nI (n_size)), .ref r_file, .int (nI (n_side)), .int (bI o_font), .ref r_bytes, .ref r_places, .ref r_lengths, .ref r_glyphCount, .ref r_ems, .ref r_wides, .ref r_forms, .ref r_parts, .ref r_charts, .ref r_pointCount, .ref r_contourCount, .ref r_depths, .ref r_xs, .ref r_ys, .ref r_ons, .ref r_contours, .int (bI o_bad), .int (nI (n_at)), .int (nI (n_end)), .ref r_flags, .ref r_part, .int (nI (n_typed)), .ref r_text, .int (nI (n_ring)), .ref r_ringX, .ref r_ringY, .ref r_ringOn, .int (nI (n_wait)), .ref r_curves, .ref r_windings, .ref r_rows])), (r_curves, .inl (c_curves, 140, .inl (v_curves)))]) [0, 1] (by decide) rfl
          exact kj16818 (false) H locs ls ⟨hP8, hD8, hS, lv_sub hl [0, 1, 2, 3, 4] rfl⟩
        · skip
          refine lv_aload_n hx hb d_MD_isFlat_93 rfl (lv_at hl 3 rfl) ?_
          refine va_get (D := (dC, dI)) (ci := 10) (v := .ref r_curves) (C := R_MD) (T := F_MD) (N := 36) hx hb hts in_MD hown hK hP 0 rfl rfl 33 (by decide) (hts _ (List.mem_cons_of_mem _ w_885)) (fun _ h9 => h9) rfl d_MD_isFlat_94 ?_
          refine lv_iload_n hx hb d_MD_isFlat_97 rfl (lv_at hl 4 rfl) ?_
          refine lv_iconst (v := 3) hx hb d_MD_isFlat_98 (by decide) ?_
          refine lv_iadd hx hb d_MD_isFlat_99 ?_
          refine lv_ci (y := nI (k9 + 3)) (nI_add (k9) (3)) ?_
          refine va_iald hx hb hK hP 1 0 rfl rfl (pk_in (k9 + 3) 140 (by omega) rfl (by decide)) d_MD_isFlat_100 ?_
          refine lv_topi (fun v16820 ev16820 => ?_)
          refine lv_iload_n hx hb d_MD_isFlat_101 rfl (lv_at hl 1 rfl) ?_
          have hPc := hP.sub (ws' := []) [] rfl
          have hDc := hD.sub (ws' := []) [] (by decide) rfl
          have hKc := hK.sub (tys' := []) [] rfl
          have hFc := va_free (wc := []) hD hS hA [] rfl
          refine va_calli (va_runS (As := [.int v16820, .int v16775]) (rest := []) ⟨hx, hb, hml, hown, hts⟩ (g_MD_far l dC dI v16820 v16775 H.size) (cwS 2 hts (tw_inS w_1196 w_1197 w_11 w_1198) rfl rfl rfl (by decide +kernel) ⟨Nat.le_of_ble_eq_true rfl, Nat.le_of_ble_eq_true rfl⟩) ⟨fun a U g mk q => by obtain ⟨q0, q1, qP, qK, qD⟩ := q; exact ⟨q0, q1, qP, va_K.moved (u := U) (U := U.calling g mk a) (Vm.Alike.refl U.vm) qK, qD⟩, fun U hU hW => ⟨rfl, by rw [hU], by rw [hU]; exact hPc, va_K.moved hW.alike hKc, hDc.weaken (fun _ _ _ _ => trivial)⟩⟩ rfl rfl hl.1 rfl (lv_room (Nat.le_of_ble_eq_true rfl)) d_MD_isFlat_102 ⟨Nat.le_of_ble_eq_true rfl, Nat.le_of_ble_eq_true rfl⟩) hS (fun q _ h => hFc q h) hFc (fun r16821 u t H1 locs ht hvm hw hB hz1 hk1 hS => ?_)
          have hP1 : va_P (dC, dI) cls_ [] H1 := fun k q h => by simp at h
          have hD1 : va_D (va_A [] H.size) [] := ⟨fun i j p q h => by simp at h, fun k q h => by simp at h⟩
          obtain ⟨hP, hD⟩ := va_join (wr := [(m0, .inr (10, [.int i_fault, .int (nI (n_size)), .ref r_file, .int (nI (n_side)), .int (bI o_font), .ref r_bytes, .ref r_places, .ref r_lengths, .ref r_glyphCount, .ref r_ems, .ref r_wides, .ref r_forms, .ref r_parts, .ref r_charts, .ref r_pointCount, .ref r_contourCount, .ref r_depths, .ref r_xs, .ref r_ys, .ref r_ons, .ref r_contours, .int (bI o_bad), .int (nI (n_at)), .int (nI (n_end)), .ref r_flags, .ref r_part, .int (nI (n_typed)), .ref r_text, .int (nI (n_ring)), .ref r_ringX, .ref r_ringY, .ref r_ringOn, .int (nI (n_wait)), .ref r_curves, .ref r_windings, .ref r_rows])), (r_curves, .inl (c_curves, 140, .inl (v_curves)))]) (w1 := []) hP hD [] [0, 1] rfl rfl (by decide) (by decide) hk1 hFc hP1 hD1
          generalize H1 = H at hP hS ⊢
          have hP : va_P (dC, dI) cls_ [(m0, .inr (10, [.int i_fault, .int (nI (n_size)), .ref r_file, .int (nI (n_side)), .int (bI o_font), .ref r_bytes, .ref r_places, .ref r_lengths, .ref r_glyphCount, .ref r_ems, .ref r_wides, .ref r_forms, .ref r_parts, .ref r_charts, .ref r_pointCount, .ref r_contourCount, .ref r_depths, .ref r_xs, .ref r_ys, .ref r_ons, .ref r_contours, .int (bI o_bad), .int (nI (n_at)), .int (nI (n_end)), .ref r_flags, .ref r_part, .int (nI (n_typed)), .ref r_text, .int (nI (n_ring)), .ref r_ringX, .ref r_ringY, .ref r_ringOn, .int (nI (n_wait)), .ref r_curves, .ref r_windings, .ref r_rows])), (r_curves, .inl (c_curves, 140, .inl (v_curves)))] H := hP
          have hD : va_D A [(m0, .inr (10, [.int i_fault, .int (nI (n_size)), .ref r_file, .int (nI (n_side)), .int (bI o_font), .ref r_bytes, .ref r_places, .ref r_lengths, .ref r_glyphCount, .ref r_ems, .ref r_wides, .ref r_forms, .ref r_parts, .ref r_charts, .ref r_pointCount, .ref r_contourCount, .ref r_depths, .ref r_xs, .ref r_ys, .ref r_ons, .ref r_contours, .int (bI o_bad), .int (nI (n_at)), .int (nI (n_end)), .ref r_flags, .ref r_part, .int (nI (n_typed)), .ref r_text, .int (nI (n_ring)), .ref r_ringX, .ref r_ringY, .ref r_ringOn, .int (nI (n_wait)), .ref r_curves, .ref r_windings, .ref r_rows])), (r_curves, .inl (c_curves, 140, .inl (v_curves)))] := hD
          have hw_r16821 := hw
          refine lv_iconst (v := 4) hx hb d_MD_isFlat_105 (by decide) ?_
          refine lv_icmp_gt (tgt := 113) hx hb d_MD_isFlat_106 (by decide) (fun hc16822 => ?_) (fun hc16822 => ?_)
          · skip
            refine lv_iconst (v := 0) hx hb d_MD_isFlat_113 (by decide) ?_
            have hP8 := hP.sub (ws' := [(m0, .inr (10, [.int i_fault, .int (nI (n_size)), .ref r_file, .int (nI (n_side)), .int (bI o_font), .ref r_bytes, .ref r_places, .ref r_lengths, .ref r_glyphCount, .ref r_ems, .ref r_wides, .ref r_forms, .ref r_parts, .ref r_charts, .ref r_pointCount, .ref r_contourCount, .ref r_depths, .ref r_xs, .ref r_ys, .ref r_ons, .ref r_contours, .int (bI o_bad), .int (nI (n_at)), .int (nI (n_end)), .ref r_flags, .ref r_part, .int (nI (n_typed)), .ref r_text, .int (nI (n_ring)), .ref r_ringX, .ref r_ringY, .ref r_ringOn, .int (nI (n_wait)), .ref r_curves, .ref r_windings, .ref r_rows])), (r_curves, .inl (c_curves, 140, .inl (v_curves)))]) [0, 1] rfl
            have hD8 := hD.sub (ws' := [(m0, .inr (10, [.int i_fault, .int (nI (n_size)), .ref r_file, .int (nI (n_side)), .int (bI o_font), .ref r_bytes, .ref r_places, .ref r_lengths, .ref r_glyphCount, .ref r_ems, .ref r_wides, .ref r_forms, .ref r_parts, .ref r_charts, .ref r_pointCount, .ref r_contourCount, .ref r_depths, .ref r_xs, .ref r_ys, .ref r_ons, .ref r_contours, .int (bI o_bad), .int (nI (n_at)), .int (nI (n_end)), .ref r_flags, .ref r_part, .int (nI (n_typed)), .ref r_text, .int (nI (n_ring)), .ref r_ringX, .ref r_ringY, .ref r_ringOn, .int (nI (n_wait)), .ref r_curves, .ref r_windings, .ref r_rows])), (r_curves, .inl (c_curves, 140, .inl (v_curves)))]) [0, 1] (by decide) rfl
            exact kj16818 (false) H locs ls ⟨hP8, hD8, hS, lv_sub hl [0, 1, 2, 3, 4] rfl⟩
          · skip
            refine lv_iconst (v := 1) hx hb d_MD_isFlat_109 (by decide) ?_
            refine lv_goto (tgt := 114) hx hb d_MD_isFlat_110 (by decide) ?_
            have hP8 := hP.sub (ws' := [(m0, .inr (10, [.int i_fault, .int (nI (n_size)), .ref r_file, .int (nI (n_side)), .int (bI o_font), .ref r_bytes, .ref r_places, .ref r_lengths, .ref r_glyphCount, .ref r_ems, .ref r_wides, .ref r_forms, .ref r_parts, .ref r_charts, .ref r_pointCount, .ref r_contourCount, .ref r_depths, .ref r_xs, .ref r_ys, .ref r_ons, .ref r_contours, .int (bI o_bad), .int (nI (n_at)), .int (nI (n_end)), .ref r_flags, .ref r_part, .int (nI (n_typed)), .ref r_text, .int (nI (n_ring)), .ref r_ringX, .ref r_ringY, .ref r_ringOn, .int (nI (n_wait)), .ref r_curves, .ref r_windings, .ref r_rows])), (r_curves, .inl (c_curves, 140, .inl (v_curves)))]) [0, 1] rfl
            have hD8 := hD.sub (ws' := [(m0, .inr (10, [.int i_fault, .int (nI (n_size)), .ref r_file, .int (nI (n_side)), .int (bI o_font), .ref r_bytes, .ref r_places, .ref r_lengths, .ref r_glyphCount, .ref r_ems, .ref r_wides, .ref r_forms, .ref r_parts, .ref r_charts, .ref r_pointCount, .ref r_contourCount, .ref r_depths, .ref r_xs, .ref r_ys, .ref r_ons, .ref r_contours, .int (bI o_bad), .int (nI (n_at)), .int (nI (n_end)), .ref r_flags, .ref r_part, .int (nI (n_typed)), .ref r_text, .int (nI (n_ring)), .ref r_ringX, .ref r_ringY, .ref r_ringOn, .int (nI (n_wait)), .ref r_curves, .ref r_windings, .ref r_rows])), (r_curves, .inl (c_curves, 140, .inl (v_curves)))]) [0, 1] (by decide) rfl
            exact kj16818 (true) H locs ls ⟨hP8, hD8, hS, lv_sub hl [0, 1, 2, 3, 4] rfl⟩
  · skip
    refine lv_icmp_le (tgt := 58) hx hb d_MD_isFlat_40 (by decide) (fun hc16823 => ?_) (fun hc16823 => ?_)
    · skip
      refine lv_aload_n hx hb d_MD_isFlat_58 rfl (lv_at hl 2 rfl) ?_
      refine va_get (D := (dC, dI)) (ci := 10) (v := .ref r_curves) (C := R_MD) (T := F_MD) (N := 36) hx hb hts in_MD hown hK hP 0 rfl rfl 33 (by decide) (hts _ (List.mem_cons_of_mem _ w_885)) (fun _ h9 => h9) rfl d_MD_isFlat_59 ?_
      refine lv_iload_n hx hb d_MD_isFlat_62 rfl (lv_at hl 3 rfl) ?_
      refine lv_iconst (v := 5) hx hb d_MD_isFlat_63 (by decide) ?_
      refine lv_iadd hx hb d_MD_isFlat_64 ?_
      refine lv_ci (y := nI (k9 + 5)) (nI_add (k9) (5)) ?_
      refine va_iald hx hb hK hP 1 0 rfl rfl (pk_in (k9 + 5) 140 (by omega) rfl (by decide)) d_MD_isFlat_65 ?_
      refine lv_topi (fun v16824 ev16824 => ?_)
      refine lv_iload_n hx hb d_MD_isFlat_66 rfl (lv_at hl 0 rfl) ?_
      have hPc := hP.sub (ws' := []) [] rfl
      have hDc := hD.sub (ws' := []) [] (by decide) rfl
      have hKc := hK.sub (tys' := []) [] rfl
      have hFc := va_free (wc := []) hD hS hA [] rfl
      refine va_calli (va_runS (As := [.int v16824, .int v16775]) (rest := []) ⟨hx, hb, hml, hown, hts⟩ (g_MD_far l dC dI v16824 v16775 H.size) (cwS 2 hts (tw_inS w_1196 w_1197 w_11 w_1198) rfl rfl rfl (by decide +kernel) ⟨Nat.le_of_ble_eq_true rfl, Nat.le_of_ble_eq_true rfl⟩) ⟨fun a U g mk q => by obtain ⟨q0, q1, qP, qK, qD⟩ := q; exact ⟨q0, q1, qP, va_K.moved (u := U) (U := U.calling g mk a) (Vm.Alike.refl U.vm) qK, qD⟩, fun U hU hW => ⟨rfl, by rw [hU], by rw [hU]; exact hPc, va_K.moved hW.alike hKc, hDc.weaken (fun _ _ _ _ => trivial)⟩⟩ rfl rfl hl.1 rfl (lv_room (Nat.le_of_ble_eq_true rfl)) d_MD_isFlat_67 ⟨Nat.le_of_ble_eq_true rfl, Nat.le_of_ble_eq_true rfl⟩) hS (fun q _ h => hFc q h) hFc (fun r16825 u t H1 locs ht hvm hw hB hz1 hk1 hS => ?_)
      have hP1 : va_P (dC, dI) cls_ [] H1 := fun k q h => by simp at h
      have hD1 : va_D (va_A [] H.size) [] := ⟨fun i j p q h => by simp at h, fun k q h => by simp at h⟩
      obtain ⟨hP, hD⟩ := va_join (wr := [(m0, .inr (10, [.int i_fault, .int (nI (n_size)), .ref r_file, .int (nI (n_side)), .int (bI o_font), .ref r_bytes, .ref r_places, .ref r_lengths, .ref r_glyphCount, .ref r_ems, .ref r_wides, .ref r_forms, .ref r_parts, .ref r_charts, .ref r_pointCount, .ref r_contourCount, .ref r_depths, .ref r_xs, .ref r_ys, .ref r_ons, .ref r_contours, .int (bI o_bad), .int (nI (n_at)), .int (nI (n_end)), .ref r_flags, .ref r_part, .int (nI (n_typed)), .ref r_text, .int (nI (n_ring)), .ref r_ringX, .ref r_ringY, .ref r_ringOn, .int (nI (n_wait)), .ref r_curves, .ref r_windings, .ref r_rows])), (r_curves, .inl (c_curves, 140, .inl (v_curves)))]) (w1 := []) hP hD [] [0, 1] rfl rfl (by decide) (by decide) hk1 hFc hP1 hD1
      generalize H1 = H at hP hS ⊢
      have hP : va_P (dC, dI) cls_ [(m0, .inr (10, [.int i_fault, .int (nI (n_size)), .ref r_file, .int (nI (n_side)), .int (bI o_font), .ref r_bytes, .ref r_places, .ref r_lengths, .ref r_glyphCount, .ref r_ems, .ref r_wides, .ref r_forms, .ref r_parts, .ref r_charts, .ref r_pointCount, .ref r_contourCount, .ref r_depths, .ref r_xs, .ref r_ys, .ref r_ons, .ref r_contours, .int (bI o_bad), .int (nI (n_at)), .int (nI (n_end)), .ref r_flags, .ref r_part, .int (nI (n_typed)), .ref r_text, .int (nI (n_ring)), .ref r_ringX, .ref r_ringY, .ref r_ringOn, .int (nI (n_wait)), .ref r_curves, .ref r_windings, .ref r_rows])), (r_curves, .inl (c_curves, 140, .inl (v_curves)))] H := hP
      have hD : va_D A [(m0, .inr (10, [.int i_fault, .int (nI (n_size)), .ref r_file, .int (nI (n_side)), .int (bI o_font), .ref r_bytes, .ref r_places, .ref r_lengths, .ref r_glyphCount, .ref r_ems, .ref r_wides, .ref r_forms, .ref r_parts, .ref r_charts, .ref r_pointCount, .ref r_contourCount, .ref r_depths, .ref r_xs, .ref r_ys, .ref r_ons, .ref r_contours, .int (bI o_bad), .int (nI (n_at)), .int (nI (n_end)), .ref r_flags, .ref r_part, .int (nI (n_typed)), .ref r_text, .int (nI (n_ring)), .ref r_ringX, .ref r_ringY, .ref r_ringOn, .int (nI (n_wait)), .ref r_curves, .ref r_windings, .ref r_rows])), (r_curves, .inl (c_curves, 140, .inl (v_curves)))] := hD
      have hw_r16825 := hw
      have hP8 := hP.sub (ws' := [(m0, .inr (10, [.int i_fault, .int (nI (n_size)), .ref r_file, .int (nI (n_side)), .int (bI o_font), .ref r_bytes, .ref r_places, .ref r_lengths, .ref r_glyphCount, .ref r_ems, .ref r_wides, .ref r_forms, .ref r_parts, .ref r_charts, .ref r_pointCount, .ref r_contourCount, .ref r_depths, .ref r_xs, .ref r_ys, .ref r_ons, .ref r_contours, .int (bI o_bad), .int (nI (n_at)), .int (nI (n_end)), .ref r_flags, .ref r_part, .int (nI (n_typed)), .ref r_text, .int (nI (n_ring)), .ref r_ringX, .ref r_ringY, .ref r_ringOn, .int (nI (n_wait)), .ref r_curves, .ref r_windings, .ref r_rows])), (r_curves, .inl (c_curves, 140, .inl (v_curves)))]) [0, 1] rfl
      have hD8 := hD.sub (ws' := [(m0, .inr (10, [.int i_fault, .int (nI (n_size)), .ref r_file, .int (nI (n_side)), .int (bI o_font), .ref r_bytes, .ref r_places, .ref r_lengths, .ref r_glyphCount, .ref r_ems, .ref r_wides, .ref r_forms, .ref r_parts, .ref r_charts, .ref r_pointCount, .ref r_contourCount, .ref r_depths, .ref r_xs, .ref r_ys, .ref r_ons, .ref r_contours, .int (bI o_bad), .int (nI (n_at)), .int (nI (n_end)), .ref r_flags, .ref r_part, .int (nI (n_typed)), .ref r_text, .int (nI (n_ring)), .ref r_ringX, .ref r_ringY, .ref r_ringOn, .int (nI (n_wait)), .ref r_curves, .ref r_windings, .ref r_rows])), (r_curves, .inl (c_curves, 140, .inl (v_curves)))]) [0, 1] (by decide) rfl
      exact kj16786 (r16825) H locs ls ⟨hP8, hD8, hS, lv_sub hl [0, 1, 2, 3] rfl⟩
    · skip
      refine lv_aload_n hx hb d_MD_isFlat_43 rfl (lv_at hl 2 rfl) ?_
      refine va_get (D := (dC, dI)) (ci := 10) (v := .ref r_curves) (C := R_MD) (T := F_MD) (N := 36) hx hb hts in_MD hown hK hP 0 rfl rfl 33 (by decide) (hts _ (List.mem_cons_of_mem _ w_885)) (fun _ h9 => h9) rfl d_MD_isFlat_44 ?_
      refine lv_iload_n hx hb d_MD_isFlat_47 rfl (lv_at hl 3 rfl) ?_
      refine lv_iconst (v := 4) hx hb d_MD_isFlat_48 (by decide) ?_
      refine lv_iadd hx hb d_MD_isFlat_49 ?_
      refine lv_ci (y := nI (k9 + 4)) (nI_add (k9) (4)) ?_
      refine va_iald hx hb hK hP 1 0 rfl rfl (pk_in (k9 + 4) 140 (by omega) rfl (by decide)) d_MD_isFlat_50 ?_
      refine lv_topi (fun v16826 ev16826 => ?_)
      refine lv_iload_n hx hb d_MD_isFlat_51 rfl (lv_at hl 1 rfl) ?_
      have hPc := hP.sub (ws' := []) [] rfl
      have hDc := hD.sub (ws' := []) [] (by decide) rfl
      have hKc := hK.sub (tys' := []) [] rfl
      have hFc := va_free (wc := []) hD hS hA [] rfl
      refine va_calli (va_runS (As := [.int v16826, .int v16774]) (rest := []) ⟨hx, hb, hml, hown, hts⟩ (g_MD_far l dC dI v16826 v16774 H.size) (cwS 2 hts (tw_inS w_1196 w_1197 w_11 w_1198) rfl rfl rfl (by decide +kernel) ⟨Nat.le_of_ble_eq_true rfl, Nat.le_of_ble_eq_true rfl⟩) ⟨fun a U g mk q => by obtain ⟨q0, q1, qP, qK, qD⟩ := q; exact ⟨q0, q1, qP, va_K.moved (u := U) (U := U.calling g mk a) (Vm.Alike.refl U.vm) qK, qD⟩, fun U hU hW => ⟨rfl, by rw [hU], by rw [hU]; exact hPc, va_K.moved hW.alike hKc, hDc.weaken (fun _ _ _ _ => trivial)⟩⟩ rfl rfl hl.1 rfl (lv_room (Nat.le_of_ble_eq_true rfl)) d_MD_isFlat_52 ⟨Nat.le_of_ble_eq_true rfl, Nat.le_of_ble_eq_true rfl⟩) hS (fun q _ h => hFc q h) hFc (fun r16827 u t H1 locs ht hvm hw hB hz1 hk1 hS => ?_)
      have hP1 : va_P (dC, dI) cls_ [] H1 := fun k q h => by simp at h
      have hD1 : va_D (va_A [] H.size) [] := ⟨fun i j p q h => by simp at h, fun k q h => by simp at h⟩
      obtain ⟨hP, hD⟩ := va_join (wr := [(m0, .inr (10, [.int i_fault, .int (nI (n_size)), .ref r_file, .int (nI (n_side)), .int (bI o_font), .ref r_bytes, .ref r_places, .ref r_lengths, .ref r_glyphCount, .ref r_ems, .ref r_wides, .ref r_forms, .ref r_parts, .ref r_charts, .ref r_pointCount, .ref r_contourCount, .ref r_depths, .ref r_xs, .ref r_ys, .ref r_ons, .ref r_contours, .int (bI o_bad), .int (nI (n_at)), .int (nI (n_end)), .ref r_flags, .ref r_part, .int (nI (n_typed)), .ref r_text, .int (nI (n_ring)), .ref r_ringX, .ref r_ringY, .ref r_ringOn, .int (nI (n_wait)), .ref r_curves, .ref r_windings, .ref r_rows])), (r_curves, .inl (c_curves, 140, .inl (v_curves)))]) (w1 := []) hP hD [] [0, 1] rfl rfl (by decide) (by decide) hk1 hFc hP1 hD1
      generalize H1 = H at hP hS ⊢
      have hP : va_P (dC, dI) cls_ [(m0, .inr (10, [.int i_fault, .int (nI (n_size)), .ref r_file, .int (nI (n_side)), .int (bI o_font), .ref r_bytes, .ref r_places, .ref r_lengths, .ref r_glyphCount, .ref r_ems, .ref r_wides, .ref r_forms, .ref r_parts, .ref r_charts, .ref r_pointCount, .ref r_contourCount, .ref r_depths, .ref r_xs, .ref r_ys, .ref r_ons, .ref r_contours, .int (bI o_bad), .int (nI (n_at)), .int (nI (n_end)), .ref r_flags, .ref r_part, .int (nI (n_typed)), .ref r_text, .int (nI (n_ring)), .ref r_ringX, .ref r_ringY, .ref r_ringOn, .int (nI (n_wait)), .ref r_curves, .ref r_windings, .ref r_rows])), (r_curves, .inl (c_curves, 140, .inl (v_curves)))] H := hP
      have hD : va_D A [(m0, .inr (10, [.int i_fault, .int (nI (n_size)), .ref r_file, .int (nI (n_side)), .int (bI o_font), .ref r_bytes, .ref r_places, .ref r_lengths, .ref r_glyphCount, .ref r_ems, .ref r_wides, .ref r_forms, .ref r_parts, .ref r_charts, .ref r_pointCount, .ref r_contourCount, .ref r_depths, .ref r_xs, .ref r_ys, .ref r_ons, .ref r_contours, .int (bI o_bad), .int (nI (n_at)), .int (nI (n_end)), .ref r_flags, .ref r_part, .int (nI (n_typed)), .ref r_text, .int (nI (n_ring)), .ref r_ringX, .ref r_ringY, .ref r_ringOn, .int (nI (n_wait)), .ref r_curves, .ref r_windings, .ref r_rows])), (r_curves, .inl (c_curves, 140, .inl (v_curves)))] := hD
      have hw_r16827 := hw
      refine lv_goto (tgt := 70) hx hb d_MD_isFlat_55 (by decide) ?_
      have hP8 := hP.sub (ws' := [(m0, .inr (10, [.int i_fault, .int (nI (n_size)), .ref r_file, .int (nI (n_side)), .int (bI o_font), .ref r_bytes, .ref r_places, .ref r_lengths, .ref r_glyphCount, .ref r_ems, .ref r_wides, .ref r_forms, .ref r_parts, .ref r_charts, .ref r_pointCount, .ref r_contourCount, .ref r_depths, .ref r_xs, .ref r_ys, .ref r_ons, .ref r_contours, .int (bI o_bad), .int (nI (n_at)), .int (nI (n_end)), .ref r_flags, .ref r_part, .int (nI (n_typed)), .ref r_text, .int (nI (n_ring)), .ref r_ringX, .ref r_ringY, .ref r_ringOn, .int (nI (n_wait)), .ref r_curves, .ref r_windings, .ref r_rows])), (r_curves, .inl (c_curves, 140, .inl (v_curves)))]) [0, 1] rfl
      have hD8 := hD.sub (ws' := [(m0, .inr (10, [.int i_fault, .int (nI (n_size)), .ref r_file, .int (nI (n_side)), .int (bI o_font), .ref r_bytes, .ref r_places, .ref r_lengths, .ref r_glyphCount, .ref r_ems, .ref r_wides, .ref r_forms, .ref r_parts, .ref r_charts, .ref r_pointCount, .ref r_contourCount, .ref r_depths, .ref r_xs, .ref r_ys, .ref r_ons, .ref r_contours, .int (bI o_bad), .int (nI (n_at)), .int (nI (n_end)), .ref r_flags, .ref r_part, .int (nI (n_typed)), .ref r_text, .int (nI (n_ring)), .ref r_ringX, .ref r_ringY, .ref r_ringOn, .int (nI (n_wait)), .ref r_curves, .ref r_windings, .ref r_rows])), (r_curves, .inl (c_curves, 140, .inl (v_curves)))]) [0, 1] (by decide) rfl
      exact kj16786 (r16827) H locs ls ⟨hP8, hD8, hS, lv_sub hl [0, 1, 2, 3] rfl⟩
set_option maxHeartbeats 4000000 in
set_option maxRecDepth 100000 in
/-- GlyphLinesModel.paintCurves -/
theorem g_MD_paintCurves (l : Launch) (dC : Nat → ClassId) (dI : Nat → Nat → Nat) (m0 : Nat) (i_fault : Int32) (n_size : Nat) (r_file : Nat) (n_side : Nat) (o_font : Bool) (r_bytes : Nat) (r_places : Nat) (r_lengths : Nat) (r_glyphCount : Nat) (r_ems : Nat) (r_wides : Nat) (r_forms : Nat) (r_parts : Nat) (r_charts : Nat) (r_pointCount : Nat) (r_contourCount : Nat) (r_depths : Nat) (r_xs : Nat) (r_ys : Nat) (r_ons : Nat) (r_contours : Nat) (o_bad : Bool) (n_at : Nat) (n_end : Nat) (r_flags : Nat) (r_part : Nat) (n_typed : Nat) (r_text : Nat) (n_ring : Nat) (r_ringX : Nat) (r_ringY : Nat) (r_ringOn : Nat) (n_wait : Nat) (r_curves : Nat) (r_windings : Nat) (r_rows : Nat) (c_curves : ClassId) (v_curves : Nat → Int32) (c_windings : ClassId) (v_windings : Nat → Int32) (sz : Nat) (hq0 : n_size ≤ 1200) (hq1 : n_side ≤ 1) (hq2 : n_typed ≤ 12) (hq3 : n_wait ≤ 7) (hq4 : curF v_curves n_wait) : Met l y_MD_paintCurves s_MD_paintCurves ({ frames := 16, cells := 0, slots := 0, locals := 600 }) (va_Pc [.ref m0] (fun U => U.heap.size = sz ∧ va_P (dC, dI) cls_ [(m0, .inr (10, [.int i_fault, .int (nI (n_size)), .ref r_file, .int (nI (n_side)), .int (bI o_font), .ref r_bytes, .ref r_places, .ref r_lengths, .ref r_glyphCount, .ref r_ems, .ref r_wides, .ref r_forms, .ref r_parts, .ref r_charts, .ref r_pointCount, .ref r_contourCount, .ref r_depths, .ref r_xs, .ref r_ys, .ref r_ons, .ref r_contours, .int (bI o_bad), .int (nI (n_at)), .int (nI (n_end)), .ref r_flags, .ref r_part, .int (nI (n_typed)), .ref r_text, .int (nI (n_ring)), .ref r_ringX, .ref r_ringY, .ref r_ringOn, .int (nI (n_wait)), .ref r_curves, .ref r_windings, .ref r_rows])), (r_curves, .inl (c_curves, 140, .inl (v_curves))), (r_windings, .inl (c_windings, 1152, .inl (v_windings)))] U.heap ∧ va_K (dC, dI) cls_ [(c_curves, .int), (c_windings, .int)] U ∧ va_D (fun _ => True) [(m0, .inr (10, [.int i_fault, .int (nI (n_size)), .ref r_file, .int (nI (n_side)), .int (bI o_font), .ref r_bytes, .ref r_places, .ref r_lengths, .ref r_glyphCount, .ref r_ems, .ref r_wides, .ref r_forms, .ref r_parts, .ref r_charts, .ref r_pointCount, .ref r_contourCount, .ref r_depths, .ref r_xs, .ref r_ys, .ref r_ons, .ref r_contours, .int (bI o_bad), .int (nI (n_at)), .int (nI (n_end)), .ref r_flags, .ref r_part, .int (nI (n_typed)), .ref r_text, .int (nI (n_ring)), .ref r_ringX, .ref r_ringY, .ref r_ringOn, .int (nI (n_wait)), .ref r_curves, .ref r_windings, .ref r_rows])), (r_curves, .inl (c_curves, 140, .inl (v_curves))), (r_windings, .inl (c_windings, 1152, .inl (v_windings)))])) (va_Qv (fun _ : Unit => True) (fun (_ : Unit) (t : State) => ∃ (n_wait_2 : Nat) (v_curves_2 : Nat → Int32) (v_windings_2 : Nat → Int32), n_wait_2 = 0 ∧ va_P (dC, dI) cls_ [(m0, .inr (10, [.int i_fault, .int (nI (n_size)), .ref r_file, .int (nI (n_side)), .int (bI o_font), .ref r_bytes, .ref r_places, .ref r_lengths, .ref r_glyphCount, .ref r_ems, .ref r_wides, .ref r_forms, .ref r_parts, .ref r_charts, .ref r_pointCount, .ref r_contourCount, .ref r_depths, .ref r_xs, .ref r_ys, .ref r_ons, .ref r_contours, .int (bI o_bad), .int (nI (n_at)), .int (nI (n_end)), .ref r_flags, .ref r_part, .int (nI (n_typed)), .ref r_text, .int (nI (n_ring)), .ref r_ringX, .ref r_ringY, .ref r_ringOn, .int (nI (n_wait_2)), .ref r_curves, .ref r_windings, .ref r_rows])), (r_curves, .inl (c_curves, 140, .inl (v_curves_2))), (r_windings, .inl (c_windings, 1152, .inl (v_windings_2)))] t.heap ∧ va_K (dC, dI) cls_ [(c_curves, .int), (c_windings, .int)] t ∧ va_D (va_A [(m0, .inr (10, [.int i_fault, .int (nI (n_size)), .ref r_file, .int (nI (n_side)), .int (bI o_font), .ref r_bytes, .ref r_places, .ref r_lengths, .ref r_glyphCount, .ref r_ems, .ref r_wides, .ref r_forms, .ref r_parts, .ref r_charts, .ref r_pointCount, .ref r_contourCount, .ref r_depths, .ref r_xs, .ref r_ys, .ref r_ons, .ref r_contours, .int (bI o_bad), .int (nI (n_at)), .int (nI (n_end)), .ref r_flags, .ref r_part, .int (nI (n_typed)), .ref r_text, .int (nI (n_ring)), .ref r_ringX, .ref r_ringY, .ref r_ringOn, .int (nI (n_wait)), .ref r_curves, .ref r_windings, .ref r_rows])), (r_curves, .inl (c_curves, 140, .inl (v_curves))), (r_windings, .inl (c_windings, 1152, .inl (v_windings)))] sz) [(m0, .inr (10, [.int i_fault, .int (nI (n_size)), .ref r_file, .int (nI (n_side)), .int (bI o_font), .ref r_bytes, .ref r_places, .ref r_lengths, .ref r_glyphCount, .ref r_ems, .ref r_wides, .ref r_forms, .ref r_parts, .ref r_charts, .ref r_pointCount, .ref r_contourCount, .ref r_depths, .ref r_xs, .ref r_ys, .ref r_ons, .ref r_contours, .int (bI o_bad), .int (nI (n_at)), .int (nI (n_end)), .ref r_flags, .ref r_part, .int (nI (n_typed)), .ref r_text, .int (nI (n_ring)), .ref r_ringX, .ref r_ringY, .ref r_ringOn, .int (nI (n_wait_2)), .ref r_curves, .ref r_windings, .ref r_rows])), (r_curves, .inl (c_curves, 140, .inl (v_curves_2))), (r_windings, .inl (c_windings, 1152, .inl (v_windings_2)))]) (va_A [(m0, .inr (10, [.int i_fault, .int (nI (n_size)), .ref r_file, .int (nI (n_side)), .int (bI o_font), .ref r_bytes, .ref r_places, .ref r_lengths, .ref r_glyphCount, .ref r_ems, .ref r_wides, .ref r_forms, .ref r_parts, .ref r_charts, .ref r_pointCount, .ref r_contourCount, .ref r_depths, .ref r_xs, .ref r_ys, .ref r_ons, .ref r_contours, .int (bI o_bad), .int (nI (n_at)), .int (nI (n_end)), .ref r_flags, .ref r_part, .int (nI (n_typed)), .ref r_text, .int (nI (n_ring)), .ref r_ringX, .ref r_ringY, .ref r_ringOn, .int (nI (n_wait)), .ref r_curves, .ref r_windings, .ref r_rows])), (r_curves, .inl (c_curves, 140, .inl (v_curves))), (r_windings, .inl (c_windings, 1152, .inl (v_windings)))] sz)) 0 0 (va_A [(m0, .inr (10, [.int i_fault, .int (nI (n_size)), .ref r_file, .int (nI (n_side)), .int (bI o_font), .ref r_bytes, .ref r_places, .ref r_lengths, .ref r_glyphCount, .ref r_ems, .ref r_wides, .ref r_forms, .ref r_parts, .ref r_charts, .ref r_pointCount, .ref r_contourCount, .ref r_depths, .ref r_xs, .ref r_ys, .ref r_ons, .ref r_contours, .int (bI o_bad), .int (nI (n_at)), .int (nI (n_end)), .ref r_flags, .ref r_part, .int (nI (n_typed)), .ref r_text, .int (nI (n_ring)), .ref r_ringX, .ref r_ringY, .ref r_ringOn, .int (nI (n_wait)), .ref r_curves, .ref r_windings, .ref r_rows])), (r_curves, .inl (c_curves, 140, .inl (v_curves))), (r_windings, .inl (c_windings, 1152, .inl (v_windings)))] sz) := by
  refine Met.ofW (cc := b_MD_paintCurves) (maxL := 13) (ret := none) (by decide) rfl ?_
  intro p e s m args below meth c s₁ B hml hv
  obtain ⟨rfl, hsz, hP, hK, hD0⟩ := hv
  have hx := B.exec
  have hb := B.bytes
  have hr := B.returns
  have hts := atoms_spec (ws := s_MD_paintCurves) B.pre
  have hown : s.vm.findClass R_MD = some m.cls := findClass_of_methodNamed B.named
  have hlocks := B.notSynchronized
  subst hsz
  have hD := hD0.self (sz := s.heap.size)
  generalize hAe : va_A [(m0, .inr (10, [.int i_fault, .int (nI (n_size)), .ref r_file, .int (nI (n_side)), .int (bI o_font), .ref r_bytes, .ref r_places, .ref r_lengths, .ref r_glyphCount, .ref r_ems, .ref r_wides, .ref r_forms, .ref r_parts, .ref r_charts, .ref r_pointCount, .ref r_contourCount, .ref r_depths, .ref r_xs, .ref r_ys, .ref r_ons, .ref r_contours, .int (bI o_bad), .int (nI (n_at)), .int (nI (n_end)), .ref r_flags, .ref r_part, .int (nI (n_typed)), .ref r_text, .int (nI (n_ring)), .ref r_ringX, .ref r_ringY, .ref r_ringOn, .int (nI (n_wait)), .ref r_curves, .ref r_windings, .ref r_rows])), (r_curves, .inl (c_curves, 140, .inl (v_curves))), (r_windings, .inl (c_windings, 1152, .inl (v_windings)))] s.heap.size = A at hD ⊢
  have hA : ∀ q : Nat, s.heap.size ≤ q → A q := fun q h => by rw [← hAe]; exact Or.inr h
  have hS : va_S A s.heap s.heap [] := va_S.rf
  have hP : va_P (dC, dI) cls_ [(m0, .inr (10, [.int i_fault, .int (nI (n_size)), .ref r_file, .int (nI (n_side)), .int (bI o_font), .ref r_bytes, .ref r_places, .ref r_lengths, .ref r_glyphCount, .ref r_ems, .ref r_wides, .ref r_forms, .ref r_parts, .ref r_charts, .ref r_pointCount, .ref r_contourCount, .ref r_depths, .ref r_xs, .ref r_ys, .ref r_ons, .ref r_contours, .int (bI o_bad), .int (nI (n_at)), .int (nI (n_end)), .ref r_flags, .ref r_part, .int (nI (n_typed)), .ref r_text, .int (nI (n_ring)), .ref r_ringX, .ref r_ringY, .ref r_ringOn, .int (nI (n_wait)), .ref r_curves, .ref r_windings, .ref r_rows])), (r_curves, .inl (c_curves, 140, .inl (v_curves))), (r_windings, .inl (c_windings, 1152, .inl (v_windings)))] s.heap := hP
  have hl := lv_entry ([.ref m0]) (n := 13) (Nat.le_of_ble_eq_true rfl)
  rw [lg_entry_eq]
  generalize (lg_sl ([.ref m0]) ++ List.replicate (13 - (lg_sl ([.ref m0])).length) Slot.unset).toArray = ls at hl ⊢
  have hl : lv_has ls 13 [(0, .ref m0)] := hl
  have hP8 := hP.sub (ws' := [(m0, .inr (10, [.int i_fault, .int (nI (n_size)), .ref r_file, .int (nI (n_side)), .int (bI o_font), .ref r_bytes, .ref r_places, .ref r_lengths, .ref r_glyphCount, .ref r_ems, .ref r_wides, .ref r_forms, .ref r_parts, .ref r_charts, .ref r_pointCount, .ref r_contourCount, .ref r_depths, .ref r_xs, .ref r_ys, .ref r_ons, .ref r_contours, .int (bI o_bad), .int (nI (n_at)), .int (nI (n_end)), .ref r_flags, .ref r_part, .int (nI (n_typed)), .ref r_text, .int (nI (n_ring)), .ref r_ringX, .ref r_ringY, .ref r_ringOn, .int (nI (n_wait)), .ref r_curves, .ref r_windings, .ref r_rows])), (r_curves, .inl (c_curves, 140, .inl (v_curves))), (r_windings, .inl (c_windings, 1152, .inl (v_windings)))]) [0, 1, 2] rfl
  have hD8 := hD.sub (ws' := [(m0, .inr (10, [.int i_fault, .int (nI (n_size)), .ref r_file, .int (nI (n_side)), .int (bI o_font), .ref r_bytes, .ref r_places, .ref r_lengths, .ref r_glyphCount, .ref r_ems, .ref r_wides, .ref r_forms, .ref r_parts, .ref r_charts, .ref r_pointCount, .ref r_contourCount, .ref r_depths, .ref r_xs, .ref r_ys, .ref r_ons, .ref r_contours, .int (bI o_bad), .int (nI (n_at)), .int (nI (n_end)), .ref r_flags, .ref r_part, .int (nI (n_typed)), .ref r_text, .int (nI (n_ring)), .ref r_ringX, .ref r_ringY, .ref r_ringOn, .int (nI (n_wait)), .ref r_curves, .ref r_windings, .ref r_rows])), (r_curves, .inl (c_curves, 140, .inl (v_curves))), (r_windings, .inl (c_windings, 1152, .inl (v_windings)))]) [0, 1, 2] (by decide) rfl
  refine lv_loop (α := Nat × (Nat → Int32) × (Nat → Int32)) 0 (fun ⟨f_m0_waiting_17000, a_r_curves_17001, a_r_windings_17002⟩ H' locs' ls' => va_P (dC, dI) cls_ [(m0, .inr (10, [.int i_fault, .int (nI (n_size)), .ref r_file, .int (nI (n_side)), .int (bI o_font), .ref r_bytes, .ref r_places, .ref r_lengths, .ref r_glyphCount, .ref r_ems, .ref r_wides, .ref r_forms, .ref r_parts, .ref r_charts, .ref r_pointCount, .ref r_contourCount, .ref r_depths, .ref r_xs, .ref r_ys, .ref r_ons, .ref r_contours, .int (bI o_bad), .int (nI (n_at)), .int (nI (n_end)), .ref r_flags, .ref r_part, .int (nI (n_typed)), .ref r_text, .int (nI (n_ring)), .ref r_ringX, .ref r_ringY, .ref r_ringOn, .int (nI (f_m0_waiting_17000)), .ref r_curves, .ref r_windings, .ref r_rows])), (r_curves, .inl (c_curves, 140, .inl (a_r_curves_17001))), (r_windings, .inl (c_windings, 1152, .inl (a_r_windings_17002)))] H' ∧ va_D A [(m0, .inr (10, [.int i_fault, .int (nI (n_size)), .ref r_file, .int (nI (n_side)), .int (bI o_font), .ref r_bytes, .ref r_places, .ref r_lengths, .ref r_glyphCount, .ref r_ems, .ref r_wides, .ref r_forms, .ref r_parts, .ref r_charts, .ref r_pointCount, .ref r_contourCount, .ref r_depths, .ref r_xs, .ref r_ys, .ref r_ons, .ref r_contours, .int (bI o_bad), .int (nI (n_at)), .int (nI (n_end)), .ref r_flags, .ref r_part, .int (nI (n_typed)), .ref r_text, .int (nI (n_ring)), .ref r_ringX, .ref r_ringY, .ref r_ringOn, .int (nI (f_m0_waiting_17000)), .ref r_curves, .ref r_windings, .ref r_rows])), (r_curves, .inl (c_curves, 140, .inl (a_r_curves_17001))), (r_windings, .inl (c_windings, 1152, .inl (a_r_windings_17002)))] ∧ va_S A s.heap H' locs' ∧ lv_has ls' 13 [(0, .ref m0)] ∧ (f_m0_waiting_17000 ≤ 7) ∧ (curF a_r_curves_17001 f_m0_waiting_17000)) (fun ⟨f_m0_waiting_17000, a_r_curves_17001, a_r_windings_17002⟩ => []) (fun ⟨f_m0_waiting_17000, a_r_curves_17001, a_r_windings_17002⟩ => mw a_r_curves_17001 f_m0_waiting_17000) ?_ (n_wait, v_curves, v_windings) s.heap _ ls ⟨hP8, hD8, hS, lv_sub hl [0] rfl, by omega, (by assumption)⟩
  intro ⟨f_m0_waiting_17000, a_r_curves_17001, a_r_windings_17002⟩ ih17003 H locs ls ⟨hP, hD, hS, hl, hf17004, hf17005⟩
  show W p l e _ s m _ below meth c H locs _ _ _ (F0 m 0 ls [])
  have hP : va_P (dC, dI) cls_ [(m0, .inr (10, [.int i_fault, .int (nI (n_size)), .ref r_file, .int (nI (n_side)), .int (bI o_font), .ref r_bytes, .ref r_places, .ref r_lengths, .ref r_glyphCount, .ref r_ems, .ref r_wides, .ref r_forms, .ref r_parts, .ref r_charts, .ref r_pointCount, .ref r_contourCount, .ref r_depths, .ref r_xs, .ref r_ys, .ref r_ons, .ref r_contours, .int (bI o_bad), .int (nI (n_at)), .int (nI (n_end)), .ref r_flags, .ref r_part, .int (nI (n_typed)), .ref r_text, .int (nI (n_ring)), .ref r_ringX, .ref r_ringY, .ref r_ringOn, .int (nI (f_m0_waiting_17000)), .ref r_curves, .ref r_windings, .ref r_rows])), (r_curves, .inl (c_curves, 140, .inl (a_r_curves_17001))), (r_windings, .inl (c_windings, 1152, .inl (a_r_windings_17002)))] H := hP
  have hD : va_D A [(m0, .inr (10, [.int i_fault, .int (nI (n_size)), .ref r_file, .int (nI (n_side)), .int (bI o_font), .ref r_bytes, .ref r_places, .ref r_lengths, .ref r_glyphCount, .ref r_ems, .ref r_wides, .ref r_forms, .ref r_parts, .ref r_charts, .ref r_pointCount, .ref r_contourCount, .ref r_depths, .ref r_xs, .ref r_ys, .ref r_ons, .ref r_contours, .int (bI o_bad), .int (nI (n_at)), .int (nI (n_end)), .ref r_flags, .ref r_part, .int (nI (n_typed)), .ref r_text, .int (nI (n_ring)), .ref r_ringX, .ref r_ringY, .ref r_ringOn, .int (nI (f_m0_waiting_17000)), .ref r_curves, .ref r_windings, .ref r_rows])), (r_curves, .inl (c_curves, 140, .inl (a_r_curves_17001))), (r_windings, .inl (c_windings, 1152, .inl (a_r_windings_17002)))] := hD
  refine lv_aload_n hx hb d_MD_paintCurves_0 rfl (lv_at hl 0 rfl) ?_
  refine va_get (D := (dC, dI)) (ci := 10) (v := .int (nI (f_m0_waiting_17000))) (C := R_MD) (T := F_MD) (N := 36) hx hb hts in_MD hown hK hP 0 rfl rfl 32 (by decide) (hts _ (List.mem_cons_of_mem _ w_884)) (fun _ h9 => h9) rfl d_MD_paintCurves_1 ?_
  refine lv_if_le (tgt := 215) hx hb d_MD_paintCurves_4 (by decide) (fun hc17006 => ?_) (fun hc17006 => ?_)
  · skip
    have hc17006n : f_m0_waiting_17000 ≤ 0 := (nI_leI (a := f_m0_waiting_17000) (b := 0) (by omega) (by omega)).mp hc17006
    refine W.widen (k := 0) (n := 0) (Nat.le_of_ble_eq_true rfl) (Nat.le_of_ble_eq_true rfl) ?_
    have hP9 := hP.sub (ws' := [(m0, .inr (10, [.int i_fault, .int (nI (n_size)), .ref r_file, .int (nI (n_side)), .int (bI o_font), .ref r_bytes, .ref r_places, .ref r_lengths, .ref r_glyphCount, .ref r_ems, .ref r_wides, .ref r_forms, .ref r_parts, .ref r_charts, .ref r_pointCount, .ref r_contourCount, .ref r_depths, .ref r_xs, .ref r_ys, .ref r_ons, .ref r_contours, .int (bI o_bad), .int (nI (n_at)), .int (nI (n_end)), .ref r_flags, .ref r_part, .int (nI (n_typed)), .ref r_text, .int (nI (n_ring)), .ref r_ringX, .ref r_ringY, .ref r_ringOn, .int (nI (f_m0_waiting_17000)), .ref r_curves, .ref r_windings, .ref r_rows])), (r_curves, .inl (c_curves, 140, .inl (a_r_curves_17001))), (r_windings, .inl (c_windings, 1152, .inl (a_r_windings_17002)))]) [0, 1, 2] rfl
    have hD9 := hD.sub (ws' := [(m0, .inr (10, [.int i_fault, .int (nI (n_size)), .ref r_file, .int (nI (n_side)), .int (bI o_font), .ref r_bytes, .ref r_places, .ref r_lengths, .ref r_glyphCount, .ref r_ems, .ref r_wides, .ref r_forms, .ref r_parts, .ref r_charts, .ref r_pointCount, .ref r_contourCount, .ref r_depths, .ref r_xs, .ref r_ys, .ref r_ons, .ref r_contours, .int (bI o_bad), .int (nI (n_at)), .int (nI (n_end)), .ref r_flags, .ref r_part, .int (nI (n_typed)), .ref r_text, .int (nI (n_ring)), .ref r_ringX, .ref r_ringY, .ref r_ringOn, .int (nI (f_m0_waiting_17000)), .ref r_curves, .ref r_windings, .ref r_rows])), (r_curves, .inl (c_curves, 140, .inl (a_r_curves_17001))), (r_windings, .inl (c_windings, 1152, .inl (a_r_windings_17002)))]) [0, 1, 2] (by decide) rfl
    have hK9 := hK.sub (tys' := [(c_curves, .int), (c_windings, .int)]) [0, 1] rfl
    exact W.vret hx hb hr (fun t ht hW => ⟨⟨(), rfl, trivial, f_m0_waiting_17000, a_r_curves_17001, a_r_windings_17002, by omega, by rw [ht]; exact hP9, va_K.moved hW.alike hK9, hD9⟩, hS.F ht⟩) hS.2.2 d_MD_paintCurves_215
  · skip
    have hc17006n : ¬ (f_m0_waiting_17000 ≤ 0) := fun z => hc17006 ((nI_leI (a := f_m0_waiting_17000) (b := 0) (by omega) (by omega)).mpr z)
    obtain ⟨tm, htm1, htm2, etm⟩ := curF_at (w := f_m0_waiting_17000) (by assumption) (by omega)
    obtain ⟨w1, ew1⟩ : ∃ z : Nat, f_m0_waiting_17000 = z + 1 := ⟨f_m0_waiting_17000 - 1, by omega⟩
    rw [show f_m0_waiting_17000 - 1 = w1 by omega] at htm1 etm
    refine lv_aload_n hx hb d_MD_paintCurves_7 rfl (lv_at hl 0 rfl) ?_
    refine lv_dup hx hb d_MD_paintCurves_8 rfl ?_
    refine va_get (D := (dC, dI)) (ci := 10) (v := .int (nI (f_m0_waiting_17000))) (C := R_MD) (T := F_MD) (N := 36) hx hb hts in_MD hown hK hP 0 rfl rfl 32 (by decide) (hts _ (List.mem_cons_of_mem _ w_884)) (fun _ h9 => h9) rfl d_MD_paintCurves_9 ?_
    refine lv_iconst (v := 1) hx hb d_MD_paintCurves_12 (by decide) ?_
    refine lv_isub hx hb d_MD_paintCurves_13 ?_
    refine lv_ci (y := nI (f_m0_waiting_17000 - 1)) (pk_sub (a := f_m0_waiting_17000) (b := 1) (by omega)) ?_
    refine lv_ci (y := nI w1) (by rw [show f_m0_waiting_17000 - 1 = w1 by omega]) ?_
    refine va_put (D := (dC, dI)) (ci := 10) (v := .int (nI (w1))) (ty := .int) (C := R_MD) (T := F_MD) (N := 36) hx hb hts in_MD t_MD t_MD_ok n_MD hown hK hP hD hS 0 rfl rfl 32 (by decide) (hts _ (List.mem_cons_of_mem _ w_884)) (fun _ h9 => h9) rfl  (by decide +kernel) rfl rfl (Nat.le_of_ble_eq_true rfl) d_MD_paintCurves_14 (fun H locs hP hD hS => ?_)
    have hP : va_P (dC, dI) cls_ [(m0, .inr (10, [.int i_fault, .int (nI (n_size)), .ref r_file, .int (nI (n_side)), .int (bI o_font), .ref r_bytes, .ref r_places, .ref r_lengths, .ref r_glyphCount, .ref r_ems, .ref r_wides, .ref r_forms, .ref r_parts, .ref r_charts, .ref r_pointCount, .ref r_contourCount, .ref r_depths, .ref r_xs, .ref r_ys, .ref r_ons, .ref r_contours, .int (bI o_bad), .int (nI (n_at)), .int (nI (n_end)), .ref r_flags, .ref r_part, .int (nI (n_typed)), .ref r_text, .int (nI (n_ring)), .ref r_ringX, .ref r_ringY, .ref r_ringOn, .int (nI (w1)), .ref r_curves, .ref r_windings, .ref r_rows])), (r_curves, .inl (c_curves, 140, .inl (a_r_curves_17001))), (r_windings, .inl (c_windings, 1152, .inl (a_r_windings_17002)))] H := hP
    have hD : va_D A [(m0, .inr (10, [.int i_fault, .int (nI (n_size)), .ref r_file, .int (nI (n_side)), .int (bI o_font), .ref r_bytes, .ref r_places, .ref r_lengths, .ref r_glyphCount, .ref r_ems, .ref r_wides, .ref r_forms, .ref r_parts, .ref r_charts, .ref r_pointCount, .ref r_contourCount, .ref r_depths, .ref r_xs, .ref r_ys, .ref r_ons, .ref r_contours, .int (bI o_bad), .int (nI (n_at)), .int (nI (n_end)), .ref r_flags, .ref r_part, .int (nI (n_typed)), .ref r_text, .int (nI (n_ring)), .ref r_ringX, .ref r_ringY, .ref r_ringOn, .int (nI (w1)), .ref r_curves, .ref r_windings, .ref r_rows])), (r_curves, .inl (c_curves, 140, .inl (a_r_curves_17001))), (r_windings, .inl (c_windings, 1152, .inl (a_r_windings_17002)))] := hD
    refine lv_bipush (v := 7) hx hb d_MD_paintCurves_17 (by decide) ?_
    refine lv_aload_n hx hb d_MD_paintCurves_19 rfl (lv_at hl 0 rfl) ?_
    refine va_get (D := (dC, dI)) (ci := 10) (v := .int (nI (w1))) (C := R_MD) (T := F_MD) (N := 36) hx hb hts in_MD hown hK hP 0 rfl rfl 32 (by decide) (hts _ (List.mem_cons_of_mem _ w_884)) (fun _ h9 => h9) rfl d_MD_paintCurves_20 ?_
    refine lv_imul hx hb d_MD_paintCurves_23 ?_
    refine lv_ci (y := nI (7 * w1)) (pk_mul (7) (w1)) ?_
    refine lv_istore_n (lv' := [(1, .int (nI (7 * w1))), (0, .ref m0)]) hx hb d_MD_paintCurves_24 rfl hl (by decide) rfl (fun ls hl => ?_)
    refine lv_aload_n hx hb d_MD_paintCurves_25 rfl (lv_at hl 1 rfl) ?_
    refine va_get (D := (dC, dI)) (ci := 10) (v := .ref r_curves) (C := R_MD) (T := F_MD) (N := 36) hx hb hts in_MD hown hK hP 0 rfl rfl 33 (by decide) (hts _ (List.mem_cons_of_mem _ w_885)) (fun _ h9 => h9) rfl d_MD_paintCurves_26 ?_
    refine lv_iload_n hx hb d_MD_paintCurves_29 rfl (lv_at hl 0 rfl) ?_
    refine va_iald hx hb hK hP 1 0 rfl rfl (pk_in (7 * w1) 140 (by omega) rfl (by decide)) d_MD_paintCurves_30 ?_
    refine lv_topi (fun v17007 ev17007 => ?_)
    refine lv_istore_n (lv' := [(2, .int v17007), (1, .int (nI (7 * w1))), (0, .ref m0)]) hx hb d_MD_paintCurves_31 rfl hl (by decide) rfl (fun ls hl => ?_)
    refine lv_aload_n hx hb d_MD_paintCurves_32 rfl (lv_at hl 2 rfl) ?_
    refine va_get (D := (dC, dI)) (ci := 10) (v := .ref r_curves) (C := R_MD) (T := F_MD) (N := 36) hx hb hts in_MD hown hK hP 0 rfl rfl 33 (by decide) (hts _ (List.mem_cons_of_mem _ w_885)) (fun _ h9 => h9) rfl d_MD_paintCurves_33 ?_
    refine lv_iload_n hx hb d_MD_paintCurves_36 rfl (lv_at hl 1 rfl) ?_
    refine lv_iconst (v := 1) hx hb d_MD_paintCurves_37 (by decide) ?_
    refine lv_iadd hx hb d_MD_paintCurves_38 ?_
    refine lv_ci (y := nI (7 * w1 + 1)) (nI_add (7 * w1) (1)) ?_
    refine va_iald hx hb hK hP 1 0 rfl rfl (pk_in (7 * w1 + 1) 140 (by omega) rfl (by decide)) d_MD_paintCurves_39 ?_
    refine lv_topi (fun v17008 ev17008 => ?_)
    refine lv_istore_n (lv' := [(3, .int v17008), (2, .int v17007), (1, .int (nI (7 * w1))), (0, .ref m0)]) hx hb d_MD_paintCurves_40 rfl hl (by decide) rfl (fun ls hl => ?_)
    refine lv_aload_n hx hb d_MD_paintCurves_41 rfl (lv_at hl 3 rfl) ?_
    refine va_get (D := (dC, dI)) (ci := 10) (v := .ref r_curves) (C := R_MD) (T := F_MD) (N := 36) hx hb hts in_MD hown hK hP 0 rfl rfl 33 (by decide) (hts _ (List.mem_cons_of_mem _ w_885)) (fun _ h9 => h9) rfl d_MD_paintCurves_42 ?_
    refine lv_iload_n hx hb d_MD_paintCurves_45 rfl (lv_at hl 2 rfl) ?_
    refine lv_iconst (v := 2) hx hb d_MD_paintCurves_46 (by decide) ?_
    refine lv_iadd hx hb d_MD_paintCurves_47 ?_
    refine lv_ci (y := nI (7 * w1 + 2)) (nI_add (7 * w1) (2)) ?_
    refine va_iald hx hb hK hP 1 0 rfl rfl (pk_in (7 * w1 + 2) 140 (by omega) rfl (by decide)) d_MD_paintCurves_48 ?_
    refine lv_topi (fun v17009 ev17009 => ?_)
    refine lv_istore (lv' := [(4, .int v17009), (3, .int v17008), (2, .int v17007), (1, .int (nI (7 * w1))), (0, .ref m0)]) hx hb d_MD_paintCurves_49 hl (by decide) rfl (fun ls hl => ?_)
    refine lv_aload_n hx hb d_MD_paintCurves_51 rfl (lv_at hl 4 rfl) ?_
    refine va_get (D := (dC, dI)) (ci := 10) (v := .ref r_curves) (C := R_MD) (T := F_MD) (N := 36) hx hb hts in_MD hown hK hP 0 rfl rfl 33 (by decide) (hts _ (List.mem_cons_of_mem _ w_885)) (fun _ h9 => h9) rfl d_MD_paintCurves_52 ?_
    refine lv_iload_n hx hb d_MD_paintCurves_55 rfl (lv_at hl 3 rfl) ?_
    refine lv_iconst (v := 3) hx hb d_MD_paintCurves_56 (by decide) ?_
    refine lv_iadd hx hb d_MD_paintCurves_57 ?_
    refine lv_ci (y := nI (7 * w1 + 3)) (nI_add (7 * w1) (3)) ?_
    refine va_iald hx hb hK hP 1 0 rfl rfl (pk_in (7 * w1 + 3) 140 (by omega) rfl (by decide)) d_MD_paintCurves_58 ?_
    refine lv_topi (fun v17010 ev17010 => ?_)
    refine lv_istore (lv' := [(5, .int v17010), (4, .int v17009), (3, .int v17008), (2, .int v17007), (1, .int (nI (7 * w1))), (0, .ref m0)]) hx hb d_MD_paintCurves_59 hl (by decide) rfl (fun ls hl => ?_)
    refine lv_aload_n hx hb d_MD_paintCurves_61 rfl (lv_at hl 5 rfl) ?_
    refine va_get (D := (dC, dI)) (ci := 10) (v := .ref r_curves) (C := R_MD) (T := F_MD) (N := 36) hx hb hts in_MD hown hK hP 0 rfl rfl 33 (by decide) (hts _ (List.mem_cons_of_mem _ w_885)) (fun _ h9 => h9) rfl d_MD_paintCurves_62 ?_
    refine lv_iload_n hx hb d_MD_paintCurves_65 rfl (lv_at hl 4 rfl) ?_
    refine lv_iconst (v := 4) hx hb d_MD_paintCurves_66 (by decide) ?_
    refine lv_iadd hx hb d_MD_paintCurves_67 ?_
    refine lv_ci (y := nI (7 * w1 + 4)) (nI_add (7 * w1) (4)) ?_
    refine va_iald hx hb hK hP 1 0 rfl rfl (pk_in (7 * w1 + 4) 140 (by omega) rfl (by decide)) d_MD_paintCurves_68 ?_
    refine lv_topi (fun v17011 ev17011 => ?_)
    refine lv_istore (lv' := [(6, .int v17011), (5, .int v17010), (4, .int v17009), (3, .int v17008), (2, .int v17007), (1, .int (nI (7 * w1))), (0, .ref m0)]) hx hb d_MD_paintCurves_69 hl (by decide) rfl (fun ls hl => ?_)
    refine lv_aload_n hx hb d_MD_paintCurves_71 rfl (lv_at hl 6 rfl) ?_
    refine va_get (D := (dC, dI)) (ci := 10) (v := .ref r_curves) (C := R_MD) (T := F_MD) (N := 36) hx hb hts in_MD hown hK hP 0 rfl rfl 33 (by decide) (hts _ (List.mem_cons_of_mem _ w_885)) (fun _ h9 => h9) rfl d_MD_paintCurves_72 ?_
    refine lv_iload_n hx hb d_MD_paintCurves_75 rfl (lv_at hl 5 rfl) ?_
    refine lv_iconst (v := 5) hx hb d_MD_paintCurves_76 (by decide) ?_
    refine lv_iadd hx hb d_MD_paintCurves_77 ?_
    refine lv_ci (y := nI (7 * w1 + 5)) (nI_add (7 * w1) (5)) ?_
    refine va_iald hx hb hK hP 1 0 rfl rfl (pk_in (7 * w1 + 5) 140 (by omega) rfl (by decide)) d_MD_paintCurves_78 ?_
    refine lv_topi (fun v17012 ev17012 => ?_)
    refine lv_istore (lv' := [(7, .int v17012), (6, .int v17011), (5, .int v17010), (4, .int v17009), (3, .int v17008), (2, .int v17007), (1, .int (nI (7 * w1))), (0, .ref m0)]) hx hb d_MD_paintCurves_79 hl (by decide) rfl (fun ls hl => ?_)
    refine lv_aload_n hx hb d_MD_paintCurves_81 rfl (lv_at hl 7 rfl) ?_
    refine va_get (D := (dC, dI)) (ci := 10) (v := .ref r_curves) (C := R_MD) (T := F_MD) (N := 36) hx hb hts in_MD hown hK hP 0 rfl rfl 33 (by decide) (hts _ (List.mem_cons_of_mem _ w_885)) (fun _ h9 => h9) rfl d_MD_paintCurves_82 ?_
    refine lv_iload_n hx hb d_MD_paintCurves_85 rfl (lv_at hl 6 rfl) ?_
    refine lv_bipush (v := 6) hx hb d_MD_paintCurves_86 (by decide) ?_
    refine lv_iadd hx hb d_MD_paintCurves_88 ?_
    refine lv_ci (y := nI (7 * w1 + 6)) (nI_add (7 * w1) (6)) ?_
    refine va_iald hx hb hK hP 1 0 rfl rfl (pk_in (7 * w1 + 6) 140 (by omega) rfl (by decide)) d_MD_paintCurves_89 ?_
    refine lv_topi (fun v17013 ev17013 => ?_)
    refine lv_istore (lv' := [(8, .int v17013), (7, .int v17012), (6, .int v17011), (5, .int v17010), (4, .int v17009), (3, .int v17008), (2, .int v17007), (1, .int (nI (7 * w1))), (0, .ref m0)]) hx hb d_MD_paintCurves_90 hl (by decide) rfl (fun ls hl => ?_)
    obtain rfl : v17013 = nI tm := ev17013.trans (by rw [nI_clamp (show 7 * w1 + 6 < 2 ^ 31 by omega)]; exact etm)
    refine lv_iload hx hb d_MD_paintCurves_92 (lv_at hl 0 rfl) ?_
    refine lv_bipush (v := 6) hx hb d_MD_paintCurves_94 (by decide) ?_
    refine lv_icmp_eq (tgt := 107) hx hb d_MD_paintCurves_96 (by decide) (fun hc17014 => ?_) (fun hc17014 => ?_)
    · skip
      have hc17014n : tm = 6 := (nI_eq (a := tm) (b := 6) (by omega) (by omega)).mp hc17014
      refine lv_aload_n hx hb d_MD_paintCurves_107 rfl (lv_at hl 8 rfl) ?_
      refine lv_iload_n hx hb d_MD_paintCurves_108 rfl (lv_at hl 6 rfl) ?_
      refine lv_iload_n hx hb d_MD_paintCurves_109 rfl (lv_at hl 5 rfl) ?_
      refine lv_iload hx hb d_MD_paintCurves_110 (lv_at hl 2 rfl) ?_
      refine lv_iload hx hb d_MD_paintCurves_112 (lv_at hl 1 rfl) ?_
      have hPc := hP.sub (ws' := [(m0, .inr (10, [.int i_fault, .int (nI (n_size)), .ref r_file, .int (nI (n_side)), .int (bI o_font), .ref r_bytes, .ref r_places, .ref r_lengths, .ref r_glyphCount, .ref r_ems, .ref r_wides, .ref r_forms, .ref r_parts, .ref r_charts, .ref r_pointCount, .ref r_contourCount, .ref r_depths, .ref r_xs, .ref r_ys, .ref r_ons, .ref r_contours, .int (bI o_bad), .int (nI (n_at)), .int (nI (n_end)), .ref r_flags, .ref r_part, .int (nI (n_typed)), .ref r_text, .int (nI (n_ring)), .ref r_ringX, .ref r_ringY, .ref r_ringOn, .int (nI (w1)), .ref r_curves, .ref r_windings, .ref r_rows])), (r_windings, .inl (c_windings, 1152, .inl (a_r_windings_17002)))]) [0, 2] rfl
      have hDc := hD.sub (ws' := [(m0, .inr (10, [.int i_fault, .int (nI (n_size)), .ref r_file, .int (nI (n_side)), .int (bI o_font), .ref r_bytes, .ref r_places, .ref r_lengths, .ref r_glyphCount, .ref r_ems, .ref r_wides, .ref r_forms, .ref r_parts, .ref r_charts, .ref r_pointCount, .ref r_contourCount, .ref r_depths, .ref r_xs, .ref r_ys, .ref r_ons, .ref r_contours, .int (bI o_bad), .int (nI (n_at)), .int (nI (n_end)), .ref r_flags, .ref r_part, .int (nI (n_typed)), .ref r_text, .int (nI (n_ring)), .ref r_ringX, .ref r_ringY, .ref r_ringOn, .int (nI (w1)), .ref r_curves, .ref r_windings, .ref r_rows])), (r_windings, .inl (c_windings, 1152, .inl (a_r_windings_17002)))]) [0, 2] (by decide) rfl
      have hKc := hK.sub (tys' := [(c_windings, .int)]) [1] rfl
      have hFc := va_free (wc := [(m0, .inr (10, [.int i_fault, .int (nI (n_size)), .ref r_file, .int (nI (n_side)), .int (bI o_font), .ref r_bytes, .ref r_places, .ref r_lengths, .ref r_glyphCount, .ref r_ems, .ref r_wides, .ref r_forms, .ref r_parts, .ref r_charts, .ref r_pointCount, .ref r_contourCount, .ref r_depths, .ref r_xs, .ref r_ys, .ref r_ons, .ref r_contours, .int (bI o_bad), .int (nI (n_at)), .int (nI (n_end)), .ref r_flags, .ref r_part, .int (nI (n_typed)), .ref r_text, .int (nI (n_ring)), .ref r_ringX, .ref r_ringY, .ref r_ringOn, .int (nI (w1)), .ref r_curves, .ref r_windings, .ref r_rows])), (r_windings, .inl (c_windings, 1152, .inl (a_r_windings_17002)))]) hD hS hA [0, 2] rfl
      refine va_callv (va_runV (As := [.int v17007, .int v17008, .int v17011, .int v17012]) (rest := []) ⟨hx, hb, hml, hown, hts⟩ (g_MD_paintLine l dC dI m0 i_fault n_size r_file n_side o_font r_bytes r_places r_lengths r_glyphCount r_ems r_wides r_forms r_parts r_charts r_pointCount r_contourCount r_depths r_xs r_ys r_ons r_contours o_bad n_at n_end r_flags r_part n_typed r_text n_ring r_ringX r_ringY r_ringOn w1 r_curves r_windings r_rows c_windings a_r_windings_17002 v17007 v17008 v17011 v17012 H.size (by omega) (by omega) (by omega)) (cwV 4 hts (tw_inV w_1178 w_1180 wp_69 w_11 w_1181) rfl rfl rfl (by decide +kernel) ⟨Nat.le_of_ble_eq_true rfl, Nat.le_of_ble_eq_true rfl⟩) ⟨fun a U g mk q => by obtain ⟨q0, q1, qP, qK, qD⟩ := q; exact ⟨q0, q1, qP, va_K.moved (u := U) (U := U.calling g mk a) (Vm.Alike.refl U.vm) qK, qD⟩, va_recv (hK := hK) (hP := hP) (q0 := 0) (ci := 10) rfl rfl, fun U hU hW => ⟨rfl, by rw [hU], by rw [hU]; exact hPc, va_K.moved hW.alike hKc, hDc.weaken (fun _ _ _ _ => trivial)⟩⟩ rfl rfl hl.1 rfl (lv_room (Nat.le_of_ble_eq_true rfl)) d_MD_paintCurves_114 ⟨Nat.le_of_ble_eq_true rfl, Nat.le_of_ble_eq_true rfl⟩) hS (fun q _ h => hFc q h) hFc (fun u t H1 locs ht hvm hw hB hz1 hk1 hS => ?_)
      obtain ⟨v_windings__17015, hP1, hK1, hD1⟩ := hB
      rw [ht] at hP1
      have hK1 := va_K.moved hvm.symm hK1
      obtain ⟨hP, hD⟩ := va_join (wr := [(r_curves, .inl (c_curves, 140, .inl (a_r_curves_17001)))]) (w1 := [(m0, .inr (10, [.int i_fault, .int (nI (n_size)), .ref r_file, .int (nI (n_side)), .int (bI o_font), .ref r_bytes, .ref r_places, .ref r_lengths, .ref r_glyphCount, .ref r_ems, .ref r_wides, .ref r_forms, .ref r_parts, .ref r_charts, .ref r_pointCount, .ref r_contourCount, .ref r_depths, .ref r_xs, .ref r_ys, .ref r_ons, .ref r_contours, .int (bI o_bad), .int (nI (n_at)), .int (nI (n_end)), .ref r_flags, .ref r_part, .int (nI (n_typed)), .ref r_text, .int (nI (n_ring)), .ref r_ringX, .ref r_ringY, .ref r_ringOn, .int (nI (w1)), .ref r_curves, .ref r_windings, .ref r_rows])), (r_windings, .inl (c_windings, 1152, .inl (v_windings__17015)))]) hP hD [0, 2] [1] rfl rfl (by decide) (by decide) hk1 hFc hP1 hD1
      have hK := (hK.sub (tys' := [(c_curves, .int)]) [0] rfl).app hK1
      generalize H1 = H at hP hS ⊢
      have hP : va_P (dC, dI) cls_ [(r_curves, .inl (c_curves, 140, .inl (a_r_curves_17001))), (m0, .inr (10, [.int i_fault, .int (nI (n_size)), .ref r_file, .int (nI (n_side)), .int (bI o_font), .ref r_bytes, .ref r_places, .ref r_lengths, .ref r_glyphCount, .ref r_ems, .ref r_wides, .ref r_forms, .ref r_parts, .ref r_charts, .ref r_pointCount, .ref r_contourCount, .ref r_depths, .ref r_xs, .ref r_ys, .ref r_ons, .ref r_contours, .int (bI o_bad), .int (nI (n_at)), .int (nI (n_end)), .ref r_flags, .ref r_part, .int (nI (n_typed)), .ref r_text, .int (nI (n_ring)), .ref r_ringX, .ref r_ringY, .ref r_ringOn, .int (nI (w1)), .ref r_curves, .ref r_windings, .ref r_rows])), (r_windings, .inl (c_windings, 1152, .inl (v_windings__17015)))] H := hP
      have hD : va_D A [(r_curves, .inl (c_curves, 140, .inl (a_r_curves_17001))), (m0, .inr (10, [.int i_fault, .int (nI (n_size)), .ref r_file, .int (nI (n_side)), .int (bI o_font), .ref r_bytes, .ref r_places, .ref r_lengths, .ref r_glyphCount, .ref r_ems, .ref r_wides, .ref r_forms, .ref r_parts, .ref r_charts, .ref r_pointCount, .ref r_contourCount, .ref r_depths, .ref r_xs, .ref r_ys, .ref r_ons, .ref r_contours, .int (bI o_bad), .int (nI (n_at)), .int (nI (n_end)), .ref r_flags, .ref r_part, .int (nI (n_typed)), .ref r_text, .int (nI (n_ring)), .ref r_ringX, .ref r_ringY, .ref r_ringOn, .int (nI (w1)), .ref r_curves, .ref r_windings, .ref r_rows])), (r_windings, .inl (c_windings, 1152, .inl (v_windings__17015)))] := hD
      have hK : va_K (dC, dI) cls_ [(c_curves, .int), (c_windings, .int)] s := hK
      refine lv_goto (tgt := 212) hx hb d_MD_paintCurves_117 (by decide) ?_
      refine lv_goto (tgt := 0) hx hb d_MD_paintCurves_212 (by decide) ?_
      have hP8 := hP.sub (ws' := [(m0, .inr (10, [.int i_fault, .int (nI (n_size)), .ref r_file, .int (nI (n_side)), .int (bI o_font), .ref r_bytes, .ref r_places, .ref r_lengths, .ref r_glyphCount, .ref r_ems, .ref r_wides, .ref r_forms, .ref r_parts, .ref r_charts, .ref r_pointCount, .ref r_contourCount, .ref r_depths, .ref r_xs, .ref r_ys, .ref r_ons, .ref r_contours, .int (bI o_bad), .int (nI (n_at)), .int (nI (n_end)), .ref r_flags, .ref r_part, .int (nI (n_typed)), .ref r_text, .int (nI (n_ring)), .ref r_ringX, .ref r_ringY, .ref r_ringOn, .int (nI (w1)), .ref r_curves, .ref r_windings, .ref r_rows])), (r_curves, .inl (c_curves, 140, .inl (a_r_curves_17001))), (r_windings, .inl (c_windings, 1152, .inl (v_windings__17015)))]) [1, 0, 2] rfl
      have hD8 := hD.sub (ws' := [(m0, .inr (10, [.int i_fault, .int (nI (n_size)), .ref r_file, .int (nI (n_side)), .int (bI o_font), .ref r_bytes, .ref r_places, .ref r_lengths, .ref r_glyphCount, .ref r_ems, .ref r_wides, .ref r_forms, .ref r_parts, .ref r_charts, .ref r_pointCount, .ref r_contourCount, .ref r_depths, .ref r_xs, .ref r_ys, .ref r_ons, .ref r_contours, .int (bI o_bad), .int (nI (n_at)), .int (nI (n_end)), .ref r_flags, .ref r_part, .int (nI (n_typed)), .ref r_text, .int (nI (n_ring)), .ref r_ringX, .ref r_ringY, .ref r_ringOn, .int (nI (w1)), .ref r_curves, .ref r_windings, .ref r_rows])), (r_curves, .inl (c_curves, 140, .inl (a_r_curves_17001))), (r_windings, .inl (c_windings, 1152, .inl (v_windings__17015)))]) [1, 0, 2] (by decide) rfl
      exact ih17003 (w1, a_r_curves_17001, v_windings__17015) H locs ls (by show mw a_r_curves_17001 w1 < mw a_r_curves_17001 f_m0_waiting_17000; have q9 := mw_pop (w := f_m0_waiting_17000) (by omega) htm2 (by rw [show f_m0_waiting_17000 - 1 = w1 by omega]; exact etm); rw [show f_m0_waiting_17000 - 1 = w1 by omega] at q9; omega) ⟨hP8, hD8, hS, lv_sub hl [8] rfl, by omega, (fun j hj => (by assumption : curF _ _) j (by omega))⟩
    · skip
      have hc17014n : ¬ (tm = 6) := fun z => hc17014 ((nI_eq (a := tm) (b := 6) (by omega) (by omega)).mpr z)
      refine lv_aload_n hx hb d_MD_paintCurves_99 rfl (lv_at hl 8 rfl) ?_
      refine lv_iload_n hx hb d_MD_paintCurves_100 rfl (lv_at hl 7 rfl) ?_
      have hPc := hP.sub (ws' := [(m0, .inr (10, [.int i_fault, .int (nI (n_size)), .ref r_file, .int (nI (n_side)), .int (bI o_font), .ref r_bytes, .ref r_places, .ref r_lengths, .ref r_glyphCount, .ref r_ems, .ref r_wides, .ref r_forms, .ref r_parts, .ref r_charts, .ref r_pointCount, .ref r_contourCount, .ref r_depths, .ref r_xs, .ref r_ys, .ref r_ons, .ref r_contours, .int (bI o_bad), .int (nI (n_at)), .int (nI (n_end)), .ref r_flags, .ref r_part, .int (nI (n_typed)), .ref r_text, .int (nI (n_ring)), .ref r_ringX, .ref r_ringY, .ref r_ringOn, .int (nI (w1)), .ref r_curves, .ref r_windings, .ref r_rows])), (r_curves, .inl (c_curves, 140, .inl (a_r_curves_17001)))]) [0, 1] rfl
      have hDc := hD.sub (ws' := [(m0, .inr (10, [.int i_fault, .int (nI (n_size)), .ref r_file, .int (nI (n_side)), .int (bI o_font), .ref r_bytes, .ref r_places, .ref r_lengths, .ref r_glyphCount, .ref r_ems, .ref r_wides, .ref r_forms, .ref r_parts, .ref r_charts, .ref r_pointCount, .ref r_contourCount, .ref r_depths, .ref r_xs, .ref r_ys, .ref r_ons, .ref r_contours, .int (bI o_bad), .int (nI (n_at)), .int (nI (n_end)), .ref r_flags, .ref r_part, .int (nI (n_typed)), .ref r_text, .int (nI (n_ring)), .ref r_ringX, .ref r_ringY, .ref r_ringOn, .int (nI (w1)), .ref r_curves, .ref r_windings, .ref r_rows])), (r_curves, .inl (c_curves, 140, .inl (a_r_curves_17001)))]) [0, 1] (by decide) rfl
      have hKc := hK.sub (tys' := [(c_curves, .int)]) [0] rfl
      have hFc := va_free (wc := [(m0, .inr (10, [.int i_fault, .int (nI (n_size)), .ref r_file, .int (nI (n_side)), .int (bI o_font), .ref r_bytes, .ref r_places, .ref r_lengths, .ref r_glyphCount, .ref r_ems, .ref r_wides, .ref r_forms, .ref r_parts, .ref r_charts, .ref r_pointCount, .ref r_contourCount, .ref r_depths, .ref r_xs, .ref r_ys, .ref r_ons, .ref r_contours, .int (bI o_bad), .int (nI (n_at)), .int (nI (n_end)), .ref r_flags, .ref r_part, .int (nI (n_typed)), .ref r_text, .int (nI (n_ring)), .ref r_ringX, .ref r_ringY, .ref r_ringOn, .int (nI (w1)), .ref r_curves, .ref r_windings, .ref r_rows])), (r_curves, .inl (c_curves, 140, .inl (a_r_curves_17001)))]) hD hS hA [0, 1] rfl
      refine va_calli (va_runV (As := [.int (nI (7 * w1))]) (rest := []) ⟨hx, hb, hml, hown, hts⟩ (g_MD_isFlat l dC dI m0 i_fault n_size r_file n_side o_font r_bytes r_places r_lengths r_glyphCount r_ems r_wides r_forms r_parts r_charts r_pointCount r_contourCount r_depths r_xs r_ys r_ons r_contours o_bad n_at n_end r_flags r_part n_typed r_text n_ring r_ringX r_ringY r_ringOn w1 r_curves r_windings r_rows c_curves a_r_curves_17001 (7 * w1) H.size (by omega) (by omega) (by omega) (by omega)) (cwV 1 hts (tw_inV w_1192 w_1194 wp_72 w_11 w_1195) rfl rfl rfl (by decide +kernel) ⟨Nat.le_of_ble_eq_true rfl, Nat.le_of_ble_eq_true rfl⟩) ⟨fun a U g mk q => by obtain ⟨q0, q1, qP, qK, qD⟩ := q; exact ⟨q0, q1, qP, va_K.moved (u := U) (U := U.calling g mk a) (Vm.Alike.refl U.vm) qK, qD⟩, va_recv (hK := hK) (hP := hP) (q0 := 0) (ci := 10) rfl rfl, fun U hU hW => ⟨rfl, by rw [hU], by rw [hU]; exact hPc, va_K.moved hW.alike hKc, hDc.weaken (fun _ _ _ _ => trivial)⟩⟩ rfl rfl hl.1 rfl (lv_room (Nat.le_of_ble_eq_true rfl)) d_MD_paintCurves_101 ⟨Nat.le_of_ble_eq_true rfl, Nat.le_of_ble_eq_true rfl⟩) hS (fun q _ h => hFc q h) hFc (fun r17016 u t H1 locs ht hvm hw hB hz1 hk1 hS => ?_)
      obtain ⟨hP1, hK1, hD1⟩ := hB
      rw [ht] at hP1
      have hK1 := va_K.moved hvm.symm hK1
      obtain ⟨hP, hD⟩ := va_join (wr := [(r_windings, .inl (c_windings, 1152, .inl (a_r_windings_17002)))]) (w1 := [(m0, .inr (10, [.int i_fault, .int (nI (n_size)), .ref r_file, .int (nI (n_side)), .int (bI o_font), .ref r_bytes, .ref r_places, .ref r_lengths, .ref r_glyphCount, .ref r_ems, .ref r_wides, .ref r_forms, .ref r_parts, .ref r_charts, .ref r_pointCount, .ref r_contourCount, .ref r_depths, .ref r_xs, .ref r_ys, .ref r_ons, .ref r_contours, .int (bI o_bad), .int (nI (n_at)), .int (nI (n_end)), .ref r_flags, .ref r_part, .int (nI (n_typed)), .ref r_text, .int (nI (n_ring)), .ref r_ringX, .ref r_ringY, .ref r_ringOn, .int (nI (w1)), .ref r_curves, .ref r_windings, .ref r_rows])), (r_curves, .inl (c_curves, 140, .inl (a_r_curves_17001)))]) hP hD [0, 1] [2] rfl rfl (by decide) (by decide) hk1 hFc hP1 hD1
      have hK := (hK.sub (tys' := [(c_windings, .int)]) [1] rfl).app hK1
      generalize H1 = H at hP hS ⊢
      have hP : va_P (dC, dI) cls_ [(r_windings, .inl (c_windings, 1152, .inl (a_r_windings_17002))), (m0, .inr (10, [.int i_fault, .int (nI (n_size)), .ref r_file, .int (nI (n_side)), .int (bI o_font), .ref r_bytes, .ref r_places, .ref r_lengths, .ref r_glyphCount, .ref r_ems, .ref r_wides, .ref r_forms, .ref r_parts, .ref r_charts, .ref r_pointCount, .ref r_contourCount, .ref r_depths, .ref r_xs, .ref r_ys, .ref r_ons, .ref r_contours, .int (bI o_bad), .int (nI (n_at)), .int (nI (n_end)), .ref r_flags, .ref r_part, .int (nI (n_typed)), .ref r_text, .int (nI (n_ring)), .ref r_ringX, .ref r_ringY, .ref r_ringOn, .int (nI (w1)), .ref r_curves, .ref r_windings, .ref r_rows])), (r_curves, .inl (c_curves, 140, .inl (a_r_curves_17001)))] H := hP
      have hD : va_D A [(r_windings, .inl (c_windings, 1152, .inl (a_r_windings_17002))), (m0, .inr (10, [.int i_fault, .int (nI (n_size)), .ref r_file, .int (nI (n_side)), .int (bI o_font), .ref r_bytes, .ref r_places, .ref r_lengths, .ref r_glyphCount, .ref r_ems, .ref r_wides, .ref r_forms, .ref r_parts, .ref r_charts, .ref r_pointCount, .ref r_contourCount, .ref r_depths, .ref r_xs, .ref r_ys, .ref r_ons, .ref r_contours, .int (bI o_bad), .int (nI (n_at)), .int (nI (n_end)), .ref r_flags, .ref r_part, .int (nI (n_typed)), .ref r_text, .int (nI (n_ring)), .ref r_ringX, .ref r_ringY, .ref r_ringOn, .int (nI (w1)), .ref r_curves, .ref r_windings, .ref r_rows])), (r_curves, .inl (c_curves, 140, .inl (a_r_curves_17001)))] := hD
      have hK : va_K (dC, dI) cls_ [(c_windings, .int), (c_curves, .int)] s := hK
      have hw_r17016 := hw
      obtain ⟨bb17017, rfl⟩ := hw_r17016
      refine lv_if_eq (tgt := 120) hx hb d_MD_paintCurves_104 (by decide) (fun hc17018 => ?_) (fun hc17018 => ?_)
      · skip
        have hc17018b : bb17017 = false := bI_0 hc17018
        refine lv_iload_n hx hb d_MD_paintCurves_120 rfl (lv_at hl 6 rfl) ?_
        refine lv_iload hx hb d_MD_paintCurves_121 (lv_at hl 4 rfl) ?_
        have hPc := hP.sub (ws' := []) [] rfl
        have hDc := hD.sub (ws' := []) [] (by decide) rfl
        have hKc := hK.sub (tys' := []) [] rfl
        have hFc := va_free (wc := []) hD hS hA [] rfl
        refine va_calli (va_runS (As := [.int v17007, .int v17009]) (rest := []) ⟨hx, hb, hml, hown, hts⟩ (g_MD_half l dC dI v17007 v17009 H.size) (cwS 2 hts (tw_inS w_1171 w_1172 w_11 w_1173) rfl rfl rfl (by decide +kernel) ⟨Nat.le_of_ble_eq_true rfl, Nat.le_of_ble_eq_true rfl⟩) ⟨fun a U g mk q => by obtain ⟨q0, q1, qP, qK, qD⟩ := q; exact ⟨q0, q1, qP, va_K.moved (u := U) (U := U.calling g mk a) (Vm.Alike.refl U.vm) qK, qD⟩, fun U hU hW => ⟨rfl, by rw [hU], by rw [hU]; exact hPc, va_K.moved hW.alike hKc, hDc.weaken (fun _ _ _ _ => trivial)⟩⟩ rfl rfl hl.1 rfl (lv_room (Nat.le_of_ble_eq_true rfl)) d_MD_paintCurves_123 ⟨Nat.le_of_ble_eq_true rfl, Nat.le_of_ble_eq_true rfl⟩) hS (fun q _ h => hFc q h) hFc (fun r17019 u t H1 locs ht hvm hw hB hz1 hk1 hS => ?_)
        have hP1 : va_P (dC, dI) cls_ [] H1 := fun k q h => by simp at h
        have hD1 : va_D (va_A [] H.size) [] := ⟨fun i j p q h => by simp at h, fun k q h => by simp at h⟩
        obtain ⟨hP, hD⟩ := va_join (wr := [(r_windings, .inl (c_windings, 1152, .inl (a_r_windings_17002))), (m0, .inr (10, [.int i_fault, .int (nI (n_size)), .ref r_file, .int (nI (n_side)), .int (bI o_font), .ref r_bytes, .ref r_places, .ref r_lengths, .ref r_glyphCount, .ref r_ems, .ref r_wides, .ref r_forms, .ref r_parts, .ref r_charts, .ref r_pointCount, .ref r_contourCount, .ref r_depths, .ref r_xs, .ref r_ys, .ref r_ons, .ref r_contours, .int (bI o_bad), .int (nI (n_at)), .int (nI (n_end)), .ref r_flags, .ref r_part, .int (nI (n_typed)), .ref r_text, .int (nI (n_ring)), .ref r_ringX, .ref r_ringY, .ref r_ringOn, .int (nI (w1)), .ref r_curves, .ref r_windings, .ref r_rows])), (r_curves, .inl (c_curves, 140, .inl (a_r_curves_17001)))]) (w1 := []) hP hD [] [0, 1, 2] rfl rfl (by decide) (by decide) hk1 hFc hP1 hD1
        generalize H1 = H at hP hS ⊢
        have hP : va_P (dC, dI) cls_ [(r_windings, .inl (c_windings, 1152, .inl (a_r_windings_17002))), (m0, .inr (10, [.int i_fault, .int (nI (n_size)), .ref r_file, .int (nI (n_side)), .int (bI o_font), .ref r_bytes, .ref r_places, .ref r_lengths, .ref r_glyphCount, .ref r_ems, .ref r_wides, .ref r_forms, .ref r_parts, .ref r_charts, .ref r_pointCount, .ref r_contourCount, .ref r_depths, .ref r_xs, .ref r_ys, .ref r_ons, .ref r_contours, .int (bI o_bad), .int (nI (n_at)), .int (nI (n_end)), .ref r_flags, .ref r_part, .int (nI (n_typed)), .ref r_text, .int (nI (n_ring)), .ref r_ringX, .ref r_ringY, .ref r_ringOn, .int (nI (w1)), .ref r_curves, .ref r_windings, .ref r_rows])), (r_curves, .inl (c_curves, 140, .inl (a_r_curves_17001)))] H := hP
        have hD : va_D A [(r_windings, .inl (c_windings, 1152, .inl (a_r_windings_17002))), (m0, .inr (10, [.int i_fault, .int (nI (n_size)), .ref r_file, .int (nI (n_side)), .int (bI o_font), .ref r_bytes, .ref r_places, .ref r_lengths, .ref r_glyphCount, .ref r_ems, .ref r_wides, .ref r_forms, .ref r_parts, .ref r_charts, .ref r_pointCount, .ref r_contourCount, .ref r_depths, .ref r_xs, .ref r_ys, .ref r_ons, .ref r_contours, .int (bI o_bad), .int (nI (n_at)), .int (nI (n_end)), .ref r_flags, .ref r_part, .int (nI (n_typed)), .ref r_text, .int (nI (n_ring)), .ref r_ringX, .ref r_ringY, .ref r_ringOn, .int (nI (w1)), .ref r_curves, .ref r_windings, .ref r_rows])), (r_curves, .inl (c_curves, 140, .inl (a_r_curves_17001)))] := hD
        have hw_r17019 := hw
        refine lv_istore (lv' := [(9, .int r17019), (8, .int (nI (tm))), (7, .int v17012), (6, .int v17011), (5, .int v17010), (4, .int v17009), (3, .int v17008), (2, .int v17007), (1, .int (nI (7 * w1))), (0, .ref m0)]) hx hb d_MD_paintCurves_126 hl (by decide) rfl (fun ls hl => ?_)
        refine lv_iload_n hx hb d_MD_paintCurves_128 rfl (lv_at hl 6 rfl) ?_
        refine lv_iload hx hb d_MD_paintCurves_129 (lv_at hl 4 rfl) ?_
        have hPc := hP.sub (ws' := []) [] rfl
        have hDc := hD.sub (ws' := []) [] (by decide) rfl
        have hKc := hK.sub (tys' := []) [] rfl
        have hFc := va_free (wc := []) hD hS hA [] rfl
        refine va_calli (va_runS (As := [.int v17008, .int v17010]) (rest := []) ⟨hx, hb, hml, hown, hts⟩ (g_MD_half l dC dI v17008 v17010 H.size) (cwS 2 hts (tw_inS w_1171 w_1172 w_11 w_1173) rfl rfl rfl (by decide +kernel) ⟨Nat.le_of_ble_eq_true rfl, Nat.le_of_ble_eq_true rfl⟩) ⟨fun a U g mk q => by obtain ⟨q0, q1, qP, qK, qD⟩ := q; exact ⟨q0, q1, qP, va_K.moved (u := U) (U := U.calling g mk a) (Vm.Alike.refl U.vm) qK, qD⟩, fun U hU hW => ⟨rfl, by rw [hU], by rw [hU]; exact hPc, va_K.moved hW.alike hKc, hDc.weaken (fun _ _ _ _ => trivial)⟩⟩ rfl rfl hl.1 rfl (lv_room (Nat.le_of_ble_eq_true rfl)) d_MD_paintCurves_131 ⟨Nat.le_of_ble_eq_true rfl, Nat.le_of_ble_eq_true rfl⟩) hS (fun q _ h => hFc q h) hFc (fun r17020 u t H1 locs ht hvm hw hB hz1 hk1 hS => ?_)
        have hP1 : va_P (dC, dI) cls_ [] H1 := fun k q h => by simp at h
        have hD1 : va_D (va_A [] H.size) [] := ⟨fun i j p q h => by simp at h, fun k q h => by simp at h⟩
        obtain ⟨hP, hD⟩ := va_join (wr := [(r_windings, .inl (c_windings, 1152, .inl (a_r_windings_17002))), (m0, .inr (10, [.int i_fault, .int (nI (n_size)), .ref r_file, .int (nI (n_side)), .int (bI o_font), .ref r_bytes, .ref r_places, .ref r_lengths, .ref r_glyphCount, .ref r_ems, .ref r_wides, .ref r_forms, .ref r_parts, .ref r_charts, .ref r_pointCount, .ref r_contourCount, .ref r_depths, .ref r_xs, .ref r_ys, .ref r_ons, .ref r_contours, .int (bI o_bad), .int (nI (n_at)), .int (nI (n_end)), .ref r_flags, .ref r_part, .int (nI (n_typed)), .ref r_text, .int (nI (n_ring)), .ref r_ringX, .ref r_ringY, .ref r_ringOn, .int (nI (w1)), .ref r_curves, .ref r_windings, .ref r_rows])), (r_curves, .inl (c_curves, 140, .inl (a_r_curves_17001)))]) (w1 := []) hP hD [] [0, 1, 2] rfl rfl (by decide) (by decide) hk1 hFc hP1 hD1
        generalize H1 = H at hP hS ⊢
        have hP : va_P (dC, dI) cls_ [(r_windings, .inl (c_windings, 1152, .inl (a_r_windings_17002))), (m0, .inr (10, [.int i_fault, .int (nI (n_size)), .ref r_file, .int (nI (n_side)), .int (bI o_font), .ref r_bytes, .ref r_places, .ref r_lengths, .ref r_glyphCount, .ref r_ems, .ref r_wides, .ref r_forms, .ref r_parts, .ref r_charts, .ref r_pointCount, .ref r_contourCount, .ref r_depths, .ref r_xs, .ref r_ys, .ref r_ons, .ref r_contours, .int (bI o_bad), .int (nI (n_at)), .int (nI (n_end)), .ref r_flags, .ref r_part, .int (nI (n_typed)), .ref r_text, .int (nI (n_ring)), .ref r_ringX, .ref r_ringY, .ref r_ringOn, .int (nI (w1)), .ref r_curves, .ref r_windings, .ref r_rows])), (r_curves, .inl (c_curves, 140, .inl (a_r_curves_17001)))] H := hP
        have hD : va_D A [(r_windings, .inl (c_windings, 1152, .inl (a_r_windings_17002))), (m0, .inr (10, [.int i_fault, .int (nI (n_size)), .ref r_file, .int (nI (n_side)), .int (bI o_font), .ref r_bytes, .ref r_places, .ref r_lengths, .ref r_glyphCount, .ref r_ems, .ref r_wides, .ref r_forms, .ref r_parts, .ref r_charts, .ref r_pointCount, .ref r_contourCount, .ref r_depths, .ref r_xs, .ref r_ys, .ref r_ons, .ref r_contours, .int (bI o_bad), .int (nI (n_at)), .int (nI (n_end)), .ref r_flags, .ref r_part, .int (nI (n_typed)), .ref r_text, .int (nI (n_ring)), .ref r_ringX, .ref r_ringY, .ref r_ringOn, .int (nI (w1)), .ref r_curves, .ref r_windings, .ref r_rows])), (r_curves, .inl (c_curves, 140, .inl (a_r_curves_17001)))] := hD
        have hw_r17020 := hw
        refine lv_istore (lv' := [(10, .int r17020), (9, .int r17019), (8, .int (nI (tm))), (7, .int v17012), (6, .int v17011), (5, .int v17010), (4, .int v17009), (3, .int v17008), (2, .int v17007), (1, .int (nI (7 * w1))), (0, .ref m0)]) hx hb d_MD_paintCurves_134 hl (by decide) rfl (fun ls hl => ?_)
        refine lv_iload hx hb d_MD_paintCurves_136 (lv_at hl 6 rfl) ?_
        refine lv_iload hx hb d_MD_paintCurves_138 (lv_at hl 4 rfl) ?_
        have hPc := hP.sub (ws' := []) [] rfl
        have hDc := hD.sub (ws' := []) [] (by decide) rfl
        have hKc := hK.sub (tys' := []) [] rfl
        have hFc := va_free (wc := []) hD hS hA [] rfl
        refine va_calli (va_runS (As := [.int v17009, .int v17011]) (rest := []) ⟨hx, hb, hml, hown, hts⟩ (g_MD_half l dC dI v17009 v17011 H.size) (cwS 2 hts (tw_inS w_1171 w_1172 w_11 w_1173) rfl rfl rfl (by decide +kernel) ⟨Nat.le_of_ble_eq_true rfl, Nat.le_of_ble_eq_true rfl⟩) ⟨fun a U g mk q => by obtain ⟨q0, q1, qP, qK, qD⟩ := q; exact ⟨q0, q1, qP, va_K.moved (u := U) (U := U.calling g mk a) (Vm.Alike.refl U.vm) qK, qD⟩, fun U hU hW => ⟨rfl, by rw [hU], by rw [hU]; exact hPc, va_K.moved hW.alike hKc, hDc.weaken (fun _ _ _ _ => trivial)⟩⟩ rfl rfl hl.1 rfl (lv_room (Nat.le_of_ble_eq_true rfl)) d_MD_paintCurves_140 ⟨Nat.le_of_ble_eq_true rfl, Nat.le_of_ble_eq_true rfl⟩) hS (fun q _ h => hFc q h) hFc (fun r17021 u t H1 locs ht hvm hw hB hz1 hk1 hS => ?_)
        have hP1 : va_P (dC, dI) cls_ [] H1 := fun k q h => by simp at h
        have hD1 : va_D (va_A [] H.size) [] := ⟨fun i j p q h => by simp at h, fun k q h => by simp at h⟩
        obtain ⟨hP, hD⟩ := va_join (wr := [(r_windings, .inl (c_windings, 1152, .inl (a_r_windings_17002))), (m0, .inr (10, [.int i_fault, .int (nI (n_size)), .ref r_file, .int (nI (n_side)), .int (bI o_font), .ref r_bytes, .ref r_places, .ref r_lengths, .ref r_glyphCount, .ref r_ems, .ref r_wides, .ref r_forms, .ref r_parts, .ref r_charts, .ref r_pointCount, .ref r_contourCount, .ref r_depths, .ref r_xs, .ref r_ys, .ref r_ons, .ref r_contours, .int (bI o_bad), .int (nI (n_at)), .int (nI (n_end)), .ref r_flags, .ref r_part, .int (nI (n_typed)), .ref r_text, .int (nI (n_ring)), .ref r_ringX, .ref r_ringY, .ref r_ringOn, .int (nI (w1)), .ref r_curves, .ref r_windings, .ref r_rows])), (r_curves, .inl (c_curves, 140, .inl (a_r_curves_17001)))]) (w1 := []) hP hD [] [0, 1, 2] rfl rfl (by decide) (by decide) hk1 hFc hP1 hD1
        generalize H1 = H at hP hS ⊢
        have hP : va_P (dC, dI) cls_ [(r_windings, .inl (c_windings, 1152, .inl (a_r_windings_17002))), (m0, .inr (10, [.int i_fault, .int (nI (n_size)), .ref r_file, .int (nI (n_side)), .int (bI o_font), .ref r_bytes, .ref r_places, .ref r_lengths, .ref r_glyphCount, .ref r_ems, .ref r_wides, .ref r_forms, .ref r_parts, .ref r_charts, .ref r_pointCount, .ref r_contourCount, .ref r_depths, .ref r_xs, .ref r_ys, .ref r_ons, .ref r_contours, .int (bI o_bad), .int (nI (n_at)), .int (nI (n_end)), .ref r_flags, .ref r_part, .int (nI (n_typed)), .ref r_text, .int (nI (n_ring)), .ref r_ringX, .ref r_ringY, .ref r_ringOn, .int (nI (w1)), .ref r_curves, .ref r_windings, .ref r_rows])), (r_curves, .inl (c_curves, 140, .inl (a_r_curves_17001)))] H := hP
        have hD : va_D A [(r_windings, .inl (c_windings, 1152, .inl (a_r_windings_17002))), (m0, .inr (10, [.int i_fault, .int (nI (n_size)), .ref r_file, .int (nI (n_side)), .int (bI o_font), .ref r_bytes, .ref r_places, .ref r_lengths, .ref r_glyphCount, .ref r_ems, .ref r_wides, .ref r_forms, .ref r_parts, .ref r_charts, .ref r_pointCount, .ref r_contourCount, .ref r_depths, .ref r_xs, .ref r_ys, .ref r_ons, .ref r_contours, .int (bI o_bad), .int (nI (n_at)), .int (nI (n_end)), .ref r_flags, .ref r_part, .int (nI (n_typed)), .ref r_text, .int (nI (n_ring)), .ref r_ringX, .ref r_ringY, .ref r_ringOn, .int (nI (w1)), .ref r_curves, .ref r_windings, .ref r_rows])), (r_curves, .inl (c_curves, 140, .inl (a_r_curves_17001)))] := hD
        have hw_r17021 := hw
        refine lv_istore (lv' := [(11, .int r17021), (10, .int r17020), (9, .int r17019), (8, .int (nI (tm))), (7, .int v17012), (6, .int v17011), (5, .int v17010), (4, .int v17009), (3, .int v17008), (2, .int v17007), (1, .int (nI (7 * w1))), (0, .ref m0)]) hx hb d_MD_paintCurves_143 hl (by decide) rfl (fun ls hl => ?_)
        refine lv_iload hx hb d_MD_paintCurves_145 (lv_at hl 6 rfl) ?_
        refine lv_iload hx hb d_MD_paintCurves_147 (lv_at hl 4 rfl) ?_
        have hPc := hP.sub (ws' := []) [] rfl
        have hDc := hD.sub (ws' := []) [] (by decide) rfl
        have hKc := hK.sub (tys' := []) [] rfl
        have hFc := va_free (wc := []) hD hS hA [] rfl
        refine va_calli (va_runS (As := [.int v17010, .int v17012]) (rest := []) ⟨hx, hb, hml, hown, hts⟩ (g_MD_half l dC dI v17010 v17012 H.size) (cwS 2 hts (tw_inS w_1171 w_1172 w_11 w_1173) rfl rfl rfl (by decide +kernel) ⟨Nat.le_of_ble_eq_true rfl, Nat.le_of_ble_eq_true rfl⟩) ⟨fun a U g mk q => by obtain ⟨q0, q1, qP, qK, qD⟩ := q; exact ⟨q0, q1, qP, va_K.moved (u := U) (U := U.calling g mk a) (Vm.Alike.refl U.vm) qK, qD⟩, fun U hU hW => ⟨rfl, by rw [hU], by rw [hU]; exact hPc, va_K.moved hW.alike hKc, hDc.weaken (fun _ _ _ _ => trivial)⟩⟩ rfl rfl hl.1 rfl (lv_room (Nat.le_of_ble_eq_true rfl)) d_MD_paintCurves_149 ⟨Nat.le_of_ble_eq_true rfl, Nat.le_of_ble_eq_true rfl⟩) hS (fun q _ h => hFc q h) hFc (fun r17022 u t H1 locs ht hvm hw hB hz1 hk1 hS => ?_)
        have hP1 : va_P (dC, dI) cls_ [] H1 := fun k q h => by simp at h
        have hD1 : va_D (va_A [] H.size) [] := ⟨fun i j p q h => by simp at h, fun k q h => by simp at h⟩
        obtain ⟨hP, hD⟩ := va_join (wr := [(r_windings, .inl (c_windings, 1152, .inl (a_r_windings_17002))), (m0, .inr (10, [.int i_fault, .int (nI (n_size)), .ref r_file, .int (nI (n_side)), .int (bI o_font), .ref r_bytes, .ref r_places, .ref r_lengths, .ref r_glyphCount, .ref r_ems, .ref r_wides, .ref r_forms, .ref r_parts, .ref r_charts, .ref r_pointCount, .ref r_contourCount, .ref r_depths, .ref r_xs, .ref r_ys, .ref r_ons, .ref r_contours, .int (bI o_bad), .int (nI (n_at)), .int (nI (n_end)), .ref r_flags, .ref r_part, .int (nI (n_typed)), .ref r_text, .int (nI (n_ring)), .ref r_ringX, .ref r_ringY, .ref r_ringOn, .int (nI (w1)), .ref r_curves, .ref r_windings, .ref r_rows])), (r_curves, .inl (c_curves, 140, .inl (a_r_curves_17001)))]) (w1 := []) hP hD [] [0, 1, 2] rfl rfl (by decide) (by decide) hk1 hFc hP1 hD1
        generalize H1 = H at hP hS ⊢
        have hP : va_P (dC, dI) cls_ [(r_windings, .inl (c_windings, 1152, .inl (a_r_windings_17002))), (m0, .inr (10, [.int i_fault, .int (nI (n_size)), .ref r_file, .int (nI (n_side)), .int (bI o_font), .ref r_bytes, .ref r_places, .ref r_lengths, .ref r_glyphCount, .ref r_ems, .ref r_wides, .ref r_forms, .ref r_parts, .ref r_charts, .ref r_pointCount, .ref r_contourCount, .ref r_depths, .ref r_xs, .ref r_ys, .ref r_ons, .ref r_contours, .int (bI o_bad), .int (nI (n_at)), .int (nI (n_end)), .ref r_flags, .ref r_part, .int (nI (n_typed)), .ref r_text, .int (nI (n_ring)), .ref r_ringX, .ref r_ringY, .ref r_ringOn, .int (nI (w1)), .ref r_curves, .ref r_windings, .ref r_rows])), (r_curves, .inl (c_curves, 140, .inl (a_r_curves_17001)))] H := hP
        have hD : va_D A [(r_windings, .inl (c_windings, 1152, .inl (a_r_windings_17002))), (m0, .inr (10, [.int i_fault, .int (nI (n_size)), .ref r_file, .int (nI (n_side)), .int (bI o_font), .ref r_bytes, .ref r_places, .ref r_lengths, .ref r_glyphCount, .ref r_ems, .ref r_wides, .ref r_forms, .ref r_parts, .ref r_charts, .ref r_pointCount, .ref r_contourCount, .ref r_depths, .ref r_xs, .ref r_ys, .ref r_ons, .ref r_contours, .int (bI o_bad), .int (nI (n_at)), .int (nI (n_end)), .ref r_flags, .ref r_part, .int (nI (n_typed)), .ref r_text, .int (nI (n_ring)), .ref r_ringX, .ref r_ringY, .ref r_ringOn, .int (nI (w1)), .ref r_curves, .ref r_windings, .ref r_rows])), (r_curves, .inl (c_curves, 140, .inl (a_r_curves_17001)))] := hD
        have hw_r17022 := hw
        refine lv_istore (lv' := [(12, .int r17022), (11, .int r17021), (10, .int r17020), (9, .int r17019), (8, .int (nI (tm))), (7, .int v17012), (6, .int v17011), (5, .int v17010), (4, .int v17009), (3, .int v17008), (2, .int v17007), (1, .int (nI (7 * w1))), (0, .ref m0)]) hx hb d_MD_paintCurves_152 hl (by decide) rfl (fun ls hl => ?_)
        refine lv_aload_n hx hb d_MD_paintCurves_154 rfl (lv_at hl 12 rfl) ?_
        refine lv_iload_n hx hb d_MD_paintCurves_155 rfl (lv_at hl 10 rfl) ?_
        refine lv_iload_n hx hb d_MD_paintCurves_156 rfl (lv_at hl 9 rfl) ?_
        refine lv_iload hx hb d_MD_paintCurves_157 (lv_at hl 3 rfl) ?_
        refine lv_iload hx hb d_MD_paintCurves_159 (lv_at hl 2 rfl) ?_
        refine lv_iload hx hb d_MD_paintCurves_161 (lv_at hl 3 rfl) ?_
        refine lv_iload hx hb d_MD_paintCurves_163 (lv_at hl 1 rfl) ?_
        have hPc := hP.sub (ws' := []) [] rfl
        have hDc := hD.sub (ws' := []) [] (by decide) rfl
        have hKc := hK.sub (tys' := []) [] rfl
        have hFc := va_free (wc := []) hD hS hA [] rfl
        refine va_calli (va_runS (As := [.int r17019, .int r17021]) (rest := [.int r17020, .int r17019, .int v17008, .int v17007, .ref m0]) ⟨hx, hb, hml, hown, hts⟩ (g_MD_half l dC dI r17019 r17021 H.size) (cwS 2 hts (tw_inS w_1171 w_1172 w_11 w_1173) rfl rfl rfl (by decide +kernel) ⟨Nat.le_of_ble_eq_true rfl, Nat.le_of_ble_eq_true rfl⟩) ⟨fun a U g mk q => by obtain ⟨q0, q1, qP, qK, qD⟩ := q; exact ⟨q0, q1, qP, va_K.moved (u := U) (U := U.calling g mk a) (Vm.Alike.refl U.vm) qK, qD⟩, fun U hU hW => ⟨rfl, by rw [hU], by rw [hU]; exact hPc, va_K.moved hW.alike hKc, hDc.weaken (fun _ _ _ _ => trivial)⟩⟩ rfl rfl hl.1 rfl (lv_room (Nat.le_of_ble_eq_true rfl)) d_MD_paintCurves_165 ⟨Nat.le_of_ble_eq_true rfl, Nat.le_of_ble_eq_true rfl⟩) hS (fun q _ h => hFc q h) hFc (fun r17023 u t H1 locs ht hvm hw hB hz1 hk1 hS => ?_)
        have hP1 : va_P (dC, dI) cls_ [] H1 := fun k q h => by simp at h
        have hD1 : va_D (va_A [] H.size) [] := ⟨fun i j p q h => by simp at h, fun k q h => by simp at h⟩
        obtain ⟨hP, hD⟩ := va_join (wr := [(r_windings, .inl (c_windings, 1152, .inl (a_r_windings_17002))), (m0, .inr (10, [.int i_fault, .int (nI (n_size)), .ref r_file, .int (nI (n_side)), .int (bI o_font), .ref r_bytes, .ref r_places, .ref r_lengths, .ref r_glyphCount, .ref r_ems, .ref r_wides, .ref r_forms, .ref r_parts, .ref r_charts, .ref r_pointCount, .ref r_contourCount, .ref r_depths, .ref r_xs, .ref r_ys, .ref r_ons, .ref r_contours, .int (bI o_bad), .int (nI (n_at)), .int (nI (n_end)), .ref r_flags, .ref r_part, .int (nI (n_typed)), .ref r_text, .int (nI (n_ring)), .ref r_ringX, .ref r_ringY, .ref r_ringOn, .int (nI (w1)), .ref r_curves, .ref r_windings, .ref r_rows])), (r_curves, .inl (c_curves, 140, .inl (a_r_curves_17001)))]) (w1 := []) hP hD [] [0, 1, 2] rfl rfl (by decide) (by decide) hk1 hFc hP1 hD1
        generalize H1 = H at hP hS ⊢
        have hP : va_P (dC, dI) cls_ [(r_windings, .inl (c_windings, 1152, .inl (a_r_windings_17002))), (m0, .inr (10, [.int i_fault, .int (nI (n_size)), .ref r_file, .int (nI (n_side)), .int (bI o_font), .ref r_bytes, .ref r_places, .ref r_lengths, .ref r_glyphCount, .ref r_ems, .ref r_wides, .ref r_forms, .ref r_parts, .ref r_charts, .ref r_pointCount, .ref r_contourCount, .ref r_depths, .ref r_xs, .ref r_ys, .ref r_ons, .ref r_contours, .int (bI o_bad), .int (nI (n_at)), .int (nI (n_end)), .ref r_flags, .ref r_part, .int (nI (n_typed)), .ref r_text, .int (nI (n_ring)), .ref r_ringX, .ref r_ringY, .ref r_ringOn, .int (nI (w1)), .ref r_curves, .ref r_windings, .ref r_rows])), (r_curves, .inl (c_curves, 140, .inl (a_r_curves_17001)))] H := hP
        have hD : va_D A [(r_windings, .inl (c_windings, 1152, .inl (a_r_windings_17002))), (m0, .inr (10, [.int i_fault, .int (nI (n_size)), .ref r_file, .int (nI (n_side)), .int (bI o_font), .ref r_bytes, .ref r_places, .ref r_lengths, .ref r_glyphCount, .ref r_ems, .ref r_wides, .ref r_forms, .ref r_parts, .ref r_charts, .ref r_pointCount, .ref r_contourCount, .ref r_depths, .ref r_xs, .ref r_ys, .ref r_ons, .ref r_contours, .int (bI o_bad), .int (nI (n_at)), .int (nI (n_end)), .ref r_flags, .ref r_part, .int (nI (n_typed)), .ref r_text, .int (nI (n_ring)), .ref r_ringX, .ref r_ringY, .ref r_ringOn, .int (nI (w1)), .ref r_curves, .ref r_windings, .ref r_rows])), (r_curves, .inl (c_curves, 140, .inl (a_r_curves_17001)))] := hD
        have hw_r17023 := hw
        refine lv_iload hx hb d_MD_paintCurves_168 (lv_at hl 2 rfl) ?_
        refine lv_iload hx hb d_MD_paintCurves_170 (lv_at hl 0 rfl) ?_
        have hPc := hP.sub (ws' := []) [] rfl
        have hDc := hD.sub (ws' := []) [] (by decide) rfl
        have hKc := hK.sub (tys' := []) [] rfl
        have hFc := va_free (wc := []) hD hS hA [] rfl
        refine va_calli (va_runS (As := [.int r17020, .int r17022]) (rest := [.int r17023, .int r17020, .int r17019, .int v17008, .int v17007, .ref m0]) ⟨hx, hb, hml, hown, hts⟩ (g_MD_half l dC dI r17020 r17022 H.size) (cwS 2 hts (tw_inS w_1171 w_1172 w_11 w_1173) rfl rfl rfl (by decide +kernel) ⟨Nat.le_of_ble_eq_true rfl, Nat.le_of_ble_eq_true rfl⟩) ⟨fun a U g mk q => by obtain ⟨q0, q1, qP, qK, qD⟩ := q; exact ⟨q0, q1, qP, va_K.moved (u := U) (U := U.calling g mk a) (Vm.Alike.refl U.vm) qK, qD⟩, fun U hU hW => ⟨rfl, by rw [hU], by rw [hU]; exact hPc, va_K.moved hW.alike hKc, hDc.weaken (fun _ _ _ _ => trivial)⟩⟩ rfl rfl hl.1 rfl (lv_room (Nat.le_of_ble_eq_true rfl)) d_MD_paintCurves_172 ⟨Nat.le_of_ble_eq_true rfl, Nat.le_of_ble_eq_true rfl⟩) hS (fun q _ h => hFc q h) hFc (fun r17024 u t H1 locs ht hvm hw hB hz1 hk1 hS => ?_)
        have hP1 : va_P (dC, dI) cls_ [] H1 := fun k q h => by simp at h
        have hD1 : va_D (va_A [] H.size) [] := ⟨fun i j p q h => by simp at h, fun k q h => by simp at h⟩
        obtain ⟨hP, hD⟩ := va_join (wr := [(r_windings, .inl (c_windings, 1152, .inl (a_r_windings_17002))), (m0, .inr (10, [.int i_fault, .int (nI (n_size)), .ref r_file, .int (nI (n_side)), .int (bI o_font), .ref r_bytes, .ref r_places, .ref r_lengths, .ref r_glyphCount, .ref r_ems, .ref r_wides, .ref r_forms, .ref r_parts, .ref r_charts, .ref r_pointCount, .ref r_contourCount, .ref r_depths, .ref r_xs, .ref r_ys, .ref r_ons, .ref r_contours, .int (bI o_bad), .int (nI (n_at)), .int (nI (n_end)), .ref r_flags, .ref r_part, .int (nI (n_typed)), .ref r_text, .int (nI (n_ring)), .ref r_ringX, .ref r_ringY, .ref r_ringOn, .int (nI (w1)), .ref r_curves, .ref r_windings, .ref r_rows])), (r_curves, .inl (c_curves, 140, .inl (a_r_curves_17001)))]) (w1 := []) hP hD [] [0, 1, 2] rfl rfl (by decide) (by decide) hk1 hFc hP1 hD1
        generalize H1 = H at hP hS ⊢
        have hP : va_P (dC, dI) cls_ [(r_windings, .inl (c_windings, 1152, .inl (a_r_windings_17002))), (m0, .inr (10, [.int i_fault, .int (nI (n_size)), .ref r_file, .int (nI (n_side)), .int (bI o_font), .ref r_bytes, .ref r_places, .ref r_lengths, .ref r_glyphCount, .ref r_ems, .ref r_wides, .ref r_forms, .ref r_parts, .ref r_charts, .ref r_pointCount, .ref r_contourCount, .ref r_depths, .ref r_xs, .ref r_ys, .ref r_ons, .ref r_contours, .int (bI o_bad), .int (nI (n_at)), .int (nI (n_end)), .ref r_flags, .ref r_part, .int (nI (n_typed)), .ref r_text, .int (nI (n_ring)), .ref r_ringX, .ref r_ringY, .ref r_ringOn, .int (nI (w1)), .ref r_curves, .ref r_windings, .ref r_rows])), (r_curves, .inl (c_curves, 140, .inl (a_r_curves_17001)))] H := hP
        have hD : va_D A [(r_windings, .inl (c_windings, 1152, .inl (a_r_windings_17002))), (m0, .inr (10, [.int i_fault, .int (nI (n_size)), .ref r_file, .int (nI (n_side)), .int (bI o_font), .ref r_bytes, .ref r_places, .ref r_lengths, .ref r_glyphCount, .ref r_ems, .ref r_wides, .ref r_forms, .ref r_parts, .ref r_charts, .ref r_pointCount, .ref r_contourCount, .ref r_depths, .ref r_xs, .ref r_ys, .ref r_ons, .ref r_contours, .int (bI o_bad), .int (nI (n_at)), .int (nI (n_end)), .ref r_flags, .ref r_part, .int (nI (n_typed)), .ref r_text, .int (nI (n_ring)), .ref r_ringX, .ref r_ringY, .ref r_ringOn, .int (nI (w1)), .ref r_curves, .ref r_windings, .ref r_rows])), (r_curves, .inl (c_curves, 140, .inl (a_r_curves_17001)))] := hD
        have hw_r17024 := hw
        refine lv_iload hx hb d_MD_paintCurves_175 (lv_at hl 4 rfl) ?_
        refine lv_iconst (v := 1) hx hb d_MD_paintCurves_177 (by decide) ?_
        refine lv_iadd hx hb d_MD_paintCurves_178 ?_
        refine lv_ci (y := nI (tm + 1)) (nI_add (tm) (1)) ?_
        have hPc := hP.sub (ws' := [(m0, .inr (10, [.int i_fault, .int (nI (n_size)), .ref r_file, .int (nI (n_side)), .int (bI o_font), .ref r_bytes, .ref r_places, .ref r_lengths, .ref r_glyphCount, .ref r_ems, .ref r_wides, .ref r_forms, .ref r_parts, .ref r_charts, .ref r_pointCount, .ref r_contourCount, .ref r_depths, .ref r_xs, .ref r_ys, .ref r_ons, .ref r_contours, .int (bI o_bad), .int (nI (n_at)), .int (nI (n_end)), .ref r_flags, .ref r_part, .int (nI (n_typed)), .ref r_text, .int (nI (n_ring)), .ref r_ringX, .ref r_ringY, .ref r_ringOn, .int (nI (w1)), .ref r_curves, .ref r_windings, .ref r_rows])), (r_curves, .inl (c_curves, 140, .inl (a_r_curves_17001)))]) [1, 2] rfl
        have hDc := hD.sub (ws' := [(m0, .inr (10, [.int i_fault, .int (nI (n_size)), .ref r_file, .int (nI (n_side)), .int (bI o_font), .ref r_bytes, .ref r_places, .ref r_lengths, .ref r_glyphCount, .ref r_ems, .ref r_wides, .ref r_forms, .ref r_parts, .ref r_charts, .ref r_pointCount, .ref r_contourCount, .ref r_depths, .ref r_xs, .ref r_ys, .ref r_ons, .ref r_contours, .int (bI o_bad), .int (nI (n_at)), .int (nI (n_end)), .ref r_flags, .ref r_part, .int (nI (n_typed)), .ref r_text, .int (nI (n_ring)), .ref r_ringX, .ref r_ringY, .ref r_ringOn, .int (nI (w1)), .ref r_curves, .ref r_windings, .ref r_rows])), (r_curves, .inl (c_curves, 140, .inl (a_r_curves_17001)))]) [1, 2] (by decide) rfl
        have hKc := hK.sub (tys' := [(c_curves, .int)]) [1] rfl
        have hFc := va_free (wc := [(m0, .inr (10, [.int i_fault, .int (nI (n_size)), .ref r_file, .int (nI (n_side)), .int (bI o_font), .ref r_bytes, .ref r_places, .ref r_lengths, .ref r_glyphCount, .ref r_ems, .ref r_wides, .ref r_forms, .ref r_parts, .ref r_charts, .ref r_pointCount, .ref r_contourCount, .ref r_depths, .ref r_xs, .ref r_ys, .ref r_ons, .ref r_contours, .int (bI o_bad), .int (nI (n_at)), .int (nI (n_end)), .ref r_flags, .ref r_part, .int (nI (n_typed)), .ref r_text, .int (nI (n_ring)), .ref r_ringX, .ref r_ringY, .ref r_ringOn, .int (nI (w1)), .ref r_curves, .ref r_windings, .ref r_rows])), (r_curves, .inl (c_curves, 140, .inl (a_r_curves_17001)))]) hD hS hA [1, 2] rfl
        refine va_callv (va_runV (As := [.int v17007, .int v17008, .int r17019, .int r17020, .int r17023, .int r17024, .int (nI (tm + 1))]) (rest := []) ⟨hx, hb, hml, hown, hts⟩ (g_MD_wait7 l dC dI m0 i_fault n_size r_file n_side o_font r_bytes r_places r_lengths r_glyphCount r_ems r_wides r_forms r_parts r_charts r_pointCount r_contourCount r_depths r_xs r_ys r_ons r_contours o_bad n_at n_end r_flags r_part n_typed r_text n_ring r_ringX r_ringY r_ringOn w1 r_curves r_windings r_rows c_curves a_r_curves_17001 v17007 v17008 r17019 r17020 r17023 r17024 (tm + 1) H.size (by omega) (by omega) (by omega) (by omega)) (cwV 7 hts (tw_inV w_1184 w_1186 wp_70 w_11 w_1187) rfl rfl rfl (by decide +kernel) ⟨Nat.le_of_ble_eq_true rfl, Nat.le_of_ble_eq_true rfl⟩) ⟨fun a U g mk q => by obtain ⟨q0, q1, qP, qK, qD⟩ := q; exact ⟨q0, q1, qP, va_K.moved (u := U) (U := U.calling g mk a) (Vm.Alike.refl U.vm) qK, qD⟩, va_recv (hK := hK) (hP := hP) (q0 := 1) (ci := 10) rfl rfl, fun U hU hW => ⟨rfl, by rw [hU], by rw [hU]; exact hPc, va_K.moved hW.alike hKc, hDc.weaken (fun _ _ _ _ => trivial)⟩⟩ rfl rfl hl.1 rfl (lv_room (Nat.le_of_ble_eq_true rfl)) d_MD_paintCurves_179 ⟨Nat.le_of_ble_eq_true rfl, Nat.le_of_ble_eq_true rfl⟩) hS (fun q _ h => hFc q h) hFc (fun u t H1 locs ht hvm hw hB hz1 hk1 hS => ?_)
        obtain ⟨n_wait__17025, v_curves__17026, hq_f17027_0, hq_f17028_1, hq_f17029_2, hP1, hK1, hD1⟩ := hB
        rw [ht] at hP1
        have hK1 := va_K.moved hvm.symm hK1
        obtain ⟨hP, hD⟩ := va_join (wr := [(r_windings, .inl (c_windings, 1152, .inl (a_r_windings_17002)))]) (w1 := [(m0, .inr (10, [.int i_fault, .int (nI (n_size)), .ref r_file, .int (nI (n_side)), .int (bI o_font), .ref r_bytes, .ref r_places, .ref r_lengths, .ref r_glyphCount, .ref r_ems, .ref r_wides, .ref r_forms, .ref r_parts, .ref r_charts, .ref r_pointCount, .ref r_contourCount, .ref r_depths, .ref r_xs, .ref r_ys, .ref r_ons, .ref r_contours, .int (bI o_bad), .int (nI (n_at)), .int (nI (n_end)), .ref r_flags, .ref r_part, .int (nI (n_typed)), .ref r_text, .int (nI (n_ring)), .ref r_ringX, .ref r_ringY, .ref r_ringOn, .int (nI (n_wait__17025)), .ref r_curves, .ref r_windings, .ref r_rows])), (r_curves, .inl (c_curves, 140, .inl (v_curves__17026)))]) hP hD [1, 2] [0] rfl rfl (by decide) (by decide) hk1 hFc hP1 hD1
        have hK := (hK.sub (tys' := [(c_windings, .int)]) [0] rfl).app hK1
        generalize H1 = H at hP hS ⊢
        have hP : va_P (dC, dI) cls_ [(r_windings, .inl (c_windings, 1152, .inl (a_r_windings_17002))), (m0, .inr (10, [.int i_fault, .int (nI (n_size)), .ref r_file, .int (nI (n_side)), .int (bI o_font), .ref r_bytes, .ref r_places, .ref r_lengths, .ref r_glyphCount, .ref r_ems, .ref r_wides, .ref r_forms, .ref r_parts, .ref r_charts, .ref r_pointCount, .ref r_contourCount, .ref r_depths, .ref r_xs, .ref r_ys, .ref r_ons, .ref r_contours, .int (bI o_bad), .int (nI (n_at)), .int (nI (n_end)), .ref r_flags, .ref r_part, .int (nI (n_typed)), .ref r_text, .int (nI (n_ring)), .ref r_ringX, .ref r_ringY, .ref r_ringOn, .int (nI (n_wait__17025)), .ref r_curves, .ref r_windings, .ref r_rows])), (r_curves, .inl (c_curves, 140, .inl (v_curves__17026)))] H := hP
        have hD : va_D A [(r_windings, .inl (c_windings, 1152, .inl (a_r_windings_17002))), (m0, .inr (10, [.int i_fault, .int (nI (n_size)), .ref r_file, .int (nI (n_side)), .int (bI o_font), .ref r_bytes, .ref r_places, .ref r_lengths, .ref r_glyphCount, .ref r_ems, .ref r_wides, .ref r_forms, .ref r_parts, .ref r_charts, .ref r_pointCount, .ref r_contourCount, .ref r_depths, .ref r_xs, .ref r_ys, .ref r_ons, .ref r_contours, .int (bI o_bad), .int (nI (n_at)), .int (nI (n_end)), .ref r_flags, .ref r_part, .int (nI (n_typed)), .ref r_text, .int (nI (n_ring)), .ref r_ringX, .ref r_ringY, .ref r_ringOn, .int (nI (n_wait__17025)), .ref r_curves, .ref r_windings, .ref r_rows])), (r_curves, .inl (c_curves, 140, .inl (v_curves__17026)))] := hD
        have hK : va_K (dC, dI) cls_ [(c_windings, .int), (c_curves, .int)] s := hK
        refine lv_aload_n hx hb d_MD_paintCurves_182 rfl (lv_at hl 12 rfl) ?_
        refine lv_iload hx hb d_MD_paintCurves_183 (lv_at hl 3 rfl) ?_
        refine lv_iload hx hb d_MD_paintCurves_185 (lv_at hl 1 rfl) ?_
        have hPc := hP.sub (ws' := []) [] rfl
        have hDc := hD.sub (ws' := []) [] (by decide) rfl
        have hKc := hK.sub (tys' := []) [] rfl
        have hFc := va_free (wc := []) hD hS hA [] rfl
        refine va_calli (va_runS (As := [.int r17019, .int r17021]) (rest := [.ref m0]) ⟨hx, hb, hml, hown, hts⟩ (g_MD_half l dC dI r17019 r17021 H.size) (cwS 2 hts (tw_inS w_1171 w_1172 w_11 w_1173) rfl rfl rfl (by decide +kernel) ⟨Nat.le_of_ble_eq_true rfl, Nat.le_of_ble_eq_true rfl⟩) ⟨fun a U g mk q => by obtain ⟨q0, q1, qP, qK, qD⟩ := q; exact ⟨q0, q1, qP, va_K.moved (u := U) (U := U.calling g mk a) (Vm.Alike.refl U.vm) qK, qD⟩, fun U hU hW => ⟨rfl, by rw [hU], by rw [hU]; exact hPc, va_K.moved hW.alike hKc, hDc.weaken (fun _ _ _ _ => trivial)⟩⟩ rfl rfl hl.1 rfl (lv_room (Nat.le_of_ble_eq_true rfl)) d_MD_paintCurves_187 ⟨Nat.le_of_ble_eq_true rfl, Nat.le_of_ble_eq_true rfl⟩) hS (fun q _ h => hFc q h) hFc (fun r17030 u t H1 locs ht hvm hw hB hz1 hk1 hS => ?_)
        have hP1 : va_P (dC, dI) cls_ [] H1 := fun k q h => by simp at h
        have hD1 : va_D (va_A [] H.size) [] := ⟨fun i j p q h => by simp at h, fun k q h => by simp at h⟩
        obtain ⟨hP, hD⟩ := va_join (wr := [(r_windings, .inl (c_windings, 1152, .inl (a_r_windings_17002))), (m0, .inr (10, [.int i_fault, .int (nI (n_size)), .ref r_file, .int (nI (n_side)), .int (bI o_font), .ref r_bytes, .ref r_places, .ref r_lengths, .ref r_glyphCount, .ref r_ems, .ref r_wides, .ref r_forms, .ref r_parts, .ref r_charts, .ref r_pointCount, .ref r_contourCount, .ref r_depths, .ref r_xs, .ref r_ys, .ref r_ons, .ref r_contours, .int (bI o_bad), .int (nI (n_at)), .int (nI (n_end)), .ref r_flags, .ref r_part, .int (nI (n_typed)), .ref r_text, .int (nI (n_ring)), .ref r_ringX, .ref r_ringY, .ref r_ringOn, .int (nI (n_wait__17025)), .ref r_curves, .ref r_windings, .ref r_rows])), (r_curves, .inl (c_curves, 140, .inl (v_curves__17026)))]) (w1 := []) hP hD [] [0, 1, 2] rfl rfl (by decide) (by decide) hk1 hFc hP1 hD1
        generalize H1 = H at hP hS ⊢
        have hP : va_P (dC, dI) cls_ [(r_windings, .inl (c_windings, 1152, .inl (a_r_windings_17002))), (m0, .inr (10, [.int i_fault, .int (nI (n_size)), .ref r_file, .int (nI (n_side)), .int (bI o_font), .ref r_bytes, .ref r_places, .ref r_lengths, .ref r_glyphCount, .ref r_ems, .ref r_wides, .ref r_forms, .ref r_parts, .ref r_charts, .ref r_pointCount, .ref r_contourCount, .ref r_depths, .ref r_xs, .ref r_ys, .ref r_ons, .ref r_contours, .int (bI o_bad), .int (nI (n_at)), .int (nI (n_end)), .ref r_flags, .ref r_part, .int (nI (n_typed)), .ref r_text, .int (nI (n_ring)), .ref r_ringX, .ref r_ringY, .ref r_ringOn, .int (nI (n_wait__17025)), .ref r_curves, .ref r_windings, .ref r_rows])), (r_curves, .inl (c_curves, 140, .inl (v_curves__17026)))] H := hP
        have hD : va_D A [(r_windings, .inl (c_windings, 1152, .inl (a_r_windings_17002))), (m0, .inr (10, [.int i_fault, .int (nI (n_size)), .ref r_file, .int (nI (n_side)), .int (bI o_font), .ref r_bytes, .ref r_places, .ref r_lengths, .ref r_glyphCount, .ref r_ems, .ref r_wides, .ref r_forms, .ref r_parts, .ref r_charts, .ref r_pointCount, .ref r_contourCount, .ref r_depths, .ref r_xs, .ref r_ys, .ref r_ons, .ref r_contours, .int (bI o_bad), .int (nI (n_at)), .int (nI (n_end)), .ref r_flags, .ref r_part, .int (nI (n_typed)), .ref r_text, .int (nI (n_ring)), .ref r_ringX, .ref r_ringY, .ref r_ringOn, .int (nI (n_wait__17025)), .ref r_curves, .ref r_windings, .ref r_rows])), (r_curves, .inl (c_curves, 140, .inl (v_curves__17026)))] := hD
        have hw_r17030 := hw
        refine lv_iload hx hb d_MD_paintCurves_190 (lv_at hl 2 rfl) ?_
        refine lv_iload hx hb d_MD_paintCurves_192 (lv_at hl 0 rfl) ?_
        have hPc := hP.sub (ws' := []) [] rfl
        have hDc := hD.sub (ws' := []) [] (by decide) rfl
        have hKc := hK.sub (tys' := []) [] rfl
        have hFc := va_free (wc := []) hD hS hA [] rfl
        refine va_calli (va_runS (As := [.int r17020, .int r17022]) (rest := [.int r17030, .ref m0]) ⟨hx, hb, hml, hown, hts⟩ (g_MD_half l dC dI r17020 r17022 H.size) (cwS 2 hts (tw_inS w_1171 w_1172 w_11 w_1173) rfl rfl rfl (by decide +kernel) ⟨Nat.le_of_ble_eq_true rfl, Nat.le_of_ble_eq_true rfl⟩) ⟨fun a U g mk q => by obtain ⟨q0, q1, qP, qK, qD⟩ := q; exact ⟨q0, q1, qP, va_K.moved (u := U) (U := U.calling g mk a) (Vm.Alike.refl U.vm) qK, qD⟩, fun U hU hW => ⟨rfl, by rw [hU], by rw [hU]; exact hPc, va_K.moved hW.alike hKc, hDc.weaken (fun _ _ _ _ => trivial)⟩⟩ rfl rfl hl.1 rfl (lv_room (Nat.le_of_ble_eq_true rfl)) d_MD_paintCurves_194 ⟨Nat.le_of_ble_eq_true rfl, Nat.le_of_ble_eq_true rfl⟩) hS (fun q _ h => hFc q h) hFc (fun r17031 u t H1 locs ht hvm hw hB hz1 hk1 hS => ?_)
        have hP1 : va_P (dC, dI) cls_ [] H1 := fun k q h => by simp at h
        have hD1 : va_D (va_A [] H.size) [] := ⟨fun i j p q h => by simp at h, fun k q h => by simp at h⟩
        obtain ⟨hP, hD⟩ := va_join (wr := [(r_windings, .inl (c_windings, 1152, .inl (a_r_windings_17002))), (m0, .inr (10, [.int i_fault, .int (nI (n_size)), .ref r_file, .int (nI (n_side)), .int (bI o_font), .ref r_bytes, .ref r_places, .ref r_lengths, .ref r_glyphCount, .ref r_ems, .ref r_wides, .ref r_forms, .ref r_parts, .ref r_charts, .ref r_pointCount, .ref r_contourCount, .ref r_depths, .ref r_xs, .ref r_ys, .ref r_ons, .ref r_contours, .int (bI o_bad), .int (nI (n_at)), .int (nI (n_end)), .ref r_flags, .ref r_part, .int (nI (n_typed)), .ref r_text, .int (nI (n_ring)), .ref r_ringX, .ref r_ringY, .ref r_ringOn, .int (nI (n_wait__17025)), .ref r_curves, .ref r_windings, .ref r_rows])), (r_curves, .inl (c_curves, 140, .inl (v_curves__17026)))]) (w1 := []) hP hD [] [0, 1, 2] rfl rfl (by decide) (by decide) hk1 hFc hP1 hD1
        generalize H1 = H at hP hS ⊢
        have hP : va_P (dC, dI) cls_ [(r_windings, .inl (c_windings, 1152, .inl (a_r_windings_17002))), (m0, .inr (10, [.int i_fault, .int (nI (n_size)), .ref r_file, .int (nI (n_side)), .int (bI o_font), .ref r_bytes, .ref r_places, .ref r_lengths, .ref r_glyphCount, .ref r_ems, .ref r_wides, .ref r_forms, .ref r_parts, .ref r_charts, .ref r_pointCount, .ref r_contourCount, .ref r_depths, .ref r_xs, .ref r_ys, .ref r_ons, .ref r_contours, .int (bI o_bad), .int (nI (n_at)), .int (nI (n_end)), .ref r_flags, .ref r_part, .int (nI (n_typed)), .ref r_text, .int (nI (n_ring)), .ref r_ringX, .ref r_ringY, .ref r_ringOn, .int (nI (n_wait__17025)), .ref r_curves, .ref r_windings, .ref r_rows])), (r_curves, .inl (c_curves, 140, .inl (v_curves__17026)))] H := hP
        have hD : va_D A [(r_windings, .inl (c_windings, 1152, .inl (a_r_windings_17002))), (m0, .inr (10, [.int i_fault, .int (nI (n_size)), .ref r_file, .int (nI (n_side)), .int (bI o_font), .ref r_bytes, .ref r_places, .ref r_lengths, .ref r_glyphCount, .ref r_ems, .ref r_wides, .ref r_forms, .ref r_parts, .ref r_charts, .ref r_pointCount, .ref r_contourCount, .ref r_depths, .ref r_xs, .ref r_ys, .ref r_ons, .ref r_contours, .int (bI o_bad), .int (nI (n_at)), .int (nI (n_end)), .ref r_flags, .ref r_part, .int (nI (n_typed)), .ref r_text, .int (nI (n_ring)), .ref r_ringX, .ref r_ringY, .ref r_ringOn, .int (nI (n_wait__17025)), .ref r_curves, .ref r_windings, .ref r_rows])), (r_curves, .inl (c_curves, 140, .inl (v_curves__17026)))] := hD
        have hw_r17031 := hw
        refine lv_iload hx hb d_MD_paintCurves_197 (lv_at hl 1 rfl) ?_
        refine lv_iload hx hb d_MD_paintCurves_199 (lv_at hl 0 rfl) ?_
        refine lv_iload hx hb d_MD_paintCurves_201 (lv_at hl 6 rfl) ?_
        refine lv_iload hx hb d_MD_paintCurves_203 (lv_at hl 5 rfl) ?_
        refine lv_iload hx hb d_MD_paintCurves_205 (lv_at hl 4 rfl) ?_
        refine lv_iconst (v := 1) hx hb d_MD_paintCurves_207 (by decide) ?_
        refine lv_iadd hx hb d_MD_paintCurves_208 ?_
        refine lv_ci (y := nI (tm + 1)) (nI_add (tm) (1)) ?_
        have hPc := hP.sub (ws' := [(m0, .inr (10, [.int i_fault, .int (nI (n_size)), .ref r_file, .int (nI (n_side)), .int (bI o_font), .ref r_bytes, .ref r_places, .ref r_lengths, .ref r_glyphCount, .ref r_ems, .ref r_wides, .ref r_forms, .ref r_parts, .ref r_charts, .ref r_pointCount, .ref r_contourCount, .ref r_depths, .ref r_xs, .ref r_ys, .ref r_ons, .ref r_contours, .int (bI o_bad), .int (nI (n_at)), .int (nI (n_end)), .ref r_flags, .ref r_part, .int (nI (n_typed)), .ref r_text, .int (nI (n_ring)), .ref r_ringX, .ref r_ringY, .ref r_ringOn, .int (nI (n_wait__17025)), .ref r_curves, .ref r_windings, .ref r_rows])), (r_curves, .inl (c_curves, 140, .inl (v_curves__17026)))]) [1, 2] rfl
        have hDc := hD.sub (ws' := [(m0, .inr (10, [.int i_fault, .int (nI (n_size)), .ref r_file, .int (nI (n_side)), .int (bI o_font), .ref r_bytes, .ref r_places, .ref r_lengths, .ref r_glyphCount, .ref r_ems, .ref r_wides, .ref r_forms, .ref r_parts, .ref r_charts, .ref r_pointCount, .ref r_contourCount, .ref r_depths, .ref r_xs, .ref r_ys, .ref r_ons, .ref r_contours, .int (bI o_bad), .int (nI (n_at)), .int (nI (n_end)), .ref r_flags, .ref r_part, .int (nI (n_typed)), .ref r_text, .int (nI (n_ring)), .ref r_ringX, .ref r_ringY, .ref r_ringOn, .int (nI (n_wait__17025)), .ref r_curves, .ref r_windings, .ref r_rows])), (r_curves, .inl (c_curves, 140, .inl (v_curves__17026)))]) [1, 2] (by decide) rfl
        have hKc := hK.sub (tys' := [(c_curves, .int)]) [1] rfl
        have hFc := va_free (wc := [(m0, .inr (10, [.int i_fault, .int (nI (n_size)), .ref r_file, .int (nI (n_side)), .int (bI o_font), .ref r_bytes, .ref r_places, .ref r_lengths, .ref r_glyphCount, .ref r_ems, .ref r_wides, .ref r_forms, .ref r_parts, .ref r_charts, .ref r_pointCount, .ref r_contourCount, .ref r_depths, .ref r_xs, .ref r_ys, .ref r_ons, .ref r_contours, .int (bI o_bad), .int (nI (n_at)), .int (nI (n_end)), .ref r_flags, .ref r_part, .int (nI (n_typed)), .ref r_text, .int (nI (n_ring)), .ref r_ringX, .ref r_ringY, .ref r_ringOn, .int (nI (n_wait__17025)), .ref r_curves, .ref r_windings, .ref r_rows])), (r_curves, .inl (c_curves, 140, .inl (v_curves__17026)))]) hD hS hA [1, 2] rfl
        refine va_callv (va_runV (As := [.int r17030, .int r17031, .int r17021, .int r17022, .int v17011, .int v17012, .int (nI (tm + 1))]) (rest := []) ⟨hx, hb, hml, hown, hts⟩ (g_MD_wait7 l dC dI m0 i_fault n_size r_file n_side o_font r_bytes r_places r_lengths r_glyphCount r_ems r_wides r_forms r_parts r_charts r_pointCount r_contourCount r_depths r_xs r_ys r_ons r_contours o_bad n_at n_end r_flags r_part n_typed r_text n_ring r_ringX r_ringY r_ringOn n_wait__17025 r_curves r_windings r_rows c_curves v_curves__17026 r17030 r17031 r17021 r17022 v17011 v17012 (tm + 1) H.size (by omega) (by omega) (by omega) (by omega)) (cwV 7 hts (tw_inV w_1184 w_1186 wp_70 w_11 w_1187) rfl rfl rfl (by decide +kernel) ⟨Nat.le_of_ble_eq_true rfl, Nat.le_of_ble_eq_true rfl⟩) ⟨fun a U g mk q => by obtain ⟨q0, q1, qP, qK, qD⟩ := q; exact ⟨q0, q1, qP, va_K.moved (u := U) (U := U.calling g mk a) (Vm.Alike.refl U.vm) qK, qD⟩, va_recv (hK := hK) (hP := hP) (q0 := 1) (ci := 10) rfl rfl, fun U hU hW => ⟨rfl, by rw [hU], by rw [hU]; exact hPc, va_K.moved hW.alike hKc, hDc.weaken (fun _ _ _ _ => trivial)⟩⟩ rfl rfl hl.1 rfl (lv_room (Nat.le_of_ble_eq_true rfl)) d_MD_paintCurves_209 ⟨Nat.le_of_ble_eq_true rfl, Nat.le_of_ble_eq_true rfl⟩) hS (fun q _ h => hFc q h) hFc (fun u t H1 locs ht hvm hw hB hz1 hk1 hS => ?_)
        obtain ⟨n_wait__17032, v_curves__17033, hq_f17034_0, hq_f17035_1, hq_f17036_2, hP1, hK1, hD1⟩ := hB
        rw [ht] at hP1
        have hK1 := va_K.moved hvm.symm hK1
        obtain ⟨hP, hD⟩ := va_join (wr := [(r_windings, .inl (c_windings, 1152, .inl (a_r_windings_17002)))]) (w1 := [(m0, .inr (10, [.int i_fault, .int (nI (n_size)), .ref r_file, .int (nI (n_side)), .int (bI o_font), .ref r_bytes, .ref r_places, .ref r_lengths, .ref r_glyphCount, .ref r_ems, .ref r_wides, .ref r_forms, .ref r_parts, .ref r_charts, .ref r_pointCount, .ref r_contourCount, .ref r_depths, .ref r_xs, .ref r_ys, .ref r_ons, .ref r_contours, .int (bI o_bad), .int (nI (n_at)), .int (nI (n_end)), .ref r_flags, .ref r_part, .int (nI (n_typed)), .ref r_text, .int (nI (n_ring)), .ref r_ringX, .ref r_ringY, .ref r_ringOn, .int (nI (n_wait__17032)), .ref r_curves, .ref r_windings, .ref r_rows])), (r_curves, .inl (c_curves, 140, .inl (v_curves__17033)))]) hP hD [1, 2] [0] rfl rfl (by decide) (by decide) hk1 hFc hP1 hD1
        have hK := (hK.sub (tys' := [(c_windings, .int)]) [0] rfl).app hK1
        generalize H1 = H at hP hS ⊢
        have hP : va_P (dC, dI) cls_ [(r_windings, .inl (c_windings, 1152, .inl (a_r_windings_17002))), (m0, .inr (10, [.int i_fault, .int (nI (n_size)), .ref r_file, .int (nI (n_side)), .int (bI o_font), .ref r_bytes, .ref r_places, .ref r_lengths, .ref r_glyphCount, .ref r_ems, .ref r_wides, .ref r_forms, .ref r_parts, .ref r_charts, .ref r_pointCount, .ref r_contourCount, .ref r_depths, .ref r_xs, .ref r_ys, .ref r_ons, .ref r_contours, .int (bI o_bad), .int (nI (n_at)), .int (nI (n_end)), .ref r_flags, .ref r_part, .int (nI (n_typed)), .ref r_text, .int (nI (n_ring)), .ref r_ringX, .ref r_ringY, .ref r_ringOn, .int (nI (n_wait__17032)), .ref r_curves, .ref r_windings, .ref r_rows])), (r_curves, .inl (c_curves, 140, .inl (v_curves__17033)))] H := hP
        have hD : va_D A [(r_windings, .inl (c_windings, 1152, .inl (a_r_windings_17002))), (m0, .inr (10, [.int i_fault, .int (nI (n_size)), .ref r_file, .int (nI (n_side)), .int (bI o_font), .ref r_bytes, .ref r_places, .ref r_lengths, .ref r_glyphCount, .ref r_ems, .ref r_wides, .ref r_forms, .ref r_parts, .ref r_charts, .ref r_pointCount, .ref r_contourCount, .ref r_depths, .ref r_xs, .ref r_ys, .ref r_ons, .ref r_contours, .int (bI o_bad), .int (nI (n_at)), .int (nI (n_end)), .ref r_flags, .ref r_part, .int (nI (n_typed)), .ref r_text, .int (nI (n_ring)), .ref r_ringX, .ref r_ringY, .ref r_ringOn, .int (nI (n_wait__17032)), .ref r_curves, .ref r_windings, .ref r_rows])), (r_curves, .inl (c_curves, 140, .inl (v_curves__17033)))] := hD
        have hK : va_K (dC, dI) cls_ [(c_windings, .int), (c_curves, .int)] s := hK
        have hk2 : ∀ i : Nat, i < 7 * (w1 + 1) → v_curves__17033 i = v_curves__17026 i := by rw [show w1 + 1 = n_wait__17025 by omega]; assumption
        have ek2 : v_curves__17033 (7 * (w1 + 1) + 6) = nI (tm + 1) := by rw [show w1 + 1 = n_wait__17025 by omega]; assumption
        refine lv_goto (tgt := 0) hx hb d_MD_paintCurves_212 (by decide) ?_
        have hP8 := hP.sub (ws' := [(m0, .inr (10, [.int i_fault, .int (nI (n_size)), .ref r_file, .int (nI (n_side)), .int (bI o_font), .ref r_bytes, .ref r_places, .ref r_lengths, .ref r_glyphCount, .ref r_ems, .ref r_wides, .ref r_forms, .ref r_parts, .ref r_charts, .ref r_pointCount, .ref r_contourCount, .ref r_depths, .ref r_xs, .ref r_ys, .ref r_ons, .ref r_contours, .int (bI o_bad), .int (nI (n_at)), .int (nI (n_end)), .ref r_flags, .ref r_part, .int (nI (n_typed)), .ref r_text, .int (nI (n_ring)), .ref r_ringX, .ref r_ringY, .ref r_ringOn, .int (nI (n_wait__17032)), .ref r_curves, .ref r_windings, .ref r_rows])), (r_curves, .inl (c_curves, 140, .inl (v_curves__17033))), (r_windings, .inl (c_windings, 1152, .inl (a_r_windings_17002)))]) [1, 2, 0] rfl
        have hD8 := hD.sub (ws' := [(m0, .inr (10, [.int i_fault, .int (nI (n_size)), .ref r_file, .int (nI (n_side)), .int (bI o_font), .ref r_bytes, .ref r_places, .ref r_lengths, .ref r_glyphCount, .ref r_ems, .ref r_wides, .ref r_forms, .ref r_parts, .ref r_charts, .ref r_pointCount, .ref r_contourCount, .ref r_depths, .ref r_xs, .ref r_ys, .ref r_ons, .ref r_contours, .int (bI o_bad), .int (nI (n_at)), .int (nI (n_end)), .ref r_flags, .ref r_part, .int (nI (n_typed)), .ref r_text, .int (nI (n_ring)), .ref r_ringX, .ref r_ringY, .ref r_ringOn, .int (nI (n_wait__17032)), .ref r_curves, .ref r_windings, .ref r_rows])), (r_curves, .inl (c_curves, 140, .inl (v_curves__17033))), (r_windings, .inl (c_windings, 1152, .inl (a_r_windings_17002)))]) [1, 2, 0] (by decide) rfl
        exact ih17003 (n_wait__17032, v_curves__17033, a_r_windings_17002) H locs ls (by show mw v_curves__17033 n_wait__17032 < mw a_r_curves_17001 f_m0_waiting_17000; rw [show n_wait__17032 = w1 + 2 by omega, ew1]; exact mw_step (by omega) etm (by assumption) (by assumption) hk2 ek2) ⟨hP8, hD8, hS, lv_sub hl [12] rfl, by omega, (by rw [show n_wait__17032 = w1 + 2 by omega]; exact curF_push (fun j hj => (by assumption : curF _ _) j (by omega)) (by omega) (by omega) (by assumption) (by assumption) hk2 ek2)⟩
      · skip
        have hc17018b : bb17017 = true := bI_1 hc17018
        refine lv_aload_n hx hb d_MD_paintCurves_107 rfl (lv_at hl 8 rfl) ?_
        refine lv_iload_n hx hb d_MD_paintCurves_108 rfl (lv_at hl 6 rfl) ?_
        refine lv_iload_n hx hb d_MD_paintCurves_109 rfl (lv_at hl 5 rfl) ?_
        refine lv_iload hx hb d_MD_paintCurves_110 (lv_at hl 2 rfl) ?_
        refine lv_iload hx hb d_MD_paintCurves_112 (lv_at hl 1 rfl) ?_
        have hPc := hP.sub (ws' := [(m0, .inr (10, [.int i_fault, .int (nI (n_size)), .ref r_file, .int (nI (n_side)), .int (bI o_font), .ref r_bytes, .ref r_places, .ref r_lengths, .ref r_glyphCount, .ref r_ems, .ref r_wides, .ref r_forms, .ref r_parts, .ref r_charts, .ref r_pointCount, .ref r_contourCount, .ref r_depths, .ref r_xs, .ref r_ys, .ref r_ons, .ref r_contours, .int (bI o_bad), .int (nI (n_at)), .int (nI (n_end)), .ref r_flags, .ref r_part, .int (nI (n_typed)), .ref r_text, .int (nI (n_ring)), .ref r_ringX, .ref r_ringY, .ref r_ringOn, .int (nI (w1)), .ref r_curves, .ref r_windings, .ref r_rows])), (r_windings, .inl (c_windings, 1152, .inl (a_r_windings_17002)))]) [1, 0] rfl
        have hDc := hD.sub (ws' := [(m0, .inr (10, [.int i_fault, .int (nI (n_size)), .ref r_file, .int (nI (n_side)), .int (bI o_font), .ref r_bytes, .ref r_places, .ref r_lengths, .ref r_glyphCount, .ref r_ems, .ref r_wides, .ref r_forms, .ref r_parts, .ref r_charts, .ref r_pointCount, .ref r_contourCount, .ref r_depths, .ref r_xs, .ref r_ys, .ref r_ons, .ref r_contours, .int (bI o_bad), .int (nI (n_at)), .int (nI (n_end)), .ref r_flags, .ref r_part, .int (nI (n_typed)), .ref r_text, .int (nI (n_ring)), .ref r_ringX, .ref r_ringY, .ref r_ringOn, .int (nI (w1)), .ref r_curves, .ref r_windings, .ref r_rows])), (r_windings, .inl (c_windings, 1152, .inl (a_r_windings_17002)))]) [1, 0] (by decide) rfl
        have hKc := hK.sub (tys' := [(c_windings, .int)]) [0] rfl
        have hFc := va_free (wc := [(m0, .inr (10, [.int i_fault, .int (nI (n_size)), .ref r_file, .int (nI (n_side)), .int (bI o_font), .ref r_bytes, .ref r_places, .ref r_lengths, .ref r_glyphCount, .ref r_ems, .ref r_wides, .ref r_forms, .ref r_parts, .ref r_charts, .ref r_pointCount, .ref r_contourCount, .ref r_depths, .ref r_xs, .ref r_ys, .ref r_ons, .ref r_contours, .int (bI o_bad), .int (nI (n_at)), .int (nI (n_end)), .ref r_flags, .ref r_part, .int (nI (n_typed)), .ref r_text, .int (nI (n_ring)), .ref r_ringX, .ref r_ringY, .ref r_ringOn, .int (nI (w1)), .ref r_curves, .ref r_windings, .ref r_rows])), (r_windings, .inl (c_windings, 1152, .inl (a_r_windings_17002)))]) hD hS hA [1, 0] rfl
        refine va_callv (va_runV (As := [.int v17007, .int v17008, .int v17011, .int v17012]) (rest := []) ⟨hx, hb, hml, hown, hts⟩ (g_MD_paintLine l dC dI m0 i_fault n_size r_file n_side o_font r_bytes r_places r_lengths r_glyphCount r_ems r_wides r_forms r_parts r_charts r_pointCount r_contourCount r_depths r_xs r_ys r_ons r_contours o_bad n_at n_end r_flags r_part n_typed r_text n_ring r_ringX r_ringY r_ringOn w1 r_curves r_windings r_rows c_windings a_r_windings_17002 v17007 v17008 v17011 v17012 H.size (by omega) (by omega) (by omega)) (cwV 4 hts (tw_inV w_1178 w_1180 wp_69 w_11 w_1181) rfl rfl rfl (by decide +kernel) ⟨Nat.le_of_ble_eq_true rfl, Nat.le_of_ble_eq_true rfl⟩) ⟨fun a U g mk q => by obtain ⟨q0, q1, qP, qK, qD⟩ := q; exact ⟨q0, q1, qP, va_K.moved (u := U) (U := U.calling g mk a) (Vm.Alike.refl U.vm) qK, qD⟩, va_recv (hK := hK) (hP := hP) (q0 := 1) (ci := 10) rfl rfl, fun U hU hW => ⟨rfl, by rw [hU], by rw [hU]; exact hPc, va_K.moved hW.alike hKc, hDc.weaken (fun _ _ _ _ => trivial)⟩⟩ rfl rfl hl.1 rfl (lv_room (Nat.le_of_ble_eq_true rfl)) d_MD_paintCurves_114 ⟨Nat.le_of_ble_eq_true rfl, Nat.le_of_ble_eq_true rfl⟩) hS (fun q _ h => hFc q h) hFc (fun u t H1 locs ht hvm hw hB hz1 hk1 hS => ?_)
        obtain ⟨v_windings__17037, hP1, hK1, hD1⟩ := hB
        rw [ht] at hP1
        have hK1 := va_K.moved hvm.symm hK1
        obtain ⟨hP, hD⟩ := va_join (wr := [(r_curves, .inl (c_curves, 140, .inl (a_r_curves_17001)))]) (w1 := [(m0, .inr (10, [.int i_fault, .int (nI (n_size)), .ref r_file, .int (nI (n_side)), .int (bI o_font), .ref r_bytes, .ref r_places, .ref r_lengths, .ref r_glyphCount, .ref r_ems, .ref r_wides, .ref r_forms, .ref r_parts, .ref r_charts, .ref r_pointCount, .ref r_contourCount, .ref r_depths, .ref r_xs, .ref r_ys, .ref r_ons, .ref r_contours, .int (bI o_bad), .int (nI (n_at)), .int (nI (n_end)), .ref r_flags, .ref r_part, .int (nI (n_typed)), .ref r_text, .int (nI (n_ring)), .ref r_ringX, .ref r_ringY, .ref r_ringOn, .int (nI (w1)), .ref r_curves, .ref r_windings, .ref r_rows])), (r_windings, .inl (c_windings, 1152, .inl (v_windings__17037)))]) hP hD [1, 0] [2] rfl rfl (by decide) (by decide) hk1 hFc hP1 hD1
        have hK := (hK.sub (tys' := [(c_curves, .int)]) [1] rfl).app hK1
        generalize H1 = H at hP hS ⊢
        have hP : va_P (dC, dI) cls_ [(r_curves, .inl (c_curves, 140, .inl (a_r_curves_17001))), (m0, .inr (10, [.int i_fault, .int (nI (n_size)), .ref r_file, .int (nI (n_side)), .int (bI o_font), .ref r_bytes, .ref r_places, .ref r_lengths, .ref r_glyphCount, .ref r_ems, .ref r_wides, .ref r_forms, .ref r_parts, .ref r_charts, .ref r_pointCount, .ref r_contourCount, .ref r_depths, .ref r_xs, .ref r_ys, .ref r_ons, .ref r_contours, .int (bI o_bad), .int (nI (n_at)), .int (nI (n_end)), .ref r_flags, .ref r_part, .int (nI (n_typed)), .ref r_text, .int (nI (n_ring)), .ref r_ringX, .ref r_ringY, .ref r_ringOn, .int (nI (w1)), .ref r_curves, .ref r_windings, .ref r_rows])), (r_windings, .inl (c_windings, 1152, .inl (v_windings__17037)))] H := hP
        have hD : va_D A [(r_curves, .inl (c_curves, 140, .inl (a_r_curves_17001))), (m0, .inr (10, [.int i_fault, .int (nI (n_size)), .ref r_file, .int (nI (n_side)), .int (bI o_font), .ref r_bytes, .ref r_places, .ref r_lengths, .ref r_glyphCount, .ref r_ems, .ref r_wides, .ref r_forms, .ref r_parts, .ref r_charts, .ref r_pointCount, .ref r_contourCount, .ref r_depths, .ref r_xs, .ref r_ys, .ref r_ons, .ref r_contours, .int (bI o_bad), .int (nI (n_at)), .int (nI (n_end)), .ref r_flags, .ref r_part, .int (nI (n_typed)), .ref r_text, .int (nI (n_ring)), .ref r_ringX, .ref r_ringY, .ref r_ringOn, .int (nI (w1)), .ref r_curves, .ref r_windings, .ref r_rows])), (r_windings, .inl (c_windings, 1152, .inl (v_windings__17037)))] := hD
        have hK : va_K (dC, dI) cls_ [(c_curves, .int), (c_windings, .int)] s := hK
        refine lv_goto (tgt := 212) hx hb d_MD_paintCurves_117 (by decide) ?_
        refine lv_goto (tgt := 0) hx hb d_MD_paintCurves_212 (by decide) ?_
        have hP8 := hP.sub (ws' := [(m0, .inr (10, [.int i_fault, .int (nI (n_size)), .ref r_file, .int (nI (n_side)), .int (bI o_font), .ref r_bytes, .ref r_places, .ref r_lengths, .ref r_glyphCount, .ref r_ems, .ref r_wides, .ref r_forms, .ref r_parts, .ref r_charts, .ref r_pointCount, .ref r_contourCount, .ref r_depths, .ref r_xs, .ref r_ys, .ref r_ons, .ref r_contours, .int (bI o_bad), .int (nI (n_at)), .int (nI (n_end)), .ref r_flags, .ref r_part, .int (nI (n_typed)), .ref r_text, .int (nI (n_ring)), .ref r_ringX, .ref r_ringY, .ref r_ringOn, .int (nI (w1)), .ref r_curves, .ref r_windings, .ref r_rows])), (r_curves, .inl (c_curves, 140, .inl (a_r_curves_17001))), (r_windings, .inl (c_windings, 1152, .inl (v_windings__17037)))]) [1, 0, 2] rfl
        have hD8 := hD.sub (ws' := [(m0, .inr (10, [.int i_fault, .int (nI (n_size)), .ref r_file, .int (nI (n_side)), .int (bI o_font), .ref r_bytes, .ref r_places, .ref r_lengths, .ref r_glyphCount, .ref r_ems, .ref r_wides, .ref r_forms, .ref r_parts, .ref r_charts, .ref r_pointCount, .ref r_contourCount, .ref r_depths, .ref r_xs, .ref r_ys, .ref r_ons, .ref r_contours, .int (bI o_bad), .int (nI (n_at)), .int (nI (n_end)), .ref r_flags, .ref r_part, .int (nI (n_typed)), .ref r_text, .int (nI (n_ring)), .ref r_ringX, .ref r_ringY, .ref r_ringOn, .int (nI (w1)), .ref r_curves, .ref r_windings, .ref r_rows])), (r_curves, .inl (c_curves, 140, .inl (a_r_curves_17001))), (r_windings, .inl (c_windings, 1152, .inl (v_windings__17037)))]) [1, 0, 2] (by decide) rfl
        exact ih17003 (w1, a_r_curves_17001, v_windings__17037) H locs ls (by show mw a_r_curves_17001 w1 < mw a_r_curves_17001 f_m0_waiting_17000; have q9 := mw_pop (w := f_m0_waiting_17000) (by omega) htm2 (by rw [show f_m0_waiting_17000 - 1 = w1 by omega]; exact etm); rw [show f_m0_waiting_17000 - 1 = w1 by omega] at q9; omega) ⟨hP8, hD8, hS, lv_sub hl [8] rfl, by omega, (fun j hj => (by assumption : curF _ _) j (by omega))⟩
