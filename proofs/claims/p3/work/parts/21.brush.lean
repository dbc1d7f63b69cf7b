abbrev b_BR_halfWay : ByteArray := prog_2_method_14_code
def y_BR_halfWay : MethodName := ⟨R_BR, "halfWay", "(II)I"⟩
def s_BR_halfWay : List Cond := .code y_BR_halfWay b_BR_halfWay 2 (some .int) :: tw_T
abbrev b_BR_isFlat : ByteArray := prog_2_method_13_code
def y_BR_isFlat : MethodName := ⟨R_BR, "isFlat", "(IIII)Z"⟩
def s_BR_isFlat : List Cond := .code y_BR_isFlat b_BR_isFlat 5 (some .boolean) :: tw_T
abbrev b_BR_begin : ByteArray := prog_2_method_2_code
def y_BR_begin : MethodName := ⟨R_BR, "begin", "(LGlyphLines$Font;I)V"⟩
def s_BR_begin : List Cond := .code y_BR_begin b_BR_begin 3 none :: tw_T
abbrev b_BR_scaled : ByteArray := prog_2_method_4_code
def y_BR_scaled : MethodName := ⟨R_BR, "scaled", "(I)I"⟩
def s_BR_scaled : List Cond := .code y_BR_scaled b_BR_scaled 2 (some .int) :: tw_T
abbrev b_BR_xOf : ByteArray := prog_2_method_8_code
def y_BR_xOf : MethodName := ⟨R_BR, "xOf", "(I)I"⟩
def s_BR_xOf : List Cond := .code y_BR_xOf b_BR_xOf 2 (some .int) :: tw_T
abbrev b_BR_yOf : ByteArray := prog_2_method_9_code
def y_BR_yOf : MethodName := ⟨R_BR, "yOf", "(I)I"⟩
def s_BR_yOf : List Cond := .code y_BR_yOf b_BR_yOf 2 (some .int) :: tw_T
abbrev b_BR_addToRing : ByteArray := prog_2_method_7_code
def y_BR_addToRing : MethodName := ⟨R_BR, "addToRing", "(IIZ)V"⟩
def s_BR_addToRing : List Cond := .code y_BR_addToRing b_BR_addToRing 4 none :: tw_T
abbrev b_BR_layRing : ByteArray := prog_2_method_6_code
def y_BR_layRing : MethodName := ⟨R_BR, "layRing", "(II)V"⟩
def s_BR_layRing : List Cond := .code y_BR_layRing b_BR_layRing 5 none :: tw_T
abbrev b_BR_paintCurve : ByteArray := prog_2_method_11_code
def y_BR_paintCurve : MethodName := ⟨R_BR, "paintCurve", "(IIIIIII)V"⟩
def s_BR_paintCurve : List Cond := .code y_BR_paintCurve b_BR_paintCurve 8 none :: tw_T
abbrev b_BR_partCurve : ByteArray := prog_2_method_12_code
def y_BR_partCurve : MethodName := ⟨R_BR, "partCurve", "(IIIIIII)V"⟩
def s_BR_partCurve : List Cond := .code y_BR_partCurve b_BR_partCurve 14 none :: tw_T
theorem w_10 : (Jvm.Cond.initialized "GlyphLines$Brush") ∈ tw_T := tw_of 10 (by decide +kernel) (by decide +kernel)
theorem w_255 : (Jvm.Cond.fieldLink "GlyphLines$Brush" (40 : Nat) "GlyphLines$Brush" "picture" "LGlyphLines$Picture;") ∈ tw_T := tw_of 255 (by decide +kernel) (by decide +kernel)
theorem w_256 : (Jvm.Cond.fieldLink "GlyphLines$Brush" (44 : Nat) "GlyphLines$Brush" "outline" "LGlyphLines$Outline;") ∈ tw_T := tw_of 256 (by decide +kernel) (by decide +kernel)
theorem w_257 : (Jvm.Cond.fieldLink "GlyphLines$Brush" (11 : Nat) "GlyphLines$Brush" "ringX" "[I") ∈ tw_T := tw_of 257 (by decide +kernel) (by decide +kernel)
theorem w_258 : (Jvm.Cond.fieldLink "GlyphLines$Brush" (17 : Nat) "GlyphLines$Brush" "ringY" "[I") ∈ tw_T := tw_of 258 (by decide +kernel) (by decide +kernel)
theorem w_259 : (Jvm.Cond.fieldLink "GlyphLines$Brush" (20 : Nat) "GlyphLines$Brush" "ringOn" "[Z") ∈ tw_T := tw_of 259 (by decide +kernel) (by decide +kernel)
theorem w_260 : (Jvm.Cond.fieldLink "GlyphLines$Brush" (24 : Nat) "GlyphLines$Brush" "ringSize" "I") ∈ tw_T := tw_of 260 (by decide +kernel) (by decide +kernel)
theorem w_261 : (Jvm.Cond.fieldLink "GlyphLines$Brush" (28 : Nat) "GlyphLines$Brush" "em" "I") ∈ tw_T := tw_of 261 (by decide +kernel) (by decide +kernel)
theorem w_262 : (Jvm.Cond.fieldLink "GlyphLines$Brush" (31 : Nat) "GlyphLines$Brush" "ppem" "I") ∈ tw_T := tw_of 262 (by decide +kernel) (by decide +kernel)
theorem w_263 : (Jvm.Cond.fieldLink "GlyphLines$Brush" (34 : Nat) "GlyphLines$Brush" "pen" "I") ∈ tw_T := tw_of 263 (by decide +kernel) (by decide +kernel)
theorem w_265 : (Jvm.Cond.fieldLink "GlyphLines$Brush" (37 : Nat) "GlyphLines$Brush" "glyphBefore" "I") ∈ tw_T := tw_of 265 (by decide +kernel) (by decide +kernel)
theorem w_759 : (Jvm.Cond.methodLink "GlyphLines$Brush" (59 : Nat) ({ cls := "GlyphLines$Brush", name := "scaled", desc := "(I)I" } : Jvm.MethodName)) ∈ tw_T := tw_of 759 (by decide +kernel) (by decide +kernel)
theorem w_761 : (Jvm.Cond.instanceMethod ({ cls := "GlyphLines$Brush", name := "scaled", desc := "(I)I" } : Jvm.MethodName)) ∈ tw_T := tw_of 761 (by decide +kernel) (by decide +kernel)
theorem w_762 : (Jvm.Cond.code ({ cls := "GlyphLines$Brush", name := "scaled", desc := "(I)I" } : Jvm.MethodName) prog_2_method_4_code (2 : Nat) (Option.some Jvm.ClassFile.FieldType.int)) ∈ tw_T := tw_of 762 (by decide +kernel) (by decide +kernel)
theorem w_763 : (Jvm.Cond.methodLink "GlyphLines$Brush" (72 : Nat) ({ cls := "java/lang/Math", name := "floorDiv", desc := "(II)I" } : Jvm.MethodName)) ∈ tw_T := tw_of 763 (by decide +kernel) (by decide +kernel)
theorem w_764 : (Jvm.Cond.static ({ cls := "java/lang/Math", name := "floorDiv", desc := "(II)I" } : Jvm.MethodName)) ∈ tw_T := tw_of 764 (by decide +kernel) (by decide +kernel)
theorem w_765 : (Jvm.Cond.code ({ cls := "java/lang/Math", name := "floorDiv", desc := "(II)I" } : Jvm.MethodName) prog_18_method_47_code (3 : Nat) (Option.some Jvm.ClassFile.FieldType.int)) ∈ tw_T := tw_of 765 (by decide +kernel) (by decide +kernel)
theorem w_782 : (Jvm.Cond.methodLink "GlyphLines$Brush" (98 : Nat) ({ cls := "GlyphLines$Brush", name := "xOf", desc := "(I)I" } : Jvm.MethodName)) ∈ tw_T := tw_of 782 (by decide +kernel) (by decide +kernel)
theorem w_784 : (Jvm.Cond.instanceMethod ({ cls := "GlyphLines$Brush", name := "xOf", desc := "(I)I" } : Jvm.MethodName)) ∈ tw_T := tw_of 784 (by decide +kernel) (by decide +kernel)
theorem w_785 : (Jvm.Cond.code ({ cls := "GlyphLines$Brush", name := "xOf", desc := "(I)I" } : Jvm.MethodName) prog_2_method_8_code (2 : Nat) (Option.some Jvm.ClassFile.FieldType.int)) ∈ tw_T := tw_of 785 (by decide +kernel) (by decide +kernel)
theorem w_786 : (Jvm.Cond.methodLink "GlyphLines$Brush" (101 : Nat) ({ cls := "GlyphLines$Brush", name := "yOf", desc := "(I)I" } : Jvm.MethodName)) ∈ tw_T := tw_of 786 (by decide +kernel) (by decide +kernel)
theorem w_788 : (Jvm.Cond.instanceMethod ({ cls := "GlyphLines$Brush", name := "yOf", desc := "(I)I" } : Jvm.MethodName)) ∈ tw_T := tw_of 788 (by decide +kernel) (by decide +kernel)
theorem w_789 : (Jvm.Cond.code ({ cls := "GlyphLines$Brush", name := "yOf", desc := "(I)I" } : Jvm.MethodName) prog_2_method_9_code (2 : Nat) (Option.some Jvm.ClassFile.FieldType.int)) ∈ tw_T := tw_of 789 (by decide +kernel) (by decide +kernel)
theorem w_790 : (Jvm.Cond.methodLink "GlyphLines$Brush" (107 : Nat) ({ cls := "GlyphLines$Brush", name := "addToRing", desc := "(IIZ)V" } : Jvm.MethodName)) ∈ tw_T := tw_of 790 (by decide +kernel) (by decide +kernel)
theorem w_792 : (Jvm.Cond.instanceMethod ({ cls := "GlyphLines$Brush", name := "addToRing", desc := "(IIZ)V" } : Jvm.MethodName)) ∈ tw_T := tw_of 792 (by decide +kernel) (by decide +kernel)
theorem w_793 : (Jvm.Cond.code ({ cls := "GlyphLines$Brush", name := "addToRing", desc := "(IIZ)V" } : Jvm.MethodName) prog_2_method_7_code (4 : Nat) (Option.none : Option Jvm.ClassFile.FieldType)) ∈ tw_T := tw_of 793 (by decide +kernel) (by decide +kernel)
theorem w_794 : (Jvm.Cond.methodLink "GlyphLines$Brush" (111 : Nat) ({ cls := "GlyphLines$Brush", name := "halfWay", desc := "(II)I" } : Jvm.MethodName)) ∈ tw_T := tw_of 794 (by decide +kernel) (by decide +kernel)
theorem w_795 : (Jvm.Cond.static ({ cls := "GlyphLines$Brush", name := "halfWay", desc := "(II)I" } : Jvm.MethodName)) ∈ tw_T := tw_of 795 (by decide +kernel) (by decide +kernel)
theorem w_796 : (Jvm.Cond.code ({ cls := "GlyphLines$Brush", name := "halfWay", desc := "(II)I" } : Jvm.MethodName) prog_2_method_14_code (2 : Nat) (Option.some Jvm.ClassFile.FieldType.int)) ∈ tw_T := tw_of 796 (by decide +kernel) (by decide +kernel)
theorem w_801 : (Jvm.Cond.methodLink "GlyphLines$Brush" (120 : Nat) ({ cls := "GlyphLines$Picture", name := "addLine", desc := "(IIII)V" } : Jvm.MethodName)) ∈ tw_T := tw_of 801 (by decide +kernel) (by decide +kernel)
theorem w_802 : (Jvm.Cond.instanceMethod ({ cls := "GlyphLines$Picture", name := "addLine", desc := "(IIII)V" } : Jvm.MethodName)) ∈ tw_T := tw_of 802 (by decide +kernel) (by decide +kernel)
theorem w_803 : (Jvm.Cond.selects "GlyphLines$Picture" ({ cls := "GlyphLines$Picture", name := "addLine", desc := "(IIII)V" } : Jvm.MethodName) ({ cls := "GlyphLines$Picture", name := "addLine", desc := "(IIII)V" } : Jvm.MethodName)) ∈ tw_T := tw_of 803 (by decide +kernel) (by decide +kernel)
theorem w_804 : (Jvm.Cond.code ({ cls := "GlyphLines$Picture", name := "addLine", desc := "(IIII)V" } : Jvm.MethodName) prog_9_method_4_code (15 : Nat) (Option.none : Option Jvm.ClassFile.FieldType)) ∈ tw_T := tw_of 804 (by decide +kernel) (by decide +kernel)
theorem w_814 : (Jvm.Cond.methodLink "GlyphLines$Brush" (124 : Nat) ({ cls := "GlyphLines$Brush", name := "paintCurve", desc := "(IIIIIII)V" } : Jvm.MethodName)) ∈ tw_T := tw_of 814 (by decide +kernel) (by decide +kernel)
theorem w_816 : (Jvm.Cond.instanceMethod ({ cls := "GlyphLines$Brush", name := "paintCurve", desc := "(IIIIIII)V" } : Jvm.MethodName)) ∈ tw_T := tw_of 816 (by decide +kernel) (by decide +kernel)
theorem w_817 : (Jvm.Cond.code ({ cls := "GlyphLines$Brush", name := "paintCurve", desc := "(IIIIIII)V" } : Jvm.MethodName) prog_2_method_11_code (8 : Nat) (Option.none : Option Jvm.ClassFile.FieldType)) ∈ tw_T := tw_of 817 (by decide +kernel) (by decide +kernel)
theorem w_818 : (Jvm.Cond.methodLink "GlyphLines$Brush" (128 : Nat) ({ cls := "GlyphLines$Brush", name := "isFlat", desc := "(IIII)Z" } : Jvm.MethodName)) ∈ tw_T := tw_of 818 (by decide +kernel) (by decide +kernel)
theorem w_819 : (Jvm.Cond.static ({ cls := "GlyphLines$Brush", name := "isFlat", desc := "(IIII)Z" } : Jvm.MethodName)) ∈ tw_T := tw_of 819 (by decide +kernel) (by decide +kernel)
theorem w_820 : (Jvm.Cond.code ({ cls := "GlyphLines$Brush", name := "isFlat", desc := "(IIII)Z" } : Jvm.MethodName) prog_2_method_13_code (5 : Nat) (Option.some Jvm.ClassFile.FieldType.boolean)) ∈ tw_T := tw_of 820 (by decide +kernel) (by decide +kernel)
theorem w_821 : (Jvm.Cond.methodLink "GlyphLines$Brush" (135 : Nat) ({ cls := "java/lang/Math", name := "abs", desc := "(I)I" } : Jvm.MethodName)) ∈ tw_T := tw_of 821 (by decide +kernel) (by decide +kernel)
theorem w_822 : (Jvm.Cond.static ({ cls := "java/lang/Math", name := "abs", desc := "(I)I" } : Jvm.MethodName)) ∈ tw_T := tw_of 822 (by decide +kernel) (by decide +kernel)
theorem w_823 : (Jvm.Cond.code ({ cls := "java/lang/Math", name := "abs", desc := "(I)I" } : Jvm.MethodName) prog_18_method_59_code (1 : Nat) (Option.some Jvm.ClassFile.FieldType.int)) ∈ tw_T := tw_of 823 (by decide +kernel) (by decide +kernel)
theorem w_824 : (Jvm.Cond.methodLink "GlyphLines$Brush" (138 : Nat) ({ cls := "java/lang/Math", name := "max", desc := "(II)I" } : Jvm.MethodName)) ∈ tw_T := tw_of 824 (by decide +kernel) (by decide +kernel)
theorem w_825 : (Jvm.Cond.methodLink "GlyphLines$Brush" (141 : Nat) ({ cls := "java/lang/Math", name := "abs", desc := "(J)J" } : Jvm.MethodName)) ∈ tw_T := tw_of 825 (by decide +kernel) (by decide +kernel)
theorem w_826 : (Jvm.Cond.static ({ cls := "java/lang/Math", name := "abs", desc := "(J)J" } : Jvm.MethodName)) ∈ tw_T := tw_of 826 (by decide +kernel) (by decide +kernel)
theorem w_827 : (Jvm.Cond.code ({ cls := "java/lang/Math", name := "abs", desc := "(J)J" } : Jvm.MethodName) prog_18_method_61_code (2 : Nat) (Option.some Jvm.ClassFile.FieldType.long)) ∈ tw_T := tw_of 827 (by decide +kernel) (by decide +kernel)
theorem w_828 : (Jvm.Cond.constantLong "GlyphLines$Brush" (144 : Nat) (4 : Int64)) ∈ tw_T := tw_of 828 (by decide +kernel) (by decide +kernel)
theorem w_829 : (Jvm.Cond.methodLink "GlyphLines$Brush" (132 : Nat) ({ cls := "GlyphLines$Brush", name := "partCurve", desc := "(IIIIIII)V" } : Jvm.MethodName)) ∈ tw_T := tw_of 829 (by decide +kernel) (by decide +kernel)
theorem w_831 : (Jvm.Cond.instanceMethod ({ cls := "GlyphLines$Brush", name := "partCurve", desc := "(IIIIIII)V" } : Jvm.MethodName)) ∈ tw_T := tw_of 831 (by decide +kernel) (by decide +kernel)
theorem w_832 : (Jvm.Cond.code ({ cls := "GlyphLines$Brush", name := "partCurve", desc := "(IIIIIII)V" } : Jvm.MethodName) prog_2_method_12_code (14 : Nat) (Option.none : Option Jvm.ClassFile.FieldType)) ∈ tw_T := tw_of 832 (by decide +kernel) (by decide +kernel)
theorem wp_25 : Cond.selects "GlyphLines$Brush" ({ cls := "GlyphLines$Brush", name := "scaled", desc := "(I)I" } : Jvm.MethodName) ({ cls := "GlyphLines$Brush", name := "scaled", desc := "(I)I" } : Jvm.MethodName) ∈ tw_T := tw_priv 25 (({ cls := "GlyphLines$Brush", name := "scaled", desc := "(I)I" } : Jvm.MethodName), 10) (by decide +kernel) (by decide +kernel)
theorem wp_28 : Cond.selects "GlyphLines$Brush" ({ cls := "GlyphLines$Brush", name := "xOf", desc := "(I)I" } : Jvm.MethodName) ({ cls := "GlyphLines$Brush", name := "xOf", desc := "(I)I" } : Jvm.MethodName) ∈ tw_T := tw_priv 28 (({ cls := "GlyphLines$Brush", name := "xOf", desc := "(I)I" } : Jvm.MethodName), 10) (by decide +kernel) (by decide +kernel)
theorem wp_29 : Cond.selects "GlyphLines$Brush" ({ cls := "GlyphLines$Brush", name := "yOf", desc := "(I)I" } : Jvm.MethodName) ({ cls := "GlyphLines$Brush", name := "yOf", desc := "(I)I" } : Jvm.MethodName) ∈ tw_T := tw_priv 29 (({ cls := "GlyphLines$Brush", name := "yOf", desc := "(I)I" } : Jvm.MethodName), 10) (by decide +kernel) (by decide +kernel)
theorem wp_30 : Cond.selects "GlyphLines$Brush" ({ cls := "GlyphLines$Brush", name := "addToRing", desc := "(IIZ)V" } : Jvm.MethodName) ({ cls := "GlyphLines$Brush", name := "addToRing", desc := "(IIZ)V" } : Jvm.MethodName) ∈ tw_T := tw_priv 30 (({ cls := "GlyphLines$Brush", name := "addToRing", desc := "(IIZ)V" } : Jvm.MethodName), 10) (by decide +kernel) (by decide +kernel)
theorem wp_32 : Cond.selects "GlyphLines$Brush" ({ cls := "GlyphLines$Brush", name := "paintCurve", desc := "(IIIIIII)V" } : Jvm.MethodName) ({ cls := "GlyphLines$Brush", name := "paintCurve", desc := "(IIIIIII)V" } : Jvm.MethodName) ∈ tw_T := tw_priv 32 (({ cls := "GlyphLines$Brush", name := "paintCurve", desc := "(IIIIIII)V" } : Jvm.MethodName), 10) (by decide +kernel) (by decide +kernel)
theorem wp_33 : Cond.selects "GlyphLines$Brush" ({ cls := "GlyphLines$Brush", name := "partCurve", desc := "(IIIIIII)V" } : Jvm.MethodName) ({ cls := "GlyphLines$Brush", name := "partCurve", desc := "(IIIIIII)V" } : Jvm.MethodName) ∈ tw_T := tw_priv 33 (({ cls := "GlyphLines$Brush", name := "partCurve", desc := "(IIIIIII)V" } : Jvm.MethodName), 10) (by decide +kernel) (by decide +kernel)
theorem d_BR_addToRing_0 : decode b_BR_addToRing 0 = .ok (.aload_n 0, 1) := by decide +kernel
theorem d_BR_addToRing_1 : decode b_BR_addToRing 1 = .ok (.getfield 24, 3) := by decide +kernel
theorem d_BR_addToRing_12 : decode b_BR_addToRing 12 = .ok (.aload_n 0, 1) := by decide +kernel
theorem d_BR_addToRing_13 : decode b_BR_addToRing 13 = .ok (.getfield 11, 3) := by decide +kernel
theorem d_BR_addToRing_16 : decode b_BR_addToRing 16 = .ok (.aload_n 0, 1) := by decide +kernel
theorem d_BR_addToRing_17 : decode b_BR_addToRing 17 = .ok (.getfield 24, 3) := by decide +kernel
theorem d_BR_addToRing_20 : decode b_BR_addToRing 20 = .ok (.iload_n 1, 1) := by decide +kernel
theorem d_BR_addToRing_21 : decode b_BR_addToRing 21 = .ok (.iastore, 1) := by decide +kernel
theorem d_BR_addToRing_22 : decode b_BR_addToRing 22 = .ok (.aload_n 0, 1) := by decide +kernel
theorem d_BR_addToRing_23 : decode b_BR_addToRing 23 = .ok (.getfield 17, 3) := by decide +kernel
theorem d_BR_addToRing_26 : decode b_BR_addToRing 26 = .ok (.aload_n 0, 1) := by decide +kernel
theorem d_BR_addToRing_27 : decode b_BR_addToRing 27 = .ok (.getfield 24, 3) := by decide +kernel
theorem d_BR_addToRing_30 : decode b_BR_addToRing 30 = .ok (.iload_n 2, 1) := by decide +kernel
theorem d_BR_addToRing_31 : decode b_BR_addToRing 31 = .ok (.iastore, 1) := by decide +kernel
theorem d_BR_addToRing_32 : decode b_BR_addToRing 32 = .ok (.aload_n 0, 1) := by decide +kernel
theorem d_BR_addToRing_33 : decode b_BR_addToRing 33 = .ok (.getfield 20, 3) := by decide +kernel
theorem d_BR_addToRing_36 : decode b_BR_addToRing 36 = .ok (.aload_n 0, 1) := by decide +kernel
theorem d_BR_addToRing_37 : decode b_BR_addToRing 37 = .ok (.getfield 24, 3) := by decide +kernel
theorem d_BR_addToRing_4 : decode b_BR_addToRing 4 = .ok (.aload_n 0, 1) := by decide +kernel
theorem d_BR_addToRing_40 : decode b_BR_addToRing 40 = .ok (.iload_n 3, 1) := by decide +kernel
theorem d_BR_addToRing_41 : decode b_BR_addToRing 41 = .ok (.bastore, 1) := by decide +kernel
theorem d_BR_addToRing_42 : decode b_BR_addToRing 42 = .ok (.aload_n 0, 1) := by decide +kernel
theorem d_BR_addToRing_43 : decode b_BR_addToRing 43 = .ok (.dup, 1) := by decide +kernel
theorem d_BR_addToRing_44 : decode b_BR_addToRing 44 = .ok (.getfield 24, 3) := by decide +kernel
theorem d_BR_addToRing_47 : decode b_BR_addToRing 47 = .ok (.iconst 1, 1) := by decide +kernel
theorem d_BR_addToRing_48 : decode b_BR_addToRing 48 = .ok (.iadd, 1) := by decide +kernel
theorem d_BR_addToRing_49 : decode b_BR_addToRing 49 = .ok (.putfield 24, 3) := by decide +kernel
theorem d_BR_addToRing_5 : decode b_BR_addToRing 5 = .ok (.getfield 20, 3) := by decide +kernel
theorem d_BR_addToRing_52 : decode b_BR_addToRing 52 = .ok (.return_, 1) := by decide +kernel
theorem d_BR_addToRing_8 : decode b_BR_addToRing 8 = .ok (.arraylength, 1) := by decide +kernel
theorem d_BR_addToRing_9 : decode b_BR_addToRing 9 = .ok (.if_icmp .ge (43), 3) := by decide +kernel
theorem d_BR_begin_0 : decode b_BR_begin 0 = .ok (.aload_n 0, 1) := by decide +kernel
theorem d_BR_begin_1 : decode b_BR_begin 1 = .ok (.aload_n 1, 1) := by decide +kernel
theorem d_BR_begin_10 : decode b_BR_begin 10 = .ok (.putfield 31, 3) := by decide +kernel
theorem d_BR_begin_13 : decode b_BR_begin 13 = .ok (.aload_n 0, 1) := by decide +kernel
theorem d_BR_begin_14 : decode b_BR_begin 14 = .ok (.iconst 0, 1) := by decide +kernel
theorem d_BR_begin_15 : decode b_BR_begin 15 = .ok (.putfield 34, 3) := by decide +kernel
theorem d_BR_begin_18 : decode b_BR_begin 18 = .ok (.aload_n 0, 1) := by decide +kernel
theorem d_BR_begin_19 : decode b_BR_begin 19 = .ok (.iconst (-1), 1) := by decide +kernel
theorem d_BR_begin_2 : decode b_BR_begin 2 = .ok (.getfield 48, 3) := by decide +kernel
theorem d_BR_begin_20 : decode b_BR_begin 20 = .ok (.putfield 37, 3) := by decide +kernel
theorem d_BR_begin_23 : decode b_BR_begin 23 = .ok (.return_, 1) := by decide +kernel
theorem d_BR_begin_5 : decode b_BR_begin 5 = .ok (.putfield 28, 3) := by decide +kernel
theorem d_BR_begin_8 : decode b_BR_begin 8 = .ok (.aload_n 0, 1) := by decide +kernel
theorem d_BR_begin_9 : decode b_BR_begin 9 = .ok (.iload_n 2, 1) := by decide +kernel
theorem d_BR_halfWay_0 : decode b_BR_halfWay 0 = .ok (.iload_n 0, 1) := by decide +kernel
theorem d_BR_halfWay_1 : decode b_BR_halfWay 1 = .ok (.iload_n 1, 1) := by decide +kernel
theorem d_BR_halfWay_2 : decode b_BR_halfWay 2 = .ok (.iadd, 1) := by decide +kernel
theorem d_BR_halfWay_3 : decode b_BR_halfWay 3 = .ok (.iconst 1, 1) := by decide +kernel
theorem d_BR_halfWay_4 : decode b_BR_halfWay 4 = .ok (.ishr, 1) := by decide +kernel
theorem d_BR_halfWay_5 : decode b_BR_halfWay 5 = .ok (.ireturn, 1) := by decide +kernel
theorem d_BR_isFlat_0 : decode b_BR_isFlat 0 = .ok (.iload_n 2, 1) := by decide +kernel
theorem d_BR_isFlat_1 : decode b_BR_isFlat 1 = .ok (.invokestatic 135, 3) := by decide +kernel
theorem d_BR_isFlat_11 : decode b_BR_isFlat 11 = .ok (.istore 4, 2) := by decide +kernel
theorem d_BR_isFlat_13 : decode b_BR_isFlat 13 = .ok (.iload 4, 2) := by decide +kernel
theorem d_BR_isFlat_15 : decode b_BR_isFlat 15 = .ok (.ifCond .ne (25), 3) := by decide +kernel
theorem d_BR_isFlat_18 : decode b_BR_isFlat 18 = .ok (.iload_n 0, 1) := by decide +kernel
theorem d_BR_isFlat_19 : decode b_BR_isFlat 19 = .ok (.invokestatic 135, 3) := by decide +kernel
theorem d_BR_isFlat_22 : decode b_BR_isFlat 22 = .ok (.iconst 4, 1) := by decide +kernel
theorem d_BR_isFlat_23 : decode b_BR_isFlat 23 = .ok (.if_icmp .gt (15), 3) := by decide +kernel
theorem d_BR_isFlat_26 : decode b_BR_isFlat 26 = .ok (.iload_n 1, 1) := by decide +kernel
theorem d_BR_isFlat_27 : decode b_BR_isFlat 27 = .ok (.invokestatic 135, 3) := by decide +kernel
theorem d_BR_isFlat_30 : decode b_BR_isFlat 30 = .ok (.iconst 4, 1) := by decide +kernel
theorem d_BR_isFlat_31 : decode b_BR_isFlat 31 = .ok (.if_icmp .gt (7), 3) := by decide +kernel
theorem d_BR_isFlat_34 : decode b_BR_isFlat 34 = .ok (.iconst 1, 1) := by decide +kernel
theorem d_BR_isFlat_35 : decode b_BR_isFlat 35 = .ok (.goto (4), 3) := by decide +kernel
theorem d_BR_isFlat_38 : decode b_BR_isFlat 38 = .ok (.iconst 0, 1) := by decide +kernel
theorem d_BR_isFlat_39 : decode b_BR_isFlat 39 = .ok (.ireturn, 1) := by decide +kernel
theorem d_BR_isFlat_4 : decode b_BR_isFlat 4 = .ok (.iload_n 3, 1) := by decide +kernel
theorem d_BR_isFlat_40 : decode b_BR_isFlat 40 = .ok (.iload_n 0, 1) := by decide +kernel
theorem d_BR_isFlat_41 : decode b_BR_isFlat 41 = .ok (.i2l, 1) := by decide +kernel
theorem d_BR_isFlat_42 : decode b_BR_isFlat 42 = .ok (.iload_n 3, 1) := by decide +kernel
theorem d_BR_isFlat_43 : decode b_BR_isFlat 43 = .ok (.i2l, 1) := by decide +kernel
theorem d_BR_isFlat_44 : decode b_BR_isFlat 44 = .ok (.lmul, 1) := by decide +kernel
theorem d_BR_isFlat_45 : decode b_BR_isFlat 45 = .ok (.iload_n 1, 1) := by decide +kernel
theorem d_BR_isFlat_46 : decode b_BR_isFlat 46 = .ok (.i2l, 1) := by decide +kernel
theorem d_BR_isFlat_47 : decode b_BR_isFlat 47 = .ok (.iload_n 2, 1) := by decide +kernel
theorem d_BR_isFlat_48 : decode b_BR_isFlat 48 = .ok (.i2l, 1) := by decide +kernel
theorem d_BR_isFlat_49 : decode b_BR_isFlat 49 = .ok (.lmul, 1) := by decide +kernel
theorem d_BR_isFlat_5 : decode b_BR_isFlat 5 = .ok (.invokestatic 135, 3) := by decide +kernel
theorem d_BR_isFlat_50 : decode b_BR_isFlat 50 = .ok (.lsub, 1) := by decide +kernel
theorem d_BR_isFlat_51 : decode b_BR_isFlat 51 = .ok (.invokestatic 141, 3) := by decide +kernel
theorem d_BR_isFlat_54 : decode b_BR_isFlat 54 = .ok (.ldc2_w 144, 3) := by decide +kernel
theorem d_BR_isFlat_57 : decode b_BR_isFlat 57 = .ok (.iload 4, 2) := by decide +kernel
theorem d_BR_isFlat_59 : decode b_BR_isFlat 59 = .ok (.i2l, 1) := by decide +kernel
theorem d_BR_isFlat_60 : decode b_BR_isFlat 60 = .ok (.lmul, 1) := by decide +kernel
theorem d_BR_isFlat_61 : decode b_BR_isFlat 61 = .ok (.lcmp, 1) := by decide +kernel
theorem d_BR_isFlat_62 : decode b_BR_isFlat 62 = .ok (.ifCond .gt (7), 3) := by decide +kernel
theorem d_BR_isFlat_65 : decode b_BR_isFlat 65 = .ok (.iconst 1, 1) := by decide +kernel
theorem d_BR_isFlat_66 : decode b_BR_isFlat 66 = .ok (.goto (4), 3) := by decide +kernel
theorem d_BR_isFlat_69 : decode b_BR_isFlat 69 = .ok (.iconst 0, 1) := by decide +kernel
theorem d_BR_isFlat_70 : decode b_BR_isFlat 70 = .ok (.ireturn, 1) := by decide +kernel
theorem d_BR_isFlat_8 : decode b_BR_isFlat 8 = .ok (.invokestatic 138, 3) := by decide +kernel
theorem d_BR_layRing_0 : decode b_BR_layRing 0 = .ok (.aload_n 0, 1) := by decide +kernel
theorem d_BR_layRing_1 : decode b_BR_layRing 1 = .ok (.iconst 0, 1) := by decide +kernel
theorem d_BR_layRing_102 : decode b_BR_layRing 102 = .ok (.invokestatic 111, 3) := by decide +kernel
theorem d_BR_layRing_105 : decode b_BR_layRing 105 = .ok (.iconst 1, 1) := by decide +kernel
theorem d_BR_layRing_106 : decode b_BR_layRing 106 = .ok (.invokevirtual 107, 3) := by decide +kernel
theorem d_BR_layRing_109 : decode b_BR_layRing 109 = .ok (.iinc 3 (1), 3) := by decide +kernel
theorem d_BR_layRing_112 : decode b_BR_layRing 112 = .ok (.goto (-105), 3) := by decide +kernel
theorem d_BR_layRing_115 : decode b_BR_layRing 115 = .ok (.return_, 1) := by decide +kernel
theorem d_BR_layRing_12 : decode b_BR_layRing 12 = .ok (.iload_n 3, 1) := by decide +kernel
theorem d_BR_layRing_13 : decode b_BR_layRing 13 = .ok (.iconst 1, 1) := by decide +kernel
theorem d_BR_layRing_14 : decode b_BR_layRing 14 = .ok (.iadd, 1) := by decide +kernel
theorem d_BR_layRing_15 : decode b_BR_layRing 15 = .ok (.iload_n 2, 1) := by decide +kernel
theorem d_BR_layRing_16 : decode b_BR_layRing 16 = .ok (.if_icmp .ge (9), 3) := by decide +kernel
theorem d_BR_layRing_19 : decode b_BR_layRing 19 = .ok (.iload_n 3, 1) := by decide +kernel
theorem d_BR_layRing_2 : decode b_BR_layRing 2 = .ok (.putfield 24, 3) := by decide +kernel
theorem d_BR_layRing_20 : decode b_BR_layRing 20 = .ok (.iconst 1, 1) := by decide +kernel
theorem d_BR_layRing_21 : decode b_BR_layRing 21 = .ok (.iadd, 1) := by decide +kernel
theorem d_BR_layRing_22 : decode b_BR_layRing 22 = .ok (.goto (4), 3) := by decide +kernel
theorem d_BR_layRing_25 : decode b_BR_layRing 25 = .ok (.iload_n 1, 1) := by decide +kernel
theorem d_BR_layRing_26 : decode b_BR_layRing 26 = .ok (.istore 4, 2) := by decide +kernel
theorem d_BR_layRing_28 : decode b_BR_layRing 28 = .ok (.aload_n 0, 1) := by decide +kernel
theorem d_BR_layRing_29 : decode b_BR_layRing 29 = .ok (.aload_n 0, 1) := by decide +kernel
theorem d_BR_layRing_30 : decode b_BR_layRing 30 = .ok (.iload_n 3, 1) := by decide +kernel
theorem d_BR_layRing_31 : decode b_BR_layRing 31 = .ok (.invokevirtual 98, 3) := by decide +kernel
theorem d_BR_layRing_34 : decode b_BR_layRing 34 = .ok (.aload_n 0, 1) := by decide +kernel
theorem d_BR_layRing_35 : decode b_BR_layRing 35 = .ok (.iload_n 3, 1) := by decide +kernel
theorem d_BR_layRing_36 : decode b_BR_layRing 36 = .ok (.invokevirtual 101, 3) := by decide +kernel
theorem d_BR_layRing_39 : decode b_BR_layRing 39 = .ok (.aload_n 0, 1) := by decide +kernel
theorem d_BR_layRing_40 : decode b_BR_layRing 40 = .ok (.getfield 44, 3) := by decide +kernel
theorem d_BR_layRing_43 : decode b_BR_layRing 43 = .ok (.getfield 104, 3) := by decide +kernel
theorem d_BR_layRing_46 : decode b_BR_layRing 46 = .ok (.iload_n 3, 1) := by decide +kernel
theorem d_BR_layRing_47 : decode b_BR_layRing 47 = .ok (.baload, 1) := by decide +kernel
theorem d_BR_layRing_48 : decode b_BR_layRing 48 = .ok (.invokevirtual 107, 3) := by decide +kernel
theorem d_BR_layRing_5 : decode b_BR_layRing 5 = .ok (.iload_n 1, 1) := by decide +kernel
theorem d_BR_layRing_51 : decode b_BR_layRing 51 = .ok (.aload_n 0, 1) := by decide +kernel
theorem d_BR_layRing_52 : decode b_BR_layRing 52 = .ok (.getfield 44, 3) := by decide +kernel
theorem d_BR_layRing_55 : decode b_BR_layRing 55 = .ok (.getfield 104, 3) := by decide +kernel
theorem d_BR_layRing_58 : decode b_BR_layRing 58 = .ok (.iload_n 3, 1) := by decide +kernel
theorem d_BR_layRing_59 : decode b_BR_layRing 59 = .ok (.baload, 1) := by decide +kernel
theorem d_BR_layRing_6 : decode b_BR_layRing 6 = .ok (.istore_n 3, 1) := by decide +kernel
theorem d_BR_layRing_60 : decode b_BR_layRing 60 = .ok (.ifCond .ne (49), 3) := by decide +kernel
theorem d_BR_layRing_63 : decode b_BR_layRing 63 = .ok (.aload_n 0, 1) := by decide +kernel
theorem d_BR_layRing_64 : decode b_BR_layRing 64 = .ok (.getfield 44, 3) := by decide +kernel
theorem d_BR_layRing_67 : decode b_BR_layRing 67 = .ok (.getfield 104, 3) := by decide +kernel
theorem d_BR_layRing_7 : decode b_BR_layRing 7 = .ok (.iload_n 3, 1) := by decide +kernel
theorem d_BR_layRing_70 : decode b_BR_layRing 70 = .ok (.iload 4, 2) := by decide +kernel
theorem d_BR_layRing_72 : decode b_BR_layRing 72 = .ok (.baload, 1) := by decide +kernel
theorem d_BR_layRing_73 : decode b_BR_layRing 73 = .ok (.ifCond .ne (36), 3) := by decide +kernel
theorem d_BR_layRing_76 : decode b_BR_layRing 76 = .ok (.aload_n 0, 1) := by decide +kernel
theorem d_BR_layRing_77 : decode b_BR_layRing 77 = .ok (.aload_n 0, 1) := by decide +kernel
theorem d_BR_layRing_78 : decode b_BR_layRing 78 = .ok (.iload_n 3, 1) := by decide +kernel
theorem d_BR_layRing_79 : decode b_BR_layRing 79 = .ok (.invokevirtual 98, 3) := by decide +kernel
theorem d_BR_layRing_8 : decode b_BR_layRing 8 = .ok (.iload_n 2, 1) := by decide +kernel
theorem d_BR_layRing_82 : decode b_BR_layRing 82 = .ok (.aload_n 0, 1) := by decide +kernel
theorem d_BR_layRing_83 : decode b_BR_layRing 83 = .ok (.iload 4, 2) := by decide +kernel
theorem d_BR_layRing_85 : decode b_BR_layRing 85 = .ok (.invokevirtual 98, 3) := by decide +kernel
theorem d_BR_layRing_88 : decode b_BR_layRing 88 = .ok (.invokestatic 111, 3) := by decide +kernel
theorem d_BR_layRing_9 : decode b_BR_layRing 9 = .ok (.if_icmp .ge (106), 3) := by decide +kernel
theorem d_BR_layRing_91 : decode b_BR_layRing 91 = .ok (.aload_n 0, 1) := by decide +kernel
theorem d_BR_layRing_92 : decode b_BR_layRing 92 = .ok (.iload_n 3, 1) := by decide +kernel
theorem d_BR_layRing_93 : decode b_BR_layRing 93 = .ok (.invokevirtual 101, 3) := by decide +kernel
theorem d_BR_layRing_96 : decode b_BR_layRing 96 = .ok (.aload_n 0, 1) := by decide +kernel
theorem d_BR_layRing_97 : decode b_BR_layRing 97 = .ok (.iload 4, 2) := by decide +kernel
theorem d_BR_layRing_99 : decode b_BR_layRing 99 = .ok (.invokevirtual 101, 3) := by decide +kernel
theorem d_BR_paintCurve_0 : decode b_BR_paintCurve 0 = .ok (.iload 7, 2) := by decide +kernel
theorem d_BR_paintCurve_10 : decode b_BR_paintCurve 10 = .ok (.iload 4, 2) := by decide +kernel
theorem d_BR_paintCurve_12 : decode b_BR_paintCurve 12 = .ok (.iload_n 2, 1) := by decide +kernel
theorem d_BR_paintCurve_13 : decode b_BR_paintCurve 13 = .ok (.isub, 1) := by decide +kernel
theorem d_BR_paintCurve_14 : decode b_BR_paintCurve 14 = .ok (.iload 5, 2) := by decide +kernel
theorem d_BR_paintCurve_16 : decode b_BR_paintCurve 16 = .ok (.iload_n 1, 1) := by decide +kernel
theorem d_BR_paintCurve_17 : decode b_BR_paintCurve 17 = .ok (.isub, 1) := by decide +kernel
theorem d_BR_paintCurve_18 : decode b_BR_paintCurve 18 = .ok (.iload 6, 2) := by decide +kernel
theorem d_BR_paintCurve_2 : decode b_BR_paintCurve 2 = .ok (.bipush 6, 2) := by decide +kernel
theorem d_BR_paintCurve_20 : decode b_BR_paintCurve 20 = .ok (.iload_n 2, 1) := by decide +kernel
theorem d_BR_paintCurve_21 : decode b_BR_paintCurve 21 = .ok (.isub, 1) := by decide +kernel
theorem d_BR_paintCurve_22 : decode b_BR_paintCurve 22 = .ok (.invokestatic 128, 3) := by decide +kernel
theorem d_BR_paintCurve_25 : decode b_BR_paintCurve 25 = .ok (.ifCond .eq (19), 3) := by decide +kernel
theorem d_BR_paintCurve_28 : decode b_BR_paintCurve 28 = .ok (.aload_n 0, 1) := by decide +kernel
theorem d_BR_paintCurve_29 : decode b_BR_paintCurve 29 = .ok (.getfield 40, 3) := by decide +kernel
theorem d_BR_paintCurve_32 : decode b_BR_paintCurve 32 = .ok (.iload_n 1, 1) := by decide +kernel
theorem d_BR_paintCurve_33 : decode b_BR_paintCurve 33 = .ok (.iload_n 2, 1) := by decide +kernel
theorem d_BR_paintCurve_34 : decode b_BR_paintCurve 34 = .ok (.iload 5, 2) := by decide +kernel
theorem d_BR_paintCurve_36 : decode b_BR_paintCurve 36 = .ok (.iload 6, 2) := by decide +kernel
theorem d_BR_paintCurve_38 : decode b_BR_paintCurve 38 = .ok (.invokevirtual 120, 3) := by decide +kernel
theorem d_BR_paintCurve_4 : decode b_BR_paintCurve 4 = .ok (.if_icmp .ge (24), 3) := by decide +kernel
theorem d_BR_paintCurve_41 : decode b_BR_paintCurve 41 = .ok (.goto (20), 3) := by decide +kernel
theorem d_BR_paintCurve_44 : decode b_BR_paintCurve 44 = .ok (.aload_n 0, 1) := by decide +kernel
theorem d_BR_paintCurve_45 : decode b_BR_paintCurve 45 = .ok (.iload_n 1, 1) := by decide +kernel
theorem d_BR_paintCurve_46 : decode b_BR_paintCurve 46 = .ok (.iload_n 2, 1) := by decide +kernel
theorem d_BR_paintCurve_47 : decode b_BR_paintCurve 47 = .ok (.iload_n 3, 1) := by decide +kernel
theorem d_BR_paintCurve_48 : decode b_BR_paintCurve 48 = .ok (.iload 4, 2) := by decide +kernel
theorem d_BR_paintCurve_50 : decode b_BR_paintCurve 50 = .ok (.iload 5, 2) := by decide +kernel
theorem d_BR_paintCurve_52 : decode b_BR_paintCurve 52 = .ok (.iload 6, 2) := by decide +kernel
theorem d_BR_paintCurve_54 : decode b_BR_paintCurve 54 = .ok (.iload 7, 2) := by decide +kernel
theorem d_BR_paintCurve_56 : decode b_BR_paintCurve 56 = .ok (.iconst 1, 1) := by decide +kernel
theorem d_BR_paintCurve_57 : decode b_BR_paintCurve 57 = .ok (.iadd, 1) := by decide +kernel
theorem d_BR_paintCurve_58 : decode b_BR_paintCurve 58 = .ok (.invokevirtual 132, 3) := by decide +kernel
theorem d_BR_paintCurve_61 : decode b_BR_paintCurve 61 = .ok (.return_, 1) := by decide +kernel
theorem d_BR_paintCurve_7 : decode b_BR_paintCurve 7 = .ok (.iload_n 3, 1) := by decide +kernel
theorem d_BR_paintCurve_8 : decode b_BR_paintCurve 8 = .ok (.iload_n 1, 1) := by decide +kernel
theorem d_BR_paintCurve_9 : decode b_BR_paintCurve 9 = .ok (.isub, 1) := by decide +kernel
theorem d_BR_partCurve_0 : decode b_BR_partCurve 0 = .ok (.iload_n 1, 1) := by decide +kernel
theorem d_BR_partCurve_1 : decode b_BR_partCurve 1 = .ok (.iload_n 3, 1) := by decide +kernel
theorem d_BR_partCurve_10 : decode b_BR_partCurve 10 = .ok (.invokestatic 111, 3) := by decide +kernel
theorem d_BR_partCurve_13 : decode b_BR_partCurve 13 = .ok (.istore 9, 2) := by decide +kernel
theorem d_BR_partCurve_15 : decode b_BR_partCurve 15 = .ok (.iload_n 3, 1) := by decide +kernel
theorem d_BR_partCurve_16 : decode b_BR_partCurve 16 = .ok (.iload 5, 2) := by decide +kernel
theorem d_BR_partCurve_18 : decode b_BR_partCurve 18 = .ok (.invokestatic 111, 3) := by decide +kernel
theorem d_BR_partCurve_2 : decode b_BR_partCurve 2 = .ok (.invokestatic 111, 3) := by decide +kernel
theorem d_BR_partCurve_21 : decode b_BR_partCurve 21 = .ok (.istore 10, 2) := by decide +kernel
theorem d_BR_partCurve_23 : decode b_BR_partCurve 23 = .ok (.iload 4, 2) := by decide +kernel
theorem d_BR_partCurve_25 : decode b_BR_partCurve 25 = .ok (.iload 6, 2) := by decide +kernel
theorem d_BR_partCurve_27 : decode b_BR_partCurve 27 = .ok (.invokestatic 111, 3) := by decide +kernel
theorem d_BR_partCurve_30 : decode b_BR_partCurve 30 = .ok (.istore 11, 2) := by decide +kernel
theorem d_BR_partCurve_32 : decode b_BR_partCurve 32 = .ok (.iload 8, 2) := by decide +kernel
theorem d_BR_partCurve_34 : decode b_BR_partCurve 34 = .ok (.iload 10, 2) := by decide +kernel
theorem d_BR_partCurve_36 : decode b_BR_partCurve 36 = .ok (.invokestatic 111, 3) := by decide +kernel
theorem d_BR_partCurve_39 : decode b_BR_partCurve 39 = .ok (.istore 12, 2) := by decide +kernel
theorem d_BR_partCurve_41 : decode b_BR_partCurve 41 = .ok (.iload 9, 2) := by decide +kernel
theorem d_BR_partCurve_43 : decode b_BR_partCurve 43 = .ok (.iload 11, 2) := by decide +kernel
theorem d_BR_partCurve_45 : decode b_BR_partCurve 45 = .ok (.invokestatic 111, 3) := by decide +kernel
theorem d_BR_partCurve_48 : decode b_BR_partCurve 48 = .ok (.istore 13, 2) := by decide +kernel
theorem d_BR_partCurve_5 : decode b_BR_partCurve 5 = .ok (.istore 8, 2) := by decide +kernel
theorem d_BR_partCurve_50 : decode b_BR_partCurve 50 = .ok (.aload_n 0, 1) := by decide +kernel
theorem d_BR_partCurve_51 : decode b_BR_partCurve 51 = .ok (.iload_n 1, 1) := by decide +kernel
theorem d_BR_partCurve_52 : decode b_BR_partCurve 52 = .ok (.iload_n 2, 1) := by decide +kernel
theorem d_BR_partCurve_53 : decode b_BR_partCurve 53 = .ok (.iload 8, 2) := by decide +kernel
theorem d_BR_partCurve_55 : decode b_BR_partCurve 55 = .ok (.iload 9, 2) := by decide +kernel
theorem d_BR_partCurve_57 : decode b_BR_partCurve 57 = .ok (.iload 12, 2) := by decide +kernel
theorem d_BR_partCurve_59 : decode b_BR_partCurve 59 = .ok (.iload 13, 2) := by decide +kernel
theorem d_BR_partCurve_61 : decode b_BR_partCurve 61 = .ok (.iload 7, 2) := by decide +kernel
theorem d_BR_partCurve_63 : decode b_BR_partCurve 63 = .ok (.invokevirtual 124, 3) := by decide +kernel
theorem d_BR_partCurve_66 : decode b_BR_partCurve 66 = .ok (.aload_n 0, 1) := by decide +kernel
theorem d_BR_partCurve_67 : decode b_BR_partCurve 67 = .ok (.iload 12, 2) := by decide +kernel
theorem d_BR_partCurve_69 : decode b_BR_partCurve 69 = .ok (.iload 13, 2) := by decide +kernel
theorem d_BR_partCurve_7 : decode b_BR_partCurve 7 = .ok (.iload_n 2, 1) := by decide +kernel
theorem d_BR_partCurve_71 : decode b_BR_partCurve 71 = .ok (.iload 10, 2) := by decide +kernel
theorem d_BR_partCurve_73 : decode b_BR_partCurve 73 = .ok (.iload 11, 2) := by decide +kernel
theorem d_BR_partCurve_75 : decode b_BR_partCurve 75 = .ok (.iload 5, 2) := by decide +kernel
theorem d_BR_partCurve_77 : decode b_BR_partCurve 77 = .ok (.iload 6, 2) := by decide +kernel
theorem d_BR_partCurve_79 : decode b_BR_partCurve 79 = .ok (.iload 7, 2) := by decide +kernel
theorem d_BR_partCurve_8 : decode b_BR_partCurve 8 = .ok (.iload 4, 2) := by decide +kernel
theorem d_BR_partCurve_81 : decode b_BR_partCurve 81 = .ok (.invokevirtual 124, 3) := by decide +kernel
theorem d_BR_partCurve_84 : decode b_BR_partCurve 84 = .ok (.return_, 1) := by decide +kernel
theorem d_BR_scaled_0 : decode b_BR_scaled 0 = .ok (.aload_n 0, 1) := by decide +kernel
theorem d_BR_scaled_1 : decode b_BR_scaled 1 = .ok (.getfield 28, 3) := by decide +kernel
theorem d_BR_scaled_12 : decode b_BR_scaled 12 = .ok (.sipush 128, 3) := by decide +kernel
theorem d_BR_scaled_15 : decode b_BR_scaled 15 = .ok (.iload_n 1, 1) := by decide +kernel
theorem d_BR_scaled_16 : decode b_BR_scaled 16 = .ok (.imul, 1) := by decide +kernel
theorem d_BR_scaled_17 : decode b_BR_scaled 17 = .ok (.aload_n 0, 1) := by decide +kernel
theorem d_BR_scaled_18 : decode b_BR_scaled 18 = .ok (.getfield 31, 3) := by decide +kernel
theorem d_BR_scaled_21 : decode b_BR_scaled 21 = .ok (.imul, 1) := by decide +kernel
theorem d_BR_scaled_22 : decode b_BR_scaled 22 = .ok (.aload_n 0, 1) := by decide +kernel
theorem d_BR_scaled_23 : decode b_BR_scaled 23 = .ok (.getfield 28, 3) := by decide +kernel
theorem d_BR_scaled_26 : decode b_BR_scaled 26 = .ok (.iadd, 1) := by decide +kernel
theorem d_BR_scaled_27 : decode b_BR_scaled 27 = .ok (.iconst 2, 1) := by decide +kernel
theorem d_BR_scaled_28 : decode b_BR_scaled 28 = .ok (.aload_n 0, 1) := by decide +kernel
theorem d_BR_scaled_29 : decode b_BR_scaled 29 = .ok (.getfield 28, 3) := by decide +kernel
theorem d_BR_scaled_32 : decode b_BR_scaled 32 = .ok (.imul, 1) := by decide +kernel
theorem d_BR_scaled_33 : decode b_BR_scaled 33 = .ok (.invokestatic 72, 3) := by decide +kernel
theorem d_BR_scaled_36 : decode b_BR_scaled 36 = .ok (.ireturn, 1) := by decide +kernel
theorem d_BR_scaled_4 : decode b_BR_scaled 4 = .ok (.iconst 1, 1) := by decide +kernel
theorem d_BR_scaled_5 : decode b_BR_scaled 5 = .ok (.if_icmp .ge (7), 3) := by decide +kernel
theorem d_BR_scaled_8 : decode b_BR_scaled 8 = .ok (.iconst 0, 1) := by decide +kernel
theorem d_BR_scaled_9 : decode b_BR_scaled 9 = .ok (.goto (27), 3) := by decide +kernel
theorem d_BR_xOf_0 : decode b_BR_xOf 0 = .ok (.aload_n 0, 1) := by decide +kernel
theorem d_BR_xOf_1 : decode b_BR_xOf 1 = .ok (.aload_n 0, 1) := by decide +kernel
theorem d_BR_xOf_10 : decode b_BR_xOf 10 = .ok (.invokevirtual 59, 3) := by decide +kernel
theorem d_BR_xOf_13 : decode b_BR_xOf 13 = .ok (.aload_n 0, 1) := by decide +kernel
theorem d_BR_xOf_14 : decode b_BR_xOf 14 = .ok (.getfield 34, 3) := by decide +kernel
theorem d_BR_xOf_17 : decode b_BR_xOf 17 = .ok (.iadd, 1) := by decide +kernel
theorem d_BR_xOf_18 : decode b_BR_xOf 18 = .ok (.ireturn, 1) := by decide +kernel
theorem d_BR_xOf_2 : decode b_BR_xOf 2 = .ok (.getfield 44, 3) := by decide +kernel
theorem d_BR_xOf_5 : decode b_BR_xOf 5 = .ok (.getfield 114, 3) := by decide +kernel
theorem d_BR_xOf_8 : decode b_BR_xOf 8 = .ok (.iload_n 1, 1) := by decide +kernel
theorem d_BR_xOf_9 : decode b_BR_xOf 9 = .ok (.iaload, 1) := by decide +kernel
theorem d_BR_yOf_0 : decode b_BR_yOf 0 = .ok (.aload_n 0, 1) := by decide +kernel
theorem d_BR_yOf_1 : decode b_BR_yOf 1 = .ok (.aload_n 0, 1) := by decide +kernel
theorem d_BR_yOf_10 : decode b_BR_yOf 10 = .ok (.invokevirtual 59, 3) := by decide +kernel
theorem d_BR_yOf_13 : decode b_BR_yOf 13 = .ok (.ireturn, 1) := by decide +kernel
theorem d_BR_yOf_2 : decode b_BR_yOf 2 = .ok (.getfield 44, 3) := by decide +kernel
theorem d_BR_yOf_5 : decode b_BR_yOf 5 = .ok (.getfield 117, 3) := by decide +kernel
theorem d_BR_yOf_8 : decode b_BR_yOf 8 = .ok (.iload_n 1, 1) := by decide +kernel
theorem d_BR_yOf_9 : decode b_BR_yOf 9 = .ok (.iaload, 1) := by decide +kernel
set_option maxHeartbeats 4000000 in
set_option maxRecDepth 100000 in
/-- GlyphLines$Brush.halfWay -/
theorem g_BR_halfWay (l : Launch) (dC : Nat → ClassId) (dI : Nat → Nat → Nat) (x : Int32) (y : Int32) (sz : Nat) : Met l y_BR_halfWay s_BR_halfWay ({ frames := 8, cells := 0, slots := 0, locals := 200 }) (va_Pc [.int x, .int y] (fun U => U.heap.size = sz ∧ va_P (dC, dI) cls_ [] U.heap ∧ va_K (dC, dI) cls_ [] U ∧ va_D (fun _ => True) [])) (va_Qi (fun (r : Int32) (_ : Unit) => True) (fun (_ : Unit) (t : State) => True) (va_A [] sz)) 0 0 (va_A [] sz) := by
  refine Met.ofW (cc := b_BR_halfWay) (maxL := 2) (ret := (some .int)) (by decide) rfl ?_
  intro p e s m args below meth c s₁ B hml hv
  obtain ⟨rfl, hsz, hP, hK, hD0⟩ := hv
  have hx := B.exec
  have hb := B.bytes
  have hr := B.returns
  have hts := atoms_spec (ws := s_BR_halfWay) B.pre
  have hown : s.vm.findClass R_BR = some m.cls := findClass_of_methodNamed B.named
  have hlocks := B.notSynchronized
  subst hsz
  have hD := hD0.self (sz := s.heap.size)
  generalize hAe : va_A [] s.heap.size = A at hD ⊢
  have hA : ∀ q : Nat, s.heap.size ≤ q → A q := fun q h => by rw [← hAe]; exact Or.inr h
  have hS : va_S A s.heap s.heap [] := va_S.rf
  have hP : va_P (dC, dI) cls_ [] s.heap := hP
  have hl := lv_entry ([.int x, .int y]) (n := 2) (Nat.le_of_ble_eq_true rfl)
  rw [lg_entry_eq]
  generalize (lg_sl ([.int x, .int y]) ++ List.replicate (2 - (lg_sl ([.int x, .int y])).length) Slot.unset).toArray = ls at hl ⊢
  have hl : lv_has ls 2 [(0, .int x), (1, .int y)] := hl
  refine lv_iload_n hx hb d_BR_halfWay_0 rfl (lv_at hl 0 rfl) ?_
  refine lv_iload_n hx hb d_BR_halfWay_1 rfl (lv_at hl 1 rfl) ?_
  refine lv_iadd hx hb d_BR_halfWay_2 ?_
  refine lv_topi (fun v4899 ev4899 => ?_)
  refine lv_iconst (v := 1) hx hb d_BR_halfWay_3 (by decide) ?_
  refine lv_ishr hx hb d_BR_halfWay_4 ?_
  refine lv_topi (fun v4900 ev4900 => ?_)
  refine W.widen (k := 0) (n := 0) (Nat.le_of_ble_eq_true rfl) (Nat.le_of_ble_eq_true rfl) ?_
  exact W.iret (v := v4900) hx hb hr (fun t ht hW => ⟨⟨v4900, (), rfl, trivial, trivial⟩, hS.F ht⟩) hS.2.2 d_BR_halfWay_5
set_option maxHeartbeats 4000000 in
set_option maxRecDepth 100000 in
/-- GlyphLines$Brush.isFlat -/
theorem g_BR_isFlat (l : Launch) (dC : Nat → ClassId) (dI : Nat → Nat → Nat) (xa : Int32) (ya : Int32) (xb : Int32) (yb : Int32) (sz : Nat) : Met l y_BR_isFlat s_BR_isFlat ({ frames := 10, cells := 0, slots := 0, locals := 300 }) (va_Pc [.int xa, .int ya, .int xb, .int yb] (fun U => U.heap.size = sz ∧ va_P (dC, dI) cls_ [] U.heap ∧ va_K (dC, dI) cls_ [] U ∧ va_D (fun _ => True) [])) (va_Qi (fun (r : Int32) (_ : Unit) => ∃ b9 : Bool, r = bI b9) (fun (_ : Unit) (t : State) => True) (va_A [] sz)) 0 0 (va_A [] sz) := by
  refine Met.ofW (cc := b_BR_isFlat) (maxL := 5) (ret := (some .boolean)) (by decide) rfl ?_
  intro p e s m args below meth c s₁ B hml hv
  obtain ⟨rfl, hsz, hP, hK, hD0⟩ := hv
  have hx := B.exec
  have hb := B.bytes
  have hr := B.returns
  have hts := atoms_spec (ws := s_BR_isFlat) B.pre
  have hown : s.vm.findClass R_BR = some m.cls := findClass_of_methodNamed B.named
  have hlocks := B.notSynchronized
  subst hsz
  have hD := hD0.self (sz := s.heap.size)
  generalize hAe : va_A [] s.heap.size = A at hD ⊢
  have hA : ∀ q : Nat, s.heap.size ≤ q → A q := fun q h => by rw [← hAe]; exact Or.inr h
  have hS : va_S A s.heap s.heap [] := va_S.rf
  have hP : va_P (dC, dI) cls_ [] s.heap := hP
  have hl := lv_entry ([.int xa, .int ya, .int xb, .int yb]) (n := 5) (Nat.le_of_ble_eq_true rfl)
  rw [lg_entry_eq]
  generalize (lg_sl ([.int xa, .int ya, .int xb, .int yb]) ++ List.replicate (5 - (lg_sl ([.int xa, .int ya, .int xb, .int yb])).length) Slot.unset).toArray = ls at hl ⊢
  have hl : lv_has ls 5 [(0, .int xa), (1, .int ya), (2, .int xb), (3, .int yb)] := hl
  refine lv_iload_n hx hb d_BR_isFlat_0 rfl (lv_at hl 2 rfl) ?_
  have hPc := hP.sub (ws' := []) [] rfl
  have hDc := hD.sub (ws' := []) [] (by decide) rfl
  have hKc := hK.sub (tys' := []) [] rfl
  have hFc := va_free (wc := []) hD hS hA [] rfl
  refine va_calli (va_runS (As := [.int xb]) (rest := []) ⟨hx, hb, hml, hown, hts⟩ (g_JM_absI l dC dI xb s.heap.size) ⟨callB_of 1 hts (tw_in w_823) rfl rfl rfl (hts _ (List.mem_cons_of_mem _ w_17)) (hts _ (List.mem_cons_of_mem _ w_821)) (by decide +kernel) ⟨Nat.le_of_ble_eq_true rfl, Nat.le_of_ble_eq_true rfl⟩, (hts _ (List.mem_cons_of_mem _ w_822))⟩ ⟨fun a U g mk q => by obtain ⟨q0, q1, qP, qK, qD⟩ := q; exact ⟨q0, q1, qP, va_K.moved (u := U) (U := U.calling g mk a) (Vm.Alike.refl U.vm) qK, qD⟩, fun U hU hW => ⟨rfl, by rw [hU], by rw [hU]; exact hPc, va_K.moved hW.alike hKc, hDc.weaken (fun _ _ _ _ => trivial)⟩⟩ rfl rfl hl.1 rfl (lv_room (Nat.le_of_ble_eq_true rfl)) d_BR_isFlat_1 ⟨Nat.le_of_ble_eq_true rfl, Nat.le_of_ble_eq_true rfl⟩) hS (fun q _ h => hFc q h) hFc (fun r4901 u t H1 locs ht hvm hw hB hz1 hk1 hS => ?_)
  have hP1 : va_P (dC, dI) cls_ [] H1 := fun k q h => by simp at h
  have hD1 : va_D (va_A [] s.heap.size) [] := ⟨fun i j p q h => by simp at h, fun k q h => by simp at h⟩
  obtain ⟨hP, hD⟩ := va_join (wr := []) (w1 := []) hP hD [] [] rfl rfl (by decide) (by decide) hk1 hFc hP1 hD1
  generalize H1 = H at hP hS ⊢
  have hP : va_P (dC, dI) cls_ [] H := hP
  have hD : va_D A [] := hD
  have hw_r4901 := hw
  refine lv_iload_n hx hb d_BR_isFlat_4 rfl (lv_at hl 3 rfl) ?_
  have hPc := hP.sub (ws' := []) [] rfl
  have hDc := hD.sub (ws' := []) [] (by decide) rfl
  have hKc := hK.sub (tys' := []) [] rfl
  have hFc := va_free (wc := []) hD hS hA [] rfl
  refine va_calli (va_runS (As := [.int yb]) (rest := [.int r4901]) ⟨hx, hb, hml, hown, hts⟩ (g_JM_absI l dC dI yb H.size) ⟨callB_of 1 hts (tw_in w_823) rfl rfl rfl (hts _ (List.mem_cons_of_mem _ w_17)) (hts _ (List.mem_cons_of_mem _ w_821)) (by decide +kernel) ⟨Nat.le_of_ble_eq_true rfl, Nat.le_of_ble_eq_true rfl⟩, (hts _ (List.mem_cons_of_mem _ w_822))⟩ ⟨fun a U g mk q => by obtain ⟨q0, q1, qP, qK, qD⟩ := q; exact ⟨q0, q1, qP, va_K.moved (u := U) (U := U.calling g mk a) (Vm.Alike.refl U.vm) qK, qD⟩, fun U hU hW => ⟨rfl, by rw [hU], by rw [hU]; exact hPc, va_K.moved hW.alike hKc, hDc.weaken (fun _ _ _ _ => trivial)⟩⟩ rfl rfl hl.1 rfl (lv_room (Nat.le_of_ble_eq_true rfl)) d_BR_isFlat_5 ⟨Nat.le_of_ble_eq_true rfl, Nat.le_of_ble_eq_true rfl⟩) hS (fun q _ h => hFc q h) hFc (fun r4902 u t H1 locs ht hvm hw hB hz1 hk1 hS => ?_)
  have hP1 : va_P (dC, dI) cls_ [] H1 := fun k q h => by simp at h
  have hD1 : va_D (va_A [] H.size) [] := ⟨fun i j p q h => by simp at h, fun k q h => by simp at h⟩
  obtain ⟨hP, hD⟩ := va_join (wr := []) (w1 := []) hP hD [] [] rfl rfl (by decide) (by decide) hk1 hFc hP1 hD1
  generalize H1 = H at hP hS ⊢
  have hP : va_P (dC, dI) cls_ [] H := hP
  have hD : va_D A [] := hD
  have hw_r4902 := hw
  refine va_mmax hx hb (by rw [hml]; exact hl.1.symm) hown (hts _ (List.mem_cons_of_mem _ w_824)) (hts _ (List.mem_cons_of_mem _ w_350)) (hts _ (List.mem_cons_of_mem _ w_17)) (hts _ (List.mem_cons_of_mem _ w_351)) (Nat.le_of_ble_eq_true rfl) (Nat.le_of_ble_eq_true rfl) (Nat.le_of_ble_eq_true rfl) (Nat.le_of_ble_eq_true rfl) d_BR_isFlat_8 ?_
  refine lv_istore (lv' := [(4, .int (if r4901 < r4902 then r4902 else r4901)), (0, .int xa), (1, .int ya), (2, .int xb), (3, .int yb)]) hx hb d_BR_isFlat_11 hl (by decide) rfl (fun ls hl => ?_)
  refine lv_iload hx hb d_BR_isFlat_13 (lv_at hl 0 rfl) ?_
  refine lv_if_ne (tgt := 40) hx hb d_BR_isFlat_15 (by decide) (fun hc4903 => ?_) (fun hc4903 => ?_)
  · skip
    refine lv_iload_n hx hb d_BR_isFlat_40 rfl (lv_at hl 1 rfl) ?_
    refine lv_i2l (v := xa.toInt64) hx hb d_BR_isFlat_41 (by first | rfl | decide +kernel) ?_
    refine lv_iload_n hx hb d_BR_isFlat_42 rfl (lv_at hl 4 rfl) ?_
    refine lv_i2l (v := yb.toInt64) hx hb d_BR_isFlat_43 (by first | rfl | decide +kernel) ?_
    refine lv_lmul hx hb d_BR_isFlat_44 ?_
    refine lv_topl (fun v4904 ev4904 => ?_)
    refine lv_iload_n hx hb d_BR_isFlat_45 rfl (lv_at hl 2 rfl) ?_
    refine lv_i2l (v := ya.toInt64) hx hb d_BR_isFlat_46 (by first | rfl | decide +kernel) ?_
    refine lv_iload_n hx hb d_BR_isFlat_47 rfl (lv_at hl 3 rfl) ?_
    refine lv_i2l (v := xb.toInt64) hx hb d_BR_isFlat_48 (by first | rfl | decide +kernel) ?_
    refine lv_lmul hx hb d_BR_isFlat_49 ?_
    refine lv_topl (fun v4905 ev4905 => ?_)
    refine lv_lsub hx hb d_BR_isFlat_50 ?_
    refine lv_topl (fun v4906 ev4906 => ?_)
    have hPc := hP.sub (ws' := []) [] rfl
    have hDc := hD.sub (ws' := []) [] (by decide) rfl
    have hKc := hK.sub (tys' := []) [] rfl
    have hFc := va_free (wc := []) hD hS hA [] rfl
    refine va_calll (va_runS (As := [.long v4906]) (rest := []) ⟨hx, hb, hml, hown, hts⟩ (g_JM_absJ l dC dI v4906 H.size) ⟨callB_of 1 hts (tw_in w_827) rfl rfl rfl (hts _ (List.mem_cons_of_mem _ w_17)) (hts _ (List.mem_cons_of_mem _ w_825)) (by decide +kernel) ⟨Nat.le_of_ble_eq_true rfl, Nat.le_of_ble_eq_true rfl⟩, (hts _ (List.mem_cons_of_mem _ w_826))⟩ ⟨fun a U g mk q => by obtain ⟨q0, q1, qP, qK, qD⟩ := q; exact ⟨q0, q1, qP, va_K.moved (u := U) (U := U.calling g mk a) (Vm.Alike.refl U.vm) qK, qD⟩, fun U hU hW => ⟨rfl, by rw [hU], by rw [hU]; exact hPc, va_K.moved hW.alike hKc, hDc.weaken (fun _ _ _ _ => trivial)⟩⟩ rfl rfl hl.1 rfl (lv_room (Nat.le_of_ble_eq_true rfl)) d_BR_isFlat_51 ⟨Nat.le_of_ble_eq_true rfl, Nat.le_of_ble_eq_true rfl⟩) hS (fun q _ h => hFc q h) hFc (fun r4907 u t H1 locs ht hvm hw hB hz1 hk1 hS => ?_)
    have hP1 : va_P (dC, dI) cls_ [] H1 := fun k q h => by simp at h
    have hD1 : va_D (va_A [] H.size) [] := ⟨fun i j p q h => by simp at h, fun k q h => by simp at h⟩
    obtain ⟨hP, hD⟩ := va_join (wr := []) (w1 := []) hP hD [] [] rfl rfl (by decide) (by decide) hk1 hFc hP1 hD1
    generalize H1 = H at hP hS ⊢
    have hP : va_P (dC, dI) cls_ [] H := hP
    have hD : va_D A [] := hD
    have hw_r4907 := hw
    refine lv_ldc2 (v := 4) hx hb hown (hts _ (List.mem_cons_of_mem _ w_828)) d_BR_isFlat_54 ?_
    refine lv_iload hx hb d_BR_isFlat_57 (lv_at hl 0 rfl) ?_
    refine lv_i2l (v := (if r4901 < r4902 then r4902 else r4901).toInt64) hx hb d_BR_isFlat_59 (by first | rfl | decide +kernel) ?_
    refine lv_lmul hx hb d_BR_isFlat_60 ?_
    refine lv_topl (fun v4908 ev4908 => ?_)
    refine W.lcmp hx hb d_BR_isFlat_61 ?_
    refine lv_topi (fun v4909 ev4909 => ?_)
    refine lv_if_gt (tgt := 69) hx hb d_BR_isFlat_62 (by decide) (fun hc4910 => ?_) (fun hc4910 => ?_)
    · skip
      refine lv_iconst (v := 0) hx hb d_BR_isFlat_69 (by decide) ?_
      refine W.widen (k := 0) (n := 0) (Nat.le_of_ble_eq_true rfl) (Nat.le_of_ble_eq_true rfl) ?_
      exact W.zret (v := 0) (ty := .boolean) hx hb hr (by decide +kernel) (fun t ht hW => ⟨⟨0, (), rfl, ⟨false, rfl⟩, trivial⟩, hS.F ht⟩) hS.2.2 d_BR_isFlat_70
    · skip
      refine lv_iconst (v := 1) hx hb d_BR_isFlat_65 (by decide) ?_
      refine lv_goto (tgt := 70) hx hb d_BR_isFlat_66 (by decide) ?_
      refine W.widen (k := 0) (n := 0) (Nat.le_of_ble_eq_true rfl) (Nat.le_of_ble_eq_true rfl) ?_
      exact W.zret (v := 1) (ty := .boolean) hx hb hr (by decide +kernel) (fun t ht hW => ⟨⟨1, (), rfl, ⟨true, rfl⟩, trivial⟩, hS.F ht⟩) hS.2.2 d_BR_isFlat_70
  · skip
    refine lv_iload_n hx hb d_BR_isFlat_18 rfl (lv_at hl 1 rfl) ?_
    have hPc := hP.sub (ws' := []) [] rfl
    have hDc := hD.sub (ws' := []) [] (by decide) rfl
    have hKc := hK.sub (tys' := []) [] rfl
    have hFc := va_free (wc := []) hD hS hA [] rfl
    refine va_calli (va_runS (As := [.int xa]) (rest := []) ⟨hx, hb, hml, hown, hts⟩ (g_JM_absI l dC dI xa H.size) ⟨callB_of 1 hts (tw_in w_823) rfl rfl rfl (hts _ (List.mem_cons_of_mem _ w_17)) (hts _ (List.mem_cons_of_mem _ w_821)) (by decide +kernel) ⟨Nat.le_of_ble_eq_true rfl, Nat.le_of_ble_eq_true rfl⟩, (hts _ (List.mem_cons_of_mem _ w_822))⟩ ⟨fun a U g mk q => by obtain ⟨q0, q1, qP, qK, qD⟩ := q; exact ⟨q0, q1, qP, va_K.moved (u := U) (U := U.calling g mk a) (Vm.Alike.refl U.vm) qK, qD⟩, fun U hU hW => ⟨rfl, by rw [hU], by rw [hU]; exact hPc, va_K.moved hW.alike hKc, hDc.weaken (fun _ _ _ _ => trivial)⟩⟩ rfl rfl hl.1 rfl (lv_room (Nat.le_of_ble_eq_true rfl)) d_BR_isFlat_19 ⟨Nat.le_of_ble_eq_true rfl, Nat.le_of_ble_eq_true rfl⟩) hS (fun q _ h => hFc q h) hFc (fun r4911 u t H1 locs ht hvm hw hB hz1 hk1 hS => ?_)
    have hP1 : va_P (dC, dI) cls_ [] H1 := fun k q h => by simp at h
    have hD1 : va_D (va_A [] H.size) [] := ⟨fun i j p q h => by simp at h, fun k q h => by simp at h⟩
    obtain ⟨hP, hD⟩ := va_join (wr := []) (w1 := []) hP hD [] [] rfl rfl (by decide) (by decide) hk1 hFc hP1 hD1
    generalize H1 = H at hP hS ⊢
    have hP : va_P (dC, dI) cls_ [] H := hP
    have hD : va_D A [] := hD
    have hw_r4911 := hw
    refine lv_iconst (v := 4) hx hb d_BR_isFlat_22 (by decide) ?_
    refine lv_icmp_gt (tgt := 38) hx hb d_BR_isFlat_23 (by decide) (fun hc4912 => ?_) (fun hc4912 => ?_)
    · skip
      refine lv_iconst (v := 0) hx hb d_BR_isFlat_38 (by decide) ?_
      refine W.widen (k := 0) (n := 0) (Nat.le_of_ble_eq_true rfl) (Nat.le_of_ble_eq_true rfl) ?_
      exact W.zret (v := 0) (ty := .boolean) hx hb hr (by decide +kernel) (fun t ht hW => ⟨⟨0, (), rfl, ⟨false, rfl⟩, trivial⟩, hS.F ht⟩) hS.2.2 d_BR_isFlat_39
    · skip
      refine lv_iload_n hx hb d_BR_isFlat_26 rfl (lv_at hl 2 rfl) ?_
      have hPc := hP.sub (ws' := []) [] rfl
      have hDc := hD.sub (ws' := []) [] (by decide) rfl
      have hKc := hK.sub (tys' := []) [] rfl
      have hFc := va_free (wc := []) hD hS hA [] rfl
      refine va_calli (va_runS (As := [.int ya]) (rest := []) ⟨hx, hb, hml, hown, hts⟩ (g_JM_absI l dC dI ya H.size) ⟨callB_of 1 hts (tw_in w_823) rfl rfl rfl (hts _ (List.mem_cons_of_mem _ w_17)) (hts _ (List.mem_cons_of_mem _ w_821)) (by decide +kernel) ⟨Nat.le_of_ble_eq_true rfl, Nat.le_of_ble_eq_true rfl⟩, (hts _ (List.mem_cons_of_mem _ w_822))⟩ ⟨fun a U g mk q => by obtain ⟨q0, q1, qP, qK, qD⟩ := q; exact ⟨q0, q1, qP, va_K.moved (u := U) (U := U.calling g mk a) (Vm.Alike.refl U.vm) qK, qD⟩, fun U hU hW => ⟨rfl, by rw [hU], by rw [hU]; exact hPc, va_K.moved hW.alike hKc, hDc.weaken (fun _ _ _ _ => trivial)⟩⟩ rfl rfl hl.1 rfl (lv_room (Nat.le_of_ble_eq_true rfl)) d_BR_isFlat_27 ⟨Nat.le_of_ble_eq_true rfl, Nat.le_of_ble_eq_true rfl⟩) hS (fun q _ h => hFc q h) hFc (fun r4913 u t H1 locs ht hvm hw hB hz1 hk1 hS => ?_)
      have hP1 : va_P (dC, dI) cls_ [] H1 := fun k q h => by simp at h
      have hD1 : va_D (va_A [] H.size) [] := ⟨fun i j p q h => by simp at h, fun k q h => by simp at h⟩
      obtain ⟨hP, hD⟩ := va_join (wr := []) (w1 := []) hP hD [] [] rfl rfl (by decide) (by decide) hk1 hFc hP1 hD1
      generalize H1 = H at hP hS ⊢
      have hP : va_P (dC, dI) cls_ [] H := hP
      have hD : va_D A [] := hD
      have hw_r4913 := hw
      refine lv_iconst (v := 4) hx hb d_BR_isFlat_30 (by decide) ?_
      refine lv_icmp_gt (tgt := 38) hx hb d_BR_isFlat_31 (by decide) (fun hc4914 => ?_) (fun hc4914 => ?_)
      · skip
        refine lv_iconst (v := 0) hx hb d_BR_isFlat_38 (by decide) ?_
        refine W.widen (k := 0) (n := 0) (Nat.le_of_ble_eq_true rfl) (Nat.le_of_ble_eq_true rfl) ?_
        exact W.zret (v := 0) (ty := .boolean) hx hb hr (by decide +kernel) (fun t ht hW => ⟨⟨0, (), rfl, ⟨false, rfl⟩, trivial⟩, hS.F ht⟩) hS.2.2 d_BR_isFlat_39
      · skip
        refine lv_iconst (v := 1) hx hb d_BR_isFlat_34 (by decide) ?_
        refine lv_goto (tgt := 39) hx hb d_BR_isFlat_35 (by decide) ?_
        refine W.widen (k := 0) (n := 0) (Nat.le_of_ble_eq_true rfl) (Nat.le_of_ble_eq_true rfl) ?_
        exact W.zret (v := 1) (ty := .boolean) hx hb hr (by decide +kernel) (fun t ht hW => ⟨⟨1, (), rfl, ⟨true, rfl⟩, trivial⟩, hS.F ht⟩) hS.2.2 d_BR_isFlat_39
set_option maxHeartbeats 4000000 in
set_option maxRecDepth 100000 in
/-- GlyphLines$Brush.begin -/
theorem g_BR_begin (l : Launch) (dC : Nat → ClassId) (dI : Nat → Nat → Nat) (h0 : Nat) (ki : Nat) (ko : Nat) (rx : Nat) (ry : Nat) (rn : Nat) (rs : Nat) (be : Nat) (pp : Int32) (pe : Int32) (gb : Int32) (qf : Nat) (qa : Nat) (kr : Nat) (k1 : Nat) (k2 : Nat) (k3 : Nat) (k4 : Nat) (k5 : Nat) (k6 : Nat) (km : Nat) (kp : Nat) (kD : Nat) (ee : Nat) (gl : Nat) (wd : Nat) (il : Bool) (np : Int32) (sz : Nat) (hq0 : rs ≤ 48) (hq1 : be < 65536) (hq2 : ee < 65536) (hq3 : gl < 65536) (hq4 : wd < 65536) : Met l y_BR_begin s_BR_begin ({ frames := 8, cells := 0, slots := 0, locals := 200 }) (va_Pc [.ref h0, .ref qf, .int np] (fun U => U.heap.size = sz ∧ va_P (dC, dI) cls_ [(h0, .inr (8, [.ref ki, .ref ko, .ref rx, .ref ry, .ref rn, .int (nI (rs)), .int (nI (be)), .int pp, .int pe, .int gb])), (qf, .inr (4, [.ref qa, .ref kr, .ref k1, .ref k2, .ref k3, .ref k4, .ref k5, .ref k6, .ref km, .ref kp, .ref kD, .int (nI (ee)), .int (nI (gl)), .int (nI (wd)), .int (bI il)]))] U.heap ∧ va_K (dC, dI) cls_ [] U ∧ va_D (fun _ => True) [(h0, .inr (8, [.ref ki, .ref ko, .ref rx, .ref ry, .ref rn, .int (nI (rs)), .int (nI (be)), .int pp, .int pe, .int gb])), (qf, .inr (4, [.ref qa, .ref kr, .ref k1, .ref k2, .ref k3, .ref k4, .ref k5, .ref k6, .ref km, .ref kp, .ref kD, .int (nI (ee)), .int (nI (gl)), .int (nI (wd)), .int (bI il)]))] ∧ nests U)) (va_Qv (fun _ : Unit => True) (fun (_ : Unit) (t : State) => ∃ (be_2 : Nat) (pp_2 : Int32) (pe_2 : Int32) (gb_2 : Int32), be_2 < 65536 ∧ va_P (dC, dI) cls_ [(h0, .inr (8, [.ref ki, .ref ko, .ref rx, .ref ry, .ref rn, .int (nI (rs)), .int (nI (be_2)), .int pp_2, .int pe_2, .int gb_2])), (qf, .inr (4, [.ref qa, .ref kr, .ref k1, .ref k2, .ref k3, .ref k4, .ref k5, .ref k6, .ref km, .ref kp, .ref kD, .int (nI (ee)), .int (nI (gl)), .int (nI (wd)), .int (bI il)]))] t.heap ∧ va_K (dC, dI) cls_ [] t ∧ va_D (va_A [(h0, .inr (8, [.ref ki, .ref ko, .ref rx, .ref ry, .ref rn, .int (nI (rs)), .int (nI (be)), .int pp, .int pe, .int gb])), (qf, .inr (4, [.ref qa, .ref kr, .ref k1, .ref k2, .ref k3, .ref k4, .ref k5, .ref k6, .ref km, .ref kp, .ref kD, .int (nI (ee)), .int (nI (gl)), .int (nI (wd)), .int (bI il)]))] sz) [(h0, .inr (8, [.ref ki, .ref ko, .ref rx, .ref ry, .ref rn, .int (nI (rs)), .int (nI (be_2)), .int pp_2, .int pe_2, .int gb_2])), (qf, .inr (4, [.ref qa, .ref kr, .ref k1, .ref k2, .ref k3, .ref k4, .ref k5, .ref k6, .ref km, .ref kp, .ref kD, .int (nI (ee)), .int (nI (gl)), .int (nI (wd)), .int (bI il)]))]) (va_A [(h0, .inr (8, [.ref ki, .ref ko, .ref rx, .ref ry, .ref rn, .int (nI (rs)), .int (nI (be)), .int pp, .int pe, .int gb])), (qf, .inr (4, [.ref qa, .ref kr, .ref k1, .ref k2, .ref k3, .ref k4, .ref k5, .ref k6, .ref km, .ref kp, .ref kD, .int (nI (ee)), .int (nI (gl)), .int (nI (wd)), .int (bI il)]))] sz)) 0 0 (va_A [(h0, .inr (8, [.ref ki, .ref ko, .ref rx, .ref ry, .ref rn, .int (nI (rs)), .int (nI (be)), .int pp, .int pe, .int gb])), (qf, .inr (4, [.ref qa, .ref kr, .ref k1, .ref k2, .ref k3, .ref k4, .ref k5, .ref k6, .ref km, .ref kp, .ref kD, .int (nI (ee)), .int (nI (gl)), .int (nI (wd)), .int (bI il)]))] sz) := by
  refine Met.ofW (cc := b_BR_begin) (maxL := 3) (ret := none) (by decide) rfl ?_
  intro p e s m args below meth c s₁ B hml hv
  obtain ⟨rfl, hsz, hP, hK, hD0, hNs⟩ := hv
  have hx := B.exec
  have hb := B.bytes
  have hr := B.returns
  have hts := atoms_spec (ws := s_BR_begin) B.pre
  have hown : s.vm.findClass R_BR = some m.cls := findClass_of_methodNamed B.named
  have hlocks := B.notSynchronized
  subst hsz
  have hD := hD0.self (sz := s.heap.size)
  generalize hAe : va_A [(h0, .inr (8, [.ref ki, .ref ko, .ref rx, .ref ry, .ref rn, .int (nI (rs)), .int (nI (be)), .int pp, .int pe, .int gb])), (qf, .inr (4, [.ref qa, .ref kr, .ref k1, .ref k2, .ref k3, .ref k4, .ref k5, .ref k6, .ref km, .ref kp, .ref kD, .int (nI (ee)), .int (nI (gl)), .int (nI (wd)), .int (bI il)]))] s.heap.size = A at hD ⊢
  have hA : ∀ q : Nat, s.heap.size ≤ q → A q := fun q h => by rw [← hAe]; exact Or.inr h
  have hS : va_S A s.heap s.heap [] := va_S.rf
  have hP : va_P (dC, dI) cls_ [(h0, .inr (8, [.ref ki, .ref ko, .ref rx, .ref ry, .ref rn, .int (nI (rs)), .int (nI (be)), .int pp, .int pe, .int gb])), (qf, .inr (4, [.ref qa, .ref kr, .ref k1, .ref k2, .ref k3, .ref k4, .ref k5, .ref k6, .ref km, .ref kp, .ref kD, .int (nI (ee)), .int (nI (gl)), .int (nI (wd)), .int (bI il)]))] s.heap := hP
  have hl := lv_entry ([.ref h0, .ref qf, .int np]) (n := 3) (Nat.le_of_ble_eq_true rfl)
  rw [lg_entry_eq]
  generalize (lg_sl ([.ref h0, .ref qf, .int np]) ++ List.replicate (3 - (lg_sl ([.ref h0, .ref qf, .int np])).length) Slot.unset).toArray = ls at hl ⊢
  have hl : lv_has ls 3 [(0, .ref h0), (1, .ref qf), (2, .int np)] := hl
  refine lv_aload_n hx hb d_BR_begin_0 rfl (lv_at hl 0 rfl) ?_
  refine lv_aload_n hx hb d_BR_begin_1 rfl (lv_at hl 1 rfl) ?_
  refine va_getN (D := (dC, dI)) (ci := 4) (v := .int (nI (ee))) (C := R_FO) (T := F_FO) (N := 15) (host := "GlyphLines") hx hb hts in_FO hown hK hP 1 rfl rfl 11 (by decide) (va_Nw.use rfl (nest_9 hNs)) (fun _ h9 => h9) rfl d_BR_begin_2 ?_
  refine va_put (D := (dC, dI)) (ci := 8) (v := .int (nI (ee))) (ty := .int) (C := R_BR) (T := F_BR) (N := 10) hx hb hts in_BR t_BR t_BR_ok n_BR hown hK hP hD hS 0 rfl rfl 6 (by decide) (hts _ (List.mem_cons_of_mem _ w_261)) (fun _ h9 => h9) rfl  (by decide +kernel) rfl rfl (Nat.le_of_ble_eq_true rfl) d_BR_begin_5 (fun H locs hP hD hS => ?_)
  have hP : va_P (dC, dI) cls_ [(h0, .inr (8, [.ref ki, .ref ko, .ref rx, .ref ry, .ref rn, .int (nI (rs)), .int (nI (ee)), .int pp, .int pe, .int gb])), (qf, .inr (4, [.ref qa, .ref kr, .ref k1, .ref k2, .ref k3, .ref k4, .ref k5, .ref k6, .ref km, .ref kp, .ref kD, .int (nI (ee)), .int (nI (gl)), .int (nI (wd)), .int (bI il)]))] H := hP
  have hD : va_D A [(h0, .inr (8, [.ref ki, .ref ko, .ref rx, .ref ry, .ref rn, .int (nI (rs)), .int (nI (ee)), .int pp, .int pe, .int gb])), (qf, .inr (4, [.ref qa, .ref kr, .ref k1, .ref k2, .ref k3, .ref k4, .ref k5, .ref k6, .ref km, .ref kp, .ref kD, .int (nI (ee)), .int (nI (gl)), .int (nI (wd)), .int (bI il)]))] := hD
  refine lv_aload_n hx hb d_BR_begin_8 rfl (lv_at hl 0 rfl) ?_
  refine lv_iload_n hx hb d_BR_begin_9 rfl (lv_at hl 2 rfl) ?_
  refine va_put (D := (dC, dI)) (ci := 8) (v := .int np) (ty := .int) (C := R_BR) (T := F_BR) (N := 10) hx hb hts in_BR t_BR t_BR_ok n_BR hown hK hP hD hS 0 rfl rfl 7 (by decide) (hts _ (List.mem_cons_of_mem _ w_262)) (fun _ h9 => h9) rfl  (by decide +kernel) rfl rfl (Nat.le_of_ble_eq_true rfl) d_BR_begin_10 (fun H locs hP hD hS => ?_)
  have hP : va_P (dC, dI) cls_ [(h0, .inr (8, [.ref ki, .ref ko, .ref rx, .ref ry, .ref rn, .int (nI (rs)), .int (nI (ee)), .int np, .int pe, .int gb])), (qf, .inr (4, [.ref qa, .ref kr, .ref k1, .ref k2, .ref k3, .ref k4, .ref k5, .ref k6, .ref km, .ref kp, .ref kD, .int (nI (ee)), .int (nI (gl)), .int (nI (wd)), .int (bI il)]))] H := hP
  have hD : va_D A [(h0, .inr (8, [.ref ki, .ref ko, .ref rx, .ref ry, .ref rn, .int (nI (rs)), .int (nI (ee)), .int np, .int pe, .int gb])), (qf, .inr (4, [.ref qa, .ref kr, .ref k1, .ref k2, .ref k3, .ref k4, .ref k5, .ref k6, .ref km, .ref kp, .ref kD, .int (nI (ee)), .int (nI (gl)), .int (nI (wd)), .int (bI il)]))] := hD
  refine lv_aload_n hx hb d_BR_begin_13 rfl (lv_at hl 0 rfl) ?_
  refine lv_iconst (v := 0) hx hb d_BR_begin_14 (by decide) ?_
  refine va_put (D := (dC, dI)) (ci := 8) (v := .int 0) (ty := .int) (C := R_BR) (T := F_BR) (N := 10) hx hb hts in_BR t_BR t_BR_ok n_BR hown hK hP hD hS 0 rfl rfl 8 (by decide) (hts _ (List.mem_cons_of_mem _ w_263)) (fun _ h9 => h9) rfl  (by decide +kernel) rfl rfl (Nat.le_of_ble_eq_true rfl) d_BR_begin_15 (fun H locs hP hD hS => ?_)
  have hP : va_P (dC, dI) cls_ [(h0, .inr (8, [.ref ki, .ref ko, .ref rx, .ref ry, .ref rn, .int (nI (rs)), .int (nI (ee)), .int np, .int 0, .int gb])), (qf, .inr (4, [.ref qa, .ref kr, .ref k1, .ref k2, .ref k3, .ref k4, .ref k5, .ref k6, .ref km, .ref kp, .ref kD, .int (nI (ee)), .int (nI (gl)), .int (nI (wd)), .int (bI il)]))] H := hP
  have hD : va_D A [(h0, .inr (8, [.ref ki, .ref ko, .ref rx, .ref ry, .ref rn, .int (nI (rs)), .int (nI (ee)), .int np, .int 0, .int gb])), (qf, .inr (4, [.ref qa, .ref kr, .ref k1, .ref k2, .ref k3, .ref k4, .ref k5, .ref k6, .ref km, .ref kp, .ref kD, .int (nI (ee)), .int (nI (gl)), .int (nI (wd)), .int (bI il)]))] := hD
  refine lv_aload_n hx hb d_BR_begin_18 rfl (lv_at hl 0 rfl) ?_
  refine lv_iconst (v := (-1)) hx hb d_BR_begin_19 (by decide) ?_
  refine va_put (D := (dC, dI)) (ci := 8) (v := .int ((-1))) (ty := .int) (C := R_BR) (T := F_BR) (N := 10) hx hb hts in_BR t_BR t_BR_ok n_BR hown hK hP hD hS 0 rfl rfl 9 (by decide) (hts _ (List.mem_cons_of_mem _ w_265)) (fun _ h9 => h9) rfl  (by decide +kernel) rfl rfl (Nat.le_of_ble_eq_true rfl) d_BR_begin_20 (fun H locs hP hD hS => ?_)
  have hP : va_P (dC, dI) cls_ [(h0, .inr (8, [.ref ki, .ref ko, .ref rx, .ref ry, .ref rn, .int (nI (rs)), .int (nI (ee)), .int np, .int 0, .int ((-1))])), (qf, .inr (4, [.ref qa, .ref kr, .ref k1, .ref k2, .ref k3, .ref k4, .ref k5, .ref k6, .ref km, .ref kp, .ref kD, .int (nI (ee)), .int (nI (gl)), .int (nI (wd)), .int (bI il)]))] H := hP
  have hD : va_D A [(h0, .inr (8, [.ref ki, .ref ko, .ref rx, .ref ry, .ref rn, .int (nI (rs)), .int (nI (ee)), .int np, .int 0, .int ((-1))])), (qf, .inr (4, [.ref qa, .ref kr, .ref k1, .ref k2, .ref k3, .ref k4, .ref k5, .ref k6, .ref km, .ref kp, .ref kD, .int (nI (ee)), .int (nI (gl)), .int (nI (wd)), .int (bI il)]))] := hD
  refine W.widen (k := 0) (n := 0) (Nat.le_of_ble_eq_true rfl) (Nat.le_of_ble_eq_true rfl) ?_
  have hP9 := hP.sub (ws' := [(h0, .inr (8, [.ref ki, .ref ko, .ref rx, .ref ry, .ref rn, .int (nI (rs)), .int (nI (ee)), .int np, .int 0, .int ((-1))])), (qf, .inr (4, [.ref qa, .ref kr, .ref k1, .ref k2, .ref k3, .ref k4, .ref k5, .ref k6, .ref km, .ref kp, .ref kD, .int (nI (ee)), .int (nI (gl)), .int (nI (wd)), .int (bI il)]))]) [0, 1] rfl
  have hD9 := hD.sub (ws' := [(h0, .inr (8, [.ref ki, .ref ko, .ref rx, .ref ry, .ref rn, .int (nI (rs)), .int (nI (ee)), .int np, .int 0, .int ((-1))])), (qf, .inr (4, [.ref qa, .ref kr, .ref k1, .ref k2, .ref k3, .ref k4, .ref k5, .ref k6, .ref km, .ref kp, .ref kD, .int (nI (ee)), .int (nI (gl)), .int (nI (wd)), .int (bI il)]))]) [0, 1] (by decide) rfl
  have hK9 := hK.sub (tys' := []) [] rfl
  exact W.vret hx hb hr (fun t ht hW => ⟨⟨(), rfl, trivial, ee, np, 0, ((-1)), by omega, by rw [ht]; exact hP9, va_K.moved hW.alike hK9, hD9⟩, hS.F ht⟩) hS.2.2 d_BR_begin_23
set_option maxHeartbeats 4000000 in
set_option maxRecDepth 100000 in
/-- GlyphLines$Brush.scaled -/
theorem g_BR_scaled (l : Launch) (dC : Nat → ClassId) (dI : Nat → Nat → Nat) (h0 : Nat) (ki : Nat) (ko : Nat) (rx : Nat) (ry : Nat) (rn : Nat) (rs : Nat) (be : Nat) (pp : Int32) (pe : Int32) (gb : Int32) (v0 : Int32) (sz : Nat) (hq0 : rs ≤ 48) (hq1 : be < 65536) : Met l y_BR_scaled s_BR_scaled ({ frames := 10, cells := 0, slots := 0, locals := 300 }) (va_Pc [.ref h0, .int v0] (fun U => U.heap.size = sz ∧ va_P (dC, dI) cls_ [(h0, .inr (8, [.ref ki, .ref ko, .ref rx, .ref ry, .ref rn, .int (nI (rs)), .int (nI (be)), .int pp, .int pe, .int gb]))] U.heap ∧ va_K (dC, dI) cls_ [] U ∧ va_D (fun _ => True) [(h0, .inr (8, [.ref ki, .ref ko, .ref rx, .ref ry, .ref rn, .int (nI (rs)), .int (nI (be)), .int pp, .int pe, .int gb]))])) (va_Qi (fun (r : Int32) (_ : Unit) => True) (fun (_ : Unit) (t : State) => va_P (dC, dI) cls_ [(h0, .inr (8, [.ref ki, .ref ko, .ref rx, .ref ry, .ref rn, .int (nI (rs)), .int (nI (be)), .int pp, .int pe, .int gb]))] t.heap ∧ va_K (dC, dI) cls_ [] t ∧ va_D (va_A [(h0, .inr (8, [.ref ki, .ref ko, .ref rx, .ref ry, .ref rn, .int (nI (rs)), .int (nI (be)), .int pp, .int pe, .int gb]))] sz) [(h0, .inr (8, [.ref ki, .ref ko, .ref rx, .ref ry, .ref rn, .int (nI (rs)), .int (nI (be)), .int pp, .int pe, .int gb]))]) (va_A [(h0, .inr (8, [.ref ki, .ref ko, .ref rx, .ref ry, .ref rn, .int (nI (rs)), .int (nI (be)), .int pp, .int pe, .int gb]))] sz)) 0 0 (va_A [(h0, .inr (8, [.ref ki, .ref ko, .ref rx, .ref ry, .ref rn, .int (nI (rs)), .int (nI (be)), .int pp, .int pe, .int gb]))] sz) := by
  refine Met.ofW (cc := b_BR_scaled) (maxL := 2) (ret := (some .int)) (by decide) rfl ?_
  intro p e s m args below meth c s₁ B hml hv
  obtain ⟨rfl, hsz, hP, hK, hD0⟩ := hv
  have hx := B.exec
  have hb := B.bytes
  have hr := B.returns
  have hts := atoms_spec (ws := s_BR_scaled) B.pre
  have hown : s.vm.findClass R_BR = some m.cls := findClass_of_methodNamed B.named
  have hlocks := B.notSynchronized
  subst hsz
  have hD := hD0.self (sz := s.heap.size)
  generalize hAe : va_A [(h0, .inr (8, [.ref ki, .ref ko, .ref rx, .ref ry, .ref rn, .int (nI (rs)), .int (nI (be)), .int pp, .int pe, .int gb]))] s.heap.size = A at hD ⊢
  have hA : ∀ q : Nat, s.heap.size ≤ q → A q := fun q h => by rw [← hAe]; exact Or.inr h
  have hS : va_S A s.heap s.heap [] := va_S.rf
  have hP : va_P (dC, dI) cls_ [(h0, .inr (8, [.ref ki, .ref ko, .ref rx, .ref ry, .ref rn, .int (nI (rs)), .int (nI (be)), .int pp, .int pe, .int gb]))] s.heap := hP
  have hl := lv_entry ([.ref h0, .int v0]) (n := 2) (Nat.le_of_ble_eq_true rfl)
  rw [lg_entry_eq]
  generalize (lg_sl ([.ref h0, .int v0]) ++ List.replicate (2 - (lg_sl ([.ref h0, .int v0])).length) Slot.unset).toArray = ls at hl ⊢
  have hl : lv_has ls 2 [(0, .ref h0), (1, .int v0)] := hl
  refine lv_aload_n hx hb d_BR_scaled_0 rfl (lv_at hl 0 rfl) ?_
  refine va_get (D := (dC, dI)) (ci := 8) (v := .int (nI (be))) (C := R_BR) (T := F_BR) (N := 10) hx hb hts in_BR hown hK hP 0 rfl rfl 6 (by decide) (hts _ (List.mem_cons_of_mem _ w_261)) (fun _ h9 => h9) rfl d_BR_scaled_1 ?_
  refine lv_iconst (v := 1) hx hb d_BR_scaled_4 (by decide) ?_
  refine lv_icmp_ge (tgt := 12) hx hb d_BR_scaled_5 (by decide) (fun hc4915 => ?_) (fun hc4915 => ?_)
  · skip
    have hc4915n : 1 ≤ be := (nI_leI (a := 1) (b := be) (by omega) (by omega)).mp hc4915
    refine lv_sipush (v := 128) hx hb d_BR_scaled_12 (by decide) ?_
    refine lv_iload_n hx hb d_BR_scaled_15 rfl (lv_at hl 1 rfl) ?_
    refine lv_imul hx hb d_BR_scaled_16 ?_
    refine lv_topi (fun v4916 ev4916 => ?_)
    refine lv_aload_n hx hb d_BR_scaled_17 rfl (lv_at hl 0 rfl) ?_
    refine va_get (D := (dC, dI)) (ci := 8) (v := .int pp) (C := R_BR) (T := F_BR) (N := 10) hx hb hts in_BR hown hK hP 0 rfl rfl 7 (by decide) (hts _ (List.mem_cons_of_mem _ w_262)) (fun _ h9 => h9) rfl d_BR_scaled_18 ?_
    refine lv_imul hx hb d_BR_scaled_21 ?_
    refine lv_topi (fun v4917 ev4917 => ?_)
    refine lv_aload_n hx hb d_BR_scaled_22 rfl (lv_at hl 0 rfl) ?_
    refine va_get (D := (dC, dI)) (ci := 8) (v := .int (nI (be))) (C := R_BR) (T := F_BR) (N := 10) hx hb hts in_BR hown hK hP 0 rfl rfl 6 (by decide) (hts _ (List.mem_cons_of_mem _ w_261)) (fun _ h9 => h9) rfl d_BR_scaled_23 ?_
    refine lv_iadd hx hb d_BR_scaled_26 ?_
    refine lv_topi (fun v4918 ev4918 => ?_)
    refine lv_iconst (v := 2) hx hb d_BR_scaled_27 (by decide) ?_
    refine lv_aload_n hx hb d_BR_scaled_28 rfl (lv_at hl 0 rfl) ?_
    refine va_get (D := (dC, dI)) (ci := 8) (v := .int (nI (be))) (C := R_BR) (T := F_BR) (N := 10) hx hb hts in_BR hown hK hP 0 rfl rfl 6 (by decide) (hts _ (List.mem_cons_of_mem _ w_261)) (fun _ h9 => h9) rfl d_BR_scaled_29 ?_
    refine lv_imul hx hb d_BR_scaled_32 ?_
    refine lv_ci (y := nI (2 * be)) (pk_mul (2) (be)) ?_
    have hNZ : ¬ nI (2 * be) = 0 := nI_ne0 (by omega) (by omega)
    have hPc := hP.sub (ws' := []) [] rfl
    have hDc := hD.sub (ws' := []) [] (by decide) rfl
    have hKc := hK.sub (tys' := []) [] rfl
    have hFc := va_free (wc := []) hD hS hA [] rfl
    refine va_calli (va_runS (As := [.int v4918, .int (nI (2 * be))]) (rest := []) ⟨hx, hb, hml, hown, hts⟩ (g_JM_floorDivII l dC dI v4918 (nI (2 * be)) s.heap.size (by assumption)) ⟨callB_of 2 hts (tw_in w_765) rfl rfl rfl (hts _ (List.mem_cons_of_mem _ w_17)) (hts _ (List.mem_cons_of_mem _ w_763)) (by decide +kernel) ⟨Nat.le_of_ble_eq_true rfl, Nat.le_of_ble_eq_true rfl⟩, (hts _ (List.mem_cons_of_mem _ w_764))⟩ ⟨fun a U g mk q => by obtain ⟨q0, q1, qP, qK, qD⟩ := q; exact ⟨q0, q1, qP, va_K.moved (u := U) (U := U.calling g mk a) (Vm.Alike.refl U.vm) qK, qD⟩, fun U hU hW => ⟨rfl, by rw [hU], by rw [hU]; exact hPc, va_K.moved hW.alike hKc, hDc.weaken (fun _ _ _ _ => trivial)⟩⟩ rfl rfl hl.1 rfl (lv_room (Nat.le_of_ble_eq_true rfl)) d_BR_scaled_33 ⟨Nat.le_of_ble_eq_true rfl, Nat.le_of_ble_eq_true rfl⟩) hS (fun q _ h => hFc q h) hFc (fun r4919 u t H1 locs ht hvm hw hB hz1 hk1 hS => ?_)
    have hP1 : va_P (dC, dI) cls_ [] H1 := fun k q h => by simp at h
    have hD1 : va_D (va_A [] s.heap.size) [] := ⟨fun i j p q h => by simp at h, fun k q h => by simp at h⟩
    obtain ⟨hP, hD⟩ := va_join (wr := [(h0, .inr (8, [.ref ki, .ref ko, .ref rx, .ref ry, .ref rn, .int (nI (rs)), .int (nI (be)), .int pp, .int pe, .int gb]))]) (w1 := []) hP hD [] [0] rfl rfl (by decide) (by decide) hk1 hFc hP1 hD1
    generalize H1 = H at hP hS ⊢
    have hP : va_P (dC, dI) cls_ [(h0, .inr (8, [.ref ki, .ref ko, .ref rx, .ref ry, .ref rn, .int (nI (rs)), .int (nI (be)), .int pp, .int pe, .int gb]))] H := hP
    have hD : va_D A [(h0, .inr (8, [.ref ki, .ref ko, .ref rx, .ref ry, .ref rn, .int (nI (rs)), .int (nI (be)), .int pp, .int pe, .int gb]))] := hD
    have hw_r4919 := hw
    refine W.widen (k := 0) (n := 0) (Nat.le_of_ble_eq_true rfl) (Nat.le_of_ble_eq_true rfl) ?_
    have hP9 := hP.sub (ws' := [(h0, .inr (8, [.ref ki, .ref ko, .ref rx, .ref ry, .ref rn, .int (nI (rs)), .int (nI (be)), .int pp, .int pe, .int gb]))]) [0] rfl
    have hD9 := hD.sub (ws' := [(h0, .inr (8, [.ref ki, .ref ko, .ref rx, .ref ry, .ref rn, .int (nI (rs)), .int (nI (be)), .int pp, .int pe, .int gb]))]) [0] (by decide) rfl
    have hK9 := hK.sub (tys' := []) [] rfl
    exact W.iret (v := r4919) hx hb hr (fun t ht hW => ⟨⟨r4919, (), rfl, trivial, by rw [ht]; exact hP9, va_K.moved hW.alike hK9, hD9⟩, hS.F ht⟩) hS.2.2 d_BR_scaled_36
  · skip
    have hc4915n : ¬ (1 ≤ be) := fun z => hc4915 ((nI_leI (a := 1) (b := be) (by omega) (by omega)).mpr z)
    refine lv_iconst (v := 0) hx hb d_BR_scaled_8 (by decide) ?_
    refine lv_goto (tgt := 36) hx hb d_BR_scaled_9 (by decide) ?_
    refine W.widen (k := 0) (n := 0) (Nat.le_of_ble_eq_true rfl) (Nat.le_of_ble_eq_true rfl) ?_
    have hP9 := hP.sub (ws' := [(h0, .inr (8, [.ref ki, .ref ko, .ref rx, .ref ry, .ref rn, .int (nI (rs)), .int (nI (be)), .int pp, .int pe, .int gb]))]) [0] rfl
    have hD9 := hD.sub (ws' := [(h0, .inr (8, [.ref ki, .ref ko, .ref rx, .ref ry, .ref rn, .int (nI (rs)), .int (nI (be)), .int pp, .int pe, .int gb]))]) [0] (by decide) rfl
    have hK9 := hK.sub (tys' := []) [] rfl
    exact W.iret (v := 0) hx hb hr (fun t ht hW => ⟨⟨0, (), rfl, trivial, by rw [ht]; exact hP9, va_K.moved hW.alike hK9, hD9⟩, hS.F ht⟩) hS.2.2 d_BR_scaled_36
set_option maxHeartbeats 4000000 in
set_option maxRecDepth 100000 in
/-- GlyphLines$Brush.xOf -/
theorem g_BR_xOf (l : Launch) (dC : Nat → ClassId) (dI : Nat → Nat → Nat) (h0 : Nat) (ki : Nat) (ko : Nat) (rx : Nat) (ry : Nat) (rn : Nat) (rs : Nat) (be : Nat) (pp : Int32) (pe : Int32) (gb : Int32) (qx : Nat) (qy : Nat) (qo : Nat) (qc : Nat) (qg : Nat) (qm : Nat) (p0 : Nat) (ct : Int32) (cX : ClassId) (fx : Nat → Int32) (ix : Nat) (sz : Nat) (hq0 : rs ≤ 48) (hq1 : be < 65536) (hq2 : p0 ≤ 64) (hq3 : ix < 64) : Met l y_BR_xOf s_BR_xOf ({ frames := 12, cells := 0, slots := 0, locals := 400 }) (va_Pc [.ref h0, .int (nI (ix))] (fun U => U.heap.size = sz ∧ va_P (dC, dI) cls_ [(h0, .inr (8, [.ref ki, .ref ko, .ref rx, .ref ry, .ref rn, .int (nI (rs)), .int (nI (be)), .int pp, .int pe, .int gb])), (ko, .inr (6, [.ref qx, .ref qy, .ref qo, .ref qc, .ref qg, .ref qm, .int (nI (p0)), .int ct])), (qx, .inl (cX, 64, .inl (fx)))] U.heap ∧ va_K (dC, dI) cls_ [(cX, .int)] U ∧ va_D (fun _ => True) [(h0, .inr (8, [.ref ki, .ref ko, .ref rx, .ref ry, .ref rn, .int (nI (rs)), .int (nI (be)), .int pp, .int pe, .int gb])), (ko, .inr (6, [.ref qx, .ref qy, .ref qo, .ref qc, .ref qg, .ref qm, .int (nI (p0)), .int ct])), (qx, .inl (cX, 64, .inl (fx)))] ∧ nests U)) (va_Qi (fun (r : Int32) (_ : Unit) => True) (fun (_ : Unit) (t : State) => va_P (dC, dI) cls_ [(h0, .inr (8, [.ref ki, .ref ko, .ref rx, .ref ry, .ref rn, .int (nI (rs)), .int (nI (be)), .int pp, .int pe, .int gb])), (ko, .inr (6, [.ref qx, .ref qy, .ref qo, .ref qc, .ref qg, .ref qm, .int (nI (p0)), .int ct])), (qx, .inl (cX, 64, .inl (fx)))] t.heap ∧ va_K (dC, dI) cls_ [(cX, .int)] t ∧ va_D (va_A [(h0, .inr (8, [.ref ki, .ref ko, .ref rx, .ref ry, .ref rn, .int (nI (rs)), .int (nI (be)), .int pp, .int pe, .int gb])), (ko, .inr (6, [.ref qx, .ref qy, .ref qo, .ref qc, .ref qg, .ref qm, .int (nI (p0)), .int ct])), (qx, .inl (cX, 64, .inl (fx)))] sz) [(h0, .inr (8, [.ref ki, .ref ko, .ref rx, .ref ry, .ref rn, .int (nI (rs)), .int (nI (be)), .int pp, .int pe, .int gb])), (ko, .inr (6, [.ref qx, .ref qy, .ref qo, .ref qc, .ref qg, .ref qm, .int (nI (p0)), .int ct])), (qx, .inl (cX, 64, .inl (fx)))]) (va_A [(h0, .inr (8, [.ref ki, .ref ko, .ref rx, .ref ry, .ref rn, .int (nI (rs)), .int (nI (be)), .int pp, .int pe, .int gb])), (ko, .inr (6, [.ref qx, .ref qy, .ref qo, .ref qc, .ref qg, .ref qm, .int (nI (p0)), .int ct])), (qx, .inl (cX, 64, .inl (fx)))] sz)) 0 0 (va_A [(h0, .inr (8, [.ref ki, .ref ko, .ref rx, .ref ry, .ref rn, .int (nI (rs)), .int (nI (be)), .int pp, .int pe, .int gb])), (ko, .inr (6, [.ref qx, .ref qy, .ref qo, .ref qc, .ref qg, .ref qm, .int (nI (p0)), .int ct])), (qx, .inl (cX, 64, .inl (fx)))] sz) := by
  refine Met.ofW (cc := b_BR_xOf) (maxL := 2) (ret := (some .int)) (by decide) rfl ?_
  intro p e s m args below meth c s₁ B hml hv
  obtain ⟨rfl, hsz, hP, hK, hD0, hNs⟩ := hv
  have hx := B.exec
  have hb := B.bytes
  have hr := B.returns
  have hts := atoms_spec (ws := s_BR_xOf) B.pre
  have hown : s.vm.findClass R_BR = some m.cls := findClass_of_methodNamed B.named
  have hlocks := B.notSynchronized
  subst hsz
  have hD := hD0.self (sz := s.heap.size)
  generalize hAe : va_A [(h0, .inr (8, [.ref ki, .ref ko, .ref rx, .ref ry, .ref rn, .int (nI (rs)), .int (nI (be)), .int pp, .int pe, .int gb])), (ko, .inr (6, [.ref qx, .ref qy, .ref qo, .ref qc, .ref qg, .ref qm, .int (nI (p0)), .int ct])), (qx, .inl (cX, 64, .inl (fx)))] s.heap.size = A at hD ⊢
  have hA : ∀ q : Nat, s.heap.size ≤ q → A q := fun q h => by rw [← hAe]; exact Or.inr h
  have hS : va_S A s.heap s.heap [] := va_S.rf
  have hP : va_P (dC, dI) cls_ [(h0, .inr (8, [.ref ki, .ref ko, .ref rx, .ref ry, .ref rn, .int (nI (rs)), .int (nI (be)), .int pp, .int pe, .int gb])), (ko, .inr (6, [.ref qx, .ref qy, .ref qo, .ref qc, .ref qg, .ref qm, .int (nI (p0)), .int ct])), (qx, .inl (cX, 64, .inl (fx)))] s.heap := hP
  have hl := lv_entry ([.ref h0, .int (nI (ix))]) (n := 2) (Nat.le_of_ble_eq_true rfl)
  rw [lg_entry_eq]
  generalize (lg_sl ([.ref h0, .int (nI (ix))]) ++ List.replicate (2 - (lg_sl ([.ref h0, .int (nI (ix))])).length) Slot.unset).toArray = ls at hl ⊢
  have hl : lv_has ls 2 [(0, .ref h0), (1, .int (nI (ix)))] := hl
  refine lv_aload_n hx hb d_BR_xOf_0 rfl (lv_at hl 0 rfl) ?_
  refine lv_aload_n hx hb d_BR_xOf_1 rfl (lv_at hl 0 rfl) ?_
  refine va_get (D := (dC, dI)) (ci := 8) (v := .ref ko) (C := R_BR) (T := F_BR) (N := 10) hx hb hts in_BR hown hK hP 0 rfl rfl 1 (by decide) (hts _ (List.mem_cons_of_mem _ w_256)) (fun _ h9 => h9) rfl d_BR_xOf_2 ?_
  refine va_getN (D := (dC, dI)) (ci := 6) (v := .ref qx) (C := R_OU) (T := F_OU) (N := 8) (host := "GlyphLines") hx hb hts in_OU hown hK hP 1 rfl rfl 0 (by decide) (va_Nw.use rfl (nest_12 hNs)) (fun _ h9 => h9) rfl d_BR_xOf_5 ?_
  refine lv_iload_n hx hb d_BR_xOf_8 rfl (lv_at hl 1 rfl) ?_
  refine va_iald hx hb hK hP 2 0 rfl rfl (pk_in (ix) 64 (by omega) rfl (by decide)) d_BR_xOf_9 ?_
  refine lv_topi (fun v4920 ev4920 => ?_)
  have hPc := hP.sub (ws' := [(h0, .inr (8, [.ref ki, .ref ko, .ref rx, .ref ry, .ref rn, .int (nI (rs)), .int (nI (be)), .int pp, .int pe, .int gb]))]) [0] rfl
  have hDc := hD.sub (ws' := [(h0, .inr (8, [.ref ki, .ref ko, .ref rx, .ref ry, .ref rn, .int (nI (rs)), .int (nI (be)), .int pp, .int pe, .int gb]))]) [0] (by decide) rfl
  have hKc := hK.sub (tys' := []) [] rfl
  have hFc := va_free (wc := [(h0, .inr (8, [.ref ki, .ref ko, .ref rx, .ref ry, .ref rn, .int (nI (rs)), .int (nI (be)), .int pp, .int pe, .int gb]))]) hD hS hA [0] rfl
  refine va_calli (va_runV (As := [.int v4920]) (rest := []) ⟨hx, hb, hml, hown, hts⟩ (g_BR_scaled l dC dI h0 ki ko rx ry rn rs be pp pe gb v4920 s.heap.size (by omega) (by omega)) (cwV 1 hts (tw_inV w_759 w_761 wp_25 w_10 w_762) rfl rfl rfl (by decide +kernel) ⟨Nat.le_of_ble_eq_true rfl, Nat.le_of_ble_eq_true rfl⟩) ⟨fun a U g mk q => by obtain ⟨q0, q1, qP, qK, qD⟩ := q; exact ⟨q0, q1, qP, va_K.moved (u := U) (U := U.calling g mk a) (Vm.Alike.refl U.vm) qK, qD⟩, va_recv (hK := hK) (hP := hP) (q0 := 0) (ci := 8) rfl rfl, fun U hU hW => ⟨rfl, by rw [hU], by rw [hU]; exact hPc, va_K.moved hW.alike hKc, hDc.weaken (fun _ _ _ _ => trivial)⟩⟩ rfl rfl hl.1 rfl (lv_room (Nat.le_of_ble_eq_true rfl)) d_BR_xOf_10 ⟨Nat.le_of_ble_eq_true rfl, Nat.le_of_ble_eq_true rfl⟩) hS (fun q _ h => hFc q h) hFc (fun r4921 u t H1 locs ht hvm hw hB hz1 hk1 hS => ?_)
  obtain ⟨hP1, hK1, hD1⟩ := hB
  rw [ht] at hP1
  have hK1 := va_K.moved hvm.symm hK1
  obtain ⟨hP, hD⟩ := va_join (wr := [(ko, .inr (6, [.ref qx, .ref qy, .ref qo, .ref qc, .ref qg, .ref qm, .int (nI (p0)), .int ct])), (qx, .inl (cX, 64, .inl (fx)))]) (w1 := [(h0, .inr (8, [.ref ki, .ref ko, .ref rx, .ref ry, .ref rn, .int (nI (rs)), .int (nI (be)), .int pp, .int pe, .int gb]))]) hP hD [0] [1, 2] rfl rfl (by decide) (by decide) hk1 hFc hP1 hD1
  have hK := (hK.sub (tys' := [(cX, .int)]) [0] rfl).app hK1
  generalize H1 = H at hP hS ⊢
  have hP : va_P (dC, dI) cls_ [(ko, .inr (6, [.ref qx, .ref qy, .ref qo, .ref qc, .ref qg, .ref qm, .int (nI (p0)), .int ct])), (qx, .inl (cX, 64, .inl (fx))), (h0, .inr (8, [.ref ki, .ref ko, .ref rx, .ref ry, .ref rn, .int (nI (rs)), .int (nI (be)), .int pp, .int pe, .int gb]))] H := hP
  have hD : va_D A [(ko, .inr (6, [.ref qx, .ref qy, .ref qo, .ref qc, .ref qg, .ref qm, .int (nI (p0)), .int ct])), (qx, .inl (cX, 64, .inl (fx))), (h0, .inr (8, [.ref ki, .ref ko, .ref rx, .ref ry, .ref rn, .int (nI (rs)), .int (nI (be)), .int pp, .int pe, .int gb]))] := hD
  have hK : va_K (dC, dI) cls_ [(cX, .int)] s := hK
  have hw_r4921 := hw
  refine lv_aload_n hx hb d_BR_xOf_13 rfl (lv_at hl 0 rfl) ?_
  refine va_get (D := (dC, dI)) (ci := 8) (v := .int pe) (C := R_BR) (T := F_BR) (N := 10) hx hb hts in_BR hown hK hP 2 rfl rfl 8 (by decide) (hts _ (List.mem_cons_of_mem _ w_263)) (fun _ h9 => h9) rfl d_BR_xOf_14 ?_
  refine lv_iadd hx hb d_BR_xOf_17 ?_
  refine lv_topi (fun v4922 ev4922 => ?_)
  refine W.widen (k := 0) (n := 0) (Nat.le_of_ble_eq_true rfl) (Nat.le_of_ble_eq_true rfl) ?_
  have hP9 := hP.sub (ws' := [(h0, .inr (8, [.ref ki, .ref ko, .ref rx, .ref ry, .ref rn, .int (nI (rs)), .int (nI (be)), .int pp, .int pe, .int gb])), (ko, .inr (6, [.ref qx, .ref qy, .ref qo, .ref qc, .ref qg, .ref qm, .int (nI (p0)), .int ct])), (qx, .inl (cX, 64, .inl (fx)))]) [2, 0, 1] rfl
  have hD9 := hD.sub (ws' := [(h0, .inr (8, [.ref ki, .ref ko, .ref rx, .ref ry, .ref rn, .int (nI (rs)), .int (nI (be)), .int pp, .int pe, .int gb])), (ko, .inr (6, [.ref qx, .ref qy, .ref qo, .ref qc, .ref qg, .ref qm, .int (nI (p0)), .int ct])), (qx, .inl (cX, 64, .inl (fx)))]) [2, 0, 1] (by decide) rfl
  have hK9 := hK.sub (tys' := [(cX, .int)]) [0] rfl
  exact W.iret (v := v4922) hx hb hr (fun t ht hW => ⟨⟨v4922, (), rfl, trivial, by rw [ht]; exact hP9, va_K.moved hW.alike hK9, hD9⟩, hS.F ht⟩) hS.2.2 d_BR_xOf_18
set_option maxHeartbeats 4000000 in
set_option maxRecDepth 100000 in
/-- GlyphLines$Brush.yOf -/
theorem g_BR_yOf (l : Launch) (dC : Nat → ClassId) (dI : Nat → Nat → Nat) (h0 : Nat) (ki : Nat) (ko : Nat) (rx : Nat) (ry : Nat) (rn : Nat) (rs : Nat) (be : Nat) (pp : Int32) (pe : Int32) (gb : Int32) (qx : Nat) (qy : Nat) (qo : Nat) (qc : Nat) (qg : Nat) (qm : Nat) (p0 : Nat) (ct : Int32) (cY : ClassId) (fy : Nat → Int32) (ix : Nat) (sz : Nat) (hq0 : rs ≤ 48) (hq1 : be < 65536) (hq2 : p0 ≤ 64) (hq3 : ix < 64) : Met l y_BR_yOf s_BR_yOf ({ frames := 12, cells := 0, slots := 0, locals := 400 }) (va_Pc [.ref h0, .int (nI (ix))] (fun U => U.heap.size = sz ∧ va_P (dC, dI) cls_ [(h0, .inr (8, [.ref ki, .ref ko, .ref rx, .ref ry, .ref rn, .int (nI (rs)), .int (nI (be)), .int pp, .int pe, .int gb])), (ko, .inr (6, [.ref qx, .ref qy, .ref qo, .ref qc, .ref qg, .ref qm, .int (nI (p0)), .int ct])), (qy, .inl (cY, 64, .inl (fy)))] U.heap ∧ va_K (dC, dI) cls_ [(cY, .int)] U ∧ va_D (fun _ => True) [(h0, .inr (8, [.ref ki, .ref ko, .ref rx, .ref ry, .ref rn, .int (nI (rs)), .int (nI (be)), .int pp, .int pe, .int gb])), (ko, .inr (6, [.ref qx, .ref qy, .ref qo, .ref qc, .ref qg, .ref qm, .int (nI (p0)), .int ct])), (qy, .inl (cY, 64, .inl (fy)))] ∧ nests U)) (va_Qi (fun (r : Int32) (_ : Unit) => True) (fun (_ : Unit) (t : State) => va_P (dC, dI) cls_ [(h0, .inr (8, [.ref ki, .ref ko, .ref rx, .ref ry, .ref rn, .int (nI (rs)), .int (nI (be)), .int pp, .int pe, .int gb])), (ko, .inr (6, [.ref qx, .ref qy, .ref qo, .ref qc, .ref qg, .ref qm, .int (nI (p0)), .int ct])), (qy, .inl (cY, 64, .inl (fy)))] t.heap ∧ va_K (dC, dI) cls_ [(cY, .int)] t ∧ va_D (va_A [(h0, .inr (8, [.ref ki, .ref ko, .ref rx, .ref ry, .ref rn, .int (nI (rs)), .int (nI (be)), .int pp, .int pe, .int gb])), (ko, .inr (6, [.ref qx, .ref qy, .ref qo, .ref qc, .ref qg, .ref qm, .int (nI (p0)), .int ct])), (qy, .inl (cY, 64, .inl (fy)))] sz) [(h0, .inr (8, [.ref ki, .ref ko, .ref rx, .ref ry, .ref rn, .int (nI (rs)), .int (nI (be)), .int pp, .int pe, .int gb])), (ko, .inr (6, [.ref qx, .ref qy, .ref qo, .ref qc, .ref qg, .ref qm, .int (nI (p0)), .int ct])), (qy, .inl (cY, 64, .inl (fy)))]) (va_A [(h0, .inr (8, [.ref ki, .ref ko, .ref rx, .ref ry, .ref rn, .int (nI (rs)), .int (nI (be)), .int pp, .int pe, .int gb])), (ko, .inr (6, [.ref qx, .ref qy, .ref qo, .ref qc, .ref qg, .ref qm, .int (nI (p0)), .int ct])), (qy, .inl (cY, 64, .inl (fy)))] sz)) 0 0 (va_A [(h0, .inr (8, [.ref ki, .ref ko, .ref rx, .ref ry, .ref rn, .int (nI (rs)), .int (nI (be)), .int pp, .int pe, .int gb])), (ko, .inr (6, [.ref qx, .ref qy, .ref qo, .ref qc, .ref qg, .ref qm, .int (nI (p0)), .int ct])), (qy, .inl (cY, 64, .inl (fy)))] sz) := by
  refine Met.ofW (cc := b_BR_yOf) (maxL := 2) (ret := (some .int)) (by decide) rfl ?_
  intro p e s m args below meth c s₁ B hml hv
  obtain ⟨rfl, hsz, hP, hK, hD0, hNs⟩ := hv
  have hx := B.exec
  have hb := B.bytes
  have hr := B.returns
  have hts := atoms_spec (ws := s_BR_yOf) B.pre
  have hown : s.vm.findClass R_BR = some m.cls := findClass_of_methodNamed B.named
  have hlocks := B.notSynchronized
  subst hsz
  have hD := hD0.self (sz := s.heap.size)
  generalize hAe : va_A [(h0, .inr (8, [.ref ki, .ref ko, .ref rx, .ref ry, .ref rn, .int (nI (rs)), .int (nI (be)), .int pp, .int pe, .int gb])), (ko, .inr (6, [.ref qx, .ref qy, .ref qo, .ref qc, .ref qg, .ref qm, .int (nI (p0)), .int ct])), (qy, .inl (cY, 64, .inl (fy)))] s.heap.size = A at hD ⊢
  have hA : ∀ q : Nat, s.heap.size ≤ q → A q := fun q h => by rw [← hAe]; exact Or.inr h
  have hS : va_S A s.heap s.heap [] := va_S.rf
  have hP : va_P (dC, dI) cls_ [(h0, .inr (8, [.ref ki, .ref ko, .ref rx, .ref ry, .ref rn, .int (nI (rs)), .int (nI (be)), .int pp, .int pe, .int gb])), (ko, .inr (6, [.ref qx, .ref qy, .ref qo, .ref qc, .ref qg, .ref qm, .int (nI (p0)), .int ct])), (qy, .inl (cY, 64, .inl (fy)))] s.heap := hP
  have hl := lv_entry ([.ref h0, .int (nI (ix))]) (n := 2) (Nat.le_of_ble_eq_true rfl)
  rw [lg_entry_eq]
  generalize (lg_sl ([.ref h0, .int (nI (ix))]) ++ List.replicate (2 - (lg_sl ([.ref h0, .int (nI (ix))])).length) Slot.unset).toArray = ls at hl ⊢
  have hl : lv_has ls 2 [(0, .ref h0), (1, .int (nI (ix)))] := hl
  refine lv_aload_n hx hb d_BR_yOf_0 rfl (lv_at hl 0 rfl) ?_
  refine lv_aload_n hx hb d_BR_yOf_1 rfl (lv_at hl 0 rfl) ?_
  refine va_get (D := (dC, dI)) (ci := 8) (v := .ref ko) (C := R_BR) (T := F_BR) (N := 10) hx hb hts in_BR hown hK hP 0 rfl rfl 1 (by decide) (hts _ (List.mem_cons_of_mem _ w_256)) (fun _ h9 => h9) rfl d_BR_yOf_2 ?_
  refine va_getN (D := (dC, dI)) (ci := 6) (v := .ref qy) (C := R_OU) (T := F_OU) (N := 8) (host := "GlyphLines") hx hb hts in_OU hown hK hP 1 rfl rfl 1 (by decide) (va_Nw.use rfl (nest_14 hNs)) (fun _ h9 => h9) rfl d_BR_yOf_5 ?_
  refine lv_iload_n hx hb d_BR_yOf_8 rfl (lv_at hl 1 rfl) ?_
  refine va_iald hx hb hK hP 2 0 rfl rfl (pk_in (ix) 64 (by omega) rfl (by decide)) d_BR_yOf_9 ?_
  refine lv_topi (fun v4923 ev4923 => ?_)
  have hPc := hP.sub (ws' := [(h0, .inr (8, [.ref ki, .ref ko, .ref rx, .ref ry, .ref rn, .int (nI (rs)), .int (nI (be)), .int pp, .int pe, .int gb]))]) [0] rfl
  have hDc := hD.sub (ws' := [(h0, .inr (8, [.ref ki, .ref ko, .ref rx, .ref ry, .ref rn, .int (nI (rs)), .int (nI (be)), .int pp, .int pe, .int gb]))]) [0] (by decide) rfl
  have hKc := hK.sub (tys' := []) [] rfl
  have hFc := va_free (wc := [(h0, .inr (8, [.ref ki, .ref ko, .ref rx, .ref ry, .ref rn, .int (nI (rs)), .int (nI (be)), .int pp, .int pe, .int gb]))]) hD hS hA [0] rfl
  refine va_calli (va_runV (As := [.int v4923]) (rest := []) ⟨hx, hb, hml, hown, hts⟩ (g_BR_scaled l dC dI h0 ki ko rx ry rn rs be pp pe gb v4923 s.heap.size (by omega) (by omega)) (cwV 1 hts (tw_inV w_759 w_761 wp_25 w_10 w_762) rfl rfl rfl (by decide +kernel) ⟨Nat.le_of_ble_eq_true rfl, Nat.le_of_ble_eq_true rfl⟩) ⟨fun a U g mk q => by obtain ⟨q0, q1, qP, qK, qD⟩ := q; exact ⟨q0, q1, qP, va_K.moved (u := U) (U := U.calling g mk a) (Vm.Alike.refl U.vm) qK, qD⟩, va_recv (hK := hK) (hP := hP) (q0 := 0) (ci := 8) rfl rfl, fun U hU hW => ⟨rfl, by rw [hU], by rw [hU]; exact hPc, va_K.moved hW.alike hKc, hDc.weaken (fun _ _ _ _ => trivial)⟩⟩ rfl rfl hl.1 rfl (lv_room (Nat.le_of_ble_eq_true rfl)) d_BR_yOf_10 ⟨Nat.le_of_ble_eq_true rfl, Nat.le_of_ble_eq_true rfl⟩) hS (fun q _ h => hFc q h) hFc (fun r4924 u t H1 locs ht hvm hw hB hz1 hk1 hS => ?_)
  obtain ⟨hP1, hK1, hD1⟩ := hB
  rw [ht] at hP1
  have hK1 := va_K.moved hvm.symm hK1
  obtain ⟨hP, hD⟩ := va_join (wr := [(ko, .inr (6, [.ref qx, .ref qy, .ref qo, .ref qc, .ref qg, .ref qm, .int (nI (p0)), .int ct])), (qy, .inl (cY, 64, .inl (fy)))]) (w1 := [(h0, .inr (8, [.ref ki, .ref ko, .ref rx, .ref ry, .ref rn, .int (nI (rs)), .int (nI (be)), .int pp, .int pe, .int gb]))]) hP hD [0] [1, 2] rfl rfl (by decide) (by decide) hk1 hFc hP1 hD1
  have hK := (hK.sub (tys' := [(cY, .int)]) [0] rfl).app hK1
  generalize H1 = H at hP hS ⊢
  have hP : va_P (dC, dI) cls_ [(ko, .inr (6, [.ref qx, .ref qy, .ref qo, .ref qc, .ref qg, .ref qm, .int (nI (p0)), .int ct])), (qy, .inl (cY, 64, .inl (fy))), (h0, .inr (8, [.ref ki, .ref ko, .ref rx, .ref ry, .ref rn, .int (nI (rs)), .int (nI (be)), .int pp, .int pe, .int gb]))] H := hP
  have hD : va_D A [(ko, .inr (6, [.ref qx, .ref qy, .ref qo, .ref qc, .ref qg, .ref qm, .int (nI (p0)), .int ct])), (qy, .inl (cY, 64, .inl (fy))), (h0, .inr (8, [.ref ki, .ref ko, .ref rx, .ref ry, .ref rn, .int (nI (rs)), .int (nI (be)), .int pp, .int pe, .int gb]))] := hD
  have hK : va_K (dC, dI) cls_ [(cY, .int)] s := hK
  have hw_r4924 := hw
  refine W.widen (k := 0) (n := 0) (Nat.le_of_ble_eq_true rfl) (Nat.le_of_ble_eq_true rfl) ?_
  have hP9 := hP.sub (ws' := [(h0, .inr (8, [.ref ki, .ref ko, .ref rx, .ref ry, .ref rn, .int (nI (rs)), .int (nI (be)), .int pp, .int pe, .int gb])), (ko, .inr (6, [.ref qx, .ref qy, .ref qo, .ref qc, .ref qg, .ref qm, .int (nI (p0)), .int ct])), (qy, .inl (cY, 64, .inl (fy)))]) [2, 0, 1] rfl
  have hD9 := hD.sub (ws' := [(h0, .inr (8, [.ref ki, .ref ko, .ref rx, .ref ry, .ref rn, .int (nI (rs)), .int (nI (be)), .int pp, .int pe, .int gb])), (ko, .inr (6, [.ref qx, .ref qy, .ref qo, .ref qc, .ref qg, .ref qm, .int (nI (p0)), .int ct])), (qy, .inl (cY, 64, .inl (fy)))]) [2, 0, 1] (by decide) rfl
  have hK9 := hK.sub (tys' := [(cY, .int)]) [0] rfl
  exact W.iret (v := r4924) hx hb hr (fun t ht hW => ⟨⟨r4924, (), rfl, trivial, by rw [ht]; exact hP9, va_K.moved hW.alike hK9, hD9⟩, hS.F ht⟩) hS.2.2 d_BR_yOf_13
set_option maxHeartbeats 4000000 in
set_option maxRecDepth 100000 in
/-- GlyphLines$Brush.addToRing -/
theorem g_BR_addToRing (l : Launch) (dC : Nat → ClassId) (dI : Nat → Nat → Nat) (h0 : Nat) (ki : Nat) (ko : Nat) (rx : Nat) (ry : Nat) (rn : Nat) (rs : Nat) (be : Nat) (pp : Int32) (pe : Int32) (gb : Int32) (cRX : ClassId) (rX : Nat → Int32) (cRY : ClassId) (rY : Nat → Int32) (cRN : ClassId) (ro : Nat → Int32) (xa : Int32) (ya : Int32) (on : Int32) (sz : Nat) (hq0 : rs ≤ 48) : Met l y_BR_addToRing s_BR_addToRing ({ frames := 8, cells := 0, slots := 0, locals := 200 }) (va_Pc [.ref h0, .int xa, .int ya, .int on] (fun U => U.heap.size = sz ∧ va_P (dC, dI) cls_ [(h0, .inr (8, [.ref ki, .ref ko, .ref rx, .ref ry, .ref rn, .int (nI (rs)), .int (nI (be)), .int pp, .int pe, .int gb])), (rx, .inl (cRX, 48, .inl (rX))), (ry, .inl (cRY, 48, .inl (rY))), (rn, .inl (cRN, 48, .inl (ro)))] U.heap ∧ va_K (dC, dI) cls_ [(cRX, .int), (cRY, .int), (cRN, .boolean)] U ∧ va_D (fun _ => True) [(h0, .inr (8, [.ref ki, .ref ko, .ref rx, .ref ry, .ref rn, .int (nI (rs)), .int (nI (be)), .int pp, .int pe, .int gb])), (rx, .inl (cRX, 48, .inl (rX))), (ry, .inl (cRY, 48, .inl (rY))), (rn, .inl (cRN, 48, .inl (ro)))])) (va_Qv (fun _ : Unit => True) (fun (_ : Unit) (t : State) => ∃ (rs2 : Nat) (gX : Nat → Int32) (gY : Nat → Int32) (go : Nat → Int32), rs2 ≤ 48 ∧ va_P (dC, dI) cls_ [(h0, .inr (8, [.ref ki, .ref ko, .ref rx, .ref ry, .ref rn, .int (nI (rs2)), .int (nI (be)), .int pp, .int pe, .int gb])), (rx, .inl (cRX, 48, .inl (gX))), (ry, .inl (cRY, 48, .inl (gY))), (rn, .inl (cRN, 48, .inl (go)))] t.heap ∧ va_K (dC, dI) cls_ [(cRX, .int), (cRY, .int), (cRN, .boolean)] t ∧ va_D (va_A [(h0, .inr (8, [.ref ki, .ref ko, .ref rx, .ref ry, .ref rn, .int (nI (rs)), .int (nI (be)), .int pp, .int pe, .int gb])), (rx, .inl (cRX, 48, .inl (rX))), (ry, .inl (cRY, 48, .inl (rY))), (rn, .inl (cRN, 48, .inl (ro)))] sz) [(h0, .inr (8, [.ref ki, .ref ko, .ref rx, .ref ry, .ref rn, .int (nI (rs2)), .int (nI (be)), .int pp, .int pe, .int gb])), (rx, .inl (cRX, 48, .inl (gX))), (ry, .inl (cRY, 48, .inl (gY))), (rn, .inl (cRN, 48, .inl (go)))]) (va_A [(h0, .inr (8, [.ref ki, .ref ko, .ref rx, .ref ry, .ref rn, .int (nI (rs)), .int (nI (be)), .int pp, .int pe, .int gb])), (rx, .inl (cRX, 48, .inl (rX))), (ry, .inl (cRY, 48, .inl (rY))), (rn, .inl (cRN, 48, .inl (ro)))] sz)) 0 0 (va_A [(h0, .inr (8, [.ref ki, .ref ko, .ref rx, .ref ry, .ref rn, .int (nI (rs)), .int (nI (be)), .int pp, .int pe, .int gb])), (rx, .inl (cRX, 48, .inl (rX))), (ry, .inl (cRY, 48, .inl (rY))), (rn, .inl (cRN, 48, .inl (ro)))] sz) := by
  refine Met.ofW (cc := b_BR_addToRing) (maxL := 4) (ret := none) (by decide) rfl ?_
  intro p e s m args below meth c s₁ B hml hv
  obtain ⟨rfl, hsz, hP, hK, hD0⟩ := hv
  have hx := B.exec
  have hb := B.bytes
  have hr := B.returns
  have hts := atoms_spec (ws := s_BR_addToRing) B.pre
  have hown : s.vm.findClass R_BR = some m.cls := findClass_of_methodNamed B.named
  have hlocks := B.notSynchronized
  subst hsz
  have hD := hD0.self (sz := s.heap.size)
  generalize hAe : va_A [(h0, .inr (8, [.ref ki, .ref ko, .ref rx, .ref ry, .ref rn, .int (nI (rs)), .int (nI (be)), .int pp, .int pe, .int gb])), (rx, .inl (cRX, 48, .inl (rX))), (ry, .inl (cRY, 48, .inl (rY))), (rn, .inl (cRN, 48, .inl (ro)))] s.heap.size = A at hD ⊢
  have hA : ∀ q : Nat, s.heap.size ≤ q → A q := fun q h => by rw [← hAe]; exact Or.inr h
  have hS : va_S A s.heap s.heap [] := va_S.rf
  have hP : va_P (dC, dI) cls_ [(h0, .inr (8, [.ref ki, .ref ko, .ref rx, .ref ry, .ref rn, .int (nI (rs)), .int (nI (be)), .int pp, .int pe, .int gb])), (rx, .inl (cRX, 48, .inl (rX))), (ry, .inl (cRY, 48, .inl (rY))), (rn, .inl (cRN, 48, .inl (ro)))] s.heap := hP
  have hl := lv_entry ([.ref h0, .int xa, .int ya, .int on]) (n := 4) (Nat.le_of_ble_eq_true rfl)
  rw [lg_entry_eq]
  generalize (lg_sl ([.ref h0, .int xa, .int ya, .int on]) ++ List.replicate (4 - (lg_sl ([.ref h0, .int xa, .int ya, .int on])).length) Slot.unset).toArray = ls at hl ⊢
  have hl : lv_has ls 4 [(0, .ref h0), (1, .int xa), (2, .int ya), (3, .int on)] := hl
  refine lv_aload_n hx hb d_BR_addToRing_0 rfl (lv_at hl 0 rfl) ?_
  refine va_get (D := (dC, dI)) (ci := 8) (v := .int (nI (rs))) (C := R_BR) (T := F_BR) (N := 10) hx hb hts in_BR hown hK hP 0 rfl rfl 5 (by decide) (hts _ (List.mem_cons_of_mem _ w_260)) (fun _ h9 => h9) rfl d_BR_addToRing_1 ?_
  refine lv_aload_n hx hb d_BR_addToRing_4 rfl (lv_at hl 0 rfl) ?_
  refine va_get (D := (dC, dI)) (ci := 8) (v := .ref rn) (C := R_BR) (T := F_BR) (N := 10) hx hb hts in_BR hown hK hP 0 rfl rfl 4 (by decide) (hts _ (List.mem_cons_of_mem _ w_259)) (fun _ h9 => h9) rfl d_BR_addToRing_5 ?_
  refine va_alen (v := 48) hx hb hK hP 3 2 rfl rfl (by show Int32.ofNat 48 = 48; decide +kernel) d_BR_addToRing_8 ?_
  refine lv_icmp_ge (tgt := 52) hx hb d_BR_addToRing_9 (by decide) (fun hc4925 => ?_) (fun hc4925 => ?_)
  · skip
    have hc4925n : 48 ≤ rs := (nI_leI (a := 48) (b := rs) (by omega) (by omega)).mp hc4925
    refine W.widen (k := 0) (n := 0) (Nat.le_of_ble_eq_true rfl) (Nat.le_of_ble_eq_true rfl) ?_
    have hP9 := hP.sub (ws' := [(h0, .inr (8, [.ref ki, .ref ko, .ref rx, .ref ry, .ref rn, .int (nI (rs)), .int (nI (be)), .int pp, .int pe, .int gb])), (rx, .inl (cRX, 48, .inl (rX))), (ry, .inl (cRY, 48, .inl (rY))), (rn, .inl (cRN, 48, .inl (ro)))]) [0, 1, 2, 3] rfl
    have hD9 := hD.sub (ws' := [(h0, .inr (8, [.ref ki, .ref ko, .ref rx, .ref ry, .ref rn, .int (nI (rs)), .int (nI (be)), .int pp, .int pe, .int gb])), (rx, .inl (cRX, 48, .inl (rX))), (ry, .inl (cRY, 48, .inl (rY))), (rn, .inl (cRN, 48, .inl (ro)))]) [0, 1, 2, 3] (by decide) rfl
    have hK9 := hK.sub (tys' := [(cRX, .int), (cRY, .int), (cRN, .boolean)]) [0, 1, 2] rfl
    exact W.vret hx hb hr (fun t ht hW => ⟨⟨(), rfl, trivial, rs, rX, rY, ro, by omega, by rw [ht]; exact hP9, va_K.moved hW.alike hK9, hD9⟩, hS.F ht⟩) hS.2.2 d_BR_addToRing_52
  · skip
    have hc4925n : ¬ (48 ≤ rs) := fun z => hc4925 ((nI_leI (a := 48) (b := rs) (by omega) (by omega)).mpr z)
    refine lv_aload_n hx hb d_BR_addToRing_12 rfl (lv_at hl 0 rfl) ?_
    refine va_get (D := (dC, dI)) (ci := 8) (v := .ref rx) (C := R_BR) (T := F_BR) (N := 10) hx hb hts in_BR hown hK hP 0 rfl rfl 2 (by decide) (hts _ (List.mem_cons_of_mem _ w_257)) (fun _ h9 => h9) rfl d_BR_addToRing_13 ?_
    refine lv_aload_n hx hb d_BR_addToRing_16 rfl (lv_at hl 0 rfl) ?_
    refine va_get (D := (dC, dI)) (ci := 8) (v := .int (nI (rs))) (C := R_BR) (T := F_BR) (N := 10) hx hb hts in_BR hown hK hP 0 rfl rfl 5 (by decide) (hts _ (List.mem_cons_of_mem _ w_260)) (fun _ h9 => h9) rfl d_BR_addToRing_17 ?_
    refine lv_iload_n hx hb d_BR_addToRing_20 rfl (lv_at hl 1 rfl) ?_
    refine va_iast hx hb hK hP hD hS 1 0 rfl rfl (pk_in (rs) 48 (by omega) rfl (by decide)) d_BR_addToRing_21 (fun H locs hP hD hS => ?_)
    have hP : va_P (dC, dI) cls_ [(h0, .inr (8, [.ref ki, .ref ko, .ref rx, .ref ry, .ref rn, .int (nI (rs)), .int (nI (be)), .int pp, .int pe, .int gb])), (rx, .inl (cRX, 48, .inl (upd (rX) (Int32.toNatClampNeg (nI (rs))) (xa)))), (ry, .inl (cRY, 48, .inl (rY))), (rn, .inl (cRN, 48, .inl (ro)))] H := hP
    have hD : va_D A [(h0, .inr (8, [.ref ki, .ref ko, .ref rx, .ref ry, .ref rn, .int (nI (rs)), .int (nI (be)), .int pp, .int pe, .int gb])), (rx, .inl (cRX, 48, .inl (upd (rX) (Int32.toNatClampNeg (nI (rs))) (xa)))), (ry, .inl (cRY, 48, .inl (rY))), (rn, .inl (cRN, 48, .inl (ro)))] := hD
    obtain ⟨g4926, eg4926⟩ : ∃ z : Nat → Int32, z = upd (rX) (Int32.toNatClampNeg (nI (rs))) (xa) := ⟨_, rfl⟩
    rw [← eg4926] at hP hD
    have hP : va_P (dC, dI) cls_ [(h0, .inr (8, [.ref ki, .ref ko, .ref rx, .ref ry, .ref rn, .int (nI (rs)), .int (nI (be)), .int pp, .int pe, .int gb])), (rx, .inl (cRX, 48, .inl (g4926))), (ry, .inl (cRY, 48, .inl (rY))), (rn, .inl (cRN, 48, .inl (ro)))] H := hP
    have hD : va_D A [(h0, .inr (8, [.ref ki, .ref ko, .ref rx, .ref ry, .ref rn, .int (nI (rs)), .int (nI (be)), .int pp, .int pe, .int gb])), (rx, .inl (cRX, 48, .inl (g4926))), (ry, .inl (cRY, 48, .inl (rY))), (rn, .inl (cRN, 48, .inl (ro)))] := hD
    refine lv_aload_n hx hb d_BR_addToRing_22 rfl (lv_at hl 0 rfl) ?_
    refine va_get (D := (dC, dI)) (ci := 8) (v := .ref ry) (C := R_BR) (T := F_BR) (N := 10) hx hb hts in_BR hown hK hP 0 rfl rfl 3 (by decide) (hts _ (List.mem_cons_of_mem _ w_258)) (fun _ h9 => h9) rfl d_BR_addToRing_23 ?_
    refine lv_aload_n hx hb d_BR_addToRing_26 rfl (lv_at hl 0 rfl) ?_
    refine va_get (D := (dC, dI)) (ci := 8) (v := .int (nI (rs))) (C := R_BR) (T := F_BR) (N := 10) hx hb hts in_BR hown hK hP 0 rfl rfl 5 (by decide) (hts _ (List.mem_cons_of_mem _ w_260)) (fun _ h9 => h9) rfl d_BR_addToRing_27 ?_
    refine lv_iload_n hx hb d_BR_addToRing_30 rfl (lv_at hl 2 rfl) ?_
    refine va_iast hx hb hK hP hD hS 2 1 rfl rfl (pk_in (rs) 48 (by omega) rfl (by decide)) d_BR_addToRing_31 (fun H locs hP hD hS => ?_)
    have hP : va_P (dC, dI) cls_ [(h0, .inr (8, [.ref ki, .ref ko, .ref rx, .ref ry, .ref rn, .int (nI (rs)), .int (nI (be)), .int pp, .int pe, .int gb])), (rx, .inl (cRX, 48, .inl (g4926))), (ry, .inl (cRY, 48, .inl (upd (rY) (Int32.toNatClampNeg (nI (rs))) (ya)))), (rn, .inl (cRN, 48, .inl (ro)))] H := hP
    have hD : va_D A [(h0, .inr (8, [.ref ki, .ref ko, .ref rx, .ref ry, .ref rn, .int (nI (rs)), .int (nI (be)), .int pp, .int pe, .int gb])), (rx, .inl (cRX, 48, .inl (g4926))), (ry, .inl (cRY, 48, .inl (upd (rY) (Int32.toNatClampNeg (nI (rs))) (ya)))), (rn, .inl (cRN, 48, .inl (ro)))] := hD
    obtain ⟨g4927, eg4927⟩ : ∃ z : Nat → Int32, z = upd (rY) (Int32.toNatClampNeg (nI (rs))) (ya) := ⟨_, rfl⟩
    rw [← eg4927] at hP hD
    have hP : va_P (dC, dI) cls_ [(h0, .inr (8, [.ref ki, .ref ko, .ref rx, .ref ry, .ref rn, .int (nI (rs)), .int (nI (be)), .int pp, .int pe, .int gb])), (rx, .inl (cRX, 48, .inl (g4926))), (ry, .inl (cRY, 48, .inl (g4927))), (rn, .inl (cRN, 48, .inl (ro)))] H := hP
    have hD : va_D A [(h0, .inr (8, [.ref ki, .ref ko, .ref rx, .ref ry, .ref rn, .int (nI (rs)), .int (nI (be)), .int pp, .int pe, .int gb])), (rx, .inl (cRX, 48, .inl (g4926))), (ry, .inl (cRY, 48, .inl (g4927))), (rn, .inl (cRN, 48, .inl (ro)))] := hD
    refine lv_aload_n hx hb d_BR_addToRing_32 rfl (lv_at hl 0 rfl) ?_
    refine va_get (D := (dC, dI)) (ci := 8) (v := .ref rn) (C := R_BR) (T := F_BR) (N := 10) hx hb hts in_BR hown hK hP 0 rfl rfl 4 (by decide) (hts _ (List.mem_cons_of_mem _ w_259)) (fun _ h9 => h9) rfl d_BR_addToRing_33 ?_
    refine lv_aload_n hx hb d_BR_addToRing_36 rfl (lv_at hl 0 rfl) ?_
    refine va_get (D := (dC, dI)) (ci := 8) (v := .int (nI (rs))) (C := R_BR) (T := F_BR) (N := 10) hx hb hts in_BR hown hK hP 0 rfl rfl 5 (by decide) (hts _ (List.mem_cons_of_mem _ w_260)) (fun _ h9 => h9) rfl d_BR_addToRing_37 ?_
    refine lv_iload_n hx hb d_BR_addToRing_40 rfl (lv_at hl 3 rfl) ?_
    refine va_zast hx hb hK hP hD hS 3 2 rfl rfl (pk_in (rs) 48 (by omega) rfl (by decide)) d_BR_addToRing_41 (fun H locs hP hD hS => ?_)
    have hP : va_P (dC, dI) cls_ [(h0, .inr (8, [.ref ki, .ref ko, .ref rx, .ref ry, .ref rn, .int (nI (rs)), .int (nI (be)), .int pp, .int pe, .int gb])), (rx, .inl (cRX, 48, .inl (g4926))), (ry, .inl (cRY, 48, .inl (g4927))), (rn, .inl (cRN, 48, .inl (upd (ro) (Int32.toNatClampNeg (nI (rs))) (vp_nar .boolean (on)))))] H := hP
    have hD : va_D A [(h0, .inr (8, [.ref ki, .ref ko, .ref rx, .ref ry, .ref rn, .int (nI (rs)), .int (nI (be)), .int pp, .int pe, .int gb])), (rx, .inl (cRX, 48, .inl (g4926))), (ry, .inl (cRY, 48, .inl (g4927))), (rn, .inl (cRN, 48, .inl (upd (ro) (Int32.toNatClampNeg (nI (rs))) (vp_nar .boolean (on)))))] := hD
    obtain ⟨g4928, eg4928⟩ : ∃ z : Nat → Int32, z = upd (ro) (Int32.toNatClampNeg (nI (rs))) (vp_nar .boolean (on)) := ⟨_, rfl⟩
    rw [← eg4928] at hP hD
    have hP : va_P (dC, dI) cls_ [(h0, .inr (8, [.ref ki, .ref ko, .ref rx, .ref ry, .ref rn, .int (nI (rs)), .int (nI (be)), .int pp, .int pe, .int gb])), (rx, .inl (cRX, 48, .inl (g4926))), (ry, .inl (cRY, 48, .inl (g4927))), (rn, .inl (cRN, 48, .inl (g4928)))] H := hP
    have hD : va_D A [(h0, .inr (8, [.ref ki, .ref ko, .ref rx, .ref ry, .ref rn, .int (nI (rs)), .int (nI (be)), .int pp, .int pe, .int gb])), (rx, .inl (cRX, 48, .inl (g4926))), (ry, .inl (cRY, 48, .inl (g4927))), (rn, .inl (cRN, 48, .inl (g4928)))] := hD
    refine lv_aload_n hx hb d_BR_addToRing_42 rfl (lv_at hl 0 rfl) ?_
    refine lv_dup hx hb d_BR_addToRing_43 rfl ?_
    refine va_get (D := (dC, dI)) (ci := 8) (v := .int (nI (rs))) (C := R_BR) (T := F_BR) (N := 10) hx hb hts in_BR hown hK hP 0 rfl rfl 5 (by decide) (hts _ (List.mem_cons_of_mem _ w_260)) (fun _ h9 => h9) rfl d_BR_addToRing_44 ?_
    refine lv_iconst (v := 1) hx hb d_BR_addToRing_47 (by decide) ?_
    refine lv_iadd hx hb d_BR_addToRing_48 ?_
    refine lv_ci (y := nI (rs + 1)) (nI_add (rs) (1)) ?_
    refine va_put (D := (dC, dI)) (ci := 8) (v := .int (nI (rs + 1))) (ty := .int) (C := R_BR) (T := F_BR) (N := 10) hx hb hts in_BR t_BR t_BR_ok n_BR hown hK hP hD hS 0 rfl rfl 5 (by decide) (hts _ (List.mem_cons_of_mem _ w_260)) (fun _ h9 => h9) rfl  (by decide +kernel) rfl rfl (Nat.le_of_ble_eq_true rfl) d_BR_addToRing_49 (fun H locs hP hD hS => ?_)
    have hP : va_P (dC, dI) cls_ [(h0, .inr (8, [.ref ki, .ref ko, .ref rx, .ref ry, .ref rn, .int (nI (rs + 1)), .int (nI (be)), .int pp, .int pe, .int gb])), (rx, .inl (cRX, 48, .inl (g4926))), (ry, .inl (cRY, 48, .inl (g4927))), (rn, .inl (cRN, 48, .inl (g4928)))] H := hP
    have hD : va_D A [(h0, .inr (8, [.ref ki, .ref ko, .ref rx, .ref ry, .ref rn, .int (nI (rs + 1)), .int (nI (be)), .int pp, .int pe, .int gb])), (rx, .inl (cRX, 48, .inl (g4926))), (ry, .inl (cRY, 48, .inl (g4927))), (rn, .inl (cRN, 48, .inl (g4928)))] := hD
    refine W.widen (k := 0) (n := 0) (Nat.le_of_ble_eq_true rfl) (Nat.le_of_ble_eq_true rfl) ?_
    have hP9 := hP.sub (ws' := [(h0, .inr (8, [.ref ki, .ref ko, .ref rx, .ref ry, .ref rn, .int (nI (rs + 1)), .int (nI (be)), .int pp, .int pe, .int gb])), (rx, .inl (cRX, 48, .inl (g4926))), (ry, .inl (cRY, 48, .inl (g4927))), (rn, .inl (cRN, 48, .inl (g4928)))]) [0, 1, 2, 3] rfl
    have hD9 := hD.sub (ws' := [(h0, .inr (8, [.ref ki, .ref ko, .ref rx, .ref ry, .ref rn, .int (nI (rs + 1)), .int (nI (be)), .int pp, .int pe, .int gb])), (rx, .inl (cRX, 48, .inl (g4926))), (ry, .inl (cRY, 48, .inl (g4927))), (rn, .inl (cRN, 48, .inl (g4928)))]) [0, 1, 2, 3] (by decide) rfl
    have hK9 := hK.sub (tys' := [(cRX, .int), (cRY, .int), (cRN, .boolean)]) [0, 1, 2] rfl
    exact W.vret hx hb hr (fun t ht hW => ⟨⟨(), rfl, trivial, (rs + 1), g4926, g4927, g4928, by omega, by rw [ht]; exact hP9, va_K.moved hW.alike hK9, hD9⟩, hS.F ht⟩) hS.2.2 d_BR_addToRing_52
set_option maxHeartbeats 4000000 in
set_option maxRecDepth 100000 in
/-- GlyphLines$Brush.layRing -/
theorem g_BR_layRing (l : Launch) (dC : Nat → ClassId) (dI : Nat → Nat → Nat) (h0 : Nat) (ki : Nat) (ko : Nat) (rx : Nat) (ry : Nat) (rn : Nat) (rs : Nat) (be : Nat) (pp : Int32) (pe : Int32) (gb : Int32) (qx : Nat) (qy : Nat) (qo : Nat) (qc : Nat) (qg : Nat) (qm : Nat) (p0 : Nat) (ct : Int32) (cX : ClassId) (fx : Nat → Int32) (cY : ClassId) (fy : Nat → Int32) (cO : ClassId) (fo : Nat → Int32) (cRX : ClassId) (rX : Nat → Int32) (cRY : ClassId) (rY : Nat → Int32) (cRN : ClassId) (ro : Nat → Int32) (fr : Nat) (en : Nat) (sz : Nat) (hq0 : rs ≤ 48) (hq1 : be < 65536) (hq2 : p0 ≤ 64) (hq3 : fr ≤ en) (hq4 : en ≤ 64) : Met l y_BR_layRing s_BR_layRing ({ frames := 16, cells := 0, slots := 0, locals := 600 }) (va_Pc [.ref h0, .int (nI (fr)), .int (nI (en))] (fun U => U.heap.size = sz ∧ va_P (dC, dI) cls_ [(h0, .inr (8, [.ref ki, .ref ko, .ref rx, .ref ry, .ref rn, .int (nI (rs)), .int (nI (be)), .int pp, .int pe, .int gb])), (ko, .inr (6, [.ref qx, .ref qy, .ref qo, .ref qc, .ref qg, .ref qm, .int (nI (p0)), .int ct])), (qx, .inl (cX, 64, .inl (fx))), (qy, .inl (cY, 64, .inl (fy))), (qo, .inl (cO, 64, .inl (fo))), (rx, .inl (cRX, 48, .inl (rX))), (ry, .inl (cRY, 48, .inl (rY))), (rn, .inl (cRN, 48, .inl (ro)))] U.heap ∧ va_K (dC, dI) cls_ [(cX, .int), (cY, .int), (cO, .boolean), (cRX, .int), (cRY, .int), (cRN, .boolean)] U ∧ va_D (fun _ => True) [(h0, .inr (8, [.ref ki, .ref ko, .ref rx, .ref ry, .ref rn, .int (nI (rs)), .int (nI (be)), .int pp, .int pe, .int gb])), (ko, .inr (6, [.ref qx, .ref qy, .ref qo, .ref qc, .ref qg, .ref qm, .int (nI (p0)), .int ct])), (qx, .inl (cX, 64, .inl (fx))), (qy, .inl (cY, 64, .inl (fy))), (qo, .inl (cO, 64, .inl (fo))), (rx, .inl (cRX, 48, .inl (rX))), (ry, .inl (cRY, 48, .inl (rY))), (rn, .inl (cRN, 48, .inl (ro)))] ∧ nests U)) (va_Qv (fun _ : Unit => True) (fun (_ : Unit) (t : State) => ∃ (rs_2 : Nat) (rX_2 : Nat → Int32) (rY_2 : Nat → Int32) (ro_2 : Nat → Int32), rs_2 ≤ 48 ∧ va_P (dC, dI) cls_ [(h0, .inr (8, [.ref ki, .ref ko, .ref rx, .ref ry, .ref rn, .int (nI (rs_2)), .int (nI (be)), .int pp, .int pe, .int gb])), (ko, .inr (6, [.ref qx, .ref qy, .ref qo, .ref qc, .ref qg, .ref qm, .int (nI (p0)), .int ct])), (qx, .inl (cX, 64, .inl (fx))), (qy, .inl (cY, 64, .inl (fy))), (qo, .inl (cO, 64, .inl (fo))), (rx, .inl (cRX, 48, .inl (rX_2))), (ry, .inl (cRY, 48, .inl (rY_2))), (rn, .inl (cRN, 48, .inl (ro_2)))] t.heap ∧ va_K (dC, dI) cls_ [(cX, .int), (cY, .int), (cO, .boolean), (cRX, .int), (cRY, .int), (cRN, .boolean)] t ∧ va_D (va_A [(h0, .inr (8, [.ref ki, .ref ko, .ref rx, .ref ry, .ref rn, .int (nI (rs)), .int (nI (be)), .int pp, .int pe, .int gb])), (ko, .inr (6, [.ref qx, .ref qy, .ref qo, .ref qc, .ref qg, .ref qm, .int (nI (p0)), .int ct])), (qx, .inl (cX, 64, .inl (fx))), (qy, .inl (cY, 64, .inl (fy))), (qo, .inl (cO, 64, .inl (fo))), (rx, .inl (cRX, 48, .inl (rX))), (ry, .inl (cRY, 48, .inl (rY))), (rn, .inl (cRN, 48, .inl (ro)))] sz) [(h0, .inr (8, [.ref ki, .ref ko, .ref rx, .ref ry, .ref rn, .int (nI (rs_2)), .int (nI (be)), .int pp, .int pe, .int gb])), (ko, .inr (6, [.ref qx, .ref qy, .ref qo, .ref qc, .ref qg, .ref qm, .int (nI (p0)), .int ct])), (qx, .inl (cX, 64, .inl (fx))), (qy, .inl (cY, 64, .inl (fy))), (qo, .inl (cO, 64, .inl (fo))), (rx, .inl (cRX, 48, .inl (rX_2))), (ry, .inl (cRY, 48, .inl (rY_2))), (rn, .inl (cRN, 48, .inl (ro_2)))]) (va_A [(h0, .inr (8, [.ref ki, .ref ko, .ref rx, .ref ry, .ref rn, .int (nI (rs)), .int (nI (be)), .int pp, .int pe, .int gb])), (ko, .inr (6, [.ref qx, .ref qy, .ref qo, .ref qc, .ref qg, .ref qm, .int (nI (p0)), .int ct])), (qx, .inl (cX, 64, .inl (fx))), (qy, .inl (cY, 64, .inl (fy))), (qo, .inl (cO, 64, .inl (fo))), (rx, .inl (cRX, 48, .inl (rX))), (ry, .inl (cRY, 48, .inl (rY))), (rn, .inl (cRN, 48, .inl (ro)))] sz)) 0 0 (va_A [(h0, .inr (8, [.ref ki, .ref ko, .ref rx, .ref ry, .ref rn, .int (nI (rs)), .int (nI (be)), .int pp, .int pe, .int gb])), (ko, .inr (6, [.ref qx, .ref qy, .ref qo, .ref qc, .ref qg, .ref qm, .int (nI (p0)), .int ct])), (qx, .inl (cX, 64, .inl (fx))), (qy, .inl (cY, 64, .inl (fy))), (qo, .inl (cO, 64, .inl (fo))), (rx, .inl (cRX, 48, .inl (rX))), (ry, .inl (cRY, 48, .inl (rY))), (rn, .inl (cRN, 48, .inl (ro)))] sz) := by
  refine Met.ofW (cc := b_BR_layRing) (maxL := 5) (ret := none) (by decide) rfl ?_
  intro p e s m args below meth c s₁ B hml hv
  obtain ⟨rfl, hsz, hP, hK, hD0, hNs⟩ := hv
  have hx := B.exec
  have hb := B.bytes
  have hr := B.returns
  have hts := atoms_spec (ws := s_BR_layRing) B.pre
  have hown : s.vm.findClass R_BR = some m.cls := findClass_of_methodNamed B.named
  have hlocks := B.notSynchronized
  subst hsz
  have hD := hD0.self (sz := s.heap.size)
  generalize hAe : va_A [(h0, .inr (8, [.ref ki, .ref ko, .ref rx, .ref ry, .ref rn, .int (nI (rs)), .int (nI (be)), .int pp, .int pe, .int gb])), (ko, .inr (6, [.ref qx, .ref qy, .ref qo, .ref qc, .ref qg, .ref qm, .int (nI (p0)), .int ct])), (qx, .inl (cX, 64, .inl (fx))), (qy, .inl (cY, 64, .inl (fy))), (qo, .inl (cO, 64, .inl (fo))), (rx, .inl (cRX, 48, .inl (rX))), (ry, .inl (cRY, 48, .inl (rY))), (rn, .inl (cRN, 48, .inl (ro)))] s.heap.size = A at hD ⊢
  have hA : ∀ q : Nat, s.heap.size ≤ q → A q := fun q h => by rw [← hAe]; exact Or.inr h
  have hS : va_S A s.heap s.heap [] := va_S.rf
  have hP : va_P (dC, dI) cls_ [(h0, .inr (8, [.ref ki, .ref ko, .ref rx, .ref ry, .ref rn, .int (nI (rs)), .int (nI (be)), .int pp, .int pe, .int gb])), (ko, .inr (6, [.ref qx, .ref qy, .ref qo, .ref qc, .ref qg, .ref qm, .int (nI (p0)), .int ct])), (qx, .inl (cX, 64, .inl (fx))), (qy, .inl (cY, 64, .inl (fy))), (qo, .inl (cO, 64, .inl (fo))), (rx, .inl (cRX, 48, .inl (rX))), (ry, .inl (cRY, 48, .inl (rY))), (rn, .inl (cRN, 48, .inl (ro)))] s.heap := hP
  have hl := lv_entry ([.ref h0, .int (nI (fr)), .int (nI (en))]) (n := 5) (Nat.le_of_ble_eq_true rfl)
  rw [lg_entry_eq]
  generalize (lg_sl ([.ref h0, .int (nI (fr)), .int (nI (en))]) ++ List.replicate (5 - (lg_sl ([.ref h0, .int (nI (fr)), .int (nI (en))])).length) Slot.unset).toArray = ls at hl ⊢
  have hl : lv_has ls 5 [(0, .ref h0), (1, .int (nI (fr))), (2, .int (nI (en)))] := hl
  refine lv_aload_n hx hb d_BR_layRing_0 rfl (lv_at hl 0 rfl) ?_
  refine lv_iconst (v := 0) hx hb d_BR_layRing_1 (by decide) ?_
  refine va_put (D := (dC, dI)) (ci := 8) (v := .int 0) (ty := .int) (C := R_BR) (T := F_BR) (N := 10) hx hb hts in_BR t_BR t_BR_ok n_BR hown hK hP hD hS 0 rfl rfl 5 (by decide) (hts _ (List.mem_cons_of_mem _ w_260)) (fun _ h9 => h9) rfl  (by decide +kernel) rfl rfl (Nat.le_of_ble_eq_true rfl) d_BR_layRing_2 (fun H locs hP hD hS => ?_)
  have hP : va_P (dC, dI) cls_ [(h0, .inr (8, [.ref ki, .ref ko, .ref rx, .ref ry, .ref rn, .int 0, .int (nI (be)), .int pp, .int pe, .int gb])), (ko, .inr (6, [.ref qx, .ref qy, .ref qo, .ref qc, .ref qg, .ref qm, .int (nI (p0)), .int ct])), (qx, .inl (cX, 64, .inl (fx))), (qy, .inl (cY, 64, .inl (fy))), (qo, .inl (cO, 64, .inl (fo))), (rx, .inl (cRX, 48, .inl (rX))), (ry, .inl (cRY, 48, .inl (rY))), (rn, .inl (cRN, 48, .inl (ro)))] H := hP
  have hD : va_D A [(h0, .inr (8, [.ref ki, .ref ko, .ref rx, .ref ry, .ref rn, .int 0, .int (nI (be)), .int pp, .int pe, .int gb])), (ko, .inr (6, [.ref qx, .ref qy, .ref qo, .ref qc, .ref qg, .ref qm, .int (nI (p0)), .int ct])), (qx, .inl (cX, 64, .inl (fx))), (qy, .inl (cY, 64, .inl (fy))), (qo, .inl (cO, 64, .inl (fo))), (rx, .inl (cRX, 48, .inl (rX))), (ry, .inl (cRY, 48, .inl (rY))), (rn, .inl (cRN, 48, .inl (ro)))] := hD
  refine lv_iload_n hx hb d_BR_layRing_5 rfl (lv_at hl 1 rfl) ?_
  refine lv_istore_n (lv' := [(3, .int (nI (fr))), (0, .ref h0), (1, .int (nI (fr))), (2, .int (nI (en)))]) hx hb d_BR_layRing_6 rfl hl (by decide) rfl (fun ls hl => ?_)
  have hP8 := hP.sub (ws' := [(h0, .inr (8, [.ref ki, .ref ko, .ref rx, .ref ry, .ref rn, .int 0, .int (nI (be)), .int pp, .int pe, .int gb])), (ko, .inr (6, [.ref qx, .ref qy, .ref qo, .ref qc, .ref qg, .ref qm, .int (nI (p0)), .int ct])), (qx, .inl (cX, 64, .inl (fx))), (qy, .inl (cY, 64, .inl (fy))), (qo, .inl (cO, 64, .inl (fo))), (rx, .inl (cRX, 48, .inl (rX))), (ry, .inl (cRY, 48, .inl (rY))), (rn, .inl (cRN, 48, .inl (ro)))]) [0, 1, 2, 3, 4, 5, 6, 7] rfl
  have hD8 := hD.sub (ws' := [(h0, .inr (8, [.ref ki, .ref ko, .ref rx, .ref ry, .ref rn, .int 0, .int (nI (be)), .int pp, .int pe, .int gb])), (ko, .inr (6, [.ref qx, .ref qy, .ref qo, .ref qc, .ref qg, .ref qm, .int (nI (p0)), .int ct])), (qx, .inl (cX, 64, .inl (fx))), (qy, .inl (cY, 64, .inl (fy))), (qo, .inl (cO, 64, .inl (fo))), (rx, .inl (cRX, 48, .inl (rX))), (ry, .inl (cRY, 48, .inl (rY))), (rn, .inl (cRN, 48, .inl (ro)))]) [0, 1, 2, 3, 4, 5, 6, 7] (by decide) rfl
  refine lv_loop (α := Nat × (Nat → Int32) × (Nat → Int32) × (Nat → Int32) × Nat) 7 (fun ⟨f_h0_ringSize_5293, a_rx_5294, a_ry_5295, a_rn_5296, l3_5297⟩ H' locs' ls' => va_P (dC, dI) cls_ [(h0, .inr (8, [.ref ki, .ref ko, .ref rx, .ref ry, .ref rn, .int (nI (f_h0_ringSize_5293)), .int (nI (be)), .int pp, .int pe, .int gb])), (ko, .inr (6, [.ref qx, .ref qy, .ref qo, .ref qc, .ref qg, .ref qm, .int (nI (p0)), .int ct])), (qx, .inl (cX, 64, .inl (fx))), (qy, .inl (cY, 64, .inl (fy))), (qo, .inl (cO, 64, .inl (fo))), (rx, .inl (cRX, 48, .inl (a_rx_5294))), (ry, .inl (cRY, 48, .inl (a_ry_5295))), (rn, .inl (cRN, 48, .inl (a_rn_5296)))] H' ∧ va_D A [(h0, .inr (8, [.ref ki, .ref ko, .ref rx, .ref ry, .ref rn, .int (nI (f_h0_ringSize_5293)), .int (nI (be)), .int pp, .int pe, .int gb])), (ko, .inr (6, [.ref qx, .ref qy, .ref qo, .ref qc, .ref qg, .ref qm, .int (nI (p0)), .int ct])), (qx, .inl (cX, 64, .inl (fx))), (qy, .inl (cY, 64, .inl (fy))), (qo, .inl (cO, 64, .inl (fo))), (rx, .inl (cRX, 48, .inl (a_rx_5294))), (ry, .inl (cRY, 48, .inl (a_ry_5295))), (rn, .inl (cRN, 48, .inl (a_rn_5296)))] ∧ va_S A s.heap H' locs' ∧ lv_has ls' 5 [(3, .int (nI (l3_5297))), (0, .ref h0), (1, .int (nI (fr))), (2, .int (nI (en)))] ∧ (l3_5297 ≤ en) ∧ (fr ≤ l3_5297) ∧ (f_h0_ringSize_5293 ≤ 48)) (fun ⟨f_h0_ringSize_5293, a_rx_5294, a_ry_5295, a_rn_5296, l3_5297⟩ => []) (fun ⟨f_h0_ringSize_5293, a_rx_5294, a_ry_5295, a_rn_5296, l3_5297⟩ => en - l3_5297) ?_ (0, rX, rY, ro, fr) H locs ls ⟨hP8, hD8, hS, lv_sub hl [0, 1, 2, 3] rfl, by omega, by omega, by omega⟩
  intro ⟨f_h0_ringSize_5293, a_rx_5294, a_ry_5295, a_rn_5296, l3_5297⟩ ih5298 H locs ls ⟨hP, hD, hS, hl, hf5299, hf5300, hf5301⟩
  show W p l e _ s m _ below meth c H locs _ _ _ (F0 m 7 ls [])
  have hP : va_P (dC, dI) cls_ [(h0, .inr (8, [.ref ki, .ref ko, .ref rx, .ref ry, .ref rn, .int (nI (f_h0_ringSize_5293)), .int (nI (be)), .int pp, .int pe, .int gb])), (ko, .inr (6, [.ref qx, .ref qy, .ref qo, .ref qc, .ref qg, .ref qm, .int (nI (p0)), .int ct])), (qx, .inl (cX, 64, .inl (fx))), (qy, .inl (cY, 64, .inl (fy))), (qo, .inl (cO, 64, .inl (fo))), (rx, .inl (cRX, 48, .inl (a_rx_5294))), (ry, .inl (cRY, 48, .inl (a_ry_5295))), (rn, .inl (cRN, 48, .inl (a_rn_5296)))] H := hP
  have hD : va_D A [(h0, .inr (8, [.ref ki, .ref ko, .ref rx, .ref ry, .ref rn, .int (nI (f_h0_ringSize_5293)), .int (nI (be)), .int pp, .int pe, .int gb])), (ko, .inr (6, [.ref qx, .ref qy, .ref qo, .ref qc, .ref qg, .ref qm, .int (nI (p0)), .int ct])), (qx, .inl (cX, 64, .inl (fx))), (qy, .inl (cY, 64, .inl (fy))), (qo, .inl (cO, 64, .inl (fo))), (rx, .inl (cRX, 48, .inl (a_rx_5294))), (ry, .inl (cRY, 48, .inl (a_ry_5295))), (rn, .inl (cRN, 48, .inl (a_rn_5296)))] := hD
  refine lv_iload_n hx hb d_BR_layRing_7 rfl (lv_at hl 0 rfl) ?_
  refine lv_iload_n hx hb d_BR_layRing_8 rfl (lv_at hl 3 rfl) ?_
  refine lv_icmp_ge (tgt := 115) hx hb d_BR_layRing_9 (by decide) (fun hc5351 => ?_) (fun hc5351 => ?_)
  · skip
    have hc5351n : en ≤ l3_5297 := (nI_leI (a := en) (b := l3_5297) (by omega) (by omega)).mp hc5351
    refine W.widen (k := 0) (n := 0) (Nat.le_of_ble_eq_true rfl) (Nat.le_of_ble_eq_true rfl) ?_
    have hP9 := hP.sub (ws' := [(h0, .inr (8, [.ref ki, .ref ko, .ref rx, .ref ry, .ref rn, .int (nI (f_h0_ringSize_5293)), .int (nI (be)), .int pp, .int pe, .int gb])), (ko, .inr (6, [.ref qx, .ref qy, .ref qo, .ref qc, .ref qg, .ref qm, .int (nI (p0)), .int ct])), (qx, .inl (cX, 64, .inl (fx))), (qy, .inl (cY, 64, .inl (fy))), (qo, .inl (cO, 64, .inl (fo))), (rx, .inl (cRX, 48, .inl (a_rx_5294))), (ry, .inl (cRY, 48, .inl (a_ry_5295))), (rn, .inl (cRN, 48, .inl (a_rn_5296)))]) [0, 1, 2, 3, 4, 5, 6, 7] rfl
    have hD9 := hD.sub (ws' := [(h0, .inr (8, [.ref ki, .ref ko, .ref rx, .ref ry, .ref rn, .int (nI (f_h0_ringSize_5293)), .int (nI (be)), .int pp, .int pe, .int gb])), (ko, .inr (6, [.ref qx, .ref qy, .ref qo, .ref qc, .ref qg, .ref qm, .int (nI (p0)), .int ct])), (qx, .inl (cX, 64, .inl (fx))), (qy, .inl (cY, 64, .inl (fy))), (qo, .inl (cO, 64, .inl (fo))), (rx, .inl (cRX, 48, .inl (a_rx_5294))), (ry, .inl (cRY, 48, .inl (a_ry_5295))), (rn, .inl (cRN, 48, .inl (a_rn_5296)))]) [0, 1, 2, 3, 4, 5, 6, 7] (by decide) rfl
    have hK9 := hK.sub (tys' := [(cX, .int), (cY, .int), (cO, .boolean), (cRX, .int), (cRY, .int), (cRN, .boolean)]) [0, 1, 2, 3, 4, 5] rfl
    exact W.vret hx hb hr (fun t ht hW => ⟨⟨(), rfl, trivial, f_h0_ringSize_5293, a_rx_5294, a_ry_5295, a_rn_5296, by omega, by rw [ht]; exact hP9, va_K.moved hW.alike hK9, hD9⟩, hS.F ht⟩) hS.2.2 d_BR_layRing_115
  · skip
    have hc5351n : ¬ (en ≤ l3_5297) := fun z => hc5351 ((nI_leI (a := en) (b := l3_5297) (by omega) (by omega)).mpr z)
    refine lv_iload_n hx hb d_BR_layRing_12 rfl (lv_at hl 0 rfl) ?_
    refine lv_iconst (v := 1) hx hb d_BR_layRing_13 (by decide) ?_
    refine lv_iadd hx hb d_BR_layRing_14 ?_
    refine lv_ci (y := nI (l3_5297 + 1)) (nI_add (l3_5297) (1)) ?_
    refine lv_iload_n hx hb d_BR_layRing_15 rfl (lv_at hl 3 rfl) ?_
    refine lv_join (α := Nat) 26 (fun s0_5353 H' locs' ls' => va_P (dC, dI) cls_ [(h0, .inr (8, [.ref ki, .ref ko, .ref rx, .ref ry, .ref rn, .int (nI (f_h0_ringSize_5293)), .int (nI (be)), .int pp, .int pe, .int gb])), (ko, .inr (6, [.ref qx, .ref qy, .ref qo, .ref qc, .ref qg, .ref qm, .int (nI (p0)), .int ct])), (qx, .inl (cX, 64, .inl (fx))), (qy, .inl (cY, 64, .inl (fy))), (qo, .inl (cO, 64, .inl (fo))), (rx, .inl (cRX, 48, .inl (a_rx_5294))), (ry, .inl (cRY, 48, .inl (a_ry_5295))), (rn, .inl (cRN, 48, .inl (a_rn_5296)))] H' ∧ va_D A [(h0, .inr (8, [.ref ki, .ref ko, .ref rx, .ref ry, .ref rn, .int (nI (f_h0_ringSize_5293)), .int (nI (be)), .int pp, .int pe, .int gb])), (ko, .inr (6, [.ref qx, .ref qy, .ref qo, .ref qc, .ref qg, .ref qm, .int (nI (p0)), .int ct])), (qx, .inl (cX, 64, .inl (fx))), (qy, .inl (cY, 64, .inl (fy))), (qo, .inl (cO, 64, .inl (fo))), (rx, .inl (cRX, 48, .inl (a_rx_5294))), (ry, .inl (cRY, 48, .inl (a_ry_5295))), (rn, .inl (cRN, 48, .inl (a_rn_5296)))] ∧ va_S A s.heap H' locs' ∧ lv_has ls' 5 [(3, .int (nI (l3_5297))), (0, .ref h0), (1, .int (nI (fr))), (2, .int (nI (en)))] ∧ (s0_5353 < 64)) (fun s0_5353 => [.int (nI (s0_5353))]) ?_ (fun kj5354 => ?_)
    · skip
      intro s0_5353 H locs ls ⟨hP, hD, hS, hl, hj5355⟩
      show W p l e _ s m _ below meth c H locs _ _ _ (F0 m 26 ls [.int (nI (s0_5353))])
      have hP : va_P (dC, dI) cls_ [(h0, .inr (8, [.ref ki, .ref ko, .ref rx, .ref ry, .ref rn, .int (nI (f_h0_ringSize_5293)), .int (nI (be)), .int pp, .int pe, .int gb])), (ko, .inr (6, [.ref qx, .ref qy, .ref qo, .ref qc, .ref qg, .ref qm, .int (nI (p0)), .int ct])), (qx, .inl (cX, 64, .inl (fx))), (qy, .inl (cY, 64, .inl (fy))), (qo, .inl (cO, 64, .inl (fo))), (rx, .inl (cRX, 48, .inl (a_rx_5294))), (ry, .inl (cRY, 48, .inl (a_ry_5295))), (rn, .inl (cRN, 48, .inl (a_rn_5296)))] H := hP
      have hD : va_D A [(h0, .inr (8, [.ref ki, .ref ko, .ref rx, .ref ry, .ref rn, .int (nI (f_h0_ringSize_5293)), .int (nI (be)), .int pp, .int pe, .int gb])), (ko, .inr (6, [.ref qx, .ref qy, .ref qo, .ref qc, .ref qg, .ref qm, .int (nI (p0)), .int ct])), (qx, .inl (cX, 64, .inl (fx))), (qy, .inl (cY, 64, .inl (fy))), (qo, .inl (cO, 64, .inl (fo))), (rx, .inl (cRX, 48, .inl (a_rx_5294))), (ry, .inl (cRY, 48, .inl (a_ry_5295))), (rn, .inl (cRN, 48, .inl (a_rn_5296)))] := hD
      refine lv_istore (lv' := [(4, .int (nI (s0_5353))), (3, .int (nI (l3_5297))), (0, .ref h0), (1, .int (nI (fr))), (2, .int (nI (en)))]) hx hb d_BR_layRing_26 hl (by decide) rfl (fun ls hl => ?_)
      refine lv_aload_n hx hb d_BR_layRing_28 rfl (lv_at hl 2 rfl) ?_
      refine lv_aload_n hx hb d_BR_layRing_29 rfl (lv_at hl 2 rfl) ?_
      refine lv_iload_n hx hb d_BR_layRing_30 rfl (lv_at hl 1 rfl) ?_
      have hPc := hP.sub (ws' := [(h0, .inr (8, [.ref ki, .ref ko, .ref rx, .ref ry, .ref rn, .int (nI (f_h0_ringSize_5293)), .int (nI (be)), .int pp, .int pe, .int gb])), (ko, .inr (6, [.ref qx, .ref qy, .ref qo, .ref qc, .ref qg, .ref qm, .int (nI (p0)), .int ct])), (qx, .inl (cX, 64, .inl (fx)))]) [0, 1, 2] rfl
      have hDc := hD.sub (ws' := [(h0, .inr (8, [.ref ki, .ref ko, .ref rx, .ref ry, .ref rn, .int (nI (f_h0_ringSize_5293)), .int (nI (be)), .int pp, .int pe, .int gb])), (ko, .inr (6, [.ref qx, .ref qy, .ref qo, .ref qc, .ref qg, .ref qm, .int (nI (p0)), .int ct])), (qx, .inl (cX, 64, .inl (fx)))]) [0, 1, 2] (by decide) rfl
      have hKc := hK.sub (tys' := [(cX, .int)]) [0] rfl
      have hFc := va_free (wc := [(h0, .inr (8, [.ref ki, .ref ko, .ref rx, .ref ry, .ref rn, .int (nI (f_h0_ringSize_5293)), .int (nI (be)), .int pp, .int pe, .int gb])), (ko, .inr (6, [.ref qx, .ref qy, .ref qo, .ref qc, .ref qg, .ref qm, .int (nI (p0)), .int ct])), (qx, .inl (cX, 64, .inl (fx)))]) hD hS hA [0, 1, 2] rfl
      refine va_calli (va_runV (As := [.int (nI (l3_5297))]) (rest := [.ref h0]) ⟨hx, hb, hml, hown, hts⟩ (g_BR_xOf l dC dI h0 ki ko rx ry rn f_h0_ringSize_5293 be pp pe gb qx qy qo qc qg qm p0 ct cX fx l3_5297 H.size (by omega) (by omega) (by omega) (by omega)) (cwV 1 hts (tw_inV w_782 w_784 wp_28 w_10 w_785) rfl rfl rfl (by decide +kernel) ⟨Nat.le_of_ble_eq_true rfl, Nat.le_of_ble_eq_true rfl⟩) ⟨fun a U g mk q => by obtain ⟨q0, q1, qP, qK, qD, qE0⟩ := q; exact ⟨q0, q1, qP, va_K.moved (u := U) (U := U.calling g mk a) (Vm.Alike.refl U.vm) qK, qD, nests.call qE0⟩, va_recv (hK := hK) (hP := hP) (q0 := 0) (ci := 8) rfl rfl, fun U hU hW => ⟨rfl, by rw [hU], by rw [hU]; exact hPc, va_K.moved hW.alike hKc, hDc.weaken (fun _ _ _ _ => trivial), nests.warm hW hNs⟩⟩ rfl rfl hl.1 rfl (lv_room (Nat.le_of_ble_eq_true rfl)) d_BR_layRing_31 ⟨Nat.le_of_ble_eq_true rfl, Nat.le_of_ble_eq_true rfl⟩) hS (fun q _ h => hFc q h) hFc (fun r5356 u t H1 locs ht hvm hw hB hz1 hk1 hS => ?_)
      obtain ⟨hP1, hK1, hD1⟩ := hB
      rw [ht] at hP1
      have hK1 := va_K.moved hvm.symm hK1
      obtain ⟨hP, hD⟩ := va_join (wr := [(qy, .inl (cY, 64, .inl (fy))), (qo, .inl (cO, 64, .inl (fo))), (rx, .inl (cRX, 48, .inl (a_rx_5294))), (ry, .inl (cRY, 48, .inl (a_ry_5295))), (rn, .inl (cRN, 48, .inl (a_rn_5296)))]) (w1 := [(h0, .inr (8, [.ref ki, .ref ko, .ref rx, .ref ry, .ref rn, .int (nI (f_h0_ringSize_5293)), .int (nI (be)), .int pp, .int pe, .int gb])), (ko, .inr (6, [.ref qx, .ref qy, .ref qo, .ref qc, .ref qg, .ref qm, .int (nI (p0)), .int ct])), (qx, .inl (cX, 64, .inl (fx)))]) hP hD [0, 1, 2] [3, 4, 5, 6, 7] rfl rfl (by decide) (by decide) hk1 hFc hP1 hD1
      have hK := (hK.sub (tys' := [(cY, .int), (cO, .boolean), (cRX, .int), (cRY, .int), (cRN, .boolean)]) [1, 2, 3, 4, 5] rfl).app hK1
      generalize H1 = H at hP hS ⊢
      have hP : va_P (dC, dI) cls_ [(qy, .inl (cY, 64, .inl (fy))), (qo, .inl (cO, 64, .inl (fo))), (rx, .inl (cRX, 48, .inl (a_rx_5294))), (ry, .inl (cRY, 48, .inl (a_ry_5295))), (rn, .inl (cRN, 48, .inl (a_rn_5296))), (h0, .inr (8, [.ref ki, .ref ko, .ref rx, .ref ry, .ref rn, .int (nI (f_h0_ringSize_5293)), .int (nI (be)), .int pp, .int pe, .int gb])), (ko, .inr (6, [.ref qx, .ref qy, .ref qo, .ref qc, .ref qg, .ref qm, .int (nI (p0)), .int ct])), (qx, .inl (cX, 64, .inl (fx)))] H := hP
      have hD : va_D A [(qy, .inl (cY, 64, .inl (fy))), (qo, .inl (cO, 64, .inl (fo))), (rx, .inl (cRX, 48, .inl (a_rx_5294))), (ry, .inl (cRY, 48, .inl (a_ry_5295))), (rn, .inl (cRN, 48, .inl (a_rn_5296))), (h0, .inr (8, [.ref ki, .ref ko, .ref rx, .ref ry, .ref rn, .int (nI (f_h0_ringSize_5293)), .int (nI (be)), .int pp, .int pe, .int gb])), (ko, .inr (6, [.ref qx, .ref qy, .ref qo, .ref qc, .ref qg, .ref qm, .int (nI (p0)), .int ct])), (qx, .inl (cX, 64, .inl (fx)))] := hD
      have hK : va_K (dC, dI) cls_ [(cY, .int), (cO, .boolean), (cRX, .int), (cRY, .int), (cRN, .boolean), (cX, .int)] s := hK
      have hw_r5356 := hw
      refine lv_aload_n hx hb d_BR_layRing_34 rfl (lv_at hl 2 rfl) ?_
      refine lv_iload_n hx hb d_BR_layRing_35 rfl (lv_at hl 1 rfl) ?_
      have hPc := hP.sub (ws' := [(h0, .inr (8, [.ref ki, .ref ko, .ref rx, .ref ry, .ref rn, .int (nI (f_h0_ringSize_5293)), .int (nI (be)), .int pp, .int pe, .int gb])), (ko, .inr (6, [.ref qx, .ref qy, .ref qo, .ref qc, .ref qg, .ref qm, .int (nI (p0)), .int ct])), (qy, .inl (cY, 64, .inl (fy)))]) [5, 6, 0] rfl
      have hDc := hD.sub (ws' := [(h0, .inr (8, [.ref ki, .ref ko, .ref rx, .ref ry, .ref rn, .int (nI (f_h0_ringSize_5293)), .int (nI (be)), .int pp, .int pe, .int gb])), (ko, .inr (6, [.ref qx, .ref qy, .ref qo, .ref qc, .ref qg, .ref qm, .int (nI (p0)), .int ct])), (qy, .inl (cY, 64, .inl (fy)))]) [5, 6, 0] (by decide) rfl
      have hKc := hK.sub (tys' := [(cY, .int)]) [0] rfl
      have hFc := va_free (wc := [(h0, .inr (8, [.ref ki, .ref ko, .ref rx, .ref ry, .ref rn, .int (nI (f_h0_ringSize_5293)), .int (nI (be)), .int pp, .int pe, .int gb])), (ko, .inr (6, [.ref qx, .ref qy, .ref qo, .ref qc, .ref qg, .ref qm, .int (nI (p0)), .int ct])), (qy, .inl (cY, 64, .inl (fy)))]) hD hS hA [5, 6, 0] rfl
      refine va_calli (va_runV (As := [.int (nI (l3_5297))]) (rest := [.int r5356, .ref h0]) ⟨hx, hb, hml, hown, hts⟩ (g_BR_yOf l dC dI h0 ki ko rx ry rn f_h0_ringSize_5293 be pp pe gb qx qy qo qc qg qm p0 ct cY fy l3_5297 H.size (by omega) (by omega) (by omega) (by omega)) (cwV 1 hts (tw_inV w_786 w_788 wp_29 w_10 w_789) rfl rfl rfl (by decide +kernel) ⟨Nat.le_of_ble_eq_true rfl, Nat.le_of_ble_eq_true rfl⟩) ⟨fun a U g mk q => by obtain ⟨q0, q1, qP, qK, qD, qE0⟩ := q; exact ⟨q0, q1, qP, va_K.moved (u := U) (U := U.calling g mk a) (Vm.Alike.refl U.vm) qK, qD, nests.call qE0⟩, va_recv (hK := hK) (hP := hP) (q0 := 5) (ci := 8) rfl rfl, fun U hU hW => ⟨rfl, by rw [hU], by rw [hU]; exact hPc, va_K.moved hW.alike hKc, hDc.weaken (fun _ _ _ _ => trivial), nests.warm hW hNs⟩⟩ rfl rfl hl.1 rfl (lv_room (Nat.le_of_ble_eq_true rfl)) d_BR_layRing_36 ⟨Nat.le_of_ble_eq_true rfl, Nat.le_of_ble_eq_true rfl⟩) hS (fun q _ h => hFc q h) hFc (fun r5357 u t H1 locs ht hvm hw hB hz1 hk1 hS => ?_)
      obtain ⟨hP1, hK1, hD1⟩ := hB
      rw [ht] at hP1
      have hK1 := va_K.moved hvm.symm hK1
      obtain ⟨hP, hD⟩ := va_join (wr := [(qo, .inl (cO, 64, .inl (fo))), (rx, .inl (cRX, 48, .inl (a_rx_5294))), (ry, .inl (cRY, 48, .inl (a_ry_5295))), (rn, .inl (cRN, 48, .inl (a_rn_5296))), (qx, .inl (cX, 64, .inl (fx)))]) (w1 := [(h0, .inr (8, [.ref ki, .ref ko, .ref rx, .ref ry, .ref rn, .int (nI (f_h0_ringSize_5293)), .int (nI (be)), .int pp, .int pe, .int gb])), (ko, .inr (6, [.ref qx, .ref qy, .ref qo, .ref qc, .ref qg, .ref qm, .int (nI (p0)), .int ct])), (qy, .inl (cY, 64, .inl (fy)))]) hP hD [5, 6, 0] [1, 2, 3, 4, 7] rfl rfl (by decide) (by decide) hk1 hFc hP1 hD1
      have hK := (hK.sub (tys' := [(cO, .boolean), (cRX, .int), (cRY, .int), (cRN, .boolean), (cX, .int)]) [1, 2, 3, 4, 5] rfl).app hK1
      generalize H1 = H at hP hS ⊢
      have hP : va_P (dC, dI) cls_ [(qo, .inl (cO, 64, .inl (fo))), (rx, .inl (cRX, 48, .inl (a_rx_5294))), (ry, .inl (cRY, 48, .inl (a_ry_5295))), (rn, .inl (cRN, 48, .inl (a_rn_5296))), (qx, .inl (cX, 64, .inl (fx))), (h0, .inr (8, [.ref ki, .ref ko, .ref rx, .ref ry, .ref rn, .int (nI (f_h0_ringSize_5293)), .int (nI (be)), .int pp, .int pe, .int gb])), (ko, .inr (6, [.ref qx, .ref qy, .ref qo, .ref qc, .ref qg, .ref qm, .int (nI (p0)), .int ct])), (qy, .inl (cY, 64, .inl (fy)))] H := hP
      have hD : va_D A [(qo, .inl (cO, 64, .inl (fo))), (rx, .inl (cRX, 48, .inl (a_rx_5294))), (ry, .inl (cRY, 48, .inl (a_ry_5295))), (rn, .inl (cRN, 48, .inl (a_rn_5296))), (qx, .inl (cX, 64, .inl (fx))), (h0, .inr (8, [.ref ki, .ref ko, .ref rx, .ref ry, .ref rn, .int (nI (f_h0_ringSize_5293)), .int (nI (be)), .int pp, .int pe, .int gb])), (ko, .inr (6, [.ref qx, .ref qy, .ref qo, .ref qc, .ref qg, .ref qm, .int (nI (p0)), .int ct])), (qy, .inl (cY, 64, .inl (fy)))] := hD
      have hK : va_K (dC, dI) cls_ [(cO, .boolean), (cRX, .int), (cRY, .int), (cRN, .boolean), (cX, .int), (cY, .int)] s := hK
      have hw_r5357 := hw
      refine lv_aload_n hx hb d_BR_layRing_39 rfl (lv_at hl 2 rfl) ?_
      refine va_get (D := (dC, dI)) (ci := 8) (v := .ref ko) (C := R_BR) (T := F_BR) (N := 10) hx hb hts in_BR hown hK hP 5 rfl rfl 1 (by decide) (hts _ (List.mem_cons_of_mem _ w_256)) (fun _ h9 => h9) rfl d_BR_layRing_40 ?_
      refine va_getN (D := (dC, dI)) (ci := 6) (v := .ref qo) (C := R_OU) (T := F_OU) (N := 8) (host := "GlyphLines") hx hb hts in_OU hown hK hP 6 rfl rfl 2 (by decide) (va_Nw.use rfl (nest_16 hNs)) (fun _ h9 => h9) rfl d_BR_layRing_43 ?_
      refine lv_iload_n hx hb d_BR_layRing_46 rfl (lv_at hl 1 rfl) ?_
      refine va_zald hx hb hK hP 0 0 rfl rfl (pk_in (l3_5297) 64 (by omega) rfl (by decide)) d_BR_layRing_47 ?_
      refine lv_topi (fun v5358 ev5358 => ?_)
      have hPc := hP.sub (ws' := [(h0, .inr (8, [.ref ki, .ref ko, .ref rx, .ref ry, .ref rn, .int (nI (f_h0_ringSize_5293)), .int (nI (be)), .int pp, .int pe, .int gb])), (rx, .inl (cRX, 48, .inl (a_rx_5294))), (ry, .inl (cRY, 48, .inl (a_ry_5295))), (rn, .inl (cRN, 48, .inl (a_rn_5296)))]) [5, 1, 2, 3] rfl
      have hDc := hD.sub (ws' := [(h0, .inr (8, [.ref ki, .ref ko, .ref rx, .ref ry, .ref rn, .int (nI (f_h0_ringSize_5293)), .int (nI (be)), .int pp, .int pe, .int gb])), (rx, .inl (cRX, 48, .inl (a_rx_5294))), (ry, .inl (cRY, 48, .inl (a_ry_5295))), (rn, .inl (cRN, 48, .inl (a_rn_5296)))]) [5, 1, 2, 3] (by decide) rfl
      have hKc := hK.sub (tys' := [(cRX, .int), (cRY, .int), (cRN, .boolean)]) [1, 2, 3] rfl
      have hFc := va_free (wc := [(h0, .inr (8, [.ref ki, .ref ko, .ref rx, .ref ry, .ref rn, .int (nI (f_h0_ringSize_5293)), .int (nI (be)), .int pp, .int pe, .int gb])), (rx, .inl (cRX, 48, .inl (a_rx_5294))), (ry, .inl (cRY, 48, .inl (a_ry_5295))), (rn, .inl (cRN, 48, .inl (a_rn_5296)))]) hD hS hA [5, 1, 2, 3] rfl
      refine va_callv (va_runV (As := [.int r5356, .int r5357, .int v5358]) (rest := []) ⟨hx, hb, hml, hown, hts⟩ (g_BR_addToRing l dC dI h0 ki ko rx ry rn f_h0_ringSize_5293 be pp pe gb cRX a_rx_5294 cRY a_ry_5295 cRN a_rn_5296 r5356 r5357 v5358 H.size (by omega)) (cwV 3 hts (tw_inV w_790 w_792 wp_30 w_10 w_793) rfl rfl rfl (by decide +kernel) ⟨Nat.le_of_ble_eq_true rfl, Nat.le_of_ble_eq_true rfl⟩) ⟨fun a U g mk q => by obtain ⟨q0, q1, qP, qK, qD⟩ := q; exact ⟨q0, q1, qP, va_K.moved (u := U) (U := U.calling g mk a) (Vm.Alike.refl U.vm) qK, qD⟩, va_recv (hK := hK) (hP := hP) (q0 := 5) (ci := 8) rfl rfl, fun U hU hW => ⟨rfl, by rw [hU], by rw [hU]; exact hPc, va_K.moved hW.alike hKc, hDc.weaken (fun _ _ _ _ => trivial)⟩⟩ rfl rfl hl.1 rfl (lv_room (Nat.le_of_ble_eq_true rfl)) d_BR_layRing_48 ⟨Nat.le_of_ble_eq_true rfl, Nat.le_of_ble_eq_true rfl⟩) hS (fun q _ h => hFc q h) hFc (fun u t H1 locs ht hvm hw hB hz1 hk1 hS => ?_)
      obtain ⟨rs_5359, gX_5360, gY_5361, go_5362, hq_f5363_0, hP1, hK1, hD1⟩ := hB
      rw [ht] at hP1
      have hK1 := va_K.moved hvm.symm hK1
      obtain ⟨hP, hD⟩ := va_join (wr := [(qo, .inl (cO, 64, .inl (fo))), (qx, .inl (cX, 64, .inl (fx))), (ko, .inr (6, [.ref qx, .ref qy, .ref qo, .ref qc, .ref qg, .ref qm, .int (nI (p0)), .int ct])), (qy, .inl (cY, 64, .inl (fy)))]) (w1 := [(h0, .inr (8, [.ref ki, .ref ko, .ref rx, .ref ry, .ref rn, .int (nI (rs_5359)), .int (nI (be)), .int pp, .int pe, .int gb])), (rx, .inl (cRX, 48, .inl (gX_5360))), (ry, .inl (cRY, 48, .inl (gY_5361))), (rn, .inl (cRN, 48, .inl (go_5362)))]) hP hD [5, 1, 2, 3] [0, 4, 6, 7] rfl rfl (by decide) (by decide) hk1 hFc hP1 hD1
      have hK := (hK.sub (tys' := [(cO, .boolean), (cX, .int), (cY, .int)]) [0, 4, 5] rfl).app hK1
      generalize H1 = H at hP hS ⊢
      have hP : va_P (dC, dI) cls_ [(qo, .inl (cO, 64, .inl (fo))), (qx, .inl (cX, 64, .inl (fx))), (ko, .inr (6, [.ref qx, .ref qy, .ref qo, .ref qc, .ref qg, .ref qm, .int (nI (p0)), .int ct])), (qy, .inl (cY, 64, .inl (fy))), (h0, .inr (8, [.ref ki, .ref ko, .ref rx, .ref ry, .ref rn, .int (nI (rs_5359)), .int (nI (be)), .int pp, .int pe, .int gb])), (rx, .inl (cRX, 48, .inl (gX_5360))), (ry, .inl (cRY, 48, .inl (gY_5361))), (rn, .inl (cRN, 48, .inl (go_5362)))] H := hP
      have hD : va_D A [(qo, .inl (cO, 64, .inl (fo))), (qx, .inl (cX, 64, .inl (fx))), (ko, .inr (6, [.ref qx, .ref qy, .ref qo, .ref qc, .ref qg, .ref qm, .int (nI (p0)), .int ct])), (qy, .inl (cY, 64, .inl (fy))), (h0, .inr (8, [.ref ki, .ref ko, .ref rx, .ref ry, .ref rn, .int (nI (rs_5359)), .int (nI (be)), .int pp, .int pe, .int gb])), (rx, .inl (cRX, 48, .inl (gX_5360))), (ry, .inl (cRY, 48, .inl (gY_5361))), (rn, .inl (cRN, 48, .inl (go_5362)))] := hD
      have hK : va_K (dC, dI) cls_ [(cO, .boolean), (cX, .int), (cY, .int), (cRX, .int), (cRY, .int), (cRN, .boolean)] s := hK
      refine lv_aload_n hx hb d_BR_layRing_51 rfl (lv_at hl 2 rfl) ?_
      refine va_get (D := (dC, dI)) (ci := 8) (v := .ref ko) (C := R_BR) (T := F_BR) (N := 10) hx hb hts in_BR hown hK hP 4 rfl rfl 1 (by decide) (hts _ (List.mem_cons_of_mem _ w_256)) (fun _ h9 => h9) rfl d_BR_layRing_52 ?_
      refine va_getN (D := (dC, dI)) (ci := 6) (v := .ref qo) (C := R_OU) (T := F_OU) (N := 8) (host := "GlyphLines") hx hb hts in_OU hown hK hP 2 rfl rfl 2 (by decide) (va_Nw.use rfl (nest_16 hNs)) (fun _ h9 => h9) rfl d_BR_layRing_55 ?_
      refine lv_iload_n hx hb d_BR_layRing_58 rfl (lv_at hl 1 rfl) ?_
      refine va_zald hx hb hK hP 0 0 rfl rfl (pk_in (l3_5297) 64 (by omega) rfl (by decide)) d_BR_layRing_59 ?_
      refine lv_topi (fun v5364 ev5364 => ?_)
      refine lv_join (α := Nat × (Nat → Int32) × (Nat → Int32) × (Nat → Int32)) 109 (fun ⟨f_h0_ringSize_5379, a_rx_5380, a_ry_5381, a_rn_5382⟩ H' locs' ls' => va_P (dC, dI) cls_ [(qo, .inl (cO, 64, .inl (fo))), (qx, .inl (cX, 64, .inl (fx))), (ko, .inr (6, [.ref qx, .ref qy, .ref qo, .ref qc, .ref qg, .ref qm, .int (nI (p0)), .int ct])), (qy, .inl (cY, 64, .inl (fy))), (h0, .inr (8, [.ref ki, .ref ko, .ref rx, .ref ry, .ref rn, .int (nI (f_h0_ringSize_5379)), .int (nI (be)), .int pp, .int pe, .int gb])), (rx, .inl (cRX, 48, .inl (a_rx_5380))), (ry, .inl (cRY, 48, .inl (a_ry_5381))), (rn, .inl (cRN, 48, .inl (a_rn_5382)))] H' ∧ va_D A [(qo, .inl (cO, 64, .inl (fo))), (qx, .inl (cX, 64, .inl (fx))), (ko, .inr (6, [.ref qx, .ref qy, .ref qo, .ref qc, .ref qg, .ref qm, .int (nI (p0)), .int ct])), (qy, .inl (cY, 64, .inl (fy))), (h0, .inr (8, [.ref ki, .ref ko, .ref rx, .ref ry, .ref rn, .int (nI (f_h0_ringSize_5379)), .int (nI (be)), .int pp, .int pe, .int gb])), (rx, .inl (cRX, 48, .inl (a_rx_5380))), (ry, .inl (cRY, 48, .inl (a_ry_5381))), (rn, .inl (cRN, 48, .inl (a_rn_5382)))] ∧ va_S A s.heap H' locs' ∧ lv_has ls' 5 [(4, .int (nI (s0_5353))), (3, .int (nI (l3_5297))), (0, .ref h0), (1, .int (nI (fr))), (2, .int (nI (en)))] ∧ (f_h0_ringSize_5379 ≤ 48)) (fun ⟨f_h0_ringSize_5379, a_rx_5380, a_ry_5381, a_rn_5382⟩ => []) ?_ (fun kj5383 => ?_)
      · skip
        intro ⟨f_h0_ringSize_5379, a_rx_5380, a_ry_5381, a_rn_5382⟩ H locs ls ⟨hP, hD, hS, hl, hj5384⟩
        show W p l e _ s m _ below meth c H locs _ _ _ (F0 m 109 ls [])
        have hP : va_P (dC, dI) cls_ [(qo, .inl (cO, 64, .inl (fo))), (qx, .inl (cX, 64, .inl (fx))), (ko, .inr (6, [.ref qx, .ref qy, .ref qo, .ref qc, .ref qg, .ref qm, .int (nI (p0)), .int ct])), (qy, .inl (cY, 64, .inl (fy))), (h0, .inr (8, [.ref ki, .ref ko, .ref rx, .ref ry, .ref rn, .int (nI (f_h0_ringSize_5379)), .int (nI (be)), .int pp, .int pe, .int gb])), (rx, .inl (cRX, 48, .inl (a_rx_5380))), (ry, .inl (cRY, 48, .inl (a_ry_5381))), (rn, .inl (cRN, 48, .inl (a_rn_5382)))] H := hP
        have hD : va_D A [(qo, .inl (cO, 64, .inl (fo))), (qx, .inl (cX, 64, .inl (fx))), (ko, .inr (6, [.ref qx, .ref qy, .ref qo, .ref qc, .ref qg, .ref qm, .int (nI (p0)), .int ct])), (qy, .inl (cY, 64, .inl (fy))), (h0, .inr (8, [.ref ki, .ref ko, .ref rx, .ref ry, .ref rn, .int (nI (f_h0_ringSize_5379)), .int (nI (be)), .int pp, .int pe, .int gb])), (rx, .inl (cRX, 48, .inl (a_rx_5380))), (ry, .inl (cRY, 48, .inl (a_ry_5381))), (rn, .inl (cRN, 48, .inl (a_rn_5382)))] := hD
        refine lv_iinc (k := 1) (v := nI (l3_5297 + 1)) (lv' := [(3, .int (nI (l3_5297 + 1))), (4, .int (nI (s0_5353))), (0, .ref h0), (1, .int (nI (fr))), (2, .int (nI (en)))]) hx hb d_BR_layRing_109 hl rfl (nI_add (l3_5297) 1) (by decide) rfl (fun ls hl => ?_)
        refine lv_goto (tgt := 7) hx hb d_BR_layRing_112 (by decide) ?_
        have hP8 := hP.sub (ws' := [(h0, .inr (8, [.ref ki, .ref ko, .ref rx, .ref ry, .ref rn, .int (nI (f_h0_ringSize_5379)), .int (nI (be)), .int pp, .int pe, .int gb])), (ko, .inr (6, [.ref qx, .ref qy, .ref qo, .ref qc, .ref qg, .ref qm, .int (nI (p0)), .int ct])), (qx, .inl (cX, 64, .inl (fx))), (qy, .inl (cY, 64, .inl (fy))), (qo, .inl (cO, 64, .inl (fo))), (rx, .inl (cRX, 48, .inl (a_rx_5380))), (ry, .inl (cRY, 48, .inl (a_ry_5381))), (rn, .inl (cRN, 48, .inl (a_rn_5382)))]) [4, 2, 1, 3, 0, 5, 6, 7] rfl
        have hD8 := hD.sub (ws' := [(h0, .inr (8, [.ref ki, .ref ko, .ref rx, .ref ry, .ref rn, .int (nI (f_h0_ringSize_5379)), .int (nI (be)), .int pp, .int pe, .int gb])), (ko, .inr (6, [.ref qx, .ref qy, .ref qo, .ref qc, .ref qg, .ref qm, .int (nI (p0)), .int ct])), (qx, .inl (cX, 64, .inl (fx))), (qy, .inl (cY, 64, .inl (fy))), (qo, .inl (cO, 64, .inl (fo))), (rx, .inl (cRX, 48, .inl (a_rx_5380))), (ry, .inl (cRY, 48, .inl (a_ry_5381))), (rn, .inl (cRN, 48, .inl (a_rn_5382)))]) [4, 2, 1, 3, 0, 5, 6, 7] (by decide) rfl
        exact ih5298 (f_h0_ringSize_5379, a_rx_5380, a_ry_5381, a_rn_5382, l3_5297 + 1) H locs ls (by show en - (l3_5297 + 1) < en - l3_5297; omega) ⟨hP8, hD8, hS, lv_sub hl [0, 2, 3, 4] rfl, by omega, by omega, by omega⟩
      · skip
        refine lv_if_ne (tgt := 109) hx hb d_BR_layRing_60 (by decide) (fun hc5385 => ?_) (fun hc5385 => ?_)
        · skip
          have hP8 := hP.sub (ws' := [(qo, .inl (cO, 64, .inl (fo))), (qx, .inl (cX, 64, .inl (fx))), (ko, .inr (6, [.ref qx, .ref qy, .ref qo, .ref qc, .ref qg, .ref qm, .int (nI (p0)), .int ct])), (qy, .inl (cY, 64, .inl (fy))), (h0, .inr (8, [.ref ki, .ref ko, .ref rx, .ref ry, .ref rn, .int (nI (rs_5359)), .int (nI (be)), .int pp, .int pe, .int gb])), (rx, .inl (cRX, 48, .inl (gX_5360))), (ry, .inl (cRY, 48, .inl (gY_5361))), (rn, .inl (cRN, 48, .inl (go_5362)))]) [0, 1, 2, 3, 4, 5, 6, 7] rfl
          have hD8 := hD.sub (ws' := [(qo, .inl (cO, 64, .inl (fo))), (qx, .inl (cX, 64, .inl (fx))), (ko, .inr (6, [.ref qx, .ref qy, .ref qo, .ref qc, .ref qg, .ref qm, .int (nI (p0)), .int ct])), (qy, .inl (cY, 64, .inl (fy))), (h0, .inr (8, [.ref ki, .ref ko, .ref rx, .ref ry, .ref rn, .int (nI (rs_5359)), .int (nI (be)), .int pp, .int pe, .int gb])), (rx, .inl (cRX, 48, .inl (gX_5360))), (ry, .inl (cRY, 48, .inl (gY_5361))), (rn, .inl (cRN, 48, .inl (go_5362)))]) [0, 1, 2, 3, 4, 5, 6, 7] (by decide) rfl
          exact kj5383 (rs_5359, gX_5360, gY_5361, go_5362) H locs ls ⟨hP8, hD8, hS, lv_sub hl [0, 1, 2, 3, 4] rfl, by omega⟩
        · skip
          refine lv_aload_n hx hb d_BR_layRing_63 rfl (lv_at hl 2 rfl) ?_
          refine va_get (D := (dC, dI)) (ci := 8) (v := .ref ko) (C := R_BR) (T := F_BR) (N := 10) hx hb hts in_BR hown hK hP 4 rfl rfl 1 (by decide) (hts _ (List.mem_cons_of_mem _ w_256)) (fun _ h9 => h9) rfl d_BR_layRing_64 ?_
          refine va_getN (D := (dC, dI)) (ci := 6) (v := .ref qo) (C := R_OU) (T := F_OU) (N := 8) (host := "GlyphLines") hx hb hts in_OU hown hK hP 2 rfl rfl 2 (by decide) (va_Nw.use rfl (nest_16 hNs)) (fun _ h9 => h9) rfl d_BR_layRing_67 ?_
          refine lv_iload hx hb d_BR_layRing_70 (lv_at hl 0 rfl) ?_
          refine va_zald hx hb hK hP 0 0 rfl rfl (pk_in (s0_5353) 64 (by omega) rfl (by decide)) d_BR_layRing_72 ?_
          refine lv_topi (fun v5386 ev5386 => ?_)
          refine lv_if_ne (tgt := 109) hx hb d_BR_layRing_73 (by decide) (fun hc5387 => ?_) (fun hc5387 => ?_)
          · skip
            have hP8 := hP.sub (ws' := [(qo, .inl (cO, 64, .inl (fo))), (qx, .inl (cX, 64, .inl (fx))), (ko, .inr (6, [.ref qx, .ref qy, .ref qo, .ref qc, .ref qg, .ref qm, .int (nI (p0)), .int ct])), (qy, .inl (cY, 64, .inl (fy))), (h0, .inr (8, [.ref ki, .ref ko, .ref rx, .ref ry, .ref rn, .int (nI (rs_5359)), .int (nI (be)), .int pp, .int pe, .int gb])), (rx, .inl (cRX, 48, .inl (gX_5360))), (ry, .inl (cRY, 48, .inl (gY_5361))), (rn, .inl (cRN, 48, .inl (go_5362)))]) [0, 1, 2, 3, 4, 5, 6, 7] rfl
            have hD8 := hD.sub (ws' := [(qo, .inl (cO, 64, .inl (fo))), (qx, .inl (cX, 64, .inl (fx))), (ko, .inr (6, [.ref qx, .ref qy, .ref qo, .ref qc, .ref qg, .ref qm, .int (nI (p0)), .int ct])), (qy, .inl (cY, 64, .inl (fy))), (h0, .inr (8, [.ref ki, .ref ko, .ref rx, .ref ry, .ref rn, .int (nI (rs_5359)), .int (nI (be)), .int pp, .int pe, .int gb])), (rx, .inl (cRX, 48, .inl (gX_5360))), (ry, .inl (cRY, 48, .inl (gY_5361))), (rn, .inl (cRN, 48, .inl (go_5362)))]) [0, 1, 2, 3, 4, 5, 6, 7] (by decide) rfl
            exact kj5383 (rs_5359, gX_5360, gY_5361, go_5362) H locs ls ⟨hP8, hD8, hS, lv_sub hl [0, 1, 2, 3, 4] rfl, by omega⟩
          · skip
            refine lv_aload_n hx hb d_BR_layRing_76 rfl (lv_at hl 2 rfl) ?_
            refine lv_aload_n hx hb d_BR_layRing_77 rfl (lv_at hl 2 rfl) ?_
            refine lv_iload_n hx hb d_BR_layRing_78 rfl (lv_at hl 1 rfl) ?_
            have hPc := hP.sub (ws' := [(h0, .inr (8, [.ref ki, .ref ko, .ref rx, .ref ry, .ref rn, .int (nI (rs_5359)), .int (nI (be)), .int pp, .int pe, .int gb])), (ko, .inr (6, [.ref qx, .ref qy, .ref qo, .ref qc, .ref qg, .ref qm, .int (nI (p0)), .int ct])), (qx, .inl (cX, 64, .inl (fx)))]) [4, 2, 1] rfl
            have hDc := hD.sub (ws' := [(h0, .inr (8, [.ref ki, .ref ko, .ref rx, .ref ry, .ref rn, .int (nI (rs_5359)), .int (nI (be)), .int pp, .int pe, .int gb])), (ko, .inr (6, [.ref qx, .ref qy, .ref qo, .ref qc, .ref qg, .ref qm, .int (nI (p0)), .int ct])), (qx, .inl (cX, 64, .inl (fx)))]) [4, 2, 1] (by decide) rfl
            have hKc := hK.sub (tys' := [(cX, .int)]) [1] rfl
            have hFc := va_free (wc := [(h0, .inr (8, [.ref ki, .ref ko, .ref rx, .ref ry, .ref rn, .int (nI (rs_5359)), .int (nI (be)), .int pp, .int pe, .int gb])), (ko, .inr (6, [.ref qx, .ref qy, .ref qo, .ref qc, .ref qg, .ref qm, .int (nI (p0)), .int ct])), (qx, .inl (cX, 64, .inl (fx)))]) hD hS hA [4, 2, 1] rfl
            refine va_calli (va_runV (As := [.int (nI (l3_5297))]) (rest := [.ref h0]) ⟨hx, hb, hml, hown, hts⟩ (g_BR_xOf l dC dI h0 ki ko rx ry rn rs_5359 be pp pe gb qx qy qo qc qg qm p0 ct cX fx l3_5297 H.size (by omega) (by omega) (by omega) (by omega)) (cwV 1 hts (tw_inV w_782 w_784 wp_28 w_10 w_785) rfl rfl rfl (by decide +kernel) ⟨Nat.le_of_ble_eq_true rfl, Nat.le_of_ble_eq_true rfl⟩) ⟨fun a U g mk q => by obtain ⟨q0, q1, qP, qK, qD, qE0⟩ := q; exact ⟨q0, q1, qP, va_K.moved (u := U) (U := U.calling g mk a) (Vm.Alike.refl U.vm) qK, qD, nests.call qE0⟩, va_recv (hK := hK) (hP := hP) (q0 := 4) (ci := 8) rfl rfl, fun U hU hW => ⟨rfl, by rw [hU], by rw [hU]; exact hPc, va_K.moved hW.alike hKc, hDc.weaken (fun _ _ _ _ => trivial), nests.warm hW hNs⟩⟩ rfl rfl hl.1 rfl (lv_room (Nat.le_of_ble_eq_true rfl)) d_BR_layRing_79 ⟨Nat.le_of_ble_eq_true rfl, Nat.le_of_ble_eq_true rfl⟩) hS (fun q _ h => hFc q h) hFc (fun r5388 u t H1 locs ht hvm hw hB hz1 hk1 hS => ?_)
            obtain ⟨hP1, hK1, hD1⟩ := hB
            rw [ht] at hP1
            have hK1 := va_K.moved hvm.symm hK1
            obtain ⟨hP, hD⟩ := va_join (wr := [(qo, .inl (cO, 64, .inl (fo))), (qy, .inl (cY, 64, .inl (fy))), (rx, .inl (cRX, 48, .inl (gX_5360))), (ry, .inl (cRY, 48, .inl (gY_5361))), (rn, .inl (cRN, 48, .inl (go_5362)))]) (w1 := [(h0, .inr (8, [.ref ki, .ref ko, .ref rx, .ref ry, .ref rn, .int (nI (rs_5359)), .int (nI (be)), .int pp, .int pe, .int gb])), (ko, .inr (6, [.ref qx, .ref qy, .ref qo, .ref qc, .ref qg, .ref qm, .int (nI (p0)), .int ct])), (qx, .inl (cX, 64, .inl (fx)))]) hP hD [4, 2, 1] [0, 3, 5, 6, 7] rfl rfl (by decide) (by decide) hk1 hFc hP1 hD1
            have hK := (hK.sub (tys' := [(cO, .boolean), (cY, .int), (cRX, .int), (cRY, .int), (cRN, .boolean)]) [0, 2, 3, 4, 5] rfl).app hK1
            generalize H1 = H at hP hS ⊢
            have hP : va_P (dC, dI) cls_ [(qo, .inl (cO, 64, .inl (fo))), (qy, .inl (cY, 64, .inl (fy))), (rx, .inl (cRX, 48, .inl (gX_5360))), (ry, .inl (cRY, 48, .inl (gY_5361))), (rn, .inl (cRN, 48, .inl (go_5362))), (h0, .inr (8, [.ref ki, .ref ko, .ref rx, .ref ry, .ref rn, .int (nI (rs_5359)), .int (nI (be)), .int pp, .int pe, .int gb])), (ko, .inr (6, [.ref qx, .ref qy, .ref qo, .ref qc, .ref qg, .ref qm, .int (nI (p0)), .int ct])), (qx, .inl (cX, 64, .inl (fx)))] H := hP
            have hD : va_D A [(qo, .inl (cO, 64, .inl (fo))), (qy, .inl (cY, 64, .inl (fy))), (rx, .inl (cRX, 48, .inl (gX_5360))), (ry, .inl (cRY, 48, .inl (gY_5361))), (rn, .inl (cRN, 48, .inl (go_5362))), (h0, .inr (8, [.ref ki, .ref ko, .ref rx, .ref ry, .ref rn, .int (nI (rs_5359)), .int (nI (be)), .int pp, .int pe, .int gb])), (ko, .inr (6, [.ref qx, .ref qy, .ref qo, .ref qc, .ref qg, .ref qm, .int (nI (p0)), .int ct])), (qx, .inl (cX, 64, .inl (fx)))] := hD
            have hK : va_K (dC, dI) cls_ [(cO, .boolean), (cY, .int), (cRX, .int), (cRY, .int), (cRN, .boolean), (cX, .int)] s := hK
            have hw_r5388 := hw
            refine lv_aload_n hx hb d_BR_layRing_82 rfl (lv_at hl 2 rfl) ?_
            refine lv_iload hx hb d_BR_layRing_83 (lv_at hl 0 rfl) ?_
            have hPc := hP.sub (ws' := [(h0, .inr (8, [.ref ki, .ref ko, .ref rx, .ref ry, .ref rn, .int (nI (rs_5359)), .int (nI (be)), .int pp, .int pe, .int gb])), (ko, .inr (6, [.ref qx, .ref qy, .ref qo, .ref qc, .ref qg, .ref qm, .int (nI (p0)), .int ct])), (qx, .inl (cX, 64, .inl (fx)))]) [5, 6, 7] rfl
            have hDc := hD.sub (ws' := [(h0, .inr (8, [.ref ki, .ref ko, .ref rx, .ref ry, .ref rn, .int (nI (rs_5359)), .int (nI (be)), .int pp, .int pe, .int gb])), (ko, .inr (6, [.ref qx, .ref qy, .ref qo, .ref qc, .ref qg, .ref qm, .int (nI (p0)), .int ct])), (qx, .inl (cX, 64, .inl (fx)))]) [5, 6, 7] (by decide) rfl
            have hKc := hK.sub (tys' := [(cX, .int)]) [5] rfl
            have hFc := va_free (wc := [(h0, .inr (8, [.ref ki, .ref ko, .ref rx, .ref ry, .ref rn, .int (nI (rs_5359)), .int (nI (be)), .int pp, .int pe, .int gb])), (ko, .inr (6, [.ref qx, .ref qy, .ref qo, .ref qc, .ref qg, .ref qm, .int (nI (p0)), .int ct])), (qx, .inl (cX, 64, .inl (fx)))]) hD hS hA [5, 6, 7] rfl
            refine va_calli (va_runV (As := [.int (nI (s0_5353))]) (rest := [.int r5388, .ref h0]) ⟨hx, hb, hml, hown, hts⟩ (g_BR_xOf l dC dI h0 ki ko rx ry rn rs_5359 be pp pe gb qx qy qo qc qg qm p0 ct cX fx s0_5353 H.size (by omega) (by omega) (by omega) (by omega)) (cwV 1 hts (tw_inV w_782 w_784 wp_28 w_10 w_785) rfl rfl rfl (by decide +kernel) ⟨Nat.le_of_ble_eq_true rfl, Nat.le_of_ble_eq_true rfl⟩) ⟨fun a U g mk q => by obtain ⟨q0, q1, qP, qK, qD, qE0⟩ := q; exact ⟨q0, q1, qP, va_K.moved (u := U) (U := U.calling g mk a) (Vm.Alike.refl U.vm) qK, qD, nests.call qE0⟩, va_recv (hK := hK) (hP := hP) (q0 := 5) (ci := 8) rfl rfl, fun U hU hW => ⟨rfl, by rw [hU], by rw [hU]; exact hPc, va_K.moved hW.alike hKc, hDc.weaken (fun _ _ _ _ => trivial), nests.warm hW hNs⟩⟩ rfl rfl hl.1 rfl (lv_room (Nat.le_of_ble_eq_true rfl)) d_BR_layRing_85 ⟨Nat.le_of_ble_eq_true rfl, Nat.le_of_ble_eq_true rfl⟩) hS (fun q _ h => hFc q h) hFc (fun r5389 u t H1 locs ht hvm hw hB hz1 hk1 hS => ?_)
            obtain ⟨hP1, hK1, hD1⟩ := hB
            rw [ht] at hP1
            have hK1 := va_K.moved hvm.symm hK1
            obtain ⟨hP, hD⟩ := va_join (wr := [(qo, .inl (cO, 64, .inl (fo))), (qy, .inl (cY, 64, .inl (fy))), (rx, .inl (cRX, 48, .inl (gX_5360))), (ry, .inl (cRY, 48, .inl (gY_5361))), (rn, .inl (cRN, 48, .inl (go_5362)))]) (w1 := [(h0, .inr (8, [.ref ki, .ref ko, .ref rx, .ref ry, .ref rn, .int (nI (rs_5359)), .int (nI (be)), .int pp, .int pe, .int gb])), (ko, .inr (6, [.ref qx, .ref qy, .ref qo, .ref qc, .ref qg, .ref qm, .int (nI (p0)), .int ct])), (qx, .inl (cX, 64, .inl (fx)))]) hP hD [5, 6, 7] [0, 1, 2, 3, 4] rfl rfl (by decide) (by decide) hk1 hFc hP1 hD1
            have hK := (hK.sub (tys' := [(cO, .boolean), (cY, .int), (cRX, .int), (cRY, .int), (cRN, .boolean)]) [0, 1, 2, 3, 4] rfl).app hK1
            generalize H1 = H at hP hS ⊢
            have hP : va_P (dC, dI) cls_ [(qo, .inl (cO, 64, .inl (fo))), (qy, .inl (cY, 64, .inl (fy))), (rx, .inl (cRX, 48, .inl (gX_5360))), (ry, .inl (cRY, 48, .inl (gY_5361))), (rn, .inl (cRN, 48, .inl (go_5362))), (h0, .inr (8, [.ref ki, .ref ko, .ref rx, .ref ry, .ref rn, .int (nI (rs_5359)), .int (nI (be)), .int pp, .int pe, .int gb])), (ko, .inr (6, [.ref qx, .ref qy, .ref qo, .ref qc, .ref qg, .ref qm, .int (nI (p0)), .int ct])), (qx, .inl (cX, 64, .inl (fx)))] H := hP
            have hD : va_D A [(qo, .inl (cO, 64, .inl (fo))), (qy, .inl (cY, 64, .inl (fy))), (rx, .inl (cRX, 48, .inl (gX_5360))), (ry, .inl (cRY, 48, .inl (gY_5361))), (rn, .inl (cRN, 48, .inl (go_5362))), (h0, .inr (8, [.ref ki, .ref ko, .ref rx, .ref ry, .ref rn, .int (nI (rs_5359)), .int (nI (be)), .int pp, .int pe, .int gb])), (ko, .inr (6, [.ref qx, .ref qy, .ref qo, .ref qc, .ref qg, .ref qm, .int (nI (p0)), .int ct])), (qx, .inl (cX, 64, .inl (fx)))] := hD
            have hK : va_K (dC, dI) cls_ [(cO, .boolean), (cY, .int), (cRX, .int), (cRY, .int), (cRN, .boolean), (cX, .int)] s := hK
            have hw_r5389 := hw
            have hPc := hP.sub (ws' := []) [] rfl
            have hDc := hD.sub (ws' := []) [] (by decide) rfl
            have hKc := hK.sub (tys' := []) [] rfl
            have hFc := va_free (wc := []) hD hS hA [] rfl
            refine va_calli (va_runS (As := [.int r5388, .int r5389]) (rest := [.ref h0]) ⟨hx, hb, hml, hown, hts⟩ (g_BR_halfWay l dC dI r5388 r5389 H.size) (cwS 2 hts (tw_inS w_794 w_795 w_10 w_796) rfl rfl rfl (by decide +kernel) ⟨Nat.le_of_ble_eq_true rfl, Nat.le_of_ble_eq_true rfl⟩) ⟨fun a U g mk q => by obtain ⟨q0, q1, qP, qK, qD⟩ := q; exact ⟨q0, q1, qP, va_K.moved (u := U) (U := U.calling g mk a) (Vm.Alike.refl U.vm) qK, qD⟩, fun U hU hW => ⟨rfl, by rw [hU], by rw [hU]; exact hPc, va_K.moved hW.alike hKc, hDc.weaken (fun _ _ _ _ => trivial)⟩⟩ rfl rfl hl.1 rfl (lv_room (Nat.le_of_ble_eq_true rfl)) d_BR_layRing_88 ⟨Nat.le_of_ble_eq_true rfl, Nat.le_of_ble_eq_true rfl⟩) hS (fun q _ h => hFc q h) hFc (fun r5390 u t H1 locs ht hvm hw hB hz1 hk1 hS => ?_)
            have hP1 : va_P (dC, dI) cls_ [] H1 := fun k q h => by simp at h
            have hD1 : va_D (va_A [] H.size) [] := ⟨fun i j p q h => by simp at h, fun k q h => by simp at h⟩
            obtain ⟨hP, hD⟩ := va_join (wr := [(qo, .inl (cO, 64, .inl (fo))), (qy, .inl (cY, 64, .inl (fy))), (rx, .inl (cRX, 48, .inl (gX_5360))), (ry, .inl (cRY, 48, .inl (gY_5361))), (rn, .inl (cRN, 48, .inl (go_5362))), (h0, .inr (8, [.ref ki, .ref ko, .ref rx, .ref ry, .ref rn, .int (nI (rs_5359)), .int (nI (be)), .int pp, .int pe, .int gb])), (ko, .inr (6, [.ref qx, .ref qy, .ref qo, .ref qc, .ref qg, .ref qm, .int (nI (p0)), .int ct])), (qx, .inl (cX, 64, .inl (fx)))]) (w1 := []) hP hD [] [0, 1, 2, 3, 4, 5, 6, 7] rfl rfl (by decide) (by decide) hk1 hFc hP1 hD1
            generalize H1 = H at hP hS ⊢
            have hP : va_P (dC, dI) cls_ [(qo, .inl (cO, 64, .inl (fo))), (qy, .inl (cY, 64, .inl (fy))), (rx, .inl (cRX, 48, .inl (gX_5360))), (ry, .inl (cRY, 48, .inl (gY_5361))), (rn, .inl (cRN, 48, .inl (go_5362))), (h0, .inr (8, [.ref ki, .ref ko, .ref rx, .ref ry, .ref rn, .int (nI (rs_5359)), .int (nI (be)), .int pp, .int pe, .int gb])), (ko, .inr (6, [.ref qx, .ref qy, .ref qo, .ref qc, .ref qg, .ref qm, .int (nI (p0)), .int ct])), (qx, .inl (cX, 64, .inl (fx)))] H := hP
            have hD : va_D A [(qo, .inl (cO, 64, .inl (fo))), (qy, .inl (cY, 64, .inl (fy))), (rx, .inl (cRX, 48, .inl (gX_5360))), (ry, .inl (cRY, 48, .inl (gY_5361))), (rn, .inl (cRN, 48, .inl (go_5362))), (h0, .inr (8, [.ref ki, .ref ko, .ref rx, .ref ry, .ref rn, .int (nI (rs_5359)), .int (nI (be)), .int pp, .int pe, .int gb])), (ko, .inr (6, [.ref qx, .ref qy, .ref qo, .ref qc, .ref qg, .ref qm, .int (nI (p0)), .int ct])), (qx, .inl (cX, 64, .inl (fx)))] := hD
            have hw_r5390 := hw
            refine lv_aload_n hx hb d_BR_layRing_91 rfl (lv_at hl 2 rfl) ?_
            refine lv_iload_n hx hb d_BR_layRing_92 rfl (lv_at hl 1 rfl) ?_
            have hPc := hP.sub (ws' := [(h0, .inr (8, [.ref ki, .ref ko, .ref rx, .ref ry, .ref rn, .int (nI (rs_5359)), .int (nI (be)), .int pp, .int pe, .int gb])), (ko, .inr (6, [.ref qx, .ref qy, .ref qo, .ref qc, .ref qg, .ref qm, .int (nI (p0)), .int ct])), (qy, .inl (cY, 64, .inl (fy)))]) [5, 6, 1] rfl
            have hDc := hD.sub (ws' := [(h0, .inr (8, [.ref ki, .ref ko, .ref rx, .ref ry, .ref rn, .int (nI (rs_5359)), .int (nI (be)), .int pp, .int pe, .int gb])), (ko, .inr (6, [.ref qx, .ref qy, .ref qo, .ref qc, .ref qg, .ref qm, .int (nI (p0)), .int ct])), (qy, .inl (cY, 64, .inl (fy)))]) [5, 6, 1] (by decide) rfl
            have hKc := hK.sub (tys' := [(cY, .int)]) [1] rfl
            have hFc := va_free (wc := [(h0, .inr (8, [.ref ki, .ref ko, .ref rx, .ref ry, .ref rn, .int (nI (rs_5359)), .int (nI (be)), .int pp, .int pe, .int gb])), (ko, .inr (6, [.ref qx, .ref qy, .ref qo, .ref qc, .ref qg, .ref qm, .int (nI (p0)), .int ct])), (qy, .inl (cY, 64, .inl (fy)))]) hD hS hA [5, 6, 1] rfl
            refine va_calli (va_runV (As := [.int (nI (l3_5297))]) (rest := [.int r5390, .ref h0]) ⟨hx, hb, hml, hown, hts⟩ (g_BR_yOf l dC dI h0 ki ko rx ry rn rs_5359 be pp pe gb qx qy qo qc qg qm p0 ct cY fy l3_5297 H.size (by omega) (by omega) (by omega) (by omega)) (cwV 1 hts (tw_inV w_786 w_788 wp_29 w_10 w_789) rfl rfl rfl (by decide +kernel) ⟨Nat.le_of_ble_eq_true rfl, Nat.le_of_ble_eq_true rfl⟩) ⟨fun a U g mk q => by obtain ⟨q0, q1, qP, qK, qD, qE0⟩ := q; exact ⟨q0, q1, qP, va_K.moved (u := U) (U := U.calling g mk a) (Vm.Alike.refl U.vm) qK, qD, nests.call qE0⟩, va_recv (hK := hK) (hP := hP) (q0 := 5) (ci := 8) rfl rfl, fun U hU hW => ⟨rfl, by rw [hU], by rw [hU]; exact hPc, va_K.moved hW.alike hKc, hDc.weaken (fun _ _ _ _ => trivial), nests.warm hW hNs⟩⟩ rfl rfl hl.1 rfl (lv_room (Nat.le_of_ble_eq_true rfl)) d_BR_layRing_93 ⟨Nat.le_of_ble_eq_true rfl, Nat.le_of_ble_eq_true rfl⟩) hS (fun q _ h => hFc q h) hFc (fun r5391 u t H1 locs ht hvm hw hB hz1 hk1 hS => ?_)
            obtain ⟨hP1, hK1, hD1⟩ := hB
            rw [ht] at hP1
            have hK1 := va_K.moved hvm.symm hK1
            obtain ⟨hP, hD⟩ := va_join (wr := [(qo, .inl (cO, 64, .inl (fo))), (rx, .inl (cRX, 48, .inl (gX_5360))), (ry, .inl (cRY, 48, .inl (gY_5361))), (rn, .inl (cRN, 48, .inl (go_5362))), (qx, .inl (cX, 64, .inl (fx)))]) (w1 := [(h0, .inr (8, [.ref ki, .ref ko, .ref rx, .ref ry, .ref rn, .int (nI (rs_5359)), .int (nI (be)), .int pp, .int pe, .int gb])), (ko, .inr (6, [.ref qx, .ref qy, .ref qo, .ref qc, .ref qg, .ref qm, .int (nI (p0)), .int ct])), (qy, .inl (cY, 64, .inl (fy)))]) hP hD [5, 6, 1] [0, 2, 3, 4, 7] rfl rfl (by decide) (by decide) hk1 hFc hP1 hD1
            have hK := (hK.sub (tys' := [(cO, .boolean), (cRX, .int), (cRY, .int), (cRN, .boolean), (cX, .int)]) [0, 2, 3, 4, 5] rfl).app hK1
            generalize H1 = H at hP hS ⊢
            have hP : va_P (dC, dI) cls_ [(qo, .inl (cO, 64, .inl (fo))), (rx, .inl (cRX, 48, .inl (gX_5360))), (ry, .inl (cRY, 48, .inl (gY_5361))), (rn, .inl (cRN, 48, .inl (go_5362))), (qx, .inl (cX, 64, .inl (fx))), (h0, .inr (8, [.ref ki, .ref ko, .ref rx, .ref ry, .ref rn, .int (nI (rs_5359)), .int (nI (be)), .int pp, .int pe, .int gb])), (ko, .inr (6, [.ref qx, .ref qy, .ref qo, .ref qc, .ref qg, .ref qm, .int (nI (p0)), .int ct])), (qy, .inl (cY, 64, .inl (fy)))] H := hP
            have hD : va_D A [(qo, .inl (cO, 64, .inl (fo))), (rx, .inl (cRX, 48, .inl (gX_5360))), (ry, .inl (cRY, 48, .inl (gY_5361))), (rn, .inl (cRN, 48, .inl (go_5362))), (qx, .inl (cX, 64, .inl (fx))), (h0, .inr (8, [.ref ki, .ref ko, .ref rx, .ref ry, .ref rn, .int (nI (rs_5359)), .int (nI (be)), .int pp, .int pe, .int gb])), (ko, .inr (6, [.ref qx, .ref qy, .ref qo, .ref qc, .ref qg, .ref qm, .int (nI (p0)), .int ct])), (qy, .inl (cY, 64, .inl (fy)))] := hD
            have hK : va_K (dC, dI) cls_ [(cO, .boolean), (cRX, .int), (cRY, .int), (cRN, .boolean), (cX, .int), (cY, .int)] s := hK
            have hw_r5391 := hw
            refine lv_aload_n hx hb d_BR_layRing_96 rfl (lv_at hl 2 rfl) ?_
            refine lv_iload hx hb d_BR_layRing_97 (lv_at hl 0 rfl) ?_
            have hPc := hP.sub (ws' := [(h0, .inr (8, [.ref ki, .ref ko, .ref rx, .ref ry, .ref rn, .int (nI (rs_5359)), .int (nI (be)), .int pp, .int pe, .int gb])), (ko, .inr (6, [.ref qx, .ref qy, .ref qo, .ref qc, .ref qg, .ref qm, .int (nI (p0)), .int ct])), (qy, .inl (cY, 64, .inl (fy)))]) [5, 6, 7] rfl
            have hDc := hD.sub (ws' := [(h0, .inr (8, [.ref ki, .ref ko, .ref rx, .ref ry, .ref rn, .int (nI (rs_5359)), .int (nI (be)), .int pp, .int pe, .int gb])), (ko, .inr (6, [.ref qx, .ref qy, .ref qo, .ref qc, .ref qg, .ref qm, .int (nI (p0)), .int ct])), (qy, .inl (cY, 64, .inl (fy)))]) [5, 6, 7] (by decide) rfl
            have hKc := hK.sub (tys' := [(cY, .int)]) [5] rfl
            have hFc := va_free (wc := [(h0, .inr (8, [.ref ki, .ref ko, .ref rx, .ref ry, .ref rn, .int (nI (rs_5359)), .int (nI (be)), .int pp, .int pe, .int gb])), (ko, .inr (6, [.ref qx, .ref qy, .ref qo, .ref qc, .ref qg, .ref qm, .int (nI (p0)), .int ct])), (qy, .inl (cY, 64, .inl (fy)))]) hD hS hA [5, 6, 7] rfl
            refine va_calli (va_runV (As := [.int (nI (s0_5353))]) (rest := [.int r5391, .int r5390, .ref h0]) ⟨hx, hb, hml, hown, hts⟩ (g_BR_yOf l dC dI h0 ki ko rx ry rn rs_5359 be pp pe gb qx qy qo qc qg qm p0 ct cY fy s0_5353 H.size (by omega) (by omega) (by omega) (by omega)) (cwV 1 hts (tw_inV w_786 w_788 wp_29 w_10 w_789) rfl rfl rfl (by decide +kernel) ⟨Nat.le_of_ble_eq_true rfl, Nat.le_of_ble_eq_true rfl⟩) ⟨fun a U g mk q => by obtain ⟨q0, q1, qP, qK, qD, qE0⟩ := q; exact ⟨q0, q1, qP, va_K.moved (u := U) (U := U.calling g mk a) (Vm.Alike.refl U.vm) qK, qD, nests.call qE0⟩, va_recv (hK := hK) (hP := hP) (q0 := 5) (ci := 8) rfl rfl, fun U hU hW => ⟨rfl, by rw [hU], by rw [hU]; exact hPc, va_K.moved hW.alike hKc, hDc.weaken (fun _ _ _ _ => trivial), nests.warm hW hNs⟩⟩ rfl rfl hl.1 rfl (lv_room (Nat.le_of_ble_eq_true rfl)) d_BR_layRing_99 ⟨Nat.le_of_ble_eq_true rfl, Nat.le_of_ble_eq_true rfl⟩) hS (fun q _ h => hFc q h) hFc (fun r5392 u t H1 locs ht hvm hw hB hz1 hk1 hS => ?_)
            obtain ⟨hP1, hK1, hD1⟩ := hB
            rw [ht] at hP1
            have hK1 := va_K.moved hvm.symm hK1
            obtain ⟨hP, hD⟩ := va_join (wr := [(qo, .inl (cO, 64, .inl (fo))), (rx, .inl (cRX, 48, .inl (gX_5360))), (ry, .inl (cRY, 48, .inl (gY_5361))), (rn, .inl (cRN, 48, .inl (go_5362))), (qx, .inl (cX, 64, .inl (fx)))]) (w1 := [(h0, .inr (8, [.ref ki, .ref ko, .ref rx, .ref ry, .ref rn, .int (nI (rs_5359)), .int (nI (be)), .int pp, .int pe, .int gb])), (ko, .inr (6, [.ref qx, .ref qy, .ref qo, .ref qc, .ref qg, .ref qm, .int (nI (p0)), .int ct])), (qy, .inl (cY, 64, .inl (fy)))]) hP hD [5, 6, 7] [0, 1, 2, 3, 4] rfl rfl (by decide) (by decide) hk1 hFc hP1 hD1
            have hK := (hK.sub (tys' := [(cO, .boolean), (cRX, .int), (cRY, .int), (cRN, .boolean), (cX, .int)]) [0, 1, 2, 3, 4] rfl).app hK1
            generalize H1 = H at hP hS ⊢
            have hP : va_P (dC, dI) cls_ [(qo, .inl (cO, 64, .inl (fo))), (rx, .inl (cRX, 48, .inl (gX_5360))), (ry, .inl (cRY, 48, .inl (gY_5361))), (rn, .inl (cRN, 48, .inl (go_5362))), (qx, .inl (cX, 64, .inl (fx))), (h0, .inr (8, [.ref ki, .ref ko, .ref rx, .ref ry, .ref rn, .int (nI (rs_5359)), .int (nI (be)), .int pp, .int pe, .int gb])), (ko, .inr (6, [.ref qx, .ref qy, .ref qo, .ref qc, .ref qg, .ref qm, .int (nI (p0)), .int ct])), (qy, .inl (cY, 64, .inl (fy)))] H := hP
            have hD : va_D A [(qo, .inl (cO, 64, .inl (fo))), (rx, .inl (cRX, 48, .inl (gX_5360))), (ry, .inl (cRY, 48, .inl (gY_5361))), (rn, .inl (cRN, 48, .inl (go_5362))), (qx, .inl (cX, 64, .inl (fx))), (h0, .inr (8, [.ref ki, .ref ko, .ref rx, .ref ry, .ref rn, .int (nI (rs_5359)), .int (nI (be)), .int pp, .int pe, .int gb])), (ko, .inr (6, [.ref qx, .ref qy, .ref qo, .ref qc, .ref qg, .ref qm, .int (nI (p0)), .int ct])), (qy, .inl (cY, 64, .inl (fy)))] := hD
            have hK : va_K (dC, dI) cls_ [(cO, .boolean), (cRX, .int), (cRY, .int), (cRN, .boolean), (cX, .int), (cY, .int)] s := hK
            have hw_r5392 := hw
            have hPc := hP.sub (ws' := []) [] rfl
            have hDc := hD.sub (ws' := []) [] (by decide) rfl
            have hKc := hK.sub (tys' := []) [] rfl
            have hFc := va_free (wc := []) hD hS hA [] rfl
            refine va_calli (va_runS (As := [.int r5391, .int r5392]) (rest := [.int r5390, .ref h0]) ⟨hx, hb, hml, hown, hts⟩ (g_BR_halfWay l dC dI r5391 r5392 H.size) (cwS 2 hts (tw_inS w_794 w_795 w_10 w_796) rfl rfl rfl (by decide +kernel) ⟨Nat.le_of_ble_eq_true rfl, Nat.le_of_ble_eq_true rfl⟩) ⟨fun a U g mk q => by obtain ⟨q0, q1, qP, qK, qD⟩ := q; exact ⟨q0, q1, qP, va_K.moved (u := U) (U := U.calling g mk a) (Vm.Alike.refl U.vm) qK, qD⟩, fun U hU hW => ⟨rfl, by rw [hU], by rw [hU]; exact hPc, va_K.moved hW.alike hKc, hDc.weaken (fun _ _ _ _ => trivial)⟩⟩ rfl rfl hl.1 rfl (lv_room (Nat.le_of_ble_eq_true rfl)) d_BR_layRing_102 ⟨Nat.le_of_ble_eq_true rfl, Nat.le_of_ble_eq_true rfl⟩) hS (fun q _ h => hFc q h) hFc (fun r5393 u t H1 locs ht hvm hw hB hz1 hk1 hS => ?_)
            have hP1 : va_P (dC, dI) cls_ [] H1 := fun k q h => by simp at h
            have hD1 : va_D (va_A [] H.size) [] := ⟨fun i j p q h => by simp at h, fun k q h => by simp at h⟩
            obtain ⟨hP, hD⟩ := va_join (wr := [(qo, .inl (cO, 64, .inl (fo))), (rx, .inl (cRX, 48, .inl (gX_5360))), (ry, .inl (cRY, 48, .inl (gY_5361))), (rn, .inl (cRN, 48, .inl (go_5362))), (qx, .inl (cX, 64, .inl (fx))), (h0, .inr (8, [.ref ki, .ref ko, .ref rx, .ref ry, .ref rn, .int (nI (rs_5359)), .int (nI (be)), .int pp, .int pe, .int gb])), (ko, .inr (6, [.ref qx, .ref qy, .ref qo, .ref qc, .ref qg, .ref qm, .int (nI (p0)), .int ct])), (qy, .inl (cY, 64, .inl (fy)))]) (w1 := []) hP hD [] [0, 1, 2, 3, 4, 5, 6, 7] rfl rfl (by decide) (by decide) hk1 hFc hP1 hD1
            generalize H1 = H at hP hS ⊢
            have hP : va_P (dC, dI) cls_ [(qo, .inl (cO, 64, .inl (fo))), (rx, .inl (cRX, 48, .inl (gX_5360))), (ry, .inl (cRY, 48, .inl (gY_5361))), (rn, .inl (cRN, 48, .inl (go_5362))), (qx, .inl (cX, 64, .inl (fx))), (h0, .inr (8, [.ref ki, .ref ko, .ref rx, .ref ry, .ref rn, .int (nI (rs_5359)), .int (nI (be)), .int pp, .int pe, .int gb])), (ko, .inr (6, [.ref qx, .ref qy, .ref qo, .ref qc, .ref qg, .ref qm, .int (nI (p0)), .int ct])), (qy, .inl (cY, 64, .inl (fy)))] H := hP
            have hD : va_D A [(qo, .inl (cO, 64, .inl (fo))), (rx, .inl (cRX, 48, .inl (gX_5360))), (ry, .inl (cRY, 48, .inl (gY_5361))), (rn, .inl (cRN, 48, .inl (go_5362))), (qx, .inl (cX, 64, .inl (fx))), (h0, .inr (8, [.ref ki, .ref ko, .ref rx, .ref ry, .ref rn, .int (nI (rs_5359)), .int (nI (be)), .int pp, .int pe, .int gb])), (ko, .inr (6, [.ref qx, .ref qy, .ref qo, .ref qc, .ref qg, .ref qm, .int (nI (p0)), .int ct])), (qy, .inl (cY, 64, .inl (fy)))] := hD
            have hw_r5393 := hw
            refine lv_iconst (v := 1) hx hb d_BR_layRing_105 (by decide) ?_
            have hPc := hP.sub (ws' := [(h0, .inr (8, [.ref ki, .ref ko, .ref rx, .ref ry, .ref rn, .int (nI (rs_5359)), .int (nI (be)), .int pp, .int pe, .int gb])), (rx, .inl (cRX, 48, .inl (gX_5360))), (ry, .inl (cRY, 48, .inl (gY_5361))), (rn, .inl (cRN, 48, .inl (go_5362)))]) [5, 1, 2, 3] rfl
            have hDc := hD.sub (ws' := [(h0, .inr (8, [.ref ki, .ref ko, .ref rx, .ref ry, .ref rn, .int (nI (rs_5359)), .int (nI (be)), .int pp, .int pe, .int gb])), (rx, .inl (cRX, 48, .inl (gX_5360))), (ry, .inl (cRY, 48, .inl (gY_5361))), (rn, .inl (cRN, 48, .inl (go_5362)))]) [5, 1, 2, 3] (by decide) rfl
            have hKc := hK.sub (tys' := [(cRX, .int), (cRY, .int), (cRN, .boolean)]) [1, 2, 3] rfl
            have hFc := va_free (wc := [(h0, .inr (8, [.ref ki, .ref ko, .ref rx, .ref ry, .ref rn, .int (nI (rs_5359)), .int (nI (be)), .int pp, .int pe, .int gb])), (rx, .inl (cRX, 48, .inl (gX_5360))), (ry, .inl (cRY, 48, .inl (gY_5361))), (rn, .inl (cRN, 48, .inl (go_5362)))]) hD hS hA [5, 1, 2, 3] rfl
            refine va_callv (va_runV (As := [.int r5390, .int r5393, .int 1]) (rest := []) ⟨hx, hb, hml, hown, hts⟩ (g_BR_addToRing l dC dI h0 ki ko rx ry rn rs_5359 be pp pe gb cRX gX_5360 cRY gY_5361 cRN go_5362 r5390 r5393 1 H.size (by omega)) (cwV 3 hts (tw_inV w_790 w_792 wp_30 w_10 w_793) rfl rfl rfl (by decide +kernel) ⟨Nat.le_of_ble_eq_true rfl, Nat.le_of_ble_eq_true rfl⟩) ⟨fun a U g mk q => by obtain ⟨q0, q1, qP, qK, qD⟩ := q; exact ⟨q0, q1, qP, va_K.moved (u := U) (U := U.calling g mk a) (Vm.Alike.refl U.vm) qK, qD⟩, va_recv (hK := hK) (hP := hP) (q0 := 5) (ci := 8) rfl rfl, fun U hU hW => ⟨rfl, by rw [hU], by rw [hU]; exact hPc, va_K.moved hW.alike hKc, hDc.weaken (fun _ _ _ _ => trivial)⟩⟩ rfl rfl hl.1 rfl (lv_room (Nat.le_of_ble_eq_true rfl)) d_BR_layRing_106 ⟨Nat.le_of_ble_eq_true rfl, Nat.le_of_ble_eq_true rfl⟩) hS (fun q _ h => hFc q h) hFc (fun u t H1 locs ht hvm hw hB hz1 hk1 hS => ?_)
            obtain ⟨rs_5394, gX_5395, gY_5396, go_5397, hq_f5398_0, hP1, hK1, hD1⟩ := hB
            rw [ht] at hP1
            have hK1 := va_K.moved hvm.symm hK1
            obtain ⟨hP, hD⟩ := va_join (wr := [(qo, .inl (cO, 64, .inl (fo))), (qx, .inl (cX, 64, .inl (fx))), (ko, .inr (6, [.ref qx, .ref qy, .ref qo, .ref qc, .ref qg, .ref qm, .int (nI (p0)), .int ct])), (qy, .inl (cY, 64, .inl (fy)))]) (w1 := [(h0, .inr (8, [.ref ki, .ref ko, .ref rx, .ref ry, .ref rn, .int (nI (rs_5394)), .int (nI (be)), .int pp, .int pe, .int gb])), (rx, .inl (cRX, 48, .inl (gX_5395))), (ry, .inl (cRY, 48, .inl (gY_5396))), (rn, .inl (cRN, 48, .inl (go_5397)))]) hP hD [5, 1, 2, 3] [0, 4, 6, 7] rfl rfl (by decide) (by decide) hk1 hFc hP1 hD1
            have hK := (hK.sub (tys' := [(cO, .boolean), (cX, .int), (cY, .int)]) [0, 4, 5] rfl).app hK1
            generalize H1 = H at hP hS ⊢
            have hP : va_P (dC, dI) cls_ [(qo, .inl (cO, 64, .inl (fo))), (qx, .inl (cX, 64, .inl (fx))), (ko, .inr (6, [.ref qx, .ref qy, .ref qo, .ref qc, .ref qg, .ref qm, .int (nI (p0)), .int ct])), (qy, .inl (cY, 64, .inl (fy))), (h0, .inr (8, [.ref ki, .ref ko, .ref rx, .ref ry, .ref rn, .int (nI (rs_5394)), .int (nI (be)), .int pp, .int pe, .int gb])), (rx, .inl (cRX, 48, .inl (gX_5395))), (ry, .inl (cRY, 48, .inl (gY_5396))), (rn, .inl (cRN, 48, .inl (go_5397)))] H := hP
            have hD : va_D A [(qo, .inl (cO, 64, .inl (fo))), (qx, .inl (cX, 64, .inl (fx))), (ko, .inr (6, [.ref qx, .ref qy, .ref qo, .ref qc, .ref qg, .ref qm, .int (nI (p0)), .int ct])), (qy, .inl (cY, 64, .inl (fy))), (h0, .inr (8, [.ref ki, .ref ko, .ref rx, .ref ry, .ref rn, .int (nI (rs_5394)), .int (nI (be)), .int pp, .int pe, .int gb])), (rx, .inl (cRX, 48, .inl (gX_5395))), (ry, .inl (cRY, 48, .inl (gY_5396))), (rn, .inl (cRN, 48, .inl (go_5397)))] := hD
            have hK : va_K (dC, dI) cls_ [(cO, .boolean), (cX, .int), (cY, .int), (cRX, .int), (cRY, .int), (cRN, .boolean)] s := hK
            have hP8 := hP.sub (ws' := [(qo, .inl (cO, 64, .inl (fo))), (qx, .inl (cX, 64, .inl (fx))), (ko, .inr (6, [.ref qx, .ref qy, .ref qo, .ref qc, .ref qg, .ref qm, .int (nI (p0)), .int ct])), (qy, .inl (cY, 64, .inl (fy))), (h0, .inr (8, [.ref ki, .ref ko, .ref rx, .ref ry, .ref rn, .int (nI (rs_5394)), .int (nI (be)), .int pp, .int pe, .int gb])), (rx, .inl (cRX, 48, .inl (gX_5395))), (ry, .inl (cRY, 48, .inl (gY_5396))), (rn, .inl (cRN, 48, .inl (go_5397)))]) [0, 1, 2, 3, 4, 5, 6, 7] rfl
            have hD8 := hD.sub (ws' := [(qo, .inl (cO, 64, .inl (fo))), (qx, .inl (cX, 64, .inl (fx))), (ko, .inr (6, [.ref qx, .ref qy, .ref qo, .ref qc, .ref qg, .ref qm, .int (nI (p0)), .int ct])), (qy, .inl (cY, 64, .inl (fy))), (h0, .inr (8, [.ref ki, .ref ko, .ref rx, .ref ry, .ref rn, .int (nI (rs_5394)), .int (nI (be)), .int pp, .int pe, .int gb])), (rx, .inl (cRX, 48, .inl (gX_5395))), (ry, .inl (cRY, 48, .inl (gY_5396))), (rn, .inl (cRN, 48, .inl (go_5397)))]) [0, 1, 2, 3, 4, 5, 6, 7] (by decide) rfl
            exact kj5383 (rs_5394, gX_5395, gY_5396, go_5397) H locs ls ⟨hP8, hD8, hS, lv_sub hl [0, 1, 2, 3, 4] rfl, by omega⟩
    · skip
      refine lv_icmp_ge (tgt := 25) hx hb d_BR_layRing_16 (by decide) (fun hc5399 => ?_) (fun hc5399 => ?_)
      · skip
        have hc5399n : en ≤ l3_5297 + 1 := (nI_leI (a := en) (b := l3_5297 + 1) (by omega) (by omega)).mp hc5399
        refine lv_iload_n hx hb d_BR_layRing_25 rfl (lv_at hl 2 rfl) ?_
        have hP8 := hP.sub (ws' := [(h0, .inr (8, [.ref ki, .ref ko, .ref rx, .ref ry, .ref rn, .int (nI (f_h0_ringSize_5293)), .int (nI (be)), .int pp, .int pe, .int gb])), (ko, .inr (6, [.ref qx, .ref qy, .ref qo, .ref qc, .ref qg, .ref qm, .int (nI (p0)), .int ct])), (qx, .inl (cX, 64, .inl (fx))), (qy, .inl (cY, 64, .inl (fy))), (qo, .inl (cO, 64, .inl (fo))), (rx, .inl (cRX, 48, .inl (a_rx_5294))), (ry, .inl (cRY, 48, .inl (a_ry_5295))), (rn, .inl (cRN, 48, .inl (a_rn_5296)))]) [0, 1, 2, 3, 4, 5, 6, 7] rfl
        have hD8 := hD.sub (ws' := [(h0, .inr (8, [.ref ki, .ref ko, .ref rx, .ref ry, .ref rn, .int (nI (f_h0_ringSize_5293)), .int (nI (be)), .int pp, .int pe, .int gb])), (ko, .inr (6, [.ref qx, .ref qy, .ref qo, .ref qc, .ref qg, .ref qm, .int (nI (p0)), .int ct])), (qx, .inl (cX, 64, .inl (fx))), (qy, .inl (cY, 64, .inl (fy))), (qo, .inl (cO, 64, .inl (fo))), (rx, .inl (cRX, 48, .inl (a_rx_5294))), (ry, .inl (cRY, 48, .inl (a_ry_5295))), (rn, .inl (cRN, 48, .inl (a_rn_5296)))]) [0, 1, 2, 3, 4, 5, 6, 7] (by decide) rfl
        exact kj5354 (fr) H locs ls ⟨hP8, hD8, hS, lv_sub hl [0, 1, 2, 3] rfl, by omega⟩
      · skip
        have hc5399n : ¬ (en ≤ l3_5297 + 1) := fun z => hc5399 ((nI_leI (a := en) (b := l3_5297 + 1) (by omega) (by omega)).mpr z)
        refine lv_iload_n hx hb d_BR_layRing_19 rfl (lv_at hl 0 rfl) ?_
        refine lv_iconst (v := 1) hx hb d_BR_layRing_20 (by decide) ?_
        refine lv_iadd hx hb d_BR_layRing_21 ?_
        refine lv_ci (y := nI (l3_5297 + 1)) (nI_add (l3_5297) (1)) ?_
        refine lv_goto (tgt := 26) hx hb d_BR_layRing_22 (by decide) ?_
        have hP8 := hP.sub (ws' := [(h0, .inr (8, [.ref ki, .ref ko, .ref rx, .ref ry, .ref rn, .int (nI (f_h0_ringSize_5293)), .int (nI (be)), .int pp, .int pe, .int gb])), (ko, .inr (6, [.ref qx, .ref qy, .ref qo, .ref qc, .ref qg, .ref qm, .int (nI (p0)), .int ct])), (qx, .inl (cX, 64, .inl (fx))), (qy, .inl (cY, 64, .inl (fy))), (qo, .inl (cO, 64, .inl (fo))), (rx, .inl (cRX, 48, .inl (a_rx_5294))), (ry, .inl (cRY, 48, .inl (a_ry_5295))), (rn, .inl (cRN, 48, .inl (a_rn_5296)))]) [0, 1, 2, 3, 4, 5, 6, 7] rfl
        have hD8 := hD.sub (ws' := [(h0, .inr (8, [.ref ki, .ref ko, .ref rx, .ref ry, .ref rn, .int (nI (f_h0_ringSize_5293)), .int (nI (be)), .int pp, .int pe, .int gb])), (ko, .inr (6, [.ref qx, .ref qy, .ref qo, .ref qc, .ref qg, .ref qm, .int (nI (p0)), .int ct])), (qx, .inl (cX, 64, .inl (fx))), (qy, .inl (cY, 64, .inl (fy))), (qo, .inl (cO, 64, .inl (fo))), (rx, .inl (cRX, 48, .inl (a_rx_5294))), (ry, .inl (cRY, 48, .inl (a_ry_5295))), (rn, .inl (cRN, 48, .inl (a_rn_5296)))]) [0, 1, 2, 3, 4, 5, 6, 7] (by decide) rfl
        exact kj5354 (l3_5297 + 1) H locs ls ⟨hP8, hD8, hS, lv_sub hl [0, 1, 2, 3] rfl, by omega⟩
set_option maxHeartbeats 4000000 in
set_option maxRecDepth 100000 in
/-- GlyphLines$Brush.paintCurve -/
theorem g_BR_paintCurve6 (l : Launch) (dC : Nat → ClassId) (dI : Nat → Nat → Nat) (h0 : Nat) (ki : Nat) (ko : Nat) (rx : Nat) (ry : Nat) (rn : Nat) (rs : Nat) (be : Nat) (pp : Int32) (pe : Int32) (gb : Int32) (iw : Nat) (ib : Nat) (cS : ClassId) (fs : Nat → Int32) (xp : Int32) (yp : Int32) (xq : Int32) (yq : Int32) (xr : Int32) (yr : Int32) (sz : Nat) : Met l y_BR_paintCurve s_BR_paintCurve ({ frames := 20, cells := 0, slots := 0, locals := 760 }) (va_Pc [.ref h0, .int xp, .int yp, .int xq, .int yq, .int xr, .int yr, .int 6] (fun U => U.heap.size = sz ∧ va_P (dC, dI) cls_ [(h0, .inr (8, [.ref ki, .ref ko, .ref rx, .ref ry, .ref rn, .int (nI (rs)), .int (nI (be)), .int pp, .int pe, .int gb])), (ki, .inr (7, [.ref iw, .ref ib])), (ib, .inl (cS, 1152, .inl (fs)))] U.heap ∧ va_K (dC, dI) cls_ [(cS, .int)] U ∧ va_D (fun _ => True) [(h0, .inr (8, [.ref ki, .ref ko, .ref rx, .ref ry, .ref rn, .int (nI (rs)), .int (nI (be)), .int pp, .int pe, .int gb])), (ki, .inr (7, [.ref iw, .ref ib])), (ib, .inl (cS, 1152, .inl (fs)))] ∧ nests U)) (va_Qv (fun _ : Unit => True) (fun (_ : Unit) (t : State) => ∃ (gs : Nat → Int32), va_P (dC, dI) cls_ [(h0, .inr (8, [.ref ki, .ref ko, .ref rx, .ref ry, .ref rn, .int (nI (rs)), .int (nI (be)), .int pp, .int pe, .int gb])), (ki, .inr (7, [.ref iw, .ref ib])), (ib, .inl (cS, 1152, .inl (gs)))] t.heap ∧ va_K (dC, dI) cls_ [(cS, .int)] t ∧ va_D (va_A [(h0, .inr (8, [.ref ki, .ref ko, .ref rx, .ref ry, .ref rn, .int (nI (rs)), .int (nI (be)), .int pp, .int pe, .int gb])), (ki, .inr (7, [.ref iw, .ref ib])), (ib, .inl (cS, 1152, .inl (fs)))] sz) [(h0, .inr (8, [.ref ki, .ref ko, .ref rx, .ref ry, .ref rn, .int (nI (rs)), .int (nI (be)), .int pp, .int pe, .int gb])), (ki, .inr (7, [.ref iw, .ref ib])), (ib, .inl (cS, 1152, .inl (gs)))]) (va_A [(h0, .inr (8, [.ref ki, .ref ko, .ref rx, .ref ry, .ref rn, .int (nI (rs)), .int (nI (be)), .int pp, .int pe, .int gb])), (ki, .inr (7, [.ref iw, .ref ib])), (ib, .inl (cS, 1152, .inl (fs)))] sz)) 0 0 (va_A [(h0, .inr (8, [.ref ki, .ref ko, .ref rx, .ref ry, .ref rn, .int (nI (rs)), .int (nI (be)), .int pp, .int pe, .int gb])), (ki, .inr (7, [.ref iw, .ref ib])), (ib, .inl (cS, 1152, .inl (fs)))] sz) := by
  refine Met.ofW (cc := b_BR_paintCurve) (maxL := 8) (ret := none) (by decide) rfl ?_
  intro p e s m args below meth c s₁ B hml hv
  obtain ⟨rfl, hsz, hP, hK, hD0, hNs⟩ := hv
  have hx := B.exec
  have hb := B.bytes
  have hr := B.returns
  have hts := atoms_spec (ws := s_BR_paintCurve) B.pre
  have hown : s.vm.findClass R_BR = some m.cls := findClass_of_methodNamed B.named
  have hlocks := B.notSynchronized
  subst hsz
  have hD := hD0.self (sz := s.heap.size)
  generalize hAe : va_A [(h0, .inr (8, [.ref ki, .ref ko, .ref rx, .ref ry, .ref rn, .int (nI (rs)), .int (nI (be)), .int pp, .int pe, .int gb])), (ki, .inr (7, [.ref iw, .ref ib])), (ib, .inl (cS, 1152, .inl (fs)))] s.heap.size = A at hD ⊢
  have hA : ∀ q : Nat, s.heap.size ≤ q → A q := fun q h => by rw [← hAe]; exact Or.inr h
  have hS : va_S A s.heap s.heap [] := va_S.rf
  have hP : va_P (dC, dI) cls_ [(h0, .inr (8, [.ref ki, .ref ko, .ref rx, .ref ry, .ref rn, .int (nI (rs)), .int (nI (be)), .int pp, .int pe, .int gb])), (ki, .inr (7, [.ref iw, .ref ib])), (ib, .inl (cS, 1152, .inl (fs)))] s.heap := hP
  have hl := lv_entry ([.ref h0, .int xp, .int yp, .int xq, .int yq, .int xr, .int yr, .int 6]) (n := 8) (Nat.le_of_ble_eq_true rfl)
  rw [lg_entry_eq]
  generalize (lg_sl ([.ref h0, .int xp, .int yp, .int xq, .int yq, .int xr, .int yr, .int 6]) ++ List.replicate (8 - (lg_sl ([.ref h0, .int xp, .int yp, .int xq, .int yq, .int xr, .int yr, .int 6])).length) Slot.unset).toArray = ls at hl ⊢
  have hl : lv_has ls 8 [(0, .ref h0), (1, .int xp), (2, .int yp), (3, .int xq), (4, .int yq), (5, .int xr), (6, .int yr), (7, .int 6)] := hl
  refine lv_iload hx hb d_BR_paintCurve_0 (lv_at hl 7 rfl) ?_
  refine lv_bipush (v := 6) hx hb d_BR_paintCurve_2 (by decide) ?_
  refine lv_icmp_ge (tgt := 28) hx hb d_BR_paintCurve_4 (by decide) (fun _ => ?_) (fun hc => absurd hc (by decide +kernel))
  refine lv_aload_n hx hb d_BR_paintCurve_28 rfl (lv_at hl 0 rfl) ?_
  refine va_get (D := (dC, dI)) (ci := 8) (v := .ref ki) (C := R_BR) (T := F_BR) (N := 10) hx hb hts in_BR hown hK hP 0 rfl rfl 0 (by decide) (hts _ (List.mem_cons_of_mem _ w_255)) (fun _ h9 => h9) rfl d_BR_paintCurve_29 ?_
  refine lv_iload_n hx hb d_BR_paintCurve_32 rfl (lv_at hl 1 rfl) ?_
  refine lv_iload_n hx hb d_BR_paintCurve_33 rfl (lv_at hl 2 rfl) ?_
  refine lv_iload hx hb d_BR_paintCurve_34 (lv_at hl 5 rfl) ?_
  refine lv_iload hx hb d_BR_paintCurve_36 (lv_at hl 6 rfl) ?_
  have hPc := hP.sub (ws' := [(ki, .inr (7, [.ref iw, .ref ib])), (ib, .inl (cS, 1152, .inl (fs)))]) [1, 2] rfl
  have hDc := hD.sub (ws' := [(ki, .inr (7, [.ref iw, .ref ib])), (ib, .inl (cS, 1152, .inl (fs)))]) [1, 2] (by decide) rfl
  have hKc := hK.sub (tys' := [(cS, .int)]) [0] rfl
  have hFc := va_free (wc := [(ki, .inr (7, [.ref iw, .ref ib])), (ib, .inl (cS, 1152, .inl (fs)))]) hD hS hA [1, 2] rfl
  refine va_callv (va_runV (As := [.int xp, .int yp, .int xr, .int yr]) (rest := []) ⟨hx, hb, hml, hown, hts⟩ (g_PI_addLine l dC dI ki iw ib cS fs xp yp xr yr s.heap.size) (cwV 4 hts (tw_inV w_801 w_802 w_803 w_9 w_804) rfl rfl rfl (by decide +kernel) ⟨Nat.le_of_ble_eq_true rfl, Nat.le_of_ble_eq_true rfl⟩) ⟨fun a U g mk q => by obtain ⟨q0, q1, qP, qK, qD⟩ := q; exact ⟨q0, q1, qP, va_K.moved (u := U) (U := U.calling g mk a) (Vm.Alike.refl U.vm) qK, qD⟩, va_recv (hK := hK) (hP := hP) (q0 := 1) (ci := 7) rfl rfl, fun U hU hW => ⟨rfl, by rw [hU], by rw [hU]; exact hPc, va_K.moved hW.alike hKc, hDc.weaken (fun _ _ _ _ => trivial)⟩⟩ rfl rfl hl.1 rfl (lv_room (Nat.le_of_ble_eq_true rfl)) d_BR_paintCurve_38 ⟨Nat.le_of_ble_eq_true rfl, Nat.le_of_ble_eq_true rfl⟩) hS (fun q _ h => hFc q h) hFc (fun u t H1 locs ht hvm hw hB hz1 hk1 hS => ?_)
  obtain ⟨gs_5400, hP1, hK1, hD1⟩ := hB
  rw [ht] at hP1
  have hK1 := va_K.moved hvm.symm hK1
  obtain ⟨hP, hD⟩ := va_join (wr := [(h0, .inr (8, [.ref ki, .ref ko, .ref rx, .ref ry, .ref rn, .int (nI (rs)), .int (nI (be)), .int pp, .int pe, .int gb]))]) (w1 := [(ki, .inr (7, [.ref iw, .ref ib])), (ib, .inl (cS, 1152, .inl (gs_5400)))]) hP hD [1, 2] [0] rfl rfl (by decide) (by decide) hk1 hFc hP1 hD1
  have hK := (hK.sub (tys' := []) [] rfl).app hK1
  generalize H1 = H at hP hS ⊢
  have hP : va_P (dC, dI) cls_ [(h0, .inr (8, [.ref ki, .ref ko, .ref rx, .ref ry, .ref rn, .int (nI (rs)), .int (nI (be)), .int pp, .int pe, .int gb])), (ki, .inr (7, [.ref iw, .ref ib])), (ib, .inl (cS, 1152, .inl (gs_5400)))] H := hP
  have hD : va_D A [(h0, .inr (8, [.ref ki, .ref ko, .ref rx, .ref ry, .ref rn, .int (nI (rs)), .int (nI (be)), .int pp, .int pe, .int gb])), (ki, .inr (7, [.ref iw, .ref ib])), (ib, .inl (cS, 1152, .inl (gs_5400)))] := hD
  have hK : va_K (dC, dI) cls_ [(cS, .int)] s := hK
  refine lv_goto (tgt := 61) hx hb d_BR_paintCurve_41 (by decide) ?_
  refine W.widen (k := 0) (n := 0) (Nat.le_of_ble_eq_true rfl) (Nat.le_of_ble_eq_true rfl) ?_
  have hP9 := hP.sub (ws' := [(h0, .inr (8, [.ref ki, .ref ko, .ref rx, .ref ry, .ref rn, .int (nI (rs)), .int (nI (be)), .int pp, .int pe, .int gb])), (ki, .inr (7, [.ref iw, .ref ib])), (ib, .inl (cS, 1152, .inl (gs_5400)))]) [0, 1, 2] rfl
  have hD9 := hD.sub (ws' := [(h0, .inr (8, [.ref ki, .ref ko, .ref rx, .ref ry, .ref rn, .int (nI (rs)), .int (nI (be)), .int pp, .int pe, .int gb])), (ki, .inr (7, [.ref iw, .ref ib])), (ib, .inl (cS, 1152, .inl (gs_5400)))]) [0, 1, 2] (by decide) rfl
  have hK9 := hK.sub (tys' := [(cS, .int)]) [0] rfl
  exact W.vret hx hb hr (fun t ht hW => ⟨⟨(), rfl, trivial, gs_5400, by rw [ht]; exact hP9, va_K.moved hW.alike hK9, hD9⟩, hS.F ht⟩) hS.2.2 d_BR_paintCurve_61
set_option maxHeartbeats 4000000 in
set_option maxRecDepth 100000 in
/-- GlyphLines$Brush.partCurve -/
theorem g_BR_partCurve6 (l : Launch) (dC : Nat → ClassId) (dI : Nat → Nat → Nat) (h0 : Nat) (ki : Nat) (ko : Nat) (rx : Nat) (ry : Nat) (rn : Nat) (rs : Nat) (be : Nat) (pp : Int32) (pe : Int32) (gb : Int32) (iw : Nat) (ib : Nat) (cS : ClassId) (fs : Nat → Int32) (xp : Int32) (yp : Int32) (xq : Int32) (yq : Int32) (xr : Int32) (yr : Int32) (sz : Nat) : Met l y_BR_partCurve s_BR_partCurve ({ frames := 22, cells := 0, slots := 0, locals := 820 }) (va_Pc [.ref h0, .int xp, .int yp, .int xq, .int yq, .int xr, .int yr, .int 6] (fun U => U.heap.size = sz ∧ va_P (dC, dI) cls_ [(h0, .inr (8, [.ref ki, .ref ko, .ref rx, .ref ry, .ref rn, .int (nI (rs)), .int (nI (be)), .int pp, .int pe, .int gb])), (ki, .inr (7, [.ref iw, .ref ib])), (ib, .inl (cS, 1152, .inl (fs)))] U.heap ∧ va_K (dC, dI) cls_ [(cS, .int)] U ∧ va_D (fun _ => True) [(h0, .inr (8, [.ref ki, .ref ko, .ref rx, .ref ry, .ref rn, .int (nI (rs)), .int (nI (be)), .int pp, .int pe, .int gb])), (ki, .inr (7, [.ref iw, .ref ib])), (ib, .inl (cS, 1152, .inl (fs)))] ∧ nests U)) (va_Qv (fun _ : Unit => True) (fun (_ : Unit) (t : State) => ∃ (gs : Nat → Int32), va_P (dC, dI) cls_ [(h0, .inr (8, [.ref ki, .ref ko, .ref rx, .ref ry, .ref rn, .int (nI (rs)), .int (nI (be)), .int pp, .int pe, .int gb])), (ki, .inr (7, [.ref iw, .ref ib])), (ib, .inl (cS, 1152, .inl (gs)))] t.heap ∧ va_K (dC, dI) cls_ [(cS, .int)] t ∧ va_D (va_A [(h0, .inr (8, [.ref ki, .ref ko, .ref rx, .ref ry, .ref rn, .int (nI (rs)), .int (nI (be)), .int pp, .int pe, .int gb])), (ki, .inr (7, [.ref iw, .ref ib])), (ib, .inl (cS, 1152, .inl (fs)))] sz) [(h0, .inr (8, [.ref ki, .ref ko, .ref rx, .ref ry, .ref rn, .int (nI (rs)), .int (nI (be)), .int pp, .int pe, .int gb])), (ki, .inr (7, [.ref iw, .ref ib])), (ib, .inl (cS, 1152, .inl (gs)))]) (va_A [(h0, .inr (8, [.ref ki, .ref ko, .ref rx, .ref ry, .ref rn, .int (nI (rs)), .int (nI (be)), .int pp, .int pe, .int gb])), (ki, .inr (7, [.ref iw, .ref ib])), (ib, .inl (cS, 1152, .inl (fs)))] sz)) 0 0 (va_A [(h0, .inr (8, [.ref ki, .ref ko, .ref rx, .ref ry, .ref rn, .int (nI (rs)), .int (nI (be)), .int pp, .int pe, .int gb])), (ki, .inr (7, [.ref iw, .ref ib])), (ib, .inl (cS, 1152, .inl (fs)))] sz) := by
  refine Met.ofW (cc := b_BR_partCurve) (maxL := 14) (ret := none) (by decide) rfl ?_
  intro p e s m args below meth c s₁ B hml hv
  obtain ⟨rfl, hsz, hP, hK, hD0, hNs⟩ := hv
  have hx := B.exec
  have hb := B.bytes
  have hr := B.returns
  have hts := atoms_spec (ws := s_BR_partCurve) B.pre
  have hown : s.vm.findClass R_BR = some m.cls := findClass_of_methodNamed B.named
  have hlocks := B.notSynchronized
  subst hsz
  have hD := hD0.self (sz := s.heap.size)
  generalize hAe : va_A [(h0, .inr (8, [.ref ki, .ref ko, .ref rx, .ref ry, .ref rn, .int (nI (rs)), .int (nI (be)), .int pp, .int pe, .int gb])), (ki, .inr (7, [.ref iw, .ref ib])), (ib, .inl (cS, 1152, .inl (fs)))] s.heap.size = A at hD ⊢
  have hA : ∀ q : Nat, s.heap.size ≤ q → A q := fun q h => by rw [← hAe]; exact Or.inr h
  have hS : va_S A s.heap s.heap [] := va_S.rf
  have hP : va_P (dC, dI) cls_ [(h0, .inr (8, [.ref ki, .ref ko, .ref rx, .ref ry, .ref rn, .int (nI (rs)), .int (nI (be)), .int pp, .int pe, .int gb])), (ki, .inr (7, [.ref iw, .ref ib])), (ib, .inl (cS, 1152, .inl (fs)))] s.heap := hP
  have hl := lv_entry ([.ref h0, .int xp, .int yp, .int xq, .int yq, .int xr, .int yr, .int 6]) (n := 14) (Nat.le_of_ble_eq_true rfl)
  rw [lg_entry_eq]
  generalize (lg_sl ([.ref h0, .int xp, .int yp, .int xq, .int yq, .int xr, .int yr, .int 6]) ++ List.replicate (14 - (lg_sl ([.ref h0, .int xp, .int yp, .int xq, .int yq, .int xr, .int yr, .int 6])).length) Slot.unset).toArray = ls at hl ⊢
  have hl : lv_has ls 14 [(0, .ref h0), (1, .int xp), (2, .int yp), (3, .int xq), (4, .int yq), (5, .int xr), (6, .int yr), (7, .int 6)] := hl
  refine lv_iload_n hx hb d_BR_partCurve_0 rfl (lv_at hl 1 rfl) ?_
  refine lv_iload_n hx hb d_BR_partCurve_1 rfl (lv_at hl 3 rfl) ?_
  have hPc := hP.sub (ws' := []) [] rfl
  have hDc := hD.sub (ws' := []) [] (by decide) rfl
  have hKc := hK.sub (tys' := []) [] rfl
  have hFc := va_free (wc := []) hD hS hA [] rfl
  refine va_calli (va_runS (As := [.int xp, .int xq]) (rest := []) ⟨hx, hb, hml, hown, hts⟩ (g_BR_halfWay l dC dI xp xq s.heap.size) (cwS 2 hts (tw_inS w_794 w_795 w_10 w_796) rfl rfl rfl (by decide +kernel) ⟨Nat.le_of_ble_eq_true rfl, Nat.le_of_ble_eq_true rfl⟩) ⟨fun a U g mk q => by obtain ⟨q0, q1, qP, qK, qD⟩ := q; exact ⟨q0, q1, qP, va_K.moved (u := U) (U := U.calling g mk a) (Vm.Alike.refl U.vm) qK, qD⟩, fun U hU hW => ⟨rfl, by rw [hU], by rw [hU]; exact hPc, va_K.moved hW.alike hKc, hDc.weaken (fun _ _ _ _ => trivial)⟩⟩ rfl rfl hl.1 rfl (lv_room (Nat.le_of_ble_eq_true rfl)) d_BR_partCurve_2 ⟨Nat.le_of_ble_eq_true rfl, Nat.le_of_ble_eq_true rfl⟩) hS (fun q _ h => hFc q h) hFc (fun r5401 u t H1 locs ht hvm hw hB hz1 hk1 hS => ?_)
  have hP1 : va_P (dC, dI) cls_ [] H1 := fun k q h => by simp at h
  have hD1 : va_D (va_A [] s.heap.size) [] := ⟨fun i j p q h => by simp at h, fun k q h => by simp at h⟩
  obtain ⟨hP, hD⟩ := va_join (wr := [(h0, .inr (8, [.ref ki, .ref ko, .ref rx, .ref ry, .ref rn, .int (nI (rs)), .int (nI (be)), .int pp, .int pe, .int gb])), (ki, .inr (7, [.ref iw, .ref ib])), (ib, .inl (cS, 1152, .inl (fs)))]) (w1 := []) hP hD [] [0, 1, 2] rfl rfl (by decide) (by decide) hk1 hFc hP1 hD1
  generalize H1 = H at hP hS ⊢
  have hP : va_P (dC, dI) cls_ [(h0, .inr (8, [.ref ki, .ref ko, .ref rx, .ref ry, .ref rn, .int (nI (rs)), .int (nI (be)), .int pp, .int pe, .int gb])), (ki, .inr (7, [.ref iw, .ref ib])), (ib, .inl (cS, 1152, .inl (fs)))] H := hP
  have hD : va_D A [(h0, .inr (8, [.ref ki, .ref ko, .ref rx, .ref ry, .ref rn, .int (nI (rs)), .int (nI (be)), .int pp, .int pe, .int gb])), (ki, .inr (7, [.ref iw, .ref ib])), (ib, .inl (cS, 1152, .inl (fs)))] := hD
  have hw_r5401 := hw
  refine lv_istore (lv' := [(8, .int r5401), (0, .ref h0), (1, .int xp), (2, .int yp), (3, .int xq), (4, .int yq), (5, .int xr), (6, .int yr), (7, .int 6)]) hx hb d_BR_partCurve_5 hl (by decide) rfl (fun ls hl => ?_)
  refine lv_iload_n hx hb d_BR_partCurve_7 rfl (lv_at hl 3 rfl) ?_
  refine lv_iload hx hb d_BR_partCurve_8 (lv_at hl 5 rfl) ?_
  have hPc := hP.sub (ws' := []) [] rfl
  have hDc := hD.sub (ws' := []) [] (by decide) rfl
  have hKc := hK.sub (tys' := []) [] rfl
  have hFc := va_free (wc := []) hD hS hA [] rfl
  refine va_calli (va_runS (As := [.int yp, .int yq]) (rest := []) ⟨hx, hb, hml, hown, hts⟩ (g_BR_halfWay l dC dI yp yq H.size) (cwS 2 hts (tw_inS w_794 w_795 w_10 w_796) rfl rfl rfl (by decide +kernel) ⟨Nat.le_of_ble_eq_true rfl, Nat.le_of_ble_eq_true rfl⟩) ⟨fun a U g mk q => by obtain ⟨q0, q1, qP, qK, qD⟩ := q; exact ⟨q0, q1, qP, va_K.moved (u := U) (U := U.calling g mk a) (Vm.Alike.refl U.vm) qK, qD⟩, fun U hU hW => ⟨rfl, by rw [hU], by rw [hU]; exact hPc, va_K.moved hW.alike hKc, hDc.weaken (fun _ _ _ _ => trivial)⟩⟩ rfl rfl hl.1 rfl (lv_room (Nat.le_of_ble_eq_true rfl)) d_BR_partCurve_10 ⟨Nat.le_of_ble_eq_true rfl, Nat.le_of_ble_eq_true rfl⟩) hS (fun q _ h => hFc q h) hFc (fun r5402 u t H1 locs ht hvm hw hB hz1 hk1 hS => ?_)
  have hP1 : va_P (dC, dI) cls_ [] H1 := fun k q h => by simp at h
  have hD1 : va_D (va_A [] H.size) [] := ⟨fun i j p q h => by simp at h, fun k q h => by simp at h⟩
  obtain ⟨hP, hD⟩ := va_join (wr := [(h0, .inr (8, [.ref ki, .ref ko, .ref rx, .ref ry, .ref rn, .int (nI (rs)), .int (nI (be)), .int pp, .int pe, .int gb])), (ki, .inr (7, [.ref iw, .ref ib])), (ib, .inl (cS, 1152, .inl (fs)))]) (w1 := []) hP hD [] [0, 1, 2] rfl rfl (by decide) (by decide) hk1 hFc hP1 hD1
  generalize H1 = H at hP hS ⊢
  have hP : va_P (dC, dI) cls_ [(h0, .inr (8, [.ref ki, .ref ko, .ref rx, .ref ry, .ref rn, .int (nI (rs)), .int (nI (be)), .int pp, .int pe, .int gb])), (ki, .inr (7, [.ref iw, .ref ib])), (ib, .inl (cS, 1152, .inl (fs)))] H := hP
  have hD : va_D A [(h0, .inr (8, [.ref ki, .ref ko, .ref rx, .ref ry, .ref rn, .int (nI (rs)), .int (nI (be)), .int pp, .int pe, .int gb])), (ki, .inr (7, [.ref iw, .ref ib])), (ib, .inl (cS, 1152, .inl (fs)))] := hD
  have hw_r5402 := hw
  refine lv_istore (lv' := [(9, .int r5402), (8, .int r5401), (0, .ref h0), (1, .int xp), (2, .int yp), (3, .int xq), (4, .int yq), (5, .int xr), (6, .int yr), (7, .int 6)]) hx hb d_BR_partCurve_13 hl (by decide) rfl (fun ls hl => ?_)
  refine lv_iload_n hx hb d_BR_partCurve_15 rfl (lv_at hl 5 rfl) ?_
  refine lv_iload hx hb d_BR_partCurve_16 (lv_at hl 7 rfl) ?_
  have hPc := hP.sub (ws' := []) [] rfl
  have hDc := hD.sub (ws' := []) [] (by decide) rfl
  have hKc := hK.sub (tys' := []) [] rfl
  have hFc := va_free (wc := []) hD hS hA [] rfl
  refine va_calli (va_runS (As := [.int xq, .int xr]) (rest := []) ⟨hx, hb, hml, hown, hts⟩ (g_BR_halfWay l dC dI xq xr H.size) (cwS 2 hts (tw_inS w_794 w_795 w_10 w_796) rfl rfl rfl (by decide +kernel) ⟨Nat.le_of_ble_eq_true rfl, Nat.le_of_ble_eq_true rfl⟩) ⟨fun a U g mk q => by obtain ⟨q0, q1, qP, qK, qD⟩ := q; exact ⟨q0, q1, qP, va_K.moved (u := U) (U := U.calling g mk a) (Vm.Alike.refl U.vm) qK, qD⟩, fun U hU hW => ⟨rfl, by rw [hU], by rw [hU]; exact hPc, va_K.moved hW.alike hKc, hDc.weaken (fun _ _ _ _ => trivial)⟩⟩ rfl rfl hl.1 rfl (lv_room (Nat.le_of_ble_eq_true rfl)) d_BR_partCurve_18 ⟨Nat.le_of_ble_eq_true rfl, Nat.le_of_ble_eq_true rfl⟩) hS (fun q _ h => hFc q h) hFc (fun r5403 u t H1 locs ht hvm hw hB hz1 hk1 hS => ?_)
  have hP1 : va_P (dC, dI) cls_ [] H1 := fun k q h => by simp at h
  have hD1 : va_D (va_A [] H.size) [] := ⟨fun i j p q h => by simp at h, fun k q h => by simp at h⟩
  obtain ⟨hP, hD⟩ := va_join (wr := [(h0, .inr (8, [.ref ki, .ref ko, .ref rx, .ref ry, .ref rn, .int (nI (rs)), .int (nI (be)), .int pp, .int pe, .int gb])), (ki, .inr (7, [.ref iw, .ref ib])), (ib, .inl (cS, 1152, .inl (fs)))]) (w1 := []) hP hD [] [0, 1, 2] rfl rfl (by decide) (by decide) hk1 hFc hP1 hD1
  generalize H1 = H at hP hS ⊢
  have hP : va_P (dC, dI) cls_ [(h0, .inr (8, [.ref ki, .ref ko, .ref rx, .ref ry, .ref rn, .int (nI (rs)), .int (nI (be)), .int pp, .int pe, .int gb])), (ki, .inr (7, [.ref iw, .ref ib])), (ib, .inl (cS, 1152, .inl (fs)))] H := hP
  have hD : va_D A [(h0, .inr (8, [.ref ki, .ref ko, .ref rx, .ref ry, .ref rn, .int (nI (rs)), .int (nI (be)), .int pp, .int pe, .int gb])), (ki, .inr (7, [.ref iw, .ref ib])), (ib, .inl (cS, 1152, .inl (fs)))] := hD
  have hw_r5403 := hw
  refine lv_istore (lv' := [(10, .int r5403), (9, .int r5402), (8, .int r5401), (0, .ref h0), (1, .int xp), (2, .int yp), (3, .int xq), (4, .int yq), (5, .int xr), (6, .int yr), (7, .int 6)]) hx hb d_BR_partCurve_21 hl (by decide) rfl (fun ls hl => ?_)
  refine lv_iload hx hb d_BR_partCurve_23 (lv_at hl 7 rfl) ?_
  refine lv_iload hx hb d_BR_partCurve_25 (lv_at hl 9 rfl) ?_
  have hPc := hP.sub (ws' := []) [] rfl
  have hDc := hD.sub (ws' := []) [] (by decide) rfl
  have hKc := hK.sub (tys' := []) [] rfl
  have hFc := va_free (wc := []) hD hS hA [] rfl
  refine va_calli (va_runS (As := [.int yq, .int yr]) (rest := []) ⟨hx, hb, hml, hown, hts⟩ (g_BR_halfWay l dC dI yq yr H.size) (cwS 2 hts (tw_inS w_794 w_795 w_10 w_796) rfl rfl rfl (by decide +kernel) ⟨Nat.le_of_ble_eq_true rfl, Nat.le_of_ble_eq_true rfl⟩) ⟨fun a U g mk q => by obtain ⟨q0, q1, qP, qK, qD⟩ := q; exact ⟨q0, q1, qP, va_K.moved (u := U) (U := U.calling g mk a) (Vm.Alike.refl U.vm) qK, qD⟩, fun U hU hW => ⟨rfl, by rw [hU], by rw [hU]; exact hPc, va_K.moved hW.alike hKc, hDc.weaken (fun _ _ _ _ => trivial)⟩⟩ rfl rfl hl.1 rfl (lv_room (Nat.le_of_ble_eq_true rfl)) d_BR_partCurve_27 ⟨Nat.le_of_ble_eq_true rfl, Nat.le_of_ble_eq_true rfl⟩) hS (fun q _ h => hFc q h) hFc (fun r5404 u t H1 locs ht hvm hw hB hz1 hk1 hS => ?_)
  have hP1 : va_P (dC, dI) cls_ [] H1 := fun k q h => by simp at h
  have hD1 : va_D (va_A [] H.size) [] := ⟨fun i j p q h => by simp at h, fun k q h => by simp at h⟩
  obtain ⟨hP, hD⟩ := va_join (wr := [(h0, .inr (8, [.ref ki, .ref ko, .ref rx, .ref ry, .ref rn, .int (nI (rs)), .int (nI (be)), .int pp, .int pe, .int gb])), (ki, .inr (7, [.ref iw, .ref ib])), (ib, .inl (cS, 1152, .inl (fs)))]) (w1 := []) hP hD [] [0, 1, 2] rfl rfl (by decide) (by decide) hk1 hFc hP1 hD1
  generalize H1 = H at hP hS ⊢
  have hP : va_P (dC, dI) cls_ [(h0, .inr (8, [.ref ki, .ref ko, .ref rx, .ref ry, .ref rn, .int (nI (rs)), .int (nI (be)), .int pp, .int pe, .int gb])), (ki, .inr (7, [.ref iw, .ref ib])), (ib, .inl (cS, 1152, .inl (fs)))] H := hP
  have hD : va_D A [(h0, .inr (8, [.ref ki, .ref ko, .ref rx, .ref ry, .ref rn, .int (nI (rs)), .int (nI (be)), .int pp, .int pe, .int gb])), (ki, .inr (7, [.ref iw, .ref ib])), (ib, .inl (cS, 1152, .inl (fs)))] := hD
  have hw_r5404 := hw
  refine lv_istore (lv' := [(11, .int r5404), (10, .int r5403), (9, .int r5402), (8, .int r5401), (0, .ref h0), (1, .int xp), (2, .int yp), (3, .int xq), (4, .int yq), (5, .int xr), (6, .int yr), (7, .int 6)]) hx hb d_BR_partCurve_30 hl (by decide) rfl (fun ls hl => ?_)
  refine lv_iload hx hb d_BR_partCurve_32 (lv_at hl 3 rfl) ?_
  refine lv_iload hx hb d_BR_partCurve_34 (lv_at hl 1 rfl) ?_
  have hPc := hP.sub (ws' := []) [] rfl
  have hDc := hD.sub (ws' := []) [] (by decide) rfl
  have hKc := hK.sub (tys' := []) [] rfl
  have hFc := va_free (wc := []) hD hS hA [] rfl
  refine va_calli (va_runS (As := [.int r5401, .int r5403]) (rest := []) ⟨hx, hb, hml, hown, hts⟩ (g_BR_halfWay l dC dI r5401 r5403 H.size) (cwS 2 hts (tw_inS w_794 w_795 w_10 w_796) rfl rfl rfl (by decide +kernel) ⟨Nat.le_of_ble_eq_true rfl, Nat.le_of_ble_eq_true rfl⟩) ⟨fun a U g mk q => by obtain ⟨q0, q1, qP, qK, qD⟩ := q; exact ⟨q0, q1, qP, va_K.moved (u := U) (U := U.calling g mk a) (Vm.Alike.refl U.vm) qK, qD⟩, fun U hU hW => ⟨rfl, by rw [hU], by rw [hU]; exact hPc, va_K.moved hW.alike hKc, hDc.weaken (fun _ _ _ _ => trivial)⟩⟩ rfl rfl hl.1 rfl (lv_room (Nat.le_of_ble_eq_true rfl)) d_BR_partCurve_36 ⟨Nat.le_of_ble_eq_true rfl, Nat.le_of_ble_eq_true rfl⟩) hS (fun q _ h => hFc q h) hFc (fun r5405 u t H1 locs ht hvm hw hB hz1 hk1 hS => ?_)
  have hP1 : va_P (dC, dI) cls_ [] H1 := fun k q h => by simp at h
  have hD1 : va_D (va_A [] H.size) [] := ⟨fun i j p q h => by simp at h, fun k q h => by simp at h⟩
  obtain ⟨hP, hD⟩ := va_join (wr := [(h0, .inr (8, [.ref ki, .ref ko, .ref rx, .ref ry, .ref rn, .int (nI (rs)), .int (nI (be)), .int pp, .int pe, .int gb])), (ki, .inr (7, [.ref iw, .ref ib])), (ib, .inl (cS, 1152, .inl (fs)))]) (w1 := []) hP hD [] [0, 1, 2] rfl rfl (by decide) (by decide) hk1 hFc hP1 hD1
  generalize H1 = H at hP hS ⊢
  have hP : va_P (dC, dI) cls_ [(h0, .inr (8, [.ref ki, .ref ko, .ref rx, .ref ry, .ref rn, .int (nI (rs)), .int (nI (be)), .int pp, .int pe, .int gb])), (ki, .inr (7, [.ref iw, .ref ib])), (ib, .inl (cS, 1152, .inl (fs)))] H := hP
  have hD : va_D A [(h0, .inr (8, [.ref ki, .ref ko, .ref rx, .ref ry, .ref rn, .int (nI (rs)), .int (nI (be)), .int pp, .int pe, .int gb])), (ki, .inr (7, [.ref iw, .ref ib])), (ib, .inl (cS, 1152, .inl (fs)))] := hD
  have hw_r5405 := hw
  refine lv_istore (lv' := [(12, .int r5405), (11, .int r5404), (10, .int r5403), (9, .int r5402), (8, .int r5401), (0, .ref h0), (1, .int xp), (2, .int yp), (3, .int xq), (4, .int yq), (5, .int xr), (6, .int yr), (7, .int 6)]) hx hb d_BR_partCurve_39 hl (by decide) rfl (fun ls hl => ?_)
  refine lv_iload hx hb d_BR_partCurve_41 (lv_at hl 3 rfl) ?_
  refine lv_iload hx hb d_BR_partCurve_43 (lv_at hl 1 rfl) ?_
  have hPc := hP.sub (ws' := []) [] rfl
  have hDc := hD.sub (ws' := []) [] (by decide) rfl
  have hKc := hK.sub (tys' := []) [] rfl
  have hFc := va_free (wc := []) hD hS hA [] rfl
  refine va_calli (va_runS (As := [.int r5402, .int r5404]) (rest := []) ⟨hx, hb, hml, hown, hts⟩ (g_BR_halfWay l dC dI r5402 r5404 H.size) (cwS 2 hts (tw_inS w_794 w_795 w_10 w_796) rfl rfl rfl (by decide +kernel) ⟨Nat.le_of_ble_eq_true rfl, Nat.le_of_ble_eq_true rfl⟩) ⟨fun a U g mk q => by obtain ⟨q0, q1, qP, qK, qD⟩ := q; exact ⟨q0, q1, qP, va_K.moved (u := U) (U := U.calling g mk a) (Vm.Alike.refl U.vm) qK, qD⟩, fun U hU hW => ⟨rfl, by rw [hU], by rw [hU]; exact hPc, va_K.moved hW.alike hKc, hDc.weaken (fun _ _ _ _ => trivial)⟩⟩ rfl rfl hl.1 rfl (lv_room (Nat.le_of_ble_eq_true rfl)) d_BR_partCurve_45 ⟨Nat.le_of_ble_eq_true rfl, Nat.le_of_ble_eq_true rfl⟩) hS (fun q _ h => hFc q h) hFc (fun r5406 u t H1 locs ht hvm hw hB hz1 hk1 hS => ?_)
  have hP1 : va_P (dC, dI) cls_ [] H1 := fun k q h => by simp at h
  have hD1 : va_D (va_A [] H.size) [] := ⟨fun i j p q h => by simp at h, fun k q h => by simp at h⟩
  obtain ⟨hP, hD⟩ := va_join (wr := [(h0, .inr (8, [.ref ki, .ref ko, .ref rx, .ref ry, .ref rn, .int (nI (rs)), .int (nI (be)), .int pp, .int pe, .int gb])), (ki, .inr (7, [.ref iw, .ref ib])), (ib, .inl (cS, 1152, .inl (fs)))]) (w1 := []) hP hD [] [0, 1, 2] rfl rfl (by decide) (by decide) hk1 hFc hP1 hD1
  generalize H1 = H at hP hS ⊢
  have hP : va_P (dC, dI) cls_ [(h0, .inr (8, [.ref ki, .ref ko, .ref rx, .ref ry, .ref rn, .int (nI (rs)), .int (nI (be)), .int pp, .int pe, .int gb])), (ki, .inr (7, [.ref iw, .ref ib])), (ib, .inl (cS, 1152, .inl (fs)))] H := hP
  have hD : va_D A [(h0, .inr (8, [.ref ki, .ref ko, .ref rx, .ref ry, .ref rn, .int (nI (rs)), .int (nI (be)), .int pp, .int pe, .int gb])), (ki, .inr (7, [.ref iw, .ref ib])), (ib, .inl (cS, 1152, .inl (fs)))] := hD
  have hw_r5406 := hw
  refine lv_istore (lv' := [(13, .int r5406), (12, .int r5405), (11, .int r5404), (10, .int r5403), (9, .int r5402), (8, .int r5401), (0, .ref h0), (1, .int xp), (2, .int yp), (3, .int xq), (4, .int yq), (5, .int xr), (6, .int yr), (7, .int 6)]) hx hb d_BR_partCurve_48 hl (by decide) rfl (fun ls hl => ?_)
  refine lv_aload_n hx hb d_BR_partCurve_50 rfl (lv_at hl 6 rfl) ?_
  refine lv_iload_n hx hb d_BR_partCurve_51 rfl (lv_at hl 7 rfl) ?_
  refine lv_iload_n hx hb d_BR_partCurve_52 rfl (lv_at hl 8 rfl) ?_
  refine lv_iload hx hb d_BR_partCurve_53 (lv_at hl 5 rfl) ?_
  refine lv_iload hx hb d_BR_partCurve_55 (lv_at hl 4 rfl) ?_
  refine lv_iload hx hb d_BR_partCurve_57 (lv_at hl 1 rfl) ?_
  refine lv_iload hx hb d_BR_partCurve_59 (lv_at hl 0 rfl) ?_
  refine lv_iload hx hb d_BR_partCurve_61 (lv_at hl 13 rfl) ?_
  have hPc := hP.sub (ws' := [(h0, .inr (8, [.ref ki, .ref ko, .ref rx, .ref ry, .ref rn, .int (nI (rs)), .int (nI (be)), .int pp, .int pe, .int gb])), (ki, .inr (7, [.ref iw, .ref ib])), (ib, .inl (cS, 1152, .inl (fs)))]) [0, 1, 2] rfl
  have hDc := hD.sub (ws' := [(h0, .inr (8, [.ref ki, .ref ko, .ref rx, .ref ry, .ref rn, .int (nI (rs)), .int (nI (be)), .int pp, .int pe, .int gb])), (ki, .inr (7, [.ref iw, .ref ib])), (ib, .inl (cS, 1152, .inl (fs)))]) [0, 1, 2] (by decide) rfl
  have hKc := hK.sub (tys' := [(cS, .int)]) [0] rfl
  have hFc := va_free (wc := [(h0, .inr (8, [.ref ki, .ref ko, .ref rx, .ref ry, .ref rn, .int (nI (rs)), .int (nI (be)), .int pp, .int pe, .int gb])), (ki, .inr (7, [.ref iw, .ref ib])), (ib, .inl (cS, 1152, .inl (fs)))]) hD hS hA [0, 1, 2] rfl
  refine va_callv (va_runV (As := [.int xp, .int yp, .int r5401, .int r5402, .int r5405, .int r5406, .int 6]) (rest := []) ⟨hx, hb, hml, hown, hts⟩ (g_BR_paintCurve6 l dC dI h0 ki ko rx ry rn rs be pp pe gb iw ib cS fs xp yp r5401 r5402 r5405 r5406 H.size) (cwV 7 hts (tw_inV w_814 w_816 wp_32 w_10 w_817) rfl rfl rfl (by decide +kernel) ⟨Nat.le_of_ble_eq_true rfl, Nat.le_of_ble_eq_true rfl⟩) ⟨fun a U g mk q => by obtain ⟨q0, q1, qP, qK, qD, qE0⟩ := q; exact ⟨q0, q1, qP, va_K.moved (u := U) (U := U.calling g mk a) (Vm.Alike.refl U.vm) qK, qD, nests.call qE0⟩, va_recv (hK := hK) (hP := hP) (q0 := 0) (ci := 8) rfl rfl, fun U hU hW => ⟨rfl, by rw [hU], by rw [hU]; exact hPc, va_K.moved hW.alike hKc, hDc.weaken (fun _ _ _ _ => trivial), nests.warm hW hNs⟩⟩ rfl rfl hl.1 rfl (lv_room (Nat.le_of_ble_eq_true rfl)) d_BR_partCurve_63 ⟨Nat.le_of_ble_eq_true rfl, Nat.le_of_ble_eq_true rfl⟩) hS (fun q _ h => hFc q h) hFc (fun u t H1 locs ht hvm hw hB hz1 hk1 hS => ?_)
  obtain ⟨gs_5407, hP1, hK1, hD1⟩ := hB
  rw [ht] at hP1
  have hK1 := va_K.moved hvm.symm hK1
  obtain ⟨hP, hD⟩ := va_join (wr := []) (w1 := [(h0, .inr (8, [.ref ki, .ref ko, .ref rx, .ref ry, .ref rn, .int (nI (rs)), .int (nI (be)), .int pp, .int pe, .int gb])), (ki, .inr (7, [.ref iw, .ref ib])), (ib, .inl (cS, 1152, .inl (gs_5407)))]) hP hD [0, 1, 2] [] rfl rfl (by decide) (by decide) hk1 hFc hP1 hD1
  have hK := (hK.sub (tys' := []) [] rfl).app hK1
  generalize H1 = H at hP hS ⊢
  have hP : va_P (dC, dI) cls_ [(h0, .inr (8, [.ref ki, .ref ko, .ref rx, .ref ry, .ref rn, .int (nI (rs)), .int (nI (be)), .int pp, .int pe, .int gb])), (ki, .inr (7, [.ref iw, .ref ib])), (ib, .inl (cS, 1152, .inl (gs_5407)))] H := hP
  have hD : va_D A [(h0, .inr (8, [.ref ki, .ref ko, .ref rx, .ref ry, .ref rn, .int (nI (rs)), .int (nI (be)), .int pp, .int pe, .int gb])), (ki, .inr (7, [.ref iw, .ref ib])), (ib, .inl (cS, 1152, .inl (gs_5407)))] := hD
  have hK : va_K (dC, dI) cls_ [(cS, .int)] s := hK
  refine lv_aload_n hx hb d_BR_partCurve_66 rfl (lv_at hl 6 rfl) ?_
  refine lv_iload hx hb d_BR_partCurve_67 (lv_at hl 1 rfl) ?_
  refine lv_iload hx hb d_BR_partCurve_69 (lv_at hl 0 rfl) ?_
  refine lv_iload hx hb d_BR_partCurve_71 (lv_at hl 3 rfl) ?_
  refine lv_iload hx hb d_BR_partCurve_73 (lv_at hl 2 rfl) ?_
  refine lv_iload hx hb d_BR_partCurve_75 (lv_at hl 11 rfl) ?_
  refine lv_iload hx hb d_BR_partCurve_77 (lv_at hl 12 rfl) ?_
  refine lv_iload hx hb d_BR_partCurve_79 (lv_at hl 13 rfl) ?_
  have hPc := hP.sub (ws' := [(h0, .inr (8, [.ref ki, .ref ko, .ref rx, .ref ry, .ref rn, .int (nI (rs)), .int (nI (be)), .int pp, .int pe, .int gb])), (ki, .inr (7, [.ref iw, .ref ib])), (ib, .inl (cS, 1152, .inl (gs_5407)))]) [0, 1, 2] rfl
  have hDc := hD.sub (ws' := [(h0, .inr (8, [.ref ki, .ref ko, .ref rx, .ref ry, .ref rn, .int (nI (rs)), .int (nI (be)), .int pp, .int pe, .int gb])), (ki, .inr (7, [.ref iw, .ref ib])), (ib, .inl (cS, 1152, .inl (gs_5407)))]) [0, 1, 2] (by decide) rfl
  have hKc := hK.sub (tys' := [(cS, .int)]) [0] rfl
  have hFc := va_free (wc := [(h0, .inr (8, [.ref ki, .ref ko, .ref rx, .ref ry, .ref rn, .int (nI (rs)), .int (nI (be)), .int pp, .int pe, .int gb])), (ki, .inr (7, [.ref iw, .ref ib])), (ib, .inl (cS, 1152, .inl (gs_5407)))]) hD hS hA [0, 1, 2] rfl
  refine va_callv (va_runV (As := [.int r5405, .int r5406, .int r5403, .int r5404, .int xr, .int yr, .int 6]) (rest := []) ⟨hx, hb, hml, hown, hts⟩ (g_BR_paintCurve6 l dC dI h0 ki ko rx ry rn rs be pp pe gb iw ib cS gs_5407 r5405 r5406 r5403 r5404 xr yr H.size) (cwV 7 hts (tw_inV w_814 w_816 wp_32 w_10 w_817) rfl rfl rfl (by decide +kernel) ⟨Nat.le_of_ble_eq_true rfl, Nat.le_of_ble_eq_true rfl⟩) ⟨fun a U g mk q => by obtain ⟨q0, q1, qP, qK, qD, qE0⟩ := q; exact ⟨q0, q1, qP, va_K.moved (u := U) (U := U.calling g mk a) (Vm.Alike.refl U.vm) qK, qD, nests.call qE0⟩, va_recv (hK := hK) (hP := hP) (q0 := 0) (ci := 8) rfl rfl, fun U hU hW => ⟨rfl, by rw [hU], by rw [hU]; exact hPc, va_K.moved hW.alike hKc, hDc.weaken (fun _ _ _ _ => trivial), nests.warm hW hNs⟩⟩ rfl rfl hl.1 rfl (lv_room (Nat.le_of_ble_eq_true rfl)) d_BR_partCurve_81 ⟨Nat.le_of_ble_eq_true rfl, Nat.le_of_ble_eq_true rfl⟩) hS (fun q _ h => hFc q h) hFc (fun u t H1 locs ht hvm hw hB hz1 hk1 hS => ?_)
  obtain ⟨gs_5408, hP1, hK1, hD1⟩ := hB
  rw [ht] at hP1
  have hK1 := va_K.moved hvm.symm hK1
  obtain ⟨hP, hD⟩ := va_join (wr := []) (w1 := [(h0, .inr (8, [.ref ki, .ref ko, .ref rx, .ref ry, .ref rn, .int (nI (rs)), .int (nI (be)), .int pp, .int pe, .int gb])), (ki, .inr (7, [.ref iw, .ref ib])), (ib, .inl (cS, 1152, .inl (gs_5408)))]) hP hD [0, 1, 2] [] rfl rfl (by decide) (by decide) hk1 hFc hP1 hD1
  have hK := (hK.sub (tys' := []) [] rfl).app hK1
  generalize H1 = H at hP hS ⊢
  have hP : va_P (dC, dI) cls_ [(h0, .inr (8, [.ref ki, .ref ko, .ref rx, .ref ry, .ref rn, .int (nI (rs)), .int (nI (be)), .int pp, .int pe, .int gb])), (ki, .inr (7, [.ref iw, .ref ib])), (ib, .inl (cS, 1152, .inl (gs_5408)))] H := hP
  have hD : va_D A [(h0, .inr (8, [.ref ki, .ref ko, .ref rx, .ref ry, .ref rn, .int (nI (rs)), .int (nI (be)), .int pp, .int pe, .int gb])), (ki, .inr (7, [.ref iw, .ref ib])), (ib, .inl (cS, 1152, .inl (gs_5408)))] := hD
  have hK : va_K (dC, dI) cls_ [(cS, .int)] s := hK
  refine W.widen (k := 0) (n := 0) (Nat.le_of_ble_eq_true rfl) (Nat.le_of_ble_eq_true rfl) ?_
  have hP9 := hP.sub (ws' := [(h0, .inr (8, [.ref ki, .ref ko, .ref rx, .ref ry, .ref rn, .int (nI (rs)), .int (nI (be)), .int pp, .int pe, .int gb])), (ki, .inr (7, [.ref iw, .ref ib])), (ib, .inl (cS, 1152, .inl (gs_5408)))]) [0, 1, 2] rfl
  have hD9 := hD.sub (ws' := [(h0, .inr (8, [.ref ki, .ref ko, .ref rx, .ref ry, .ref rn, .int (nI (rs)), .int (nI (be)), .int pp, .int pe, .int gb])), (ki, .inr (7, [.ref iw, .ref ib])), (ib, .inl (cS, 1152, .inl (gs_5408)))]) [0, 1, 2] (by decide) rfl
  have hK9 := hK.sub (tys' := [(cS, .int)]) [0] rfl
  exact W.vret hx hb hr (fun t ht hW => ⟨⟨(), rfl, trivial, gs_5408, by rw [ht]; exact hP9, va_K.moved hW.alike hK9, hD9⟩, hS.F ht⟩) hS.2.2 d_BR_partCurve_84
set_option maxHeartbeats 4000000 in
set_option maxRecDepth 100000 in
/-- GlyphLines$Brush.paintCurve -/
theorem g_BR_paintCurve5 (l : Launch) (dC : Nat → ClassId) (dI : Nat → Nat → Nat) (h0 : Nat) (ki : Nat) (ko : Nat) (rx : Nat) (ry : Nat) (rn : Nat) (rs : Nat) (be : Nat) (pp : Int32) (pe : Int32) (gb : Int32) (iw : Nat) (ib : Nat) (cS : ClassId) (fs : Nat → Int32) (xp : Int32) (yp : Int32) (xq : Int32) (yq : Int32) (xr : Int32) (yr : Int32) (sz : Nat) : Met l y_BR_paintCurve s_BR_paintCurve ({ frames := 24, cells := 0, slots := 0, locals := 880 }) (va_Pc [.ref h0, .int xp, .int yp, .int xq, .int yq, .int xr, .int yr, .int 5] (fun U => U.heap.size = sz ∧ va_P (dC, dI) cls_ [(h0, .inr (8, [.ref ki, .ref ko, .ref rx, .ref ry, .ref rn, .int (nI (rs)), .int (nI (be)), .int pp, .int pe, .int gb])), (ki, .inr (7, [.ref iw, .ref ib])), (ib, .inl (cS, 1152, .inl (fs)))] U.heap ∧ va_K (dC, dI) cls_ [(cS, .int)] U ∧ va_D (fun _ => True) [(h0, .inr (8, [.ref ki, .ref ko, .ref rx, .ref ry, .ref rn, .int (nI (rs)), .int (nI (be)), .int pp, .int pe, .int gb])), (ki, .inr (7, [.ref iw, .ref ib])), (ib, .inl (cS, 1152, .inl (fs)))] ∧ nests U)) (va_Qv (fun _ : Unit => True) (fun (_ : Unit) (t : State) => ∃ (gs : Nat → Int32), va_P (dC, dI) cls_ [(h0, .inr (8, [.ref ki, .ref ko, .ref rx, .ref ry, .ref rn, .int (nI (rs)), .int (nI (be)), .int pp, .int pe, .int gb])), (ki, .inr (7, [.ref iw, .ref ib])), (ib, .inl (cS, 1152, .inl (gs)))] t.heap ∧ va_K (dC, dI) cls_ [(cS, .int)] t ∧ va_D (va_A [(h0, .inr (8, [.ref ki, .ref ko, .ref rx, .ref ry, .ref rn, .int (nI (rs)), .int (nI (be)), .int pp, .int pe, .int gb])), (ki, .inr (7, [.ref iw, .ref ib])), (ib, .inl (cS, 1152, .inl (fs)))] sz) [(h0, .inr (8, [.ref ki, .ref ko, .ref rx, .ref ry, .ref rn, .int (nI (rs)), .int (nI (be)), .int pp, .int pe, .int gb])), (ki, .inr (7, [.ref iw, .ref ib])), (ib, .inl (cS, 1152, .inl (gs)))]) (va_A [(h0, .inr (8, [.ref ki, .ref ko, .ref rx, .ref ry, .ref rn, .int (nI (rs)), .int (nI (be)), .int pp, .int pe, .int gb])), (ki, .inr (7, [.ref iw, .ref ib])), (ib, .inl (cS, 1152, .inl (fs)))] sz)) 0 0 (va_A [(h0, .inr (8, [.ref ki, .ref ko, .ref rx, .ref ry, .ref rn, .int (nI (rs)), .int (nI (be)), .int pp, .int pe, .int gb])), (ki, .inr (7, [.ref iw, .ref ib])), (ib, .inl (cS, 1152, .inl (fs)))] sz) := by
  refine Met.ofW (cc := b_BR_paintCurve) (maxL := 8) (ret := none) (by decide) rfl ?_
  intro p e s m args below meth c s₁ B hml hv
  obtain ⟨rfl, hsz, hP, hK, hD0, hNs⟩ := hv
  have hx := B.exec
  have hb := B.bytes
  have hr := B.returns
  have hts := atoms_spec (ws := s_BR_paintCurve) B.pre
  have hown : s.vm.findClass R_BR = some m.cls := findClass_of_methodNamed B.named
  have hlocks := B.notSynchronized
  subst hsz
  have hD := hD0.self (sz := s.heap.size)
  generalize hAe : va_A [(h0, .inr (8, [.ref ki, .ref ko, .ref rx, .ref ry, .ref rn, .int (nI (rs)), .int (nI (be)), .int pp, .int pe, .int gb])), (ki, .inr (7, [.ref iw, .ref ib])), (ib, .inl (cS, 1152, .inl (fs)))] s.heap.size = A at hD ⊢
  have hA : ∀ q : Nat, s.heap.size ≤ q → A q := fun q h => by rw [← hAe]; exact Or.inr h
  have hS : va_S A s.heap s.heap [] := va_S.rf
  have hP : va_P (dC, dI) cls_ [(h0, .inr (8, [.ref ki, .ref ko, .ref rx, .ref ry, .ref rn, .int (nI (rs)), .int (nI (be)), .int pp, .int pe, .int gb])), (ki, .inr (7, [.ref iw, .ref ib])), (ib, .inl (cS, 1152, .inl (fs)))] s.heap := hP
  have hl := lv_entry ([.ref h0, .int xp, .int yp, .int xq, .int yq, .int xr, .int yr, .int 5]) (n := 8) (Nat.le_of_ble_eq_true rfl)
  rw [lg_entry_eq]
  generalize (lg_sl ([.ref h0, .int xp, .int yp, .int xq, .int yq, .int xr, .int yr, .int 5]) ++ List.replicate (8 - (lg_sl ([.ref h0, .int xp, .int yp, .int xq, .int yq, .int xr, .int yr, .int 5])).length) Slot.unset).toArray = ls at hl ⊢
  have hl : lv_has ls 8 [(0, .ref h0), (1, .int xp), (2, .int yp), (3, .int xq), (4, .int yq), (5, .int xr), (6, .int yr), (7, .int 5)] := hl
  refine lv_iload hx hb d_BR_paintCurve_0 (lv_at hl 7 rfl) ?_
  refine lv_bipush (v := 6) hx hb d_BR_paintCurve_2 (by decide) ?_
  refine lv_icmp_ge (tgt := 28) hx hb d_BR_paintCurve_4 (by decide) (fun hc => absurd hc (by decide +kernel)) (fun _ => ?_)
  refine lv_iload_n hx hb d_BR_paintCurve_7 rfl (lv_at hl 3 rfl) ?_
  refine lv_iload_n hx hb d_BR_paintCurve_8 rfl (lv_at hl 1 rfl) ?_
  refine lv_isub hx hb d_BR_paintCurve_9 ?_
  refine lv_topi (fun v5409 ev5409 => ?_)
  refine lv_iload hx hb d_BR_paintCurve_10 (lv_at hl 4 rfl) ?_
  refine lv_iload_n hx hb d_BR_paintCurve_12 rfl (lv_at hl 2 rfl) ?_
  refine lv_isub hx hb d_BR_paintCurve_13 ?_
  refine lv_topi (fun v5410 ev5410 => ?_)
  refine lv_iload hx hb d_BR_paintCurve_14 (lv_at hl 5 rfl) ?_
  refine lv_iload_n hx hb d_BR_paintCurve_16 rfl (lv_at hl 1 rfl) ?_
  refine lv_isub hx hb d_BR_paintCurve_17 ?_
  refine lv_topi (fun v5411 ev5411 => ?_)
  refine lv_iload hx hb d_BR_paintCurve_18 (lv_at hl 6 rfl) ?_
  refine lv_iload_n hx hb d_BR_paintCurve_20 rfl (lv_at hl 2 rfl) ?_
  refine lv_isub hx hb d_BR_paintCurve_21 ?_
  refine lv_topi (fun v5412 ev5412 => ?_)
  have hPc := hP.sub (ws' := []) [] rfl
  have hDc := hD.sub (ws' := []) [] (by decide) rfl
  have hKc := hK.sub (tys' := []) [] rfl
  have hFc := va_free (wc := []) hD hS hA [] rfl
  refine va_calli (va_runS (As := [.int v5409, .int v5410, .int v5411, .int v5412]) (rest := []) ⟨hx, hb, hml, hown, hts⟩ (g_BR_isFlat l dC dI v5409 v5410 v5411 v5412 s.heap.size) (cwS 4 hts (tw_inS w_818 w_819 w_10 w_820) rfl rfl rfl (by decide +kernel) ⟨Nat.le_of_ble_eq_true rfl, Nat.le_of_ble_eq_true rfl⟩) ⟨fun a U g mk q => by obtain ⟨q0, q1, qP, qK, qD⟩ := q; exact ⟨q0, q1, qP, va_K.moved (u := U) (U := U.calling g mk a) (Vm.Alike.refl U.vm) qK, qD⟩, fun U hU hW => ⟨rfl, by rw [hU], by rw [hU]; exact hPc, va_K.moved hW.alike hKc, hDc.weaken (fun _ _ _ _ => trivial)⟩⟩ rfl rfl hl.1 rfl (lv_room (Nat.le_of_ble_eq_true rfl)) d_BR_paintCurve_22 ⟨Nat.le_of_ble_eq_true rfl, Nat.le_of_ble_eq_true rfl⟩) hS (fun q _ h => hFc q h) hFc (fun r5413 u t H1 locs ht hvm hw hB hz1 hk1 hS => ?_)
  have hP1 : va_P (dC, dI) cls_ [] H1 := fun k q h => by simp at h
  have hD1 : va_D (va_A [] s.heap.size) [] := ⟨fun i j p q h => by simp at h, fun k q h => by simp at h⟩
  obtain ⟨hP, hD⟩ := va_join (wr := [(h0, .inr (8, [.ref ki, .ref ko, .ref rx, .ref ry, .ref rn, .int (nI (rs)), .int (nI (be)), .int pp, .int pe, .int gb])), (ki, .inr (7, [.ref iw, .ref ib])), (ib, .inl (cS, 1152, .inl (fs)))]) (w1 := []) hP hD [] [0, 1, 2] rfl rfl (by decide) (by decide) hk1 hFc hP1 hD1
  generalize H1 = H at hP hS ⊢
  have hP : va_P (dC, dI) cls_ [(h0, .inr (8, [.ref ki, .ref ko, .ref rx, .ref ry, .ref rn, .int (nI (rs)), .int (nI (be)), .int pp, .int pe, .int gb])), (ki, .inr (7, [.ref iw, .ref ib])), (ib, .inl (cS, 1152, .inl (fs)))] H := hP
  have hD : va_D A [(h0, .inr (8, [.ref ki, .ref ko, .ref rx, .ref ry, .ref rn, .int (nI (rs)), .int (nI (be)), .int pp, .int pe, .int gb])), (ki, .inr (7, [.ref iw, .ref ib])), (ib, .inl (cS, 1152, .inl (fs)))] := hD
  have hw_r5413 := hw
  obtain ⟨bb5414, rfl⟩ := hw_r5413
  refine lv_if_eq (tgt := 44) hx hb d_BR_paintCurve_25 (by decide) (fun hc5415 => ?_) (fun hc5415 => ?_)
  · skip
    have hc5415b : bb5414 = false := bI_0 hc5415
    refine lv_aload_n hx hb d_BR_paintCurve_44 rfl (lv_at hl 0 rfl) ?_
    refine lv_iload_n hx hb d_BR_paintCurve_45 rfl (lv_at hl 1 rfl) ?_
    refine lv_iload_n hx hb d_BR_paintCurve_46 rfl (lv_at hl 2 rfl) ?_
    refine lv_iload_n hx hb d_BR_paintCurve_47 rfl (lv_at hl 3 rfl) ?_
    refine lv_iload hx hb d_BR_paintCurve_48 (lv_at hl 4 rfl) ?_
    refine lv_iload hx hb d_BR_paintCurve_50 (lv_at hl 5 rfl) ?_
    refine lv_iload hx hb d_BR_paintCurve_52 (lv_at hl 6 rfl) ?_
    refine lv_iload hx hb d_BR_paintCurve_54 (lv_at hl 7 rfl) ?_
    refine lv_iconst (v := 1) hx hb d_BR_paintCurve_56 (by decide) ?_
    refine lv_iadd hx hb d_BR_paintCurve_57 ?_
    refine lv_ci (y := 6) (by decide +kernel) ?_
    have hPc := hP.sub (ws' := [(h0, .inr (8, [.ref ki, .ref ko, .ref rx, .ref ry, .ref rn, .int (nI (rs)), .int (nI (be)), .int pp, .int pe, .int gb])), (ki, .inr (7, [.ref iw, .ref ib])), (ib, .inl (cS, 1152, .inl (fs)))]) [0, 1, 2] rfl
    have hDc := hD.sub (ws' := [(h0, .inr (8, [.ref ki, .ref ko, .ref rx, .ref ry, .ref rn, .int (nI (rs)), .int (nI (be)), .int pp, .int pe, .int gb])), (ki, .inr (7, [.ref iw, .ref ib])), (ib, .inl (cS, 1152, .inl (fs)))]) [0, 1, 2] (by decide) rfl
    have hKc := hK.sub (tys' := [(cS, .int)]) [0] rfl
    have hFc := va_free (wc := [(h0, .inr (8, [.ref ki, .ref ko, .ref rx, .ref ry, .ref rn, .int (nI (rs)), .int (nI (be)), .int pp, .int pe, .int gb])), (ki, .inr (7, [.ref iw, .ref ib])), (ib, .inl (cS, 1152, .inl (fs)))]) hD hS hA [0, 1, 2] rfl
    refine va_callv (va_runV (As := [.int xp, .int yp, .int xq, .int yq, .int xr, .int yr, .int 6]) (rest := []) ⟨hx, hb, hml, hown, hts⟩ (g_BR_partCurve6 l dC dI h0 ki ko rx ry rn rs be pp pe gb iw ib cS fs xp yp xq yq xr yr H.size) (cwV 7 hts (tw_inV w_829 w_831 wp_33 w_10 w_832) rfl rfl rfl (by decide +kernel) ⟨Nat.le_of_ble_eq_true rfl, Nat.le_of_ble_eq_true rfl⟩) ⟨fun a U g mk q => by obtain ⟨q0, q1, qP, qK, qD, qE0⟩ := q; exact ⟨q0, q1, qP, va_K.moved (u := U) (U := U.calling g mk a) (Vm.Alike.refl U.vm) qK, qD, nests.call qE0⟩, va_recv (hK := hK) (hP := hP) (q0 := 0) (ci := 8) rfl rfl, fun U hU hW => ⟨rfl, by rw [hU], by rw [hU]; exact hPc, va_K.moved hW.alike hKc, hDc.weaken (fun _ _ _ _ => trivial), nests.warm hW hNs⟩⟩ rfl rfl hl.1 rfl (lv_room (Nat.le_of_ble_eq_true rfl)) d_BR_paintCurve_58 ⟨Nat.le_of_ble_eq_true rfl, Nat.le_of_ble_eq_true rfl⟩) hS (fun q _ h => hFc q h) hFc (fun u t H1 locs ht hvm hw hB hz1 hk1 hS => ?_)
    obtain ⟨gs_5416, hP1, hK1, hD1⟩ := hB
    rw [ht] at hP1
    have hK1 := va_K.moved hvm.symm hK1
    obtain ⟨hP, hD⟩ := va_join (wr := []) (w1 := [(h0, .inr (8, [.ref ki, .ref ko, .ref rx, .ref ry, .ref rn, .int (nI (rs)), .int (nI (be)), .int pp, .int pe, .int gb])), (ki, .inr (7, [.ref iw, .ref ib])), (ib, .inl (cS, 1152, .inl (gs_5416)))]) hP hD [0, 1, 2] [] rfl rfl (by decide) (by decide) hk1 hFc hP1 hD1
    have hK := (hK.sub (tys' := []) [] rfl).app hK1
    generalize H1 = H at hP hS ⊢
    have hP : va_P (dC, dI) cls_ [(h0, .inr (8, [.ref ki, .ref ko, .ref rx, .ref ry, .ref rn, .int (nI (rs)), .int (nI (be)), .int pp, .int pe, .int gb])), (ki, .inr (7, [.ref iw, .ref ib])), (ib, .inl (cS, 1152, .inl (gs_5416)))] H := hP
    have hD : va_D A [(h0, .inr (8, [.ref ki, .ref ko, .ref rx, .ref ry, .ref rn, .int (nI (rs)), .int (nI (be)), .int pp, .int pe, .int gb])), (ki, .inr (7, [.ref iw, .ref ib])), (ib, .inl (cS, 1152, .inl (gs_5416)))] := hD
    have hK : va_K (dC, dI) cls_ [(cS, .int)] s := hK
    refine W.widen (k := 0) (n := 0) (Nat.le_of_ble_eq_true rfl) (Nat.le_of_ble_eq_true rfl) ?_
    have hP9 := hP.sub (ws' := [(h0, .inr (8, [.ref ki, .ref ko, .ref rx, .ref ry, .ref rn, .int (nI (rs)), .int (nI (be)), .int pp, .int pe, .int gb])), (ki, .inr (7, [.ref iw, .ref ib])), (ib, .inl (cS, 1152, .inl (gs_5416)))]) [0, 1, 2] rfl
    have hD9 := hD.sub (ws' := [(h0, .inr (8, [.ref ki, .ref ko, .ref rx, .ref ry, .ref rn, .int (nI (rs)), .int (nI (be)), .int pp, .int pe, .int gb])), (ki, .inr (7, [.ref iw, .ref ib])), (ib, .inl (cS, 1152, .inl (gs_5416)))]) [0, 1, 2] (by decide) rfl
    have hK9 := hK.sub (tys' := [(cS, .int)]) [0] rfl
    exact W.vret hx hb hr (fun t ht hW => ⟨⟨(), rfl, trivial, gs_5416, by rw [ht]; exact hP9, va_K.moved hW.alike hK9, hD9⟩, hS.F ht⟩) hS.2.2 d_BR_paintCurve_61
  · skip
    have hc5415b : bb5414 = true := bI_1 hc5415
    refine lv_aload_n hx hb d_BR_paintCurve_28 rfl (lv_at hl 0 rfl) ?_
    refine va_get (D := (dC, dI)) (ci := 8) (v := .ref ki) (C := R_BR) (T := F_BR) (N := 10) hx hb hts in_BR hown hK hP 0 rfl rfl 0 (by decide) (hts _ (List.mem_cons_of_mem _ w_255)) (fun _ h9 => h9) rfl d_BR_paintCurve_29 ?_
    refine lv_iload_n hx hb d_BR_paintCurve_32 rfl (lv_at hl 1 rfl) ?_
    refine lv_iload_n hx hb d_BR_paintCurve_33 rfl (lv_at hl 2 rfl) ?_
    refine lv_iload hx hb d_BR_paintCurve_34 (lv_at hl 5 rfl) ?_
    refine lv_iload hx hb d_BR_paintCurve_36 (lv_at hl 6 rfl) ?_
    have hPc := hP.sub (ws' := [(ki, .inr (7, [.ref iw, .ref ib])), (ib, .inl (cS, 1152, .inl (fs)))]) [1, 2] rfl
    have hDc := hD.sub (ws' := [(ki, .inr (7, [.ref iw, .ref ib])), (ib, .inl (cS, 1152, .inl (fs)))]) [1, 2] (by decide) rfl
    have hKc := hK.sub (tys' := [(cS, .int)]) [0] rfl
    have hFc := va_free (wc := [(ki, .inr (7, [.ref iw, .ref ib])), (ib, .inl (cS, 1152, .inl (fs)))]) hD hS hA [1, 2] rfl
    refine va_callv (va_runV (As := [.int xp, .int yp, .int xr, .int yr]) (rest := []) ⟨hx, hb, hml, hown, hts⟩ (g_PI_addLine l dC dI ki iw ib cS fs xp yp xr yr H.size) (cwV 4 hts (tw_inV w_801 w_802 w_803 w_9 w_804) rfl rfl rfl (by decide +kernel) ⟨Nat.le_of_ble_eq_true rfl, Nat.le_of_ble_eq_true rfl⟩) ⟨fun a U g mk q => by obtain ⟨q0, q1, qP, qK, qD⟩ := q; exact ⟨q0, q1, qP, va_K.moved (u := U) (U := U.calling g mk a) (Vm.Alike.refl U.vm) qK, qD⟩, va_recv (hK := hK) (hP := hP) (q0 := 1) (ci := 7) rfl rfl, fun U hU hW => ⟨rfl, by rw [hU], by rw [hU]; exact hPc, va_K.moved hW.alike hKc, hDc.weaken (fun _ _ _ _ => trivial)⟩⟩ rfl rfl hl.1 rfl (lv_room (Nat.le_of_ble_eq_true rfl)) d_BR_paintCurve_38 ⟨Nat.le_of_ble_eq_true rfl, Nat.le_of_ble_eq_true rfl⟩) hS (fun q _ h => hFc q h) hFc (fun u t H1 locs ht hvm hw hB hz1 hk1 hS => ?_)
    obtain ⟨gs_5417, hP1, hK1, hD1⟩ := hB
    rw [ht] at hP1
    have hK1 := va_K.moved hvm.symm hK1
    obtain ⟨hP, hD⟩ := va_join (wr := [(h0, .inr (8, [.ref ki, .ref ko, .ref rx, .ref ry, .ref rn, .int (nI (rs)), .int (nI (be)), .int pp, .int pe, .int gb]))]) (w1 := [(ki, .inr (7, [.ref iw, .ref ib])), (ib, .inl (cS, 1152, .inl (gs_5417)))]) hP hD [1, 2] [0] rfl rfl (by decide) (by decide) hk1 hFc hP1 hD1
    have hK := (hK.sub (tys' := []) [] rfl).app hK1
    generalize H1 = H at hP hS ⊢
    have hP : va_P (dC, dI) cls_ [(h0, .inr (8, [.ref ki, .ref ko, .ref rx, .ref ry, .ref rn, .int (nI (rs)), .int (nI (be)), .int pp, .int pe, .int gb])), (ki, .inr (7, [.ref iw, .ref ib])), (ib, .inl (cS, 1152, .inl (gs_5417)))] H := hP
    have hD : va_D A [(h0, .inr (8, [.ref ki, .ref ko, .ref rx, .ref ry, .ref rn, .int (nI (rs)), .int (nI (be)), .int pp, .int pe, .int gb])), (ki, .inr (7, [.ref iw, .ref ib])), (ib, .inl (cS, 1152, .inl (gs_5417)))] := hD
    have hK : va_K (dC, dI) cls_ [(cS, .int)] s := hK
    refine lv_goto (tgt := 61) hx hb d_BR_paintCurve_41 (by decide) ?_
    refine W.widen (k := 0) (n := 0) (Nat.le_of_ble_eq_true rfl) (Nat.le_of_ble_eq_true rfl) ?_
    have hP9 := hP.sub (ws' := [(h0, .inr (8, [.ref ki, .ref ko, .ref rx, .ref ry, .ref rn, .int (nI (rs)), .int (nI (be)), .int pp, .int pe, .int gb])), (ki, .inr (7, [.ref iw, .ref ib])), (ib, .inl (cS, 1152, .inl (gs_5417)))]) [0, 1, 2] rfl
    have hD9 := hD.sub (ws' := [(h0, .inr (8, [.ref ki, .ref ko, .ref rx, .ref ry, .ref rn, .int (nI (rs)), .int (nI (be)), .int pp, .int pe, .int gb])), (ki, .inr (7, [.ref iw, .ref ib])), (ib, .inl (cS, 1152, .inl (gs_5417)))]) [0, 1, 2] (by decide) rfl
    have hK9 := hK.sub (tys' := [(cS, .int)]) [0] rfl
    exact W.vret hx hb hr (fun t ht hW => ⟨⟨(), rfl, trivial, gs_5417, by rw [ht]; exact hP9, va_K.moved hW.alike hK9, hD9⟩, hS.F ht⟩) hS.2.2 d_BR_paintCurve_61
set_option maxHeartbeats 4000000 in
set_option maxRecDepth 100000 in
/-- GlyphLines$Brush.partCurve -/
theorem g_BR_partCurve5 (l : Launch) (dC : Nat → ClassId) (dI : Nat → Nat → Nat) (h0 : Nat) (ki : Nat) (ko : Nat) (rx : Nat) (ry : Nat) (rn : Nat) (rs : Nat) (be : Nat) (pp : Int32) (pe : Int32) (gb : Int32) (iw : Nat) (ib : Nat) (cS : ClassId) (fs : Nat → Int32) (xp : Int32) (yp : Int32) (xq : Int32) (yq : Int32) (xr : Int32) (yr : Int32) (sz : Nat) : Met l y_BR_partCurve s_BR_partCurve ({ frames := 26, cells := 0, slots := 0, locals := 940 }) (va_Pc [.ref h0, .int xp, .int yp, .int xq, .int yq, .int xr, .int yr, .int 5] (fun U => U.heap.size = sz ∧ va_P (dC, dI) cls_ [(h0, .inr (8, [.ref ki, .ref ko, .ref rx, .ref ry, .ref rn, .int (nI (rs)), .int (nI (be)), .int pp, .int pe, .int gb])), (ki, .inr (7, [.ref iw, .ref ib])), (ib, .inl (cS, 1152, .inl (fs)))] U.heap ∧ va_K (dC, dI) cls_ [(cS, .int)] U ∧ va_D (fun _ => True) [(h0, .inr (8, [.ref ki, .ref ko, .ref rx, .ref ry, .ref rn, .int (nI (rs)), .int (nI (be)), .int pp, .int pe, .int gb])), (ki, .inr (7, [.ref iw, .ref ib])), (ib, .inl (cS, 1152, .inl (fs)))] ∧ nests U)) (va_Qv (fun _ : Unit => True) (fun (_ : Unit) (t : State) => ∃ (gs : Nat → Int32), va_P (dC, dI) cls_ [(h0, .inr (8, [.ref ki, .ref ko, .ref rx, .ref ry, .ref rn, .int (nI (rs)), .int (nI (be)), .int pp, .int pe, .int gb])), (ki, .inr (7, [.ref iw, .ref ib])), (ib, .inl (cS, 1152, .inl (gs)))] t.heap ∧ va_K (dC, dI) cls_ [(cS, .int)] t ∧ va_D (va_A [(h0, .inr (8, [.ref ki, .ref ko, .ref rx, .ref ry, .ref rn, .int (nI (rs)), .int (nI (be)), .int pp, .int pe, .int gb])), (ki, .inr (7, [.ref iw, .ref ib])), (ib, .inl (cS, 1152, .inl (fs)))] sz) [(h0, .inr (8, [.ref ki, .ref ko, .ref rx, .ref ry, .ref rn, .int (nI (rs)), .int (nI (be)), .int pp, .int pe, .int gb])), (ki, .inr (7, [.ref iw, .ref ib])), (ib, .inl (cS, 1152, .inl (gs)))]) (va_A [(h0, .inr (8, [.ref ki, .ref ko, .ref rx, .ref ry, .ref rn, .int (nI (rs)), .int (nI (be)), .int pp, .int pe, .int gb])), (ki, .inr (7, [.ref iw, .ref ib])), (ib, .inl (cS, 1152, .inl (fs)))] sz)) 0 0 (va_A [(h0, .inr (8, [.ref ki, .ref ko, .ref rx, .ref ry, .ref rn, .int (nI (rs)), .int (nI (be)), .int pp, .int pe, .int gb])), (ki, .inr (7, [.ref iw, .ref ib])), (ib, .inl (cS, 1152, .inl (fs)))] sz) := by
  refine Met.ofW (cc := b_BR_partCurve) (maxL := 14) (ret := none) (by decide) rfl ?_
  intro p e s m args below meth c s₁ B hml hv
  obtain ⟨rfl, hsz, hP, hK, hD0, hNs⟩ := hv
  have hx := B.exec
  have hb := B.bytes
  have hr := B.returns
  have hts := atoms_spec (ws := s_BR_partCurve) B.pre
  have hown : s.vm.findClass R_BR = some m.cls := findClass_of_methodNamed B.named
  have hlocks := B.notSynchronized
  subst hsz
  have hD := hD0.self (sz := s.heap.size)
  generalize hAe : va_A [(h0, .inr (8, [.ref ki, .ref ko, .ref rx, .ref ry, .ref rn, .int (nI (rs)), .int (nI (be)), .int pp, .int pe, .int gb])), (ki, .inr (7, [.ref iw, .ref ib])), (ib, .inl (cS, 1152, .inl (fs)))] s.heap.size = A at hD ⊢
  have hA : ∀ q : Nat, s.heap.size ≤ q → A q := fun q h => by rw [← hAe]; exact Or.inr h
  have hS : va_S A s.heap s.heap [] := va_S.rf
  have hP : va_P (dC, dI) cls_ [(h0, .inr (8, [.ref ki, .ref ko, .ref rx, .ref ry, .ref rn, .int (nI (rs)), .int (nI (be)), .int pp, .int pe, .int gb])), (ki, .inr (7, [.ref iw, .ref ib])), (ib, .inl (cS, 1152, .inl (fs)))] s.heap := hP
  have hl := lv_entry ([.ref h0, .int xp, .int yp, .int xq, .int yq, .int xr, .int yr, .int 5]) (n := 14) (Nat.le_of_ble_eq_true rfl)
  rw [lg_entry_eq]
  generalize (lg_sl ([.ref h0, .int xp, .int yp, .int xq, .int yq, .int xr, .int yr, .int 5]) ++ List.replicate (14 - (lg_sl ([.ref h0, .int xp, .int yp, .int xq, .int yq, .int xr, .int yr, .int 5])).length) Slot.unset).toArray = ls at hl ⊢
  have hl : lv_has ls 14 [(0, .ref h0), (1, .int xp), (2, .int yp), (3, .int xq), (4, .int yq), (5, .int xr), (6, .int yr), (7, .int 5)] := hl
  refine lv_iload_n hx hb d_BR_partCurve_0 rfl (lv_at hl 1 rfl) ?_
  refine lv_iload_n hx hb d_BR_partCurve_1 rfl (lv_at hl 3 rfl) ?_
  have hPc := hP.sub (ws' := []) [] rfl
  have hDc := hD.sub (ws' := []) [] (by decide) rfl
  have hKc := hK.sub (tys' := []) [] rfl
  have hFc := va_free (wc := []) hD hS hA [] rfl
  refine va_calli (va_runS (As := [.int xp, .int xq]) (rest := []) ⟨hx, hb, hml, hown, hts⟩ (g_BR_halfWay l dC dI xp xq s.heap.size) (cwS 2 hts (tw_inS w_794 w_795 w_10 w_796) rfl rfl rfl (by decide +kernel) ⟨Nat.le_of_ble_eq_true rfl, Nat.le_of_ble_eq_true rfl⟩) ⟨fun a U g mk q => by obtain ⟨q0, q1, qP, qK, qD⟩ := q; exact ⟨q0, q1, qP, va_K.moved (u := U) (U := U.calling g mk a) (Vm.Alike.refl U.vm) qK, qD⟩, fun U hU hW => ⟨rfl, by rw [hU], by rw [hU]; exact hPc, va_K.moved hW.alike hKc, hDc.weaken (fun _ _ _ _ => trivial)⟩⟩ rfl rfl hl.1 rfl (lv_room (Nat.le_of_ble_eq_true rfl)) d_BR_partCurve_2 ⟨Nat.le_of_ble_eq_true rfl, Nat.le_of_ble_eq_true rfl⟩) hS (fun q _ h => hFc q h) hFc (fun r5418 u t H1 locs ht hvm hw hB hz1 hk1 hS => ?_)
  have hP1 : va_P (dC, dI) cls_ [] H1 := fun k q h => by simp at h
  have hD1 : va_D (va_A [] s.heap.size) [] := ⟨fun i j p q h => by simp at h, fun k q h => by simp at h⟩
  obtain ⟨hP, hD⟩ := va_join (wr := [(h0, .inr (8, [.ref ki, .ref ko, .ref rx, .ref ry, .ref rn, .int (nI (rs)), .int (nI (be)), .int pp, .int pe, .int gb])), (ki, .inr (7, [.ref iw, .ref ib])), (ib, .inl (cS, 1152, .inl (fs)))]) (w1 := []) hP hD [] [0, 1, 2] rfl rfl (by decide) (by decide) hk1 hFc hP1 hD1
  generalize H1 = H at hP hS ⊢
  have hP : va_P (dC, dI) cls_ [(h0, .inr (8, [.ref ki, .ref ko, .ref rx, .ref ry, .ref rn, .int (nI (rs)), .int (nI (be)), .int pp, .int pe, .int gb])), (ki, .inr (7, [.ref iw, .ref ib])), (ib, .inl (cS, 1152, .inl (fs)))] H := hP
  have hD : va_D A [(h0, .inr (8, [.ref ki, .ref ko, .ref rx, .ref ry, .ref rn, .int (nI (rs)), .int (nI (be)), .int pp, .int pe, .int gb])), (ki, .inr (7, [.ref iw, .ref ib])), (ib, .inl (cS, 1152, .inl (fs)))] := hD
  have hw_r5418 := hw
  refine lv_istore (lv' := [(8, .int r5418), (0, .ref h0), (1, .int xp), (2, .int yp), (3, .int xq), (4, .int yq), (5, .int xr), (6, .int yr), (7, .int 5)]) hx hb d_BR_partCurve_5 hl (by decide) rfl (fun ls hl => ?_)
  refine lv_iload_n hx hb d_BR_partCurve_7 rfl (lv_at hl 3 rfl) ?_
  refine lv_iload hx hb d_BR_partCurve_8 (lv_at hl 5 rfl) ?_
  have hPc := hP.sub (ws' := []) [] rfl
  have hDc := hD.sub (ws' := []) [] (by decide) rfl
  have hKc := hK.sub (tys' := []) [] rfl
  have hFc := va_free (wc := []) hD hS hA [] rfl
  refine va_calli (va_runS (As := [.int yp, .int yq]) (rest := []) ⟨hx, hb, hml, hown, hts⟩ (g_BR_halfWay l dC dI yp yq H.size) (cwS 2 hts (tw_inS w_794 w_795 w_10 w_796) rfl rfl rfl (by decide +kernel) ⟨Nat.le_of_ble_eq_true rfl, Nat.le_of_ble_eq_true rfl⟩) ⟨fun a U g mk q => by obtain ⟨q0, q1, qP, qK, qD⟩ := q; exact ⟨q0, q1, qP, va_K.moved (u := U) (U := U.calling g mk a) (Vm.Alike.refl U.vm) qK, qD⟩, fun U hU hW => ⟨rfl, by rw [hU], by rw [hU]; exact hPc, va_K.moved hW.alike hKc, hDc.weaken (fun _ _ _ _ => trivial)⟩⟩ rfl rfl hl.1 rfl (lv_room (Nat.le_of_ble_eq_true rfl)) d_BR_partCurve_10 ⟨Nat.le_of_ble_eq_true rfl, Nat.le_of_ble_eq_true rfl⟩) hS (fun q _ h => hFc q h) hFc (fun r5419 u t H1 locs ht hvm hw hB hz1 hk1 hS => ?_)
  have hP1 : va_P (dC, dI) cls_ [] H1 := fun k q h => by simp at h
  have hD1 : va_D (va_A [] H.size) [] := ⟨fun i j p q h => by simp at h, fun k q h => by simp at h⟩
  obtain ⟨hP, hD⟩ := va_join (wr := [(h0, .inr (8, [.ref ki, .ref ko, .ref rx, .ref ry, .ref rn, .int (nI (rs)), .int (nI (be)), .int pp, .int pe, .int gb])), (ki, .inr (7, [.ref iw, .ref ib])), (ib, .inl (cS, 1152, .inl (fs)))]) (w1 := []) hP hD [] [0, 1, 2] rfl rfl (by decide) (by decide) hk1 hFc hP1 hD1
  generalize H1 = H at hP hS ⊢
  have hP : va_P (dC, dI) cls_ [(h0, .inr (8, [.ref ki, .ref ko, .ref rx, .ref ry, .ref rn, .int (nI (rs)), .int (nI (be)), .int pp, .int pe, .int gb])), (ki, .inr (7, [.ref iw, .ref ib])), (ib, .inl (cS, 1152, .inl (fs)))] H := hP
  have hD : va_D A [(h0, .inr (8, [.ref ki, .ref ko, .ref rx, .ref ry, .ref rn, .int (nI (rs)), .int (nI (be)), .int pp, .int pe, .int gb])), (ki, .inr (7, [.ref iw, .ref ib])), (ib, .inl (cS, 1152, .inl (fs)))] := hD
  have hw_r5419 := hw
  refine lv_istore (lv' := [(9, .int r5419), (8, .int r5418), (0, .ref h0), (1, .int xp), (2, .int yp), (3, .int xq), (4, .int yq), (5, .int xr), (6, .int yr), (7, .int 5)]) hx hb d_BR_partCurve_13 hl (by decide) rfl (fun ls hl => ?_)
  refine lv_iload_n hx hb d_BR_partCurve_15 rfl (lv_at hl 5 rfl) ?_
  refine lv_iload hx hb d_BR_partCurve_16 (lv_at hl 7 rfl) ?_
  have hPc := hP.sub (ws' := []) [] rfl
  have hDc := hD.sub (ws' := []) [] (by decide) rfl
  have hKc := hK.sub (tys' := []) [] rfl
  have hFc := va_free (wc := []) hD hS hA [] rfl
  refine va_calli (va_runS (As := [.int xq, .int xr]) (rest := []) ⟨hx, hb, hml, hown, hts⟩ (g_BR_halfWay l dC dI xq xr H.size) (cwS 2 hts (tw_inS w_794 w_795 w_10 w_796) rfl rfl rfl (by decide +kernel) ⟨Nat.le_of_ble_eq_true rfl, Nat.le_of_ble_eq_true rfl⟩) ⟨fun a U g mk q => by obtain ⟨q0, q1, qP, qK, qD⟩ := q; exact ⟨q0, q1, qP, va_K.moved (u := U) (U := U.calling g mk a) (Vm.Alike.refl U.vm) qK, qD⟩, fun U hU hW => ⟨rfl, by rw [hU], by rw [hU]; exact hPc, va_K.moved hW.alike hKc, hDc.weaken (fun _ _ _ _ => trivial)⟩⟩ rfl rfl hl.1 rfl (lv_room (Nat.le_of_ble_eq_true rfl)) d_BR_partCurve_18 ⟨Nat.le_of_ble_eq_true rfl, Nat.le_of_ble_eq_true rfl⟩) hS (fun q _ h => hFc q h) hFc (fun r5420 u t H1 locs ht hvm hw hB hz1 hk1 hS => ?_)
  have hP1 : va_P (dC, dI) cls_ [] H1 := fun k q h => by simp at h
  have hD1 : va_D (va_A [] H.size) [] := ⟨fun i j p q h => by simp at h, fun k q h => by simp at h⟩
  obtain ⟨hP, hD⟩ := va_join (wr := [(h0, .inr (8, [.ref ki, .ref ko, .ref rx, .ref ry, .ref rn, .int (nI (rs)), .int (nI (be)), .int pp, .int pe, .int gb])), (ki, .inr (7, [.ref iw, .ref ib])), (ib, .inl (cS, 1152, .inl (fs)))]) (w1 := []) hP hD [] [0, 1, 2] rfl rfl (by decide) (by decide) hk1 hFc hP1 hD1
  generalize H1 = H at hP hS ⊢
  have hP : va_P (dC, dI) cls_ [(h0, .inr (8, [.ref ki, .ref ko, .ref rx, .ref ry, .ref rn, .int (nI (rs)), .int (nI (be)), .int pp, .int pe, .int gb])), (ki, .inr (7, [.ref iw, .ref ib])), (ib, .inl (cS, 1152, .inl (fs)))] H := hP
  have hD : va_D A [(h0, .inr (8, [.ref ki, .ref ko, .ref rx, .ref ry, .ref rn, .int (nI (rs)), .int (nI (be)), .int pp, .int pe, .int gb])), (ki, .inr (7, [.ref iw, .ref ib])), (ib, .inl (cS, 1152, .inl (fs)))] := hD
  have hw_r5420 := hw
  refine lv_istore (lv' := [(10, .int r5420), (9, .int r5419), (8, .int r5418), (0, .ref h0), (1, .int xp), (2, .int yp), (3, .int xq), (4, .int yq), (5, .int xr), (6, .int yr), (7, .int 5)]) hx hb d_BR_partCurve_21 hl (by decide) rfl (fun ls hl => ?_)
  refine lv_iload hx hb d_BR_partCurve_23 (lv_at hl 7 rfl) ?_
  refine lv_iload hx hb d_BR_partCurve_25 (lv_at hl 9 rfl) ?_
  have hPc := hP.sub (ws' := []) [] rfl
  have hDc := hD.sub (ws' := []) [] (by decide) rfl
  have hKc := hK.sub (tys' := []) [] rfl
  have hFc := va_free (wc := []) hD hS hA [] rfl
  refine va_calli (va_runS (As := [.int yq, .int yr]) (rest := []) ⟨hx, hb, hml, hown, hts⟩ (g_BR_halfWay l dC dI yq yr H.size) (cwS 2 hts (tw_inS w_794 w_795 w_10 w_796) rfl rfl rfl (by decide +kernel) ⟨Nat.le_of_ble_eq_true rfl, Nat.le_of_ble_eq_true rfl⟩) ⟨fun a U g mk q => by obtain ⟨q0, q1, qP, qK, qD⟩ := q; exact ⟨q0, q1, qP, va_K.moved (u := U) (U := U.calling g mk a) (Vm.Alike.refl U.vm) qK, qD⟩, fun U hU hW => ⟨rfl, by rw [hU], by rw [hU]; exact hPc, va_K.moved hW.alike hKc, hDc.weaken (fun _ _ _ _ => trivial)⟩⟩ rfl rfl hl.1 rfl (lv_room (Nat.le_of_ble_eq_true rfl)) d_BR_partCurve_27 ⟨Nat.le_of_ble_eq_true rfl, Nat.le_of_ble_eq_true rfl⟩) hS (fun q _ h => hFc q h) hFc (fun r5421 u t H1 locs ht hvm hw hB hz1 hk1 hS => ?_)
  have hP1 : va_P (dC, dI) cls_ [] H1 := fun k q h => by simp at h
  have hD1 : va_D (va_A [] H.size) [] := ⟨fun i j p q h => by simp at h, fun k q h => by simp at h⟩
  obtain ⟨hP, hD⟩ := va_join (wr := [(h0, .inr (8, [.ref ki, .ref ko, .ref rx, .ref ry, .ref rn, .int (nI (rs)), .int (nI (be)), .int pp, .int pe, .int gb])), (ki, .inr (7, [.ref iw, .ref ib])), (ib, .inl (cS, 1152, .inl (fs)))]) (w1 := []) hP hD [] [0, 1, 2] rfl rfl (by decide) (by decide) hk1 hFc hP1 hD1
  generalize H1 = H at hP hS ⊢
  have hP : va_P (dC, dI) cls_ [(h0, .inr (8, [.ref ki, .ref ko, .ref rx, .ref ry, .ref rn, .int (nI (rs)), .int (nI (be)), .int pp, .int pe, .int gb])), (ki, .inr (7, [.ref iw, .ref ib])), (ib, .inl (cS, 1152, .inl (fs)))] H := hP
  have hD : va_D A [(h0, .inr (8, [.ref ki, .ref ko, .ref rx, .ref ry, .ref rn, .int (nI (rs)), .int (nI (be)), .int pp, .int pe, .int gb])), (ki, .inr (7, [.ref iw, .ref ib])), (ib, .inl (cS, 1152, .inl (fs)))] := hD
  have hw_r5421 := hw
  refine lv_istore (lv' := [(11, .int r5421), (10, .int r5420), (9, .int r5419), (8, .int r5418), (0, .ref h0), (1, .int xp), (2, .int yp), (3, .int xq), (4, .int yq), (5, .int xr), (6, .int yr), (7, .int 5)]) hx hb d_BR_partCurve_30 hl (by decide) rfl (fun ls hl => ?_)
  refine lv_iload hx hb d_BR_partCurve_32 (lv_at hl 3 rfl) ?_
  refine lv_iload hx hb d_BR_partCurve_34 (lv_at hl 1 rfl) ?_
  have hPc := hP.sub (ws' := []) [] rfl
  have hDc := hD.sub (ws' := []) [] (by decide) rfl
  have hKc := hK.sub (tys' := []) [] rfl
  have hFc := va_free (wc := []) hD hS hA [] rfl
  refine va_calli (va_runS (As := [.int r5418, .int r5420]) (rest := []) ⟨hx, hb, hml, hown, hts⟩ (g_BR_halfWay l dC dI r5418 r5420 H.size) (cwS 2 hts (tw_inS w_794 w_795 w_10 w_796) rfl rfl rfl (by decide +kernel) ⟨Nat.le_of_ble_eq_true rfl, Nat.le_of_ble_eq_true rfl⟩) ⟨fun a U g mk q => by obtain ⟨q0, q1, qP, qK, qD⟩ := q; exact ⟨q0, q1, qP, va_K.moved (u := U) (U := U.calling g mk a) (Vm.Alike.refl U.vm) qK, qD⟩, fun U hU hW => ⟨rfl, by rw [hU], by rw [hU]; exact hPc, va_K.moved hW.alike hKc, hDc.weaken (fun _ _ _ _ => trivial)⟩⟩ rfl rfl hl.1 rfl (lv_room (Nat.le_of_ble_eq_true rfl)) d_BR_partCurve_36 ⟨Nat.le_of_ble_eq_true rfl, Nat.le_of_ble_eq_true rfl⟩) hS (fun q _ h => hFc q h) hFc (fun r5422 u t H1 locs ht hvm hw hB hz1 hk1 hS => ?_)
  have hP1 : va_P (dC, dI) cls_ [] H1 := fun k q h => by simp at h
  have hD1 : va_D (va_A [] H.size) [] := ⟨fun i j p q h => by simp at h, fun k q h => by simp at h⟩
  obtain ⟨hP, hD⟩ := va_join (wr := [(h0, .inr (8, [.ref ki, .ref ko, .ref rx, .ref ry, .ref rn, .int (nI (rs)), .int (nI (be)), .int pp, .int pe, .int gb])), (ki, .inr (7, [.ref iw, .ref ib])), (ib, .inl (cS, 1152, .inl (fs)))]) (w1 := []) hP hD [] [0, 1, 2] rfl rfl (by decide) (by decide) hk1 hFc hP1 hD1
  generalize H1 = H at hP hS ⊢
  have hP : va_P (dC, dI) cls_ [(h0, .inr (8, [.ref ki, .ref ko, .ref rx, .ref ry, .ref rn, .int (nI (rs)), .int (nI (be)), .int pp, .int pe, .int gb])), (ki, .inr (7, [.ref iw, .ref ib])), (ib, .inl (cS, 1152, .inl (fs)))] H := hP
  have hD : va_D A [(h0, .inr (8, [.ref ki, .ref ko, .ref rx, .ref ry, .ref rn, .int (nI (rs)), .int (nI (be)), .int pp, .int pe, .int gb])), (ki, .inr (7, [.ref iw, .ref ib])), (ib, .inl (cS, 1152, .inl (fs)))] := hD
  have hw_r5422 := hw
  refine lv_istore (lv' := [(12, .int r5422), (11, .int r5421), (10, .int r5420), (9, .int r5419), (8, .int r5418), (0, .ref h0), (1, .int xp), (2, .int yp), (3, .int xq), (4, .int yq), (5, .int xr), (6, .int yr), (7, .int 5)]) hx hb d_BR_partCurve_39 hl (by decide) rfl (fun ls hl => ?_)
  refine lv_iload hx hb d_BR_partCurve_41 (lv_at hl 3 rfl) ?_
  refine lv_iload hx hb d_BR_partCurve_43 (lv_at hl 1 rfl) ?_
  have hPc := hP.sub (ws' := []) [] rfl
  have hDc := hD.sub (ws' := []) [] (by decide) rfl
  have hKc := hK.sub (tys' := []) [] rfl
  have hFc := va_free (wc := []) hD hS hA [] rfl
  refine va_calli (va_runS (As := [.int r5419, .int r5421]) (rest := []) ⟨hx, hb, hml, hown, hts⟩ (g_BR_halfWay l dC dI r5419 r5421 H.size) (cwS 2 hts (tw_inS w_794 w_795 w_10 w_796) rfl rfl rfl (by decide +kernel) ⟨Nat.le_of_ble_eq_true rfl, Nat.le_of_ble_eq_true rfl⟩) ⟨fun a U g mk q => by obtain ⟨q0, q1, qP, qK, qD⟩ := q; exact ⟨q0, q1, qP, va_K.moved (u := U) (U := U.calling g mk a) (Vm.Alike.refl U.vm) qK, qD⟩, fun U hU hW => ⟨rfl, by rw [hU], by rw [hU]; exact hPc, va_K.moved hW.alike hKc, hDc.weaken (fun _ _ _ _ => trivial)⟩⟩ rfl rfl hl.1 rfl (lv_room (Nat.le_of_ble_eq_true rfl)) d_BR_partCurve_45 ⟨Nat.le_of_ble_eq_true rfl, Nat.le_of_ble_eq_true rfl⟩) hS (fun q _ h => hFc q h) hFc (fun r5423 u t H1 locs ht hvm hw hB hz1 hk1 hS => ?_)
  have hP1 : va_P (dC, dI) cls_ [] H1 := fun k q h => by simp at h
  have hD1 : va_D (va_A [] H.size) [] := ⟨fun i j p q h => by simp at h, fun k q h => by simp at h⟩
  obtain ⟨hP, hD⟩ := va_join (wr := [(h0, .inr (8, [.ref ki, .ref ko, .ref rx, .ref ry, .ref rn, .int (nI (rs)), .int (nI (be)), .int pp, .int pe, .int gb])), (ki, .inr (7, [.ref iw, .ref ib])), (ib, .inl (cS, 1152, .inl (fs)))]) (w1 := []) hP hD [] [0, 1, 2] rfl rfl (by decide) (by decide) hk1 hFc hP1 hD1
  generalize H1 = H at hP hS ⊢
  have hP : va_P (dC, dI) cls_ [(h0, .inr (8, [.ref ki, .ref ko, .ref rx, .ref ry, .ref rn, .int (nI (rs)), .int (nI (be)), .int pp, .int pe, .int gb])), (ki, .inr (7, [.ref iw, .ref ib])), (ib, .inl (cS, 1152, .inl (fs)))] H := hP
  have hD : va_D A [(h0, .inr (8, [.ref ki, .ref ko, .ref rx, .ref ry, .ref rn, .int (nI (rs)), .int (nI (be)), .int pp, .int pe, .int gb])), (ki, .inr (7, [.ref iw, .ref ib])), (ib, .inl (cS, 1152, .inl (fs)))] := hD
  have hw_r5423 := hw
  refine lv_istore (lv' := [(13, .int r5423), (12, .int r5422), (11, .int r5421), (10, .int r5420), (9, .int r5419), (8, .int r5418), (0, .ref h0), (1, .int xp), (2, .int yp), (3, .int xq), (4, .int yq), (5, .int xr), (6, .int yr), (7, .int 5)]) hx hb d_BR_partCurve_48 hl (by decide) rfl (fun ls hl => ?_)
  refine lv_aload_n hx hb d_BR_partCurve_50 rfl (lv_at hl 6 rfl) ?_
  refine lv_iload_n hx hb d_BR_partCurve_51 rfl (lv_at hl 7 rfl) ?_
  refine lv_iload_n hx hb d_BR_partCurve_52 rfl (lv_at hl 8 rfl) ?_
  refine lv_iload hx hb d_BR_partCurve_53 (lv_at hl 5 rfl) ?_
  refine lv_iload hx hb d_BR_partCurve_55 (lv_at hl 4 rfl) ?_
  refine lv_iload hx hb d_BR_partCurve_57 (lv_at hl 1 rfl) ?_
  refine lv_iload hx hb d_BR_partCurve_59 (lv_at hl 0 rfl) ?_
  refine lv_iload hx hb d_BR_partCurve_61 (lv_at hl 13 rfl) ?_
  have hPc := hP.sub (ws' := [(h0, .inr (8, [.ref ki, .ref ko, .ref rx, .ref ry, .ref rn, .int (nI (rs)), .int (nI (be)), .int pp, .int pe, .int gb])), (ki, .inr (7, [.ref iw, .ref ib])), (ib, .inl (cS, 1152, .inl (fs)))]) [0, 1, 2] rfl
  have hDc := hD.sub (ws' := [(h0, .inr (8, [.ref ki, .ref ko, .ref rx, .ref ry, .ref rn, .int (nI (rs)), .int (nI (be)), .int pp, .int pe, .int gb])), (ki, .inr (7, [.ref iw, .ref ib])), (ib, .inl (cS, 1152, .inl (fs)))]) [0, 1, 2] (by decide) rfl
  have hKc := hK.sub (tys' := [(cS, .int)]) [0] rfl
  have hFc := va_free (wc := [(h0, .inr (8, [.ref ki, .ref ko, .ref rx, .ref ry, .ref rn, .int (nI (rs)), .int (nI (be)), .int pp, .int pe, .int gb])), (ki, .inr (7, [.ref iw, .ref ib])), (ib, .inl (cS, 1152, .inl (fs)))]) hD hS hA [0, 1, 2] rfl
  refine va_callv (va_runV (As := [.int xp, .int yp, .int r5418, .int r5419, .int r5422, .int r5423, .int 5]) (rest := []) ⟨hx, hb, hml, hown, hts⟩ (g_BR_paintCurve5 l dC dI h0 ki ko rx ry rn rs be pp pe gb iw ib cS fs xp yp r5418 r5419 r5422 r5423 H.size) (cwV 7 hts (tw_inV w_814 w_816 wp_32 w_10 w_817) rfl rfl rfl (by decide +kernel) ⟨Nat.le_of_ble_eq_true rfl, Nat.le_of_ble_eq_true rfl⟩) ⟨fun a U g mk q => by obtain ⟨q0, q1, qP, qK, qD, qE0⟩ := q; exact ⟨q0, q1, qP, va_K.moved (u := U) (U := U.calling g mk a) (Vm.Alike.refl U.vm) qK, qD, nests.call qE0⟩, va_recv (hK := hK) (hP := hP) (q0 := 0) (ci := 8) rfl rfl, fun U hU hW => ⟨rfl, by rw [hU], by rw [hU]; exact hPc, va_K.moved hW.alike hKc, hDc.weaken (fun _ _ _ _ => trivial), nests.warm hW hNs⟩⟩ rfl rfl hl.1 rfl (lv_room (Nat.le_of_ble_eq_true rfl)) d_BR_partCurve_63 ⟨Nat.le_of_ble_eq_true rfl, Nat.le_of_ble_eq_true rfl⟩) hS (fun q _ h => hFc q h) hFc (fun u t H1 locs ht hvm hw hB hz1 hk1 hS => ?_)
  obtain ⟨gs_5424, hP1, hK1, hD1⟩ := hB
  rw [ht] at hP1
  have hK1 := va_K.moved hvm.symm hK1
  obtain ⟨hP, hD⟩ := va_join (wr := []) (w1 := [(h0, .inr (8, [.ref ki, .ref ko, .ref rx, .ref ry, .ref rn, .int (nI (rs)), .int (nI (be)), .int pp, .int pe, .int gb])), (ki, .inr (7, [.ref iw, .ref ib])), (ib, .inl (cS, 1152, .inl (gs_5424)))]) hP hD [0, 1, 2] [] rfl rfl (by decide) (by decide) hk1 hFc hP1 hD1
  have hK := (hK.sub (tys' := []) [] rfl).app hK1
  generalize H1 = H at hP hS ⊢
  have hP : va_P (dC, dI) cls_ [(h0, .inr (8, [.ref ki, .ref ko, .ref rx, .ref ry, .ref rn, .int (nI (rs)), .int (nI (be)), .int pp, .int pe, .int gb])), (ki, .inr (7, [.ref iw, .ref ib])), (ib, .inl (cS, 1152, .inl (gs_5424)))] H := hP
  have hD : va_D A [(h0, .inr (8, [.ref ki, .ref ko, .ref rx, .ref ry, .ref rn, .int (nI (rs)), .int (nI (be)), .int pp, .int pe, .int gb])), (ki, .inr (7, [.ref iw, .ref ib])), (ib, .inl (cS, 1152, .inl (gs_5424)))] := hD
  have hK : va_K (dC, dI) cls_ [(cS, .int)] s := hK
  refine lv_aload_n hx hb d_BR_partCurve_66 rfl (lv_at hl 6 rfl) ?_
  refine lv_iload hx hb d_BR_partCurve_67 (lv_at hl 1 rfl) ?_
  refine lv_iload hx hb d_BR_partCurve_69 (lv_at hl 0 rfl) ?_
  refine lv_iload hx hb d_BR_partCurve_71 (lv_at hl 3 rfl) ?_
  refine lv_iload hx hb d_BR_partCurve_73 (lv_at hl 2 rfl) ?_
  refine lv_iload hx hb d_BR_partCurve_75 (lv_at hl 11 rfl) ?_
  refine lv_iload hx hb d_BR_partCurve_77 (lv_at hl 12 rfl) ?_
  refine lv_iload hx hb d_BR_partCurve_79 (lv_at hl 13 rfl) ?_
  have hPc := hP.sub (ws' := [(h0, .inr (8, [.ref ki, .ref ko, .ref rx, .ref ry, .ref rn, .int (nI (rs)), .int (nI (be)), .int pp, .int pe, .int gb])), (ki, .inr (7, [.ref iw, .ref ib])), (ib, .inl (cS, 1152, .inl (gs_5424)))]) [0, 1, 2] rfl
  have hDc := hD.sub (ws' := [(h0, .inr (8, [.ref ki, .ref ko, .ref rx, .ref ry, .ref rn, .int (nI (rs)), .int (nI (be)), .int pp, .int pe, .int gb])), (ki, .inr (7, [.ref iw, .ref ib])), (ib, .inl (cS, 1152, .inl (gs_5424)))]) [0, 1, 2] (by decide) rfl
  have hKc := hK.sub (tys' := [(cS, .int)]) [0] rfl
  have hFc := va_free (wc := [(h0, .inr (8, [.ref ki, .ref ko, .ref rx, .ref ry, .ref rn, .int (nI (rs)), .int (nI (be)), .int pp, .int pe, .int gb])), (ki, .inr (7, [.ref iw, .ref ib])), (ib, .inl (cS, 1152, .inl (gs_5424)))]) hD hS hA [0, 1, 2] rfl
  refine va_callv (va_runV (As := [.int r5422, .int r5423, .int r5420, .int r5421, .int xr, .int yr, .int 5]) (rest := []) ⟨hx, hb, hml, hown, hts⟩ (g_BR_paintCurve5 l dC dI h0 ki ko rx ry rn rs be pp pe gb iw ib cS gs_5424 r5422 r5423 r5420 r5421 xr yr H.size) (cwV 7 hts (tw_inV w_814 w_816 wp_32 w_10 w_817) rfl rfl rfl (by decide +kernel) ⟨Nat.le_of_ble_eq_true rfl, Nat.le_of_ble_eq_true rfl⟩) ⟨fun a U g mk q => by obtain ⟨q0, q1, qP, qK, qD, qE0⟩ := q; exact ⟨q0, q1, qP, va_K.moved (u := U) (U := U.calling g mk a) (Vm.Alike.refl U.vm) qK, qD, nests.call qE0⟩, va_recv (hK := hK) (hP := hP) (q0 := 0) (ci := 8) rfl rfl, fun U hU hW => ⟨rfl, by rw [hU], by rw [hU]; exact hPc, va_K.moved hW.alike hKc, hDc.weaken (fun _ _ _ _ => trivial), nests.warm hW hNs⟩⟩ rfl rfl hl.1 rfl (lv_room (Nat.le_of_ble_eq_true rfl)) d_BR_partCurve_81 ⟨Nat.le_of_ble_eq_true rfl, Nat.le_of_ble_eq_true rfl⟩) hS (fun q _ h => hFc q h) hFc (fun u t H1 locs ht hvm hw hB hz1 hk1 hS => ?_)
  obtain ⟨gs_5425, hP1, hK1, hD1⟩ := hB
  rw [ht] at hP1
  have hK1 := va_K.moved hvm.symm hK1
  obtain ⟨hP, hD⟩ := va_join (wr := []) (w1 := [(h0, .inr (8, [.ref ki, .ref ko, .ref rx, .ref ry, .ref rn, .int (nI (rs)), .int (nI (be)), .int pp, .int pe, .int gb])), (ki, .inr (7, [.ref iw, .ref ib])), (ib, .inl (cS, 1152, .inl (gs_5425)))]) hP hD [0, 1, 2] [] rfl rfl (by decide) (by decide) hk1 hFc hP1 hD1
  have hK := (hK.sub (tys' := []) [] rfl).app hK1
  generalize H1 = H at hP hS ⊢
  have hP : va_P (dC, dI) cls_ [(h0, .inr (8, [.ref ki, .ref ko, .ref rx, .ref ry, .ref rn, .int (nI (rs)), .int (nI (be)), .int pp, .int pe, .int gb])), (ki, .inr (7, [.ref iw, .ref ib])), (ib, .inl (cS, 1152, .inl (gs_5425)))] H := hP
  have hD : va_D A [(h0, .inr (8, [.ref ki, .ref ko, .ref rx, .ref ry, .ref rn, .int (nI (rs)), .int (nI (be)), .int pp, .int pe, .int gb])), (ki, .inr (7, [.ref iw, .ref ib])), (ib, .inl (cS, 1152, .inl (gs_5425)))] := hD
  have hK : va_K (dC, dI) cls_ [(cS, .int)] s := hK
  refine W.widen (k := 0) (n := 0) (Nat.le_of_ble_eq_true rfl) (Nat.le_of_ble_eq_true rfl) ?_
  have hP9 := hP.sub (ws' := [(h0, .inr (8, [.ref ki, .ref ko, .ref rx, .ref ry, .ref rn, .int (nI (rs)), .int (nI (be)), .int pp, .int pe, .int gb])), (ki, .inr (7, [.ref iw, .ref ib])), (ib, .inl (cS, 1152, .inl (gs_5425)))]) [0, 1, 2] rfl
  have hD9 := hD.sub (ws' := [(h0, .inr (8, [.ref ki, .ref ko, .ref rx, .ref ry, .ref rn, .int (nI (rs)), .int (nI (be)), .int pp, .int pe, .int gb])), (ki, .inr (7, [.ref iw, .ref ib])), (ib, .inl (cS, 1152, .inl (gs_5425)))]) [0, 1, 2] (by decide) rfl
  have hK9 := hK.sub (tys' := [(cS, .int)]) [0] rfl
  exact W.vret hx hb hr (fun t ht hW => ⟨⟨(), rfl, trivial, gs_5425, by rw [ht]; exact hP9, va_K.moved hW.alike hK9, hD9⟩, hS.F ht⟩) hS.2.2 d_BR_partCurve_84
set_option maxHeartbeats 4000000 in
set_option maxRecDepth 100000 in
/-- GlyphLines$Brush.paintCurve -/
theorem g_BR_paintCurve4 (l : Launch) (dC : Nat → ClassId) (dI : Nat → Nat → Nat) (h0 : Nat) (ki : Nat) (ko : Nat) (rx : Nat) (ry : Nat) (rn : Nat) (rs : Nat) (be : Nat) (pp : Int32) (pe : Int32) (gb : Int32) (iw : Nat) (ib : Nat) (cS : ClassId) (fs : Nat → Int32) (xp : Int32) (yp : Int32) (xq : Int32) (yq : Int32) (xr : Int32) (yr : Int32) (sz : Nat) : Met l y_BR_paintCurve s_BR_paintCurve ({ frames := 28, cells := 0, slots := 0, locals := 1000 }) (va_Pc [.ref h0, .int xp, .int yp, .int xq, .int yq, .int xr, .int yr, .int 4] (fun U => U.heap.size = sz ∧ va_P (dC, dI) cls_ [(h0, .inr (8, [.ref ki, .ref ko, .ref rx, .ref ry, .ref rn, .int (nI (rs)), .int (nI (be)), .int pp, .int pe, .int gb])), (ki, .inr (7, [.ref iw, .ref ib])), (ib, .inl (cS, 1152, .inl (fs)))] U.heap ∧ va_K (dC, dI) cls_ [(cS, .int)] U ∧ va_D (fun _ => True) [(h0, .inr (8, [.ref ki, .ref ko, .ref rx, .ref ry, .ref rn, .int (nI (rs)), .int (nI (be)), .int pp, .int pe, .int gb])), (ki, .inr (7, [.ref iw, .ref ib])), (ib, .inl (cS, 1152, .inl (fs)))] ∧ nests U)) (va_Qv (fun _ : Unit => True) (fun (_ : Unit) (t : State) => ∃ (gs : Nat → Int32), va_P (dC, dI) cls_ [(h0, .inr (8, [.ref ki, .ref ko, .ref rx, .ref ry, .ref rn, .int (nI (rs)), .int (nI (be)), .int pp, .int pe, .int gb])), (ki, .inr (7, [.ref iw, .ref ib])), (ib, .inl (cS, 1152, .inl (gs)))] t.heap ∧ va_K (dC, dI) cls_ [(cS, .int)] t ∧ va_D (va_A [(h0, .inr (8, [.ref ki, .ref ko, .ref rx, .ref ry, .ref rn, .int (nI (rs)), .int (nI (be)), .int pp, .int pe, .int gb])), (ki, .inr (7, [.ref iw, .ref ib])), (ib, .inl (cS, 1152, .inl (fs)))] sz) [(h0, .inr (8, [.ref ki, .ref ko, .ref rx, .ref ry, .ref rn, .int (nI (rs)), .int (nI (be)), .int pp, .int pe, .int gb])), (ki, .inr (7, [.ref iw, .ref ib])), (ib, .inl (cS, 1152, .inl (gs)))]) (va_A [(h0, .inr (8, [.ref ki, .ref ko, .ref rx, .ref ry, .ref rn, .int (nI (rs)), .int (nI (be)), .int pp, .int pe, .int gb])), (ki, .inr (7, [.ref iw, .ref ib])), (ib, .inl (cS, 1152, .inl (fs)))] sz)) 0 0 (va_A [(h0, .inr (8, [.ref ki, .ref ko, .ref rx, .ref ry, .ref rn, .int (nI (rs)), .int (nI (be)), .int pp, .int pe, .int gb])), (ki, .inr (7, [.ref iw, .ref ib])), (ib, .inl (cS, 1152, .inl (fs)))] sz) := by
  refine Met.ofW (cc := b_BR_paintCurve) (maxL := 8) (ret := none) (by decide) rfl ?_
  intro p e s m args below meth c s₁ B hml hv
  obtain ⟨rfl, hsz, hP, hK, hD0, hNs⟩ := hv
  have hx := B.exec
  have hb := B.bytes
  have hr := B.returns
  have hts := atoms_spec (ws := s_BR_paintCurve) B.pre
  have hown : s.vm.findClass R_BR = some m.cls := findClass_of_methodNamed B.named
  have hlocks := B.notSynchronized
  subst hsz
  have hD := hD0.self (sz := s.heap.size)
  generalize hAe : va_A [(h0, .inr (8, [.ref ki, .ref ko, .ref rx, .ref ry, .ref rn, .int (nI (rs)), .int (nI (be)), .int pp, .int pe, .int gb])), (ki, .inr (7, [.ref iw, .ref ib])), (ib, .inl (cS, 1152, .inl (fs)))] s.heap.size = A at hD ⊢
  have hA : ∀ q : Nat, s.heap.size ≤ q → A q := fun q h => by rw [← hAe]; exact Or.inr h
  have hS : va_S A s.heap s.heap [] := va_S.rf
  have hP : va_P (dC, dI) cls_ [(h0, .inr (8, [.ref ki, .ref ko, .ref rx, .ref ry, .ref rn, .int (nI (rs)), .int (nI (be)), .int pp, .int pe, .int gb])), (ki, .inr (7, [.ref iw, .ref ib])), (ib, .inl (cS, 1152, .inl (fs)))] s.heap := hP
  have hl := lv_entry ([.ref h0, .int xp, .int yp, .int xq, .int yq, .int xr, .int yr, .int 4]) (n := 8) (Nat.le_of_ble_eq_true rfl)
  rw [lg_entry_eq]
  generalize (lg_sl ([.ref h0, .int xp, .int yp, .int xq, .int yq, .int xr, .int yr, .int 4]) ++ List.replicate (8 - (lg_sl ([.ref h0, .int xp, .int yp, .int xq, .int yq, .int xr, .int yr, .int 4])).length) Slot.unset).toArray = ls at hl ⊢
  have hl : lv_has ls 8 [(0, .ref h0), (1, .int xp), (2, .int yp), (3, .int xq), (4, .int yq), (5, .int xr), (6, .int yr), (7, .int 4)] := hl
  refine lv_iload hx hb d_BR_paintCurve_0 (lv_at hl 7 rfl) ?_
  refine lv_bipush (v := 6) hx hb d_BR_paintCurve_2 (by decide) ?_
  refine lv_icmp_ge (tgt := 28) hx hb d_BR_paintCurve_4 (by decide) (fun hc => absurd hc (by decide +kernel)) (fun _ => ?_)
  refine lv_iload_n hx hb d_BR_paintCurve_7 rfl (lv_at hl 3 rfl) ?_
  refine lv_iload_n hx hb d_BR_paintCurve_8 rfl (lv_at hl 1 rfl) ?_
  refine lv_isub hx hb d_BR_paintCurve_9 ?_
  refine lv_topi (fun v5426 ev5426 => ?_)
  refine lv_iload hx hb d_BR_paintCurve_10 (lv_at hl 4 rfl) ?_
  refine lv_iload_n hx hb d_BR_paintCurve_12 rfl (lv_at hl 2 rfl) ?_
  refine lv_isub hx hb d_BR_paintCurve_13 ?_
  refine lv_topi (fun v5427 ev5427 => ?_)
  refine lv_iload hx hb d_BR_paintCurve_14 (lv_at hl 5 rfl) ?_
  refine lv_iload_n hx hb d_BR_paintCurve_16 rfl (lv_at hl 1 rfl) ?_
  refine lv_isub hx hb d_BR_paintCurve_17 ?_
  refine lv_topi (fun v5428 ev5428 => ?_)
  refine lv_iload hx hb d_BR_paintCurve_18 (lv_at hl 6 rfl) ?_
  refine lv_iload_n hx hb d_BR_paintCurve_20 rfl (lv_at hl 2 rfl) ?_
  refine lv_isub hx hb d_BR_paintCurve_21 ?_
  refine lv_topi (fun v5429 ev5429 => ?_)
  have hPc := hP.sub (ws' := []) [] rfl
  have hDc := hD.sub (ws' := []) [] (by decide) rfl
  have hKc := hK.sub (tys' := []) [] rfl
  have hFc := va_free (wc := []) hD hS hA [] rfl
  refine va_calli (va_runS (As := [.int v5426, .int v5427, .int v5428, .int v5429]) (rest := []) ⟨hx, hb, hml, hown, hts⟩ (g_BR_isFlat l dC dI v5426 v5427 v5428 v5429 s.heap.size) (cwS 4 hts (tw_inS w_818 w_819 w_10 w_820) rfl rfl rfl (by decide +kernel) ⟨Nat.le_of_ble_eq_true rfl, Nat.le_of_ble_eq_true rfl⟩) ⟨fun a U g mk q => by obtain ⟨q0, q1, qP, qK, qD⟩ := q; exact ⟨q0, q1, qP, va_K.moved (u := U) (U := U.calling g mk a) (Vm.Alike.refl U.vm) qK, qD⟩, fun U hU hW => ⟨rfl, by rw [hU], by rw [hU]; exact hPc, va_K.moved hW.alike hKc, hDc.weaken (fun _ _ _ _ => trivial)⟩⟩ rfl rfl hl.1 rfl (lv_room (Nat.le_of_ble_eq_true rfl)) d_BR_paintCurve_22 ⟨Nat.le_of_ble_eq_true rfl, Nat.le_of_ble_eq_true rfl⟩) hS (fun q _ h => hFc q h) hFc (fun r5430 u t H1 locs ht hvm hw hB hz1 hk1 hS => ?_)
  have hP1 : va_P (dC, dI) cls_ [] H1 := fun k q h => by simp at h
  have hD1 : va_D (va_A [] s.heap.size) [] := ⟨fun i j p q h => by simp at h, fun k q h => by simp at h⟩
  obtain ⟨hP, hD⟩ := va_join (wr := [(h0, .inr (8, [.ref ki, .ref ko, .ref rx, .ref ry, .ref rn, .int (nI (rs)), .int (nI (be)), .int pp, .int pe, .int gb])), (ki, .inr (7, [.ref iw, .ref ib])), (ib, .inl (cS, 1152, .inl (fs)))]) (w1 := []) hP hD [] [0, 1, 2] rfl rfl (by decide) (by decide) hk1 hFc hP1 hD1
  generalize H1 = H at hP hS ⊢
  have hP : va_P (dC, dI) cls_ [(h0, .inr (8, [.ref ki, .ref ko, .ref rx, .ref ry, .ref rn, .int (nI (rs)), .int (nI (be)), .int pp, .int pe, .int gb])), (ki, .inr (7, [.ref iw, .ref ib])), (ib, .inl (cS, 1152, .inl (fs)))] H := hP
  have hD : va_D A [(h0, .inr (8, [.ref ki, .ref ko, .ref rx, .ref ry, .ref rn, .int (nI (rs)), .int (nI (be)), .int pp, .int pe, .int gb])), (ki, .inr (7, [.ref iw, .ref ib])), (ib, .inl (cS, 1152, .inl (fs)))] := hD
  have hw_r5430 := hw
  obtain ⟨bb5431, rfl⟩ := hw_r5430
  refine lv_if_eq (tgt := 44) hx hb d_BR_paintCurve_25 (by decide) (fun hc5432 => ?_) (fun hc5432 => ?_)
  · skip
    have hc5432b : bb5431 = false := bI_0 hc5432
    refine lv_aload_n hx hb d_BR_paintCurve_44 rfl (lv_at hl 0 rfl) ?_
    refine lv_iload_n hx hb d_BR_paintCurve_45 rfl (lv_at hl 1 rfl) ?_
    refine lv_iload_n hx hb d_BR_paintCurve_46 rfl (lv_at hl 2 rfl) ?_
    refine lv_iload_n hx hb d_BR_paintCurve_47 rfl (lv_at hl 3 rfl) ?_
    refine lv_iload hx hb d_BR_paintCurve_48 (lv_at hl 4 rfl) ?_
    refine lv_iload hx hb d_BR_paintCurve_50 (lv_at hl 5 rfl) ?_
    refine lv_iload hx hb d_BR_paintCurve_52 (lv_at hl 6 rfl) ?_
    refine lv_iload hx hb d_BR_paintCurve_54 (lv_at hl 7 rfl) ?_
    refine lv_iconst (v := 1) hx hb d_BR_paintCurve_56 (by decide) ?_
    refine lv_iadd hx hb d_BR_paintCurve_57 ?_
    refine lv_ci (y := 5) (by decide +kernel) ?_
    have hPc := hP.sub (ws' := [(h0, .inr (8, [.ref ki, .ref ko, .ref rx, .ref ry, .ref rn, .int (nI (rs)), .int (nI (be)), .int pp, .int pe, .int gb])), (ki, .inr (7, [.ref iw, .ref ib])), (ib, .inl (cS, 1152, .inl (fs)))]) [0, 1, 2] rfl
    have hDc := hD.sub (ws' := [(h0, .inr (8, [.ref ki, .ref ko, .ref rx, .ref ry, .ref rn, .int (nI (rs)), .int (nI (be)), .int pp, .int pe, .int gb])), (ki, .inr (7, [.ref iw, .ref ib])), (ib, .inl (cS, 1152, .inl (fs)))]) [0, 1, 2] (by decide) rfl
    have hKc := hK.sub (tys' := [(cS, .int)]) [0] rfl
    have hFc := va_free (wc := [(h0, .inr (8, [.ref ki, .ref ko, .ref rx, .ref ry, .ref rn, .int (nI (rs)), .int (nI (be)), .int pp, .int pe, .int gb])), (ki, .inr (7, [.ref iw, .ref ib])), (ib, .inl (cS, 1152, .inl (fs)))]) hD hS hA [0, 1, 2] rfl
    refine va_callv (va_runV (As := [.int xp, .int yp, .int xq, .int yq, .int xr, .int yr, .int 5]) (rest := []) ⟨hx, hb, hml, hown, hts⟩ (g_BR_partCurve5 l dC dI h0 ki ko rx ry rn rs be pp pe gb iw ib cS fs xp yp xq yq xr yr H.size) (cwV 7 hts (tw_inV w_829 w_831 wp_33 w_10 w_832) rfl rfl rfl (by decide +kernel) ⟨Nat.le_of_ble_eq_true rfl, Nat.le_of_ble_eq_true rfl⟩) ⟨fun a U g mk q => by obtain ⟨q0, q1, qP, qK, qD, qE0⟩ := q; exact ⟨q0, q1, qP, va_K.moved (u := U) (U := U.calling g mk a) (Vm.Alike.refl U.vm) qK, qD, nests.call qE0⟩, va_recv (hK := hK) (hP := hP) (q0 := 0) (ci := 8) rfl rfl, fun U hU hW => ⟨rfl, by rw [hU], by rw [hU]; exact hPc, va_K.moved hW.alike hKc, hDc.weaken (fun _ _ _ _ => trivial), nests.warm hW hNs⟩⟩ rfl rfl hl.1 rfl (lv_room (Nat.le_of_ble_eq_true rfl)) d_BR_paintCurve_58 ⟨Nat.le_of_ble_eq_true rfl, Nat.le_of_ble_eq_true rfl⟩) hS (fun q _ h => hFc q h) hFc (fun u t H1 locs ht hvm hw hB hz1 hk1 hS => ?_)
    obtain ⟨gs_5433, hP1, hK1, hD1⟩ := hB
    rw [ht] at hP1
    have hK1 := va_K.moved hvm.symm hK1
    obtain ⟨hP, hD⟩ := va_join (wr := []) (w1 := [(h0, .inr (8, [.ref ki, .ref ko, .ref rx, .ref ry, .ref rn, .int (nI (rs)), .int (nI (be)), .int pp, .int pe, .int gb])), (ki, .inr (7, [.ref iw, .ref ib])), (ib, .inl (cS, 1152, .inl (gs_5433)))]) hP hD [0, 1, 2] [] rfl rfl (by decide) (by decide) hk1 hFc hP1 hD1
    have hK := (hK.sub (tys' := []) [] rfl).app hK1
    generalize H1 = H at hP hS ⊢
    have hP : va_P (dC, dI) cls_ [(h0, .inr (8, [.ref ki, .ref ko, .ref rx, .ref ry, .ref rn, .int (nI (rs)), .int (nI (be)), .int pp, .int pe, .int gb])), (ki, .inr (7, [.ref iw, .ref ib])), (ib, .inl (cS, 1152, .inl (gs_5433)))] H := hP
    have hD : va_D A [(h0, .inr (8, [.ref ki, .ref ko, .ref rx, .ref ry, .ref rn, .int (nI (rs)), .int (nI (be)), .int pp, .int pe, .int gb])), (ki, .inr (7, [.ref iw, .ref ib])), (ib, .inl (cS, 1152, .inl (gs_5433)))] := hD
    have hK : va_K (dC, dI) cls_ [(cS, .int)] s := hK
    refine W.widen (k := 0) (n := 0) (Nat.le_of_ble_eq_true rfl) (Nat.le_of_ble_eq_true rfl) ?_
    have hP9 := hP.sub (ws' := [(h0, .inr (8, [.ref ki, .ref ko, .ref rx, .ref ry, .ref rn, .int (nI (rs)), .int (nI (be)), .int pp, .int pe, .int gb])), (ki, .inr (7, [.ref iw, .ref ib])), (ib, .inl (cS, 1152, .inl (gs_5433)))]) [0, 1, 2] rfl
    have hD9 := hD.sub (ws' := [(h0, .inr (8, [.ref ki, .ref ko, .ref rx, .ref ry, .ref rn, .int (nI (rs)), .int (nI (be)), .int pp, .int pe, .int gb])), (ki, .inr (7, [.ref iw, .ref ib])), (ib, .inl (cS, 1152, .inl (gs_5433)))]) [0, 1, 2] (by decide) rfl
    have hK9 := hK.sub (tys' := [(cS, .int)]) [0] rfl
    exact W.vret hx hb hr (fun t ht hW => ⟨⟨(), rfl, trivial, gs_5433, by rw [ht]; exact hP9, va_K.moved hW.alike hK9, hD9⟩, hS.F ht⟩) hS.2.2 d_BR_paintCurve_61
  · skip
    have hc5432b : bb5431 = true := bI_1 hc5432
    refine lv_aload_n hx hb d_BR_paintCurve_28 rfl (lv_at hl 0 rfl) ?_
    refine va_get (D := (dC, dI)) (ci := 8) (v := .ref ki) (C := R_BR) (T := F_BR) (N := 10) hx hb hts in_BR hown hK hP 0 rfl rfl 0 (by decide) (hts _ (List.mem_cons_of_mem _ w_255)) (fun _ h9 => h9) rfl d_BR_paintCurve_29 ?_
    refine lv_iload_n hx hb d_BR_paintCurve_32 rfl (lv_at hl 1 rfl) ?_
    refine lv_iload_n hx hb d_BR_paintCurve_33 rfl (lv_at hl 2 rfl) ?_
    refine lv_iload hx hb d_BR_paintCurve_34 (lv_at hl 5 rfl) ?_
    refine lv_iload hx hb d_BR_paintCurve_36 (lv_at hl 6 rfl) ?_
    have hPc := hP.sub (ws' := [(ki, .inr (7, [.ref iw, .ref ib])), (ib, .inl (cS, 1152, .inl (fs)))]) [1, 2] rfl
    have hDc := hD.sub (ws' := [(ki, .inr (7, [.ref iw, .ref ib])), (ib, .inl (cS, 1152, .inl (fs)))]) [1, 2] (by decide) rfl
    have hKc := hK.sub (tys' := [(cS, .int)]) [0] rfl
    have hFc := va_free (wc := [(ki, .inr (7, [.ref iw, .ref ib])), (ib, .inl (cS, 1152, .inl (fs)))]) hD hS hA [1, 2] rfl
    refine va_callv (va_runV (As := [.int xp, .int yp, .int xr, .int yr]) (rest := []) ⟨hx, hb, hml, hown, hts⟩ (g_PI_addLine l dC dI ki iw ib cS fs xp yp xr yr H.size) (cwV 4 hts (tw_inV w_801 w_802 w_803 w_9 w_804) rfl rfl rfl (by decide +kernel) ⟨Nat.le_of_ble_eq_true rfl, Nat.le_of_ble_eq_true rfl⟩) ⟨fun a U g mk q => by obtain ⟨q0, q1, qP, qK, qD⟩ := q; exact ⟨q0, q1, qP, va_K.moved (u := U) (U := U.calling g mk a) (Vm.Alike.refl U.vm) qK, qD⟩, va_recv (hK := hK) (hP := hP) (q0 := 1) (ci := 7) rfl rfl, fun U hU hW => ⟨rfl, by rw [hU], by rw [hU]; exact hPc, va_K.moved hW.alike hKc, hDc.weaken (fun _ _ _ _ => trivial)⟩⟩ rfl rfl hl.1 rfl (lv_room (Nat.le_of_ble_eq_true rfl)) d_BR_paintCurve_38 ⟨Nat.le_of_ble_eq_true rfl, Nat.le_of_ble_eq_true rfl⟩) hS (fun q _ h => hFc q h) hFc (fun u t H1 locs ht hvm hw hB hz1 hk1 hS => ?_)
    obtain ⟨gs_5434, hP1, hK1, hD1⟩ := hB
    rw [ht] at hP1
    have hK1 := va_K.moved hvm.symm hK1
    obtain ⟨hP, hD⟩ := va_join (wr := [(h0, .inr (8, [.ref ki, .ref ko, .ref rx, .ref ry, .ref rn, .int (nI (rs)), .int (nI (be)), .int pp, .int pe, .int gb]))]) (w1 := [(ki, .inr (7, [.ref iw, .ref ib])), (ib, .inl (cS, 1152, .inl (gs_5434)))]) hP hD [1, 2] [0] rfl rfl (by decide) (by decide) hk1 hFc hP1 hD1
    have hK := (hK.sub (tys' := []) [] rfl).app hK1
    generalize H1 = H at hP hS ⊢
    have hP : va_P (dC, dI) cls_ [(h0, .inr (8, [.ref ki, .ref ko, .ref rx, .ref ry, .ref rn, .int (nI (rs)), .int (nI (be)), .int pp, .int pe, .int gb])), (ki, .inr (7, [.ref iw, .ref ib])), (ib, .inl (cS, 1152, .inl (gs_5434)))] H := hP
    have hD : va_D A [(h0, .inr (8, [.ref ki, .ref ko, .ref rx, .ref ry, .ref rn, .int (nI (rs)), .int (nI (be)), .int pp, .int pe, .int gb])), (ki, .inr (7, [.ref iw, .ref ib])), (ib, .inl (cS, 1152, .inl (gs_5434)))] := hD
    have hK : va_K (dC, dI) cls_ [(cS, .int)] s := hK
    refine lv_goto (tgt := 61) hx hb d_BR_paintCurve_41 (by decide) ?_
    refine W.widen (k := 0) (n := 0) (Nat.le_of_ble_eq_true rfl) (Nat.le_of_ble_eq_true rfl) ?_
    have hP9 := hP.sub (ws' := [(h0, .inr (8, [.ref ki, .ref ko, .ref rx, .ref ry, .ref rn, .int (nI (rs)), .int (nI (be)), .int pp, .int pe, .int gb])), (ki, .inr (7, [.ref iw, .ref ib])), (ib, .inl (cS, 1152, .inl (gs_5434)))]) [0, 1, 2] rfl
    have hD9 := hD.sub (ws' := [(h0, .inr (8, [.ref ki, .ref ko, .ref rx, .ref ry, .ref rn, .int (nI (rs)), .int (nI (be)), .int pp, .int pe, .int gb])), (ki, .inr (7, [.ref iw, .ref ib])), (ib, .inl (cS, 1152, .inl (gs_5434)))]) [0, 1, 2] (by decide) rfl
    have hK9 := hK.sub (tys' := [(cS, .int)]) [0] rfl
    exact W.vret hx hb hr (fun t ht hW => ⟨⟨(), rfl, trivial, gs_5434, by rw [ht]; exact hP9, va_K.moved hW.alike hK9, hD9⟩, hS.F ht⟩) hS.2.2 d_BR_paintCurve_61
set_option maxHeartbeats 4000000 in
set_option maxRecDepth 100000 in
/-- GlyphLines$Brush.partCurve -/
theorem g_BR_partCurve4 (l : Launch) (dC : Nat → ClassId) (dI : Nat → Nat → Nat) (h0 : Nat) (ki : Nat) (ko : Nat) (rx : Nat) (ry : Nat) (rn : Nat) (rs : Nat) (be : Nat) (pp : Int32) (pe : Int32) (gb : Int32) (iw : Nat) (ib : Nat) (cS : ClassId) (fs : Nat → Int32) (xp : Int32) (yp : Int32) (xq : Int32) (yq : Int32) (xr : Int32) (yr : Int32) (sz : Nat) : Met l y_BR_partCurve s_BR_partCurve ({ frames := 30, cells := 0, slots := 0, locals := 1060 }) (va_Pc [.ref h0, .int xp, .int yp, .int xq, .int yq, .int xr, .int yr, .int 4] (fun U => U.heap.size = sz ∧ va_P (dC, dI) cls_ [(h0, .inr (8, [.ref ki, .ref ko, .ref rx, .ref ry, .ref rn, .int (nI (rs)), .int (nI (be)), .int pp, .int pe, .int gb])), (ki, .inr (7, [.ref iw, .ref ib])), (ib, .inl (cS, 1152, .inl (fs)))] U.heap ∧ va_K (dC, dI) cls_ [(cS, .int)] U ∧ va_D (fun _ => True) [(h0, .inr (8, [.ref ki, .ref ko, .ref rx, .ref ry, .ref rn, .int (nI (rs)), .int (nI (be)), .int pp, .int pe, .int gb])), (ki, .inr (7, [.ref iw, .ref ib])), (ib, .inl (cS, 1152, .inl (fs)))] ∧ nests U)) (va_Qv (fun _ : Unit => True) (fun (_ : Unit) (t : State) => ∃ (gs : Nat → Int32), va_P (dC, dI) cls_ [(h0, .inr (8, [.ref ki, .ref ko, .ref rx, .ref ry, .ref rn, .int (nI (rs)), .int (nI (be)), .int pp, .int pe, .int gb])), (ki, .inr (7, [.ref iw, .ref ib])), (ib, .inl (cS, 1152, .inl (gs)))] t.heap ∧ va_K (dC, dI) cls_ [(cS, .int)] t ∧ va_D (va_A [(h0, .inr (8, [.ref ki, .ref ko, .ref rx, .ref ry, .ref rn, .int (nI (rs)), .int (nI (be)), .int pp, .int pe, .int gb])), (ki, .inr (7, [.ref iw, .ref ib])), (ib, .inl (cS, 1152, .inl (fs)))] sz) [(h0, .inr (8, [.ref ki, .ref ko, .ref rx, .ref ry, .ref rn, .int (nI (rs)), .int (nI (be)), .int pp, .int pe, .int gb])), (ki, .inr (7, [.ref iw, .ref ib])), (ib, .inl (cS, 1152, .inl (gs)))]) (va_A [(h0, .inr (8, [.ref ki, .ref ko, .ref rx, .ref ry, .ref rn, .int (nI (rs)), .int (nI (be)), .int pp, .int pe, .int gb])), (ki, .inr (7, [.ref iw, .ref ib])), (ib, .inl (cS, 1152, .inl (fs)))] sz)) 0 0 (va_A [(h0, .inr (8, [.ref ki, .ref ko, .ref rx, .ref ry, .ref rn, .int (nI (rs)), .int (nI (be)), .int pp, .int pe, .int gb])), (ki, .inr (7, [.ref iw, .ref ib])), (ib, .inl (cS, 1152, .inl (fs)))] sz) := by
  refine Met.ofW (cc := b_BR_partCurve) (maxL := 14) (ret := none) (by decide) rfl ?_
  intro p e s m args below meth c s₁ B hml hv
  obtain ⟨rfl, hsz, hP, hK, hD0, hNs⟩ := hv
  have hx := B.exec
  have hb := B.bytes
  have hr := B.returns
  have hts := atoms_spec (ws := s_BR_partCurve) B.pre
  have hown : s.vm.findClass R_BR = some m.cls := findClass_of_methodNamed B.named
  have hlocks := B.notSynchronized
  subst hsz
  have hD := hD0.self (sz := s.heap.size)
  generalize hAe : va_A [(h0, .inr (8, [.ref ki, .ref ko, .ref rx, .ref ry, .ref rn, .int (nI (rs)), .int (nI (be)), .int pp, .int pe, .int gb])), (ki, .inr (7, [.ref iw, .ref ib])), (ib, .inl (cS, 1152, .inl (fs)))] s.heap.size = A at hD ⊢
  have hA : ∀ q : Nat, s.heap.size ≤ q → A q := fun q h => by rw [← hAe]; exact Or.inr h
  have hS : va_S A s.heap s.heap [] := va_S.rf
  have hP : va_P (dC, dI) cls_ [(h0, .inr (8, [.ref ki, .ref ko, .ref rx, .ref ry, .ref rn, .int (nI (rs)), .int (nI (be)), .int pp, .int pe, .int gb])), (ki, .inr (7, [.ref iw, .ref ib])), (ib, .inl (cS, 1152, .inl (fs)))] s.heap := hP
  have hl := lv_entry ([.ref h0, .int xp, .int yp, .int xq, .int yq, .int xr, .int yr, .int 4]) (n := 14) (Nat.le_of_ble_eq_true rfl)
  rw [lg_entry_eq]
  generalize (lg_sl ([.ref h0, .int xp, .int yp, .int xq, .int yq, .int xr, .int yr, .int 4]) ++ List.replicate (14 - (lg_sl ([.ref h0, .int xp, .int yp, .int xq, .int yq, .int xr, .int yr, .int 4])).length) Slot.unset).toArray = ls at hl ⊢
  have hl : lv_has ls 14 [(0, .ref h0), (1, .int xp), (2, .int yp), (3, .int xq), (4, .int yq), (5, .int xr), (6, .int yr), (7, .int 4)] := hl
  refine lv_iload_n hx hb d_BR_partCurve_0 rfl (lv_at hl 1 rfl) ?_
  refine lv_iload_n hx hb d_BR_partCurve_1 rfl (lv_at hl 3 rfl) ?_
  have hPc := hP.sub (ws' := []) [] rfl
  have hDc := hD.sub (ws' := []) [] (by decide) rfl
  have hKc := hK.sub (tys' := []) [] rfl
  have hFc := va_free (wc := []) hD hS hA [] rfl
  refine va_calli (va_runS (As := [.int xp, .int xq]) (rest := []) ⟨hx, hb, hml, hown, hts⟩ (g_BR_halfWay l dC dI xp xq s.heap.size) (cwS 2 hts (tw_inS w_794 w_795 w_10 w_796) rfl rfl rfl (by decide +kernel) ⟨Nat.le_of_ble_eq_true rfl, Nat.le_of_ble_eq_true rfl⟩) ⟨fun a U g mk q => by obtain ⟨q0, q1, qP, qK, qD⟩ := q; exact ⟨q0, q1, qP, va_K.moved (u := U) (U := U.calling g mk a) (Vm.Alike.refl U.vm) qK, qD⟩, fun U hU hW => ⟨rfl, by rw [hU], by rw [hU]; exact hPc, va_K.moved hW.alike hKc, hDc.weaken (fun _ _ _ _ => trivial)⟩⟩ rfl rfl hl.1 rfl (lv_room (Nat.le_of_ble_eq_true rfl)) d_BR_partCurve_2 ⟨Nat.le_of_ble_eq_true rfl, Nat.le_of_ble_eq_true rfl⟩) hS (fun q _ h => hFc q h) hFc (fun r5435 u t H1 locs ht hvm hw hB hz1 hk1 hS => ?_)
  have hP1 : va_P (dC, dI) cls_ [] H1 := fun k q h => by simp at h
  have hD1 : va_D (va_A [] s.heap.size) [] := ⟨fun i j p q h => by simp at h, fun k q h => by simp at h⟩
  obtain ⟨hP, hD⟩ := va_join (wr := [(h0, .inr (8, [.ref ki, .ref ko, .ref rx, .ref ry, .ref rn, .int (nI (rs)), .int (nI (be)), .int pp, .int pe, .int gb])), (ki, .inr (7, [.ref iw, .ref ib])), (ib, .inl (cS, 1152, .inl (fs)))]) (w1 := []) hP hD [] [0, 1, 2] rfl rfl (by decide) (by decide) hk1 hFc hP1 hD1
  generalize H1 = H at hP hS ⊢
  have hP : va_P (dC, dI) cls_ [(h0, .inr (8, [.ref ki, .ref ko, .ref rx, .ref ry, .ref rn, .int (nI (rs)), .int (nI (be)), .int pp, .int pe, .int gb])), (ki, .inr (7, [.ref iw, .ref ib])), (ib, .inl (cS, 1152, .inl (fs)))] H := hP
  have hD : va_D A [(h0, .inr (8, [.ref ki, .ref ko, .ref rx, .ref ry, .ref rn, .int (nI (rs)), .int (nI (be)), .int pp, .int pe, .int gb])), (ki, .inr (7, [.ref iw, .ref ib])), (ib, .inl (cS, 1152, .inl (fs)))] := hD
  have hw_r5435 := hw
  refine lv_istore (lv' := [(8, .int r5435), (0, .ref h0), (1, .int xp), (2, .int yp), (3, .int xq), (4, .int yq), (5, .int xr), (6, .int yr), (7, .int 4)]) hx hb d_BR_partCurve_5 hl (by decide) rfl (fun ls hl => ?_)
  refine lv_iload_n hx hb d_BR_partCurve_7 rfl (lv_at hl 3 rfl) ?_
  refine lv_iload hx hb d_BR_partCurve_8 (lv_at hl 5 rfl) ?_
  have hPc := hP.sub (ws' := []) [] rfl
  have hDc := hD.sub (ws' := []) [] (by decide) rfl
  have hKc := hK.sub (tys' := []) [] rfl
  have hFc := va_free (wc := []) hD hS hA [] rfl
  refine va_calli (va_runS (As := [.int yp, .int yq]) (rest := []) ⟨hx, hb, hml, hown, hts⟩ (g_BR_halfWay l dC dI yp yq H.size) (cwS 2 hts (tw_inS w_794 w_795 w_10 w_796) rfl rfl rfl (by decide +kernel) ⟨Nat.le_of_ble_eq_true rfl, Nat.le_of_ble_eq_true rfl⟩) ⟨fun a U g mk q => by obtain ⟨q0, q1, qP, qK, qD⟩ := q; exact ⟨q0, q1, qP, va_K.moved (u := U) (U := U.calling g mk a) (Vm.Alike.refl U.vm) qK, qD⟩, fun U hU hW => ⟨rfl, by rw [hU], by rw [hU]; exact hPc, va_K.moved hW.alike hKc, hDc.weaken (fun _ _ _ _ => trivial)⟩⟩ rfl rfl hl.1 rfl (lv_room (Nat.le_of_ble_eq_true rfl)) d_BR_partCurve_10 ⟨Nat.le_of_ble_eq_true rfl, Nat.le_of_ble_eq_true rfl⟩) hS (fun q _ h => hFc q h) hFc (fun r5436 u t H1 locs ht hvm hw hB hz1 hk1 hS => ?_)
  have hP1 : va_P (dC, dI) cls_ [] H1 := fun k q h => by simp at h
  have hD1 : va_D (va_A [] H.size) [] := ⟨fun i j p q h => by simp at h, fun k q h => by simp at h⟩
  obtain ⟨hP, hD⟩ := va_join (wr := [(h0, .inr (8, [.ref ki, .ref ko, .ref rx, .ref ry, .ref rn, .int (nI (rs)), .int (nI (be)), .int pp, .int pe, .int gb])), (ki, .inr (7, [.ref iw, .ref ib])), (ib, .inl (cS, 1152, .inl (fs)))]) (w1 := []) hP hD [] [0, 1, 2] rfl rfl (by decide) (by decide) hk1 hFc hP1 hD1
  generalize H1 = H at hP hS ⊢
  have hP : va_P (dC, dI) cls_ [(h0, .inr (8, [.ref ki, .ref ko, .ref rx, .ref ry, .ref rn, .int (nI (rs)), .int (nI (be)), .int pp, .int pe, .int gb])), (ki, .inr (7, [.ref iw, .ref ib])), (ib, .inl (cS, 1152, .inl (fs)))] H := hP
  have hD : va_D A [(h0, .inr (8, [.ref ki, .ref ko, .ref rx, .ref ry, .ref rn, .int (nI (rs)), .int (nI (be)), .int pp, .int pe, .int gb])), (ki, .inr (7, [.ref iw, .ref ib])), (ib, .inl (cS, 1152, .inl (fs)))] := hD
  have hw_r5436 := hw
  refine lv_istore (lv' := [(9, .int r5436), (8, .int r5435), (0, .ref h0), (1, .int xp), (2, .int yp), (3, .int xq), (4, .int yq), (5, .int xr), (6, .int yr), (7, .int 4)]) hx hb d_BR_partCurve_13 hl (by decide) rfl (fun ls hl => ?_)
  refine lv_iload_n hx hb d_BR_partCurve_15 rfl (lv_at hl 5 rfl) ?_
  refine lv_iload hx hb d_BR_partCurve_16 (lv_at hl 7 rfl) ?_
  have hPc := hP.sub (ws' := []) [] rfl
  have hDc := hD.sub (ws' := []) [] (by decide) rfl
  have hKc := hK.sub (tys' := []) [] rfl
  have hFc := va_free (wc := []) hD hS hA [] rfl
  refine va_calli (va_runS (As := [.int xq, .int xr]) (rest := []) ⟨hx, hb, hml, hown, hts⟩ (g_BR_halfWay l dC dI xq xr H.size) (cwS 2 hts (tw_inS w_794 w_795 w_10 w_796) rfl rfl rfl (by decide +kernel) ⟨Nat.le_of_ble_eq_true rfl, Nat.le_of_ble_eq_true rfl⟩) ⟨fun a U g mk q => by obtain ⟨q0, q1, qP, qK, qD⟩ := q; exact ⟨q0, q1, qP, va_K.moved (u := U) (U := U.calling g mk a) (Vm.Alike.refl U.vm) qK, qD⟩, fun U hU hW => ⟨rfl, by rw [hU], by rw [hU]; exact hPc, va_K.moved hW.alike hKc, hDc.weaken (fun _ _ _ _ => trivial)⟩⟩ rfl rfl hl.1 rfl (lv_room (Nat.le_of_ble_eq_true rfl)) d_BR_partCurve_18 ⟨Nat.le_of_ble_eq_true rfl, Nat.le_of_ble_eq_true rfl⟩) hS (fun q _ h => hFc q h) hFc (fun r5437 u t H1 locs ht hvm hw hB hz1 hk1 hS => ?_)
  have hP1 : va_P (dC, dI) cls_ [] H1 := fun k q h => by simp at h
  have hD1 : va_D (va_A [] H.size) [] := ⟨fun i j p q h => by simp at h, fun k q h => by simp at h⟩
  obtain ⟨hP, hD⟩ := va_join (wr := [(h0, .inr (8, [.ref ki, .ref ko, .ref rx, .ref ry, .ref rn, .int (nI (rs)), .int (nI (be)), .int pp, .int pe, .int gb])), (ki, .inr (7, [.ref iw, .ref ib])), (ib, .inl (cS, 1152, .inl (fs)))]) (w1 := []) hP hD [] [0, 1, 2] rfl rfl (by decide) (by decide) hk1 hFc hP1 hD1
  generalize H1 = H at hP hS ⊢
  have hP : va_P (dC, dI) cls_ [(h0, .inr (8, [.ref ki, .ref ko, .ref rx, .ref ry, .ref rn, .int (nI (rs)), .int (nI (be)), .int pp, .int pe, .int gb])), (ki, .inr (7, [.ref iw, .ref ib])), (ib, .inl (cS, 1152, .inl (fs)))] H := hP
  have hD : va_D A [(h0, .inr (8, [.ref ki, .ref ko, .ref rx, .ref ry, .ref rn, .int (nI (rs)), .int (nI (be)), .int pp, .int pe, .int gb])), (ki, .inr (7, [.ref iw, .ref ib])), (ib, .inl (cS, 1152, .inl (fs)))] := hD
  have hw_r5437 := hw
  refine lv_istore (lv' := [(10, .int r5437), (9, .int r5436), (8, .int r5435), (0, .ref h0), (1, .int xp), (2, .int yp), (3, .int xq), (4, .int yq), (5, .int xr), (6, .int yr), (7, .int 4)]) hx hb d_BR_partCurve_21 hl (by decide) rfl (fun ls hl => ?_)
  refine lv_iload hx hb d_BR_partCurve_23 (lv_at hl 7 rfl) ?_
  refine lv_iload hx hb d_BR_partCurve_25 (lv_at hl 9 rfl) ?_
  have hPc := hP.sub (ws' := []) [] rfl
  have hDc := hD.sub (ws' := []) [] (by decide) rfl
  have hKc := hK.sub (tys' := []) [] rfl
  have hFc := va_free (wc := []) hD hS hA [] rfl
  refine va_calli (va_runS (As := [.int yq, .int yr]) (rest := []) ⟨hx, hb, hml, hown, hts⟩ (g_BR_halfWay l dC dI yq yr H.size) (cwS 2 hts (tw_inS w_794 w_795 w_10 w_796) rfl rfl rfl (by decide +kernel) ⟨Nat.le_of_ble_eq_true rfl, Nat.le_of_ble_eq_true rfl⟩) ⟨fun a U g mk q => by obtain ⟨q0, q1, qP, qK, qD⟩ := q; exact ⟨q0, q1, qP, va_K.moved (u := U) (U := U.calling g mk a) (Vm.Alike.refl U.vm) qK, qD⟩, fun U hU hW => ⟨rfl, by rw [hU], by rw [hU]; exact hPc, va_K.moved hW.alike hKc, hDc.weaken (fun _ _ _ _ => trivial)⟩⟩ rfl rfl hl.1 rfl (lv_room (Nat.le_of_ble_eq_true rfl)) d_BR_partCurve_27 ⟨Nat.le_of_ble_eq_true rfl, Nat.le_of_ble_eq_true rfl⟩) hS (fun q _ h => hFc q h) hFc (fun r5438 u t H1 locs ht hvm hw hB hz1 hk1 hS => ?_)
  have hP1 : va_P (dC, dI) cls_ [] H1 := fun k q h => by simp at h
  have hD1 : va_D (va_A [] H.size) [] := ⟨fun i j p q h => by simp at h, fun k q h => by simp at h⟩
  obtain ⟨hP, hD⟩ := va_join (wr := [(h0, .inr (8, [.ref ki, .ref ko, .ref rx, .ref ry, .ref rn, .int (nI (rs)), .int (nI (be)), .int pp, .int pe, .int gb])), (ki, .inr (7, [.ref iw, .ref ib])), (ib, .inl (cS, 1152, .inl (fs)))]) (w1 := []) hP hD [] [0, 1, 2] rfl rfl (by decide) (by decide) hk1 hFc hP1 hD1
  generalize H1 = H at hP hS ⊢
  have hP : va_P (dC, dI) cls_ [(h0, .inr (8, [.ref ki, .ref ko, .ref rx, .ref ry, .ref rn, .int (nI (rs)), .int (nI (be)), .int pp, .int pe, .int gb])), (ki, .inr (7, [.ref iw, .ref ib])), (ib, .inl (cS, 1152, .inl (fs)))] H := hP
  have hD : va_D A [(h0, .inr (8, [.ref ki, .ref ko, .ref rx, .ref ry, .ref rn, .int (nI (rs)), .int (nI (be)), .int pp, .int pe, .int gb])), (ki, .inr (7, [.ref iw, .ref ib])), (ib, .inl (cS, 1152, .inl (fs)))] := hD
  have hw_r5438 := hw
  refine lv_istore (lv' := [(11, .int r5438), (10, .int r5437), (9, .int r5436), (8, .int r5435), (0, .ref h0), (1, .int xp), (2, .int yp), (3, .int xq), (4, .int yq), (5, .int xr), (6, .int yr), (7, .int 4)]) hx hb d_BR_partCurve_30 hl (by decide) rfl (fun ls hl => ?_)
  refine lv_iload hx hb d_BR_partCurve_32 (lv_at hl 3 rfl) ?_
  refine lv_iload hx hb d_BR_partCurve_34 (lv_at hl 1 rfl) ?_
  have hPc := hP.sub (ws' := []) [] rfl
  have hDc := hD.sub (ws' := []) [] (by decide) rfl
  have hKc := hK.sub (tys' := []) [] rfl
  have hFc := va_free (wc := []) hD hS hA [] rfl
  refine va_calli (va_runS (As := [.int r5435, .int r5437]) (rest := []) ⟨hx, hb, hml, hown, hts⟩ (g_BR_halfWay l dC dI r5435 r5437 H.size) (cwS 2 hts (tw_inS w_794 w_795 w_10 w_796) rfl rfl rfl (by decide +kernel) ⟨Nat.le_of_ble_eq_true rfl, Nat.le_of_ble_eq_true rfl⟩) ⟨fun a U g mk q => by obtain ⟨q0, q1, qP, qK, qD⟩ := q; exact ⟨q0, q1, qP, va_K.moved (u := U) (U := U.calling g mk a) (Vm.Alike.refl U.vm) qK, qD⟩, fun U hU hW => ⟨rfl, by rw [hU], by rw [hU]; exact hPc, va_K.moved hW.alike hKc, hDc.weaken (fun _ _ _ _ => trivial)⟩⟩ rfl rfl hl.1 rfl (lv_room (Nat.le_of_ble_eq_true rfl)) d_BR_partCurve_36 ⟨Nat.le_of_ble_eq_true rfl, Nat.le_of_ble_eq_true rfl⟩) hS (fun q _ h => hFc q h) hFc (fun r5439 u t H1 locs ht hvm hw hB hz1 hk1 hS => ?_)
  have hP1 : va_P (dC, dI) cls_ [] H1 := fun k q h => by simp at h
  have hD1 : va_D (va_A [] H.size) [] := ⟨fun i j p q h => by simp at h, fun k q h => by simp at h⟩
  obtain ⟨hP, hD⟩ := va_join (wr := [(h0, .inr (8, [.ref ki, .ref ko, .ref rx, .ref ry, .ref rn, .int (nI (rs)), .int (nI (be)), .int pp, .int pe, .int gb])), (ki, .inr (7, [.ref iw, .ref ib])), (ib, .inl (cS, 1152, .inl (fs)))]) (w1 := []) hP hD [] [0, 1, 2] rfl rfl (by decide) (by decide) hk1 hFc hP1 hD1
  generalize H1 = H at hP hS ⊢
  have hP : va_P (dC, dI) cls_ [(h0, .inr (8, [.ref ki, .ref ko, .ref rx, .ref ry, .ref rn, .int (nI (rs)), .int (nI (be)), .int pp, .int pe, .int gb])), (ki, .inr (7, [.ref iw, .ref ib])), (ib, .inl (cS, 1152, .inl (fs)))] H := hP
  have hD : va_D A [(h0, .inr (8, [.ref ki, .ref ko, .ref rx, .ref ry, .ref rn, .int (nI (rs)), .int (nI (be)), .int pp, .int pe, .int gb])), (ki, .inr (7, [.ref iw, .ref ib])), (ib, .inl (cS, 1152, .inl (fs)))] := hD
  have hw_r5439 := hw
  refine lv_istore (lv' := [(12, .int r5439), (11, .int r5438), (10, .int r5437), (9, .int r5436), (8, .int r5435), (0, .ref h0), (1, .int xp), (2, .int yp), (3, .int xq), (4, .int yq), (5, .int xr), (6, .int yr), (7, .int 4)]) hx hb d_BR_partCurve_39 hl (by decide) rfl (fun ls hl => ?_)
  refine lv_iload hx hb d_BR_partCurve_41 (lv_at hl 3 rfl) ?_
  refine lv_iload hx hb d_BR_partCurve_43 (lv_at hl 1 rfl) ?_
  have hPc := hP.sub (ws' := []) [] rfl
  have hDc := hD.sub (ws' := []) [] (by decide) rfl
  have hKc := hK.sub (tys' := []) [] rfl
  have hFc := va_free (wc := []) hD hS hA [] rfl
  refine va_calli (va_runS (As := [.int r5436, .int r5438]) (rest := []) ⟨hx, hb, hml, hown, hts⟩ (g_BR_halfWay l dC dI r5436 r5438 H.size) (cwS 2 hts (tw_inS w_794 w_795 w_10 w_796) rfl rfl rfl (by decide +kernel) ⟨Nat.le_of_ble_eq_true rfl, Nat.le_of_ble_eq_true rfl⟩) ⟨fun a U g mk q => by obtain ⟨q0, q1, qP, qK, qD⟩ := q; exact ⟨q0, q1, qP, va_K.moved (u := U) (U := U.calling g mk a) (Vm.Alike.refl U.vm) qK, qD⟩, fun U hU hW => ⟨rfl, by rw [hU], by rw [hU]; exact hPc, va_K.moved hW.alike hKc, hDc.weaken (fun _ _ _ _ => trivial)⟩⟩ rfl rfl hl.1 rfl (lv_room (Nat.le_of_ble_eq_true rfl)) d_BR_partCurve_45 ⟨Nat.le_of_ble_eq_true rfl, Nat.le_of_ble_eq_true rfl⟩) hS (fun q _ h => hFc q h) hFc (fun r5440 u t H1 locs ht hvm hw hB hz1 hk1 hS => ?_)
  have hP1 : va_P (dC, dI) cls_ [] H1 := fun k q h => by simp at h
  have hD1 : va_D (va_A [] H.size) [] := ⟨fun i j p q h => by simp at h, fun k q h => by simp at h⟩
  obtain ⟨hP, hD⟩ := va_join (wr := [(h0, .inr (8, [.ref ki, .ref ko, .ref rx, .ref ry, .ref rn, .int (nI (rs)), .int (nI (be)), .int pp, .int pe, .int gb])), (ki, .inr (7, [.ref iw, .ref ib])), (ib, .inl (cS, 1152, .inl (fs)))]) (w1 := []) hP hD [] [0, 1, 2] rfl rfl (by decide) (by decide) hk1 hFc hP1 hD1
  generalize H1 = H at hP hS ⊢
  have hP : va_P (dC, dI) cls_ [(h0, .inr (8, [.ref ki, .ref ko, .ref rx, .ref ry, .ref rn, .int (nI (rs)), .int (nI (be)), .int pp, .int pe, .int gb])), (ki, .inr (7, [.ref iw, .ref ib])), (ib, .inl (cS, 1152, .inl (fs)))] H := hP
  have hD : va_D A [(h0, .inr (8, [.ref ki, .ref ko, .ref rx, .ref ry, .ref rn, .int (nI (rs)), .int (nI (be)), .int pp, .int pe, .int gb])), (ki, .inr (7, [.ref iw, .ref ib])), (ib, .inl (cS, 1152, .inl (fs)))] := hD
  have hw_r5440 := hw
  refine lv_istore (lv' := [(13, .int r5440), (12, .int r5439), (11, .int r5438), (10, .int r5437), (9, .int r5436), (8, .int r5435), (0, .ref h0), (1, .int xp), (2, .int yp), (3, .int xq), (4, .int yq), (5, .int xr), (6, .int yr), (7, .int 4)]) hx hb d_BR_partCurve_48 hl (by decide) rfl (fun ls hl => ?_)
  refine lv_aload_n hx hb d_BR_partCurve_50 rfl (lv_at hl 6 rfl) ?_
  refine lv_iload_n hx hb d_BR_partCurve_51 rfl (lv_at hl 7 rfl) ?_
  refine lv_iload_n hx hb d_BR_partCurve_52 rfl (lv_at hl 8 rfl) ?_
  refine lv_iload hx hb d_BR_partCurve_53 (lv_at hl 5 rfl) ?_
  refine lv_iload hx hb d_BR_partCurve_55 (lv_at hl 4 rfl) ?_
  refine lv_iload hx hb d_BR_partCurve_57 (lv_at hl 1 rfl) ?_
  refine lv_iload hx hb d_BR_partCurve_59 (lv_at hl 0 rfl) ?_
  refine lv_iload hx hb d_BR_partCurve_61 (lv_at hl 13 rfl) ?_
  have hPc := hP.sub (ws' := [(h0, .inr (8, [.ref ki, .ref ko, .ref rx, .ref ry, .ref rn, .int (nI (rs)), .int (nI (be)), .int pp, .int pe, .int gb])), (ki, .inr (7, [.ref iw, .ref ib])), (ib, .inl (cS, 1152, .inl (fs)))]) [0, 1, 2] rfl
  have hDc := hD.sub (ws' := [(h0, .inr (8, [.ref ki, .ref ko, .ref rx, .ref ry, .ref rn, .int (nI (rs)), .int (nI (be)), .int pp, .int pe, .int gb])), (ki, .inr (7, [.ref iw, .ref ib])), (ib, .inl (cS, 1152, .inl (fs)))]) [0, 1, 2] (by decide) rfl
  have hKc := hK.sub (tys' := [(cS, .int)]) [0] rfl
  have hFc := va_free (wc := [(h0, .inr (8, [.ref ki, .ref ko, .ref rx, .ref ry, .ref rn, .int (nI (rs)), .int (nI (be)), .int pp, .int pe, .int gb])), (ki, .inr (7, [.ref iw, .ref ib])), (ib, .inl (cS, 1152, .inl (fs)))]) hD hS hA [0, 1, 2] rfl
  refine va_callv (va_runV (As := [.int xp, .int yp, .int r5435, .int r5436, .int r5439, .int r5440, .int 4]) (rest := []) ⟨hx, hb, hml, hown, hts⟩ (g_BR_paintCurve4 l dC dI h0 ki ko rx ry rn rs be pp pe gb iw ib cS fs xp yp r5435 r5436 r5439 r5440 H.size) (cwV 7 hts (tw_inV w_814 w_816 wp_32 w_10 w_817) rfl rfl rfl (by decide +kernel) ⟨Nat.le_of_ble_eq_true rfl, Nat.le_of_ble_eq_true rfl⟩) ⟨fun a U g mk q => by obtain ⟨q0, q1, qP, qK, qD, qE0⟩ := q; exact ⟨q0, q1, qP, va_K.moved (u := U) (U := U.calling g mk a) (Vm.Alike.refl U.vm) qK, qD, nests.call qE0⟩, va_recv (hK := hK) (hP := hP) (q0 := 0) (ci := 8) rfl rfl, fun U hU hW => ⟨rfl, by rw [hU], by rw [hU]; exact hPc, va_K.moved hW.alike hKc, hDc.weaken (fun _ _ _ _ => trivial), nests.warm hW hNs⟩⟩ rfl rfl hl.1 rfl (lv_room (Nat.le_of_ble_eq_true rfl)) d_BR_partCurve_63 ⟨Nat.le_of_ble_eq_true rfl, Nat.le_of_ble_eq_true rfl⟩) hS (fun q _ h => hFc q h) hFc (fun u t H1 locs ht hvm hw hB hz1 hk1 hS => ?_)
  obtain ⟨gs_5441, hP1, hK1, hD1⟩ := hB
  rw [ht] at hP1
  have hK1 := va_K.moved hvm.symm hK1
  obtain ⟨hP, hD⟩ := va_join (wr := []) (w1 := [(h0, .inr (8, [.ref ki, .ref ko, .ref rx, .ref ry, .ref rn, .int (nI (rs)), .int (nI (be)), .int pp, .int pe, .int gb])), (ki, .inr (7, [.ref iw, .ref ib])), (ib, .inl (cS, 1152, .inl (gs_5441)))]) hP hD [0, 1, 2] [] rfl rfl (by decide) (by decide) hk1 hFc hP1 hD1
  have hK := (hK.sub (tys' := []) [] rfl).app hK1
  generalize H1 = H at hP hS ⊢
  have hP : va_P (dC, dI) cls_ [(h0, .inr (8, [.ref ki, .ref ko, .ref rx, .ref ry, .ref rn, .int (nI (rs)), .int (nI (be)), .int pp, .int pe, .int gb])), (ki, .inr (7, [.ref iw, .ref ib])), (ib, .inl (cS, 1152, .inl (gs_5441)))] H := hP
  have hD : va_D A [(h0, .inr (8, [.ref ki, .ref ko, .ref rx, .ref ry, .ref rn, .int (nI (rs)), .int (nI (be)), .int pp, .int pe, .int gb])), (ki, .inr (7, [.ref iw, .ref ib])), (ib, .inl (cS, 1152, .inl (gs_5441)))] := hD
  have hK : va_K (dC, dI) cls_ [(cS, .int)] s := hK
  refine lv_aload_n hx hb d_BR_partCurve_66 rfl (lv_at hl 6 rfl) ?_
  refine lv_iload hx hb d_BR_partCurve_67 (lv_at hl 1 rfl) ?_
  refine lv_iload hx hb d_BR_partCurve_69 (lv_at hl 0 rfl) ?_
  refine lv_iload hx hb d_BR_partCurve_71 (lv_at hl 3 rfl) ?_
  refine lv_iload hx hb d_BR_partCurve_73 (lv_at hl 2 rfl) ?_
  refine lv_iload hx hb d_BR_partCurve_75 (lv_at hl 11 rfl) ?_
  refine lv_iload hx hb d_BR_partCurve_77 (lv_at hl 12 rfl) ?_
  refine lv_iload hx hb d_BR_partCurve_79 (lv_at hl 13 rfl) ?_
  have hPc := hP.sub (ws' := [(h0, .inr (8, [.ref ki, .ref ko, .ref rx, .ref ry, .ref rn, .int (nI (rs)), .int (nI (be)), .int pp, .int pe, .int gb])), (ki, .inr (7, [.ref iw, .ref ib])), (ib, .inl (cS, 1152, .inl (gs_5441)))]) [0, 1, 2] rfl
  have hDc := hD.sub (ws' := [(h0, .inr (8, [.ref ki, .ref ko, .ref rx, .ref ry, .ref rn, .int (nI (rs)), .int (nI (be)), .int pp, .int pe, .int gb])), (ki, .inr (7, [.ref iw, .ref ib])), (ib, .inl (cS, 1152, .inl (gs_5441)))]) [0, 1, 2] (by decide) rfl
  have hKc := hK.sub (tys' := [(cS, .int)]) [0] rfl
  have hFc := va_free (wc := [(h0, .inr (8, [.ref ki, .ref ko, .ref rx, .ref ry, .ref rn, .int (nI (rs)), .int (nI (be)), .int pp, .int pe, .int gb])), (ki, .inr (7, [.ref iw, .ref ib])), (ib, .inl (cS, 1152, .inl (gs_5441)))]) hD hS hA [0, 1, 2] rfl
  refine va_callv (va_runV (As := [.int r5439, .int r5440, .int r5437, .int r5438, .int xr, .int yr, .int 4]) (rest := []) ⟨hx, hb, hml, hown, hts⟩ (g_BR_paintCurve4 l dC dI h0 ki ko rx ry rn rs be pp pe gb iw ib cS gs_5441 r5439 r5440 r5437 r5438 xr yr H.size) (cwV 7 hts (tw_inV w_814 w_816 wp_32 w_10 w_817) rfl rfl rfl (by decide +kernel) ⟨Nat.le_of_ble_eq_true rfl, Nat.le_of_ble_eq_true rfl⟩) ⟨fun a U g mk q => by obtain ⟨q0, q1, qP, qK, qD, qE0⟩ := q; exact ⟨q0, q1, qP, va_K.moved (u := U) (U := U.calling g mk a) (Vm.Alike.refl U.vm) qK, qD, nests.call qE0⟩, va_recv (hK := hK) (hP := hP) (q0 := 0) (ci := 8) rfl rfl, fun U hU hW => ⟨rfl, by rw [hU], by rw [hU]; exact hPc, va_K.moved hW.alike hKc, hDc.weaken (fun _ _ _ _ => trivial), nests.warm hW hNs⟩⟩ rfl rfl hl.1 rfl (lv_room (Nat.le_of_ble_eq_true rfl)) d_BR_partCurve_81 ⟨Nat.le_of_ble_eq_true rfl, Nat.le_of_ble_eq_true rfl⟩) hS (fun q _ h => hFc q h) hFc (fun u t H1 locs ht hvm hw hB hz1 hk1 hS => ?_)
  obtain ⟨gs_5442, hP1, hK1, hD1⟩ := hB
  rw [ht] at hP1
  have hK1 := va_K.moved hvm.symm hK1
  obtain ⟨hP, hD⟩ := va_join (wr := []) (w1 := [(h0, .inr (8, [.ref ki, .ref ko, .ref rx, .ref ry, .ref rn, .int (nI (rs)), .int (nI (be)), .int pp, .int pe, .int gb])), (ki, .inr (7, [.ref iw, .ref ib])), (ib, .inl (cS, 1152, .inl (gs_5442)))]) hP hD [0, 1, 2] [] rfl rfl (by decide) (by decide) hk1 hFc hP1 hD1
  have hK := (hK.sub (tys' := []) [] rfl).app hK1
  generalize H1 = H at hP hS ⊢
  have hP : va_P (dC, dI) cls_ [(h0, .inr (8, [.ref ki, .ref ko, .ref rx, .ref ry, .ref rn, .int (nI (rs)), .int (nI (be)), .int pp, .int pe, .int gb])), (ki, .inr (7, [.ref iw, .ref ib])), (ib, .inl (cS, 1152, .inl (gs_5442)))] H := hP
  have hD : va_D A [(h0, .inr (8, [.ref ki, .ref ko, .ref rx, .ref ry, .ref rn, .int (nI (rs)), .int (nI (be)), .int pp, .int pe, .int gb])), (ki, .inr (7, [.ref iw, .ref ib])), (ib, .inl (cS, 1152, .inl (gs_5442)))] := hD
  have hK : va_K (dC, dI) cls_ [(cS, .int)] s := hK
  refine W.widen (k := 0) (n := 0) (Nat.le_of_ble_eq_true rfl) (Nat.le_of_ble_eq_true rfl) ?_
  have hP9 := hP.sub (ws' := [(h0, .inr (8, [.ref ki, .ref ko, .ref rx, .ref ry, .ref rn, .int (nI (rs)), .int (nI (be)), .int pp, .int pe, .int gb])), (ki, .inr (7, [.ref iw, .ref ib])), (ib, .inl (cS, 1152, .inl (gs_5442)))]) [0, 1, 2] rfl
  have hD9 := hD.sub (ws' := [(h0, .inr (8, [.ref ki, .ref ko, .ref rx, .ref ry, .ref rn, .int (nI (rs)), .int (nI (be)), .int pp, .int pe, .int gb])), (ki, .inr (7, [.ref iw, .ref ib])), (ib, .inl (cS, 1152, .inl (gs_5442)))]) [0, 1, 2] (by decide) rfl
  have hK9 := hK.sub (tys' := [(cS, .int)]) [0] rfl
  exact W.vret hx hb hr (fun t ht hW => ⟨⟨(), rfl, trivial, gs_5442, by rw [ht]; exact hP9, va_K.moved hW.alike hK9, hD9⟩, hS.F ht⟩) hS.2.2 d_BR_partCurve_84
set_option maxHeartbeats 4000000 in
set_option maxRecDepth 100000 in
/-- GlyphLines$Brush.paintCurve -/
theorem g_BR_paintCurve3 (l : Launch) (dC : Nat → ClassId) (dI : Nat → Nat → Nat) (h0 : Nat) (ki : Nat) (ko : Nat) (rx : Nat) (ry : Nat) (rn : Nat) (rs : Nat) (be : Nat) (pp : Int32) (pe : Int32) (gb : Int32) (iw : Nat) (ib : Nat) (cS : ClassId) (fs : Nat → Int32) (xp : Int32) (yp : Int32) (xq : Int32) (yq : Int32) (xr : Int32) (yr : Int32) (sz : Nat) : Met l y_BR_paintCurve s_BR_paintCurve ({ frames := 32, cells := 0, slots := 0, locals := 1120 }) (va_Pc [.ref h0, .int xp, .int yp, .int xq, .int yq, .int xr, .int yr, .int 3] (fun U => U.heap.size = sz ∧ va_P (dC, dI) cls_ [(h0, .inr (8, [.ref ki, .ref ko, .ref rx, .ref ry, .ref rn, .int (nI (rs)), .int (nI (be)), .int pp, .int pe, .int gb])), (ki, .inr (7, [.ref iw, .ref ib])), (ib, .inl (cS, 1152, .inl (fs)))] U.heap ∧ va_K (dC, dI) cls_ [(cS, .int)] U ∧ va_D (fun _ => True) [(h0, .inr (8, [.ref ki, .ref ko, .ref rx, .ref ry, .ref rn, .int (nI (rs)), .int (nI (be)), .int pp, .int pe, .int gb])), (ki, .inr (7, [.ref iw, .ref ib])), (ib, .inl (cS, 1152, .inl (fs)))] ∧ nests U)) (va_Qv (fun _ : Unit => True) (fun (_ : Unit) (t : State) => ∃ (gs : Nat → Int32), va_P (dC, dI) cls_ [(h0, .inr (8, [.ref ki, .ref ko, .ref rx, .ref ry, .ref rn, .int (nI (rs)), .int (nI (be)), .int pp, .int pe, .int gb])), (ki, .inr (7, [.ref iw, .ref ib])), (ib, .inl (cS, 1152, .inl (gs)))] t.heap ∧ va_K (dC, dI) cls_ [(cS, .int)] t ∧ va_D (va_A [(h0, .inr (8, [.ref ki, .ref ko, .ref rx, .ref ry, .ref rn, .int (nI (rs)), .int (nI (be)), .int pp, .int pe, .int gb])), (ki, .inr (7, [.ref iw, .ref ib])), (ib, .inl (cS, 1152, .inl (fs)))] sz) [(h0, .inr (8, [.ref ki, .ref ko, .ref rx, .ref ry, .ref rn, .int (nI (rs)), .int (nI (be)), .int pp, .int pe, .int gb])), (ki, .inr (7, [.ref iw, .ref ib])), (ib, .inl (cS, 1152, .inl (gs)))]) (va_A [(h0, .inr (8, [.ref ki, .ref ko, .ref rx, .ref ry, .ref rn, .int (nI (rs)), .int (nI (be)), .int pp, .int pe, .int gb])), (ki, .inr (7, [.ref iw, .ref ib])), (ib, .inl (cS, 1152, .inl (fs)))] sz)) 0 0 (va_A [(h0, .inr (8, [.ref ki, .ref ko, .ref rx, .ref ry, .ref rn, .int (nI (rs)), .int (nI (be)), .int pp, .int pe, .int gb])), (ki, .inr (7, [.ref iw, .ref ib])), (ib, .inl (cS, 1152, .inl (fs)))] sz) := by
  refine Met.ofW (cc := b_BR_paintCurve) (maxL := 8) (ret := none) (by decide) rfl ?_
  intro p e s m args below meth c s₁ B hml hv
  obtain ⟨rfl, hsz, hP, hK, hD0, hNs⟩ := hv
  have hx := B.exec
  have hb := B.bytes
  have hr := B.returns
  have hts := atoms_spec (ws := s_BR_paintCurve) B.pre
  have hown : s.vm.findClass R_BR = some m.cls := findClass_of_methodNamed B.named
  have hlocks := B.notSynchronized
  subst hsz
  have hD := hD0.self (sz := s.heap.size)
  generalize hAe : va_A [(h0, .inr (8, [.ref ki, .ref ko, .ref rx, .ref ry, .ref rn, .int (nI (rs)), .int (nI (be)), .int pp, .int pe, .int gb])), (ki, .inr (7, [.ref iw, .ref ib])), (ib, .inl (cS, 1152, .inl (fs)))] s.heap.size = A at hD ⊢
  have hA : ∀ q : Nat, s.heap.size ≤ q → A q := fun q h => by rw [← hAe]; exact Or.inr h
  have hS : va_S A s.heap s.heap [] := va_S.rf
  have hP : va_P (dC, dI) cls_ [(h0, .inr (8, [.ref ki, .ref ko, .ref rx, .ref ry, .ref rn, .int (nI (rs)), .int (nI (be)), .int pp, .int pe, .int gb])), (ki, .inr (7, [.ref iw, .ref ib])), (ib, .inl (cS, 1152, .inl (fs)))] s.heap := hP
  have hl := lv_entry ([.ref h0, .int xp, .int yp, .int xq, .int yq, .int xr, .int yr, .int 3]) (n := 8) (Nat.le_of_ble_eq_true rfl)
  rw [lg_entry_eq]
  generalize (lg_sl ([.ref h0, .int xp, .int yp, .int xq, .int yq, .int xr, .int yr, .int 3]) ++ List.replicate (8 - (lg_sl ([.ref h0, .int xp, .int yp, .int xq, .int yq, .int xr, .int yr, .int 3])).length) Slot.unset).toArray = ls at hl ⊢
  have hl : lv_has ls 8 [(0, .ref h0), (1, .int xp), (2, .int yp), (3, .int xq), (4, .int yq), (5, .int xr), (6, .int yr), (7, .int 3)] := hl
  refine lv_iload hx hb d_BR_paintCurve_0 (lv_at hl 7 rfl) ?_
  refine lv_bipush (v := 6) hx hb d_BR_paintCurve_2 (by decide) ?_
  refine lv_icmp_ge (tgt := 28) hx hb d_BR_paintCurve_4 (by decide) (fun hc => absurd hc (by decide +kernel)) (fun _ => ?_)
  refine lv_iload_n hx hb d_BR_paintCurve_7 rfl (lv_at hl 3 rfl) ?_
  refine lv_iload_n hx hb d_BR_paintCurve_8 rfl (lv_at hl 1 rfl) ?_
  refine lv_isub hx hb d_BR_paintCurve_9 ?_
  refine lv_topi (fun v5443 ev5443 => ?_)
  refine lv_iload hx hb d_BR_paintCurve_10 (lv_at hl 4 rfl) ?_
  refine lv_iload_n hx hb d_BR_paintCurve_12 rfl (lv_at hl 2 rfl) ?_
  refine lv_isub hx hb d_BR_paintCurve_13 ?_
  refine lv_topi (fun v5444 ev5444 => ?_)
  refine lv_iload hx hb d_BR_paintCurve_14 (lv_at hl 5 rfl) ?_
  refine lv_iload_n hx hb d_BR_paintCurve_16 rfl (lv_at hl 1 rfl) ?_
  refine lv_isub hx hb d_BR_paintCurve_17 ?_
  refine lv_topi (fun v5445 ev5445 => ?_)
  refine lv_iload hx hb d_BR_paintCurve_18 (lv_at hl 6 rfl) ?_
  refine lv_iload_n hx hb d_BR_paintCurve_20 rfl (lv_at hl 2 rfl) ?_
  refine lv_isub hx hb d_BR_paintCurve_21 ?_
  refine lv_topi (fun v5446 ev5446 => ?_)
  have hPc := hP.sub (ws' := []) [] rfl
  have hDc := hD.sub (ws' := []) [] (by decide) rfl
  have hKc := hK.sub (tys' := []) [] rfl
  have hFc := va_free (wc := []) hD hS hA [] rfl
  refine va_calli (va_runS (As := [.int v5443, .int v5444, .int v5445, .int v5446]) (rest := []) ⟨hx, hb, hml, hown, hts⟩ (g_BR_isFlat l dC dI v5443 v5444 v5445 v5446 s.heap.size) (cwS 4 hts (tw_inS w_818 w_819 w_10 w_820) rfl rfl rfl (by decide +kernel) ⟨Nat.le_of_ble_eq_true rfl, Nat.le_of_ble_eq_true rfl⟩) ⟨fun a U g mk q => by obtain ⟨q0, q1, qP, qK, qD⟩ := q; exact ⟨q0, q1, qP, va_K.moved (u := U) (U := U.calling g mk a) (Vm.Alike.refl U.vm) qK, qD⟩, fun U hU hW => ⟨rfl, by rw [hU], by rw [hU]; exact hPc, va_K.moved hW.alike hKc, hDc.weaken (fun _ _ _ _ => trivial)⟩⟩ rfl rfl hl.1 rfl (lv_room (Nat.le_of_ble_eq_true rfl)) d_BR_paintCurve_22 ⟨Nat.le_of_ble_eq_true rfl, Nat.le_of_ble_eq_true rfl⟩) hS (fun q _ h => hFc q h) hFc (fun r5447 u t H1 locs ht hvm hw hB hz1 hk1 hS => ?_)
  have hP1 : va_P (dC, dI) cls_ [] H1 := fun k q h => by simp at h
  have hD1 : va_D (va_A [] s.heap.size) [] := ⟨fun i j p q h => by simp at h, fun k q h => by simp at h⟩
  obtain ⟨hP, hD⟩ := va_join (wr := [(h0, .inr (8, [.ref ki, .ref ko, .ref rx, .ref ry, .ref rn, .int (nI (rs)), .int (nI (be)), .int pp, .int pe, .int gb])), (ki, .inr (7, [.ref iw, .ref ib])), (ib, .inl (cS, 1152, .inl (fs)))]) (w1 := []) hP hD [] [0, 1, 2] rfl rfl (by decide) (by decide) hk1 hFc hP1 hD1
  generalize H1 = H at hP hS ⊢
  have hP : va_P (dC, dI) cls_ [(h0, .inr (8, [.ref ki, .ref ko, .ref rx, .ref ry, .ref rn, .int (nI (rs)), .int (nI (be)), .int pp, .int pe, .int gb])), (ki, .inr (7, [.ref iw, .ref ib])), (ib, .inl (cS, 1152, .inl (fs)))] H := hP
  have hD : va_D A [(h0, .inr (8, [.ref ki, .ref ko, .ref rx, .ref ry, .ref rn, .int (nI (rs)), .int (nI (be)), .int pp, .int pe, .int gb])), (ki, .inr (7, [.ref iw, .ref ib])), (ib, .inl (cS, 1152, .inl (fs)))] := hD
  have hw_r5447 := hw
  obtain ⟨bb5448, rfl⟩ := hw_r5447
  refine lv_if_eq (tgt := 44) hx hb d_BR_paintCurve_25 (by decide) (fun hc5449 => ?_) (fun hc5449 => ?_)
  · skip
    have hc5449b : bb5448 = false := bI_0 hc5449
    refine lv_aload_n hx hb d_BR_paintCurve_44 rfl (lv_at hl 0 rfl) ?_
    refine lv_iload_n hx hb d_BR_paintCurve_45 rfl (lv_at hl 1 rfl) ?_
    refine lv_iload_n hx hb d_BR_paintCurve_46 rfl (lv_at hl 2 rfl) ?_
    refine lv_iload_n hx hb d_BR_paintCurve_47 rfl (lv_at hl 3 rfl) ?_
    refine lv_iload hx hb d_BR_paintCurve_48 (lv_at hl 4 rfl) ?_
    refine lv_iload hx hb d_BR_paintCurve_50 (lv_at hl 5 rfl) ?_
    refine lv_iload hx hb d_BR_paintCurve_52 (lv_at hl 6 rfl) ?_
    refine lv_iload hx hb d_BR_paintCurve_54 (lv_at hl 7 rfl) ?_
    refine lv_iconst (v := 1) hx hb d_BR_paintCurve_56 (by decide) ?_
    refine lv_iadd hx hb d_BR_paintCurve_57 ?_
    refine lv_ci (y := 4) (by decide +kernel) ?_
    have hPc := hP.sub (ws' := [(h0, .inr (8, [.ref ki, .ref ko, .ref rx, .ref ry, .ref rn, .int (nI (rs)), .int (nI (be)), .int pp, .int pe, .int gb])), (ki, .inr (7, [.ref iw, .ref ib])), (ib, .inl (cS, 1152, .inl (fs)))]) [0, 1, 2] rfl
    have hDc := hD.sub (ws' := [(h0, .inr (8, [.ref ki, .ref ko, .ref rx, .ref ry, .ref rn, .int (nI (rs)), .int (nI (be)), .int pp, .int pe, .int gb])), (ki, .inr (7, [.ref iw, .ref ib])), (ib, .inl (cS, 1152, .inl (fs)))]) [0, 1, 2] (by decide) rfl
    have hKc := hK.sub (tys' := [(cS, .int)]) [0] rfl
    have hFc := va_free (wc := [(h0, .inr (8, [.ref ki, .ref ko, .ref rx, .ref ry, .ref rn, .int (nI (rs)), .int (nI (be)), .int pp, .int pe, .int gb])), (ki, .inr (7, [.ref iw, .ref ib])), (ib, .inl (cS, 1152, .inl (fs)))]) hD hS hA [0, 1, 2] rfl
    refine va_callv (va_runV (As := [.int xp, .int yp, .int xq, .int yq, .int xr, .int yr, .int 4]) (rest := []) ⟨hx, hb, hml, hown, hts⟩ (g_BR_partCurve4 l dC dI h0 ki ko rx ry rn rs be pp pe gb iw ib cS fs xp yp xq yq xr yr H.size) (cwV 7 hts (tw_inV w_829 w_831 wp_33 w_10 w_832) rfl rfl rfl (by decide +kernel) ⟨Nat.le_of_ble_eq_true rfl, Nat.le_of_ble_eq_true rfl⟩) ⟨fun a U g mk q => by obtain ⟨q0, q1, qP, qK, qD, qE0⟩ := q; exact ⟨q0, q1, qP, va_K.moved (u := U) (U := U.calling g mk a) (Vm.Alike.refl U.vm) qK, qD, nests.call qE0⟩, va_recv (hK := hK) (hP := hP) (q0 := 0) (ci := 8) rfl rfl, fun U hU hW => ⟨rfl, by rw [hU], by rw [hU]; exact hPc, va_K.moved hW.alike hKc, hDc.weaken (fun _ _ _ _ => trivial), nests.warm hW hNs⟩⟩ rfl rfl hl.1 rfl (lv_room (Nat.le_of_ble_eq_true rfl)) d_BR_paintCurve_58 ⟨Nat.le_of_ble_eq_true rfl, Nat.le_of_ble_eq_true rfl⟩) hS (fun q _ h => hFc q h) hFc (fun u t H1 locs ht hvm hw hB hz1 hk1 hS => ?_)
    obtain ⟨gs_5450, hP1, hK1, hD1⟩ := hB
    rw [ht] at hP1
    have hK1 := va_K.moved hvm.symm hK1
    obtain ⟨hP, hD⟩ := va_join (wr := []) (w1 := [(h0, .inr (8, [.ref ki, .ref ko, .ref rx, .ref ry, .ref rn, .int (nI (rs)), .int (nI (be)), .int pp, .int pe, .int gb])), (ki, .inr (7, [.ref iw, .ref ib])), (ib, .inl (cS, 1152, .inl (gs_5450)))]) hP hD [0, 1, 2] [] rfl rfl (by decide) (by decide) hk1 hFc hP1 hD1
    have hK := (hK.sub (tys' := []) [] rfl).app hK1
    generalize H1 = H at hP hS ⊢
    have hP : va_P (dC, dI) cls_ [(h0, .inr (8, [.ref ki, .ref ko, .ref rx, .ref ry, .ref rn, .int (nI (rs)), .int (nI (be)), .int pp, .int pe, .int gb])), (ki, .inr (7, [.ref iw, .ref ib])), (ib, .inl (cS, 1152, .inl (gs_5450)))] H := hP
    have hD : va_D A [(h0, .inr (8, [.ref ki, .ref ko, .ref rx, .ref ry, .ref rn, .int (nI (rs)), .int (nI (be)), .int pp, .int pe, .int gb])), (ki, .inr (7, [.ref iw, .ref ib])), (ib, .inl (cS, 1152, .inl (gs_5450)))] := hD
    have hK : va_K (dC, dI) cls_ [(cS, .int)] s := hK
    refine W.widen (k := 0) (n := 0) (Nat.le_of_ble_eq_true rfl) (Nat.le_of_ble_eq_true rfl) ?_
    have hP9 := hP.sub (ws' := [(h0, .inr (8, [.ref ki, .ref ko, .ref rx, .ref ry, .ref rn, .int (nI (rs)), .int (nI (be)), .int pp, .int pe, .int gb])), (ki, .inr (7, [.ref iw, .ref ib])), (ib, .inl (cS, 1152, .inl (gs_5450)))]) [0, 1, 2] rfl
    have hD9 := hD.sub (ws' := [(h0, .inr (8, [.ref ki, .ref ko, .ref rx, .ref ry, .ref rn, .int (nI (rs)), .int (nI (be)), .int pp, .int pe, .int gb])), (ki, .inr (7, [.ref iw, .ref ib])), (ib, .inl (cS, 1152, .inl (gs_5450)))]) [0, 1, 2] (by decide) rfl
    have hK9 := hK.sub (tys' := [(cS, .int)]) [0] rfl
    exact W.vret hx hb hr (fun t ht hW => ⟨⟨(), rfl, trivial, gs_5450, by rw [ht]; exact hP9, va_K.moved hW.alike hK9, hD9⟩, hS.F ht⟩) hS.2.2 d_BR_paintCurve_61
  · skip
    have hc5449b : bb5448 = true := bI_1 hc5449
    refine lv_aload_n hx hb d_BR_paintCurve_28 rfl (lv_at hl 0 rfl) ?_
    refine va_get (D := (dC, dI)) (ci := 8) (v := .ref ki) (C := R_BR) (T := F_BR) (N := 10) hx hb hts in_BR hown hK hP 0 rfl rfl 0 (by decide) (hts _ (List.mem_cons_of_mem _ w_255)) (fun _ h9 => h9) rfl d_BR_paintCurve_29 ?_
    refine lv_iload_n hx hb d_BR_paintCurve_32 rfl (lv_at hl 1 rfl) ?_
    refine lv_iload_n hx hb d_BR_paintCurve_33 rfl (lv_at hl 2 rfl) ?_
    refine lv_iload hx hb d_BR_paintCurve_34 (lv_at hl 5 rfl) ?_
    refine lv_iload hx hb d_BR_paintCurve_36 (lv_at hl 6 rfl) ?_
    have hPc := hP.sub (ws' := [(ki, .inr (7, [.ref iw, .ref ib])), (ib, .inl (cS, 1152, .inl (fs)))]) [1, 2] rfl
    have hDc := hD.sub (ws' := [(ki, .inr (7, [.ref iw, .ref ib])), (ib, .inl (cS, 1152, .inl (fs)))]) [1, 2] (by decide) rfl
    have hKc := hK.sub (tys' := [(cS, .int)]) [0] rfl
    have hFc := va_free (wc := [(ki, .inr (7, [.ref iw, .ref ib])), (ib, .inl (cS, 1152, .inl (fs)))]) hD hS hA [1, 2] rfl
    refine va_callv (va_runV (As := [.int xp, .int yp, .int xr, .int yr]) (rest := []) ⟨hx, hb, hml, hown, hts⟩ (g_PI_addLine l dC dI ki iw ib cS fs xp yp xr yr H.size) (cwV 4 hts (tw_inV w_801 w_802 w_803 w_9 w_804) rfl rfl rfl (by decide +kernel) ⟨Nat.le_of_ble_eq_true rfl, Nat.le_of_ble_eq_true rfl⟩) ⟨fun a U g mk q => by obtain ⟨q0, q1, qP, qK, qD⟩ := q; exact ⟨q0, q1, qP, va_K.moved (u := U) (U := U.calling g mk a) (Vm.Alike.refl U.vm) qK, qD⟩, va_recv (hK := hK) (hP := hP) (q0 := 1) (ci := 7) rfl rfl, fun U hU hW => ⟨rfl, by rw [hU], by rw [hU]; exact hPc, va_K.moved hW.alike hKc, hDc.weaken (fun _ _ _ _ => trivial)⟩⟩ rfl rfl hl.1 rfl (lv_room (Nat.le_of_ble_eq_true rfl)) d_BR_paintCurve_38 ⟨Nat.le_of_ble_eq_true rfl, Nat.le_of_ble_eq_true rfl⟩) hS (fun q _ h => hFc q h) hFc (fun u t H1 locs ht hvm hw hB hz1 hk1 hS => ?_)
    obtain ⟨gs_5451, hP1, hK1, hD1⟩ := hB
    rw [ht] at hP1
    have hK1 := va_K.moved hvm.symm hK1
    obtain ⟨hP, hD⟩ := va_join (wr := [(h0, .inr (8, [.ref ki, .ref ko, .ref rx, .ref ry, .ref rn, .int (nI (rs)), .int (nI (be)), .int pp, .int pe, .int gb]))]) (w1 := [(ki, .inr (7, [.ref iw, .ref ib])), (ib, .inl (cS, 1152, .inl (gs_5451)))]) hP hD [1, 2] [0] rfl rfl (by decide) (by decide) hk1 hFc hP1 hD1
    have hK := (hK.sub (tys' := []) [] rfl).app hK1
    generalize H1 = H at hP hS ⊢
    have hP : va_P (dC, dI) cls_ [(h0, .inr (8, [.ref ki, .ref ko, .ref rx, .ref ry, .ref rn, .int (nI (rs)), .int (nI (be)), .int pp, .int pe, .int gb])), (ki, .inr (7, [.ref iw, .ref ib])), (ib, .inl (cS, 1152, .inl (gs_5451)))] H := hP
    have hD : va_D A [(h0, .inr (8, [.ref ki, .ref ko, .ref rx, .ref ry, .ref rn, .int (nI (rs)), .int (nI (be)), .int pp, .int pe, .int gb])), (ki, .inr (7, [.ref iw, .ref ib])), (ib, .inl (cS, 1152, .inl (gs_5451)))] := hD
    have hK : va_K (dC, dI) cls_ [(cS, .int)] s := hK
    refine lv_goto (tgt := 61) hx hb d_BR_paintCurve_41 (by decide) ?_
    refine W.widen (k := 0) (n := 0) (Nat.le_of_ble_eq_true rfl) (Nat.le_of_ble_eq_true rfl) ?_
    have hP9 := hP.sub (ws' := [(h0, .inr (8, [.ref ki, .ref ko, .ref rx, .ref ry, .ref rn, .int (nI (rs)), .int (nI (be)), .int pp, .int pe, .int gb])), (ki, .inr (7, [.ref iw, .ref ib])), (ib, .inl (cS, 1152, .inl (gs_5451)))]) [0, 1, 2] rfl
    have hD9 := hD.sub (ws' := [(h0, .inr (8, [.ref ki, .ref ko, .ref rx, .ref ry, .ref rn, .int (nI (rs)), .int (nI (be)), .int pp, .int pe, .int gb])), (ki, .inr (7, [.ref iw, .ref ib])), (ib, .inl (cS, 1152, .inl (gs_5451)))]) [0, 1, 2] (by decide) rfl
    have hK9 := hK.sub (tys' := [(cS, .int)]) [0] rfl
    exact W.vret hx hb hr (fun t ht hW => ⟨⟨(), rfl, trivial, gs_5451, by rw [ht]; exact hP9, va_K.moved hW.alike hK9, hD9⟩, hS.F ht⟩) hS.2.2 d_BR_paintCurve_61
set_option maxHeartbeats 4000000 in
set_option maxRecDepth 100000 in
/-- GlyphLines$Brush.partCurve -/
theorem g_BR_partCurve3 (l : Launch) (dC : Nat → ClassId) (dI : Nat → Nat → Nat) (h0 : Nat) (ki : Nat) (ko : Nat) (rx : Nat) (ry : Nat) (rn : Nat) (rs : Nat) (be : Nat) (pp : Int32) (pe : Int32) (gb : Int32) (iw : Nat) (ib : Nat) (cS : ClassId) (fs : Nat → Int32) (xp : Int32) (yp : Int32) (xq : Int32) (yq : Int32) (xr : Int32) (yr : Int32) (sz : Nat) : Met l y_BR_partCurve s_BR_partCurve ({ frames := 34, cells := 0, slots := 0, locals := 1180 }) (va_Pc [.ref h0, .int xp, .int yp, .int xq, .int yq, .int xr, .int yr, .int 3] (fun U => U.heap.size = sz ∧ va_P (dC, dI) cls_ [(h0, .inr (8, [.ref ki, .ref ko, .ref rx, .ref ry, .ref rn, .int (nI (rs)), .int (nI (be)), .int pp, .int pe, .int gb])), (ki, .inr (7, [.ref iw, .ref ib])), (ib, .inl (cS, 1152, .inl (fs)))] U.heap ∧ va_K (dC, dI) cls_ [(cS, .int)] U ∧ va_D (fun _ => True) [(h0, .inr (8, [.ref ki, .ref ko, .ref rx, .ref ry, .ref rn, .int (nI (rs)), .int (nI (be)), .int pp, .int pe, .int gb])), (ki, .inr (7, [.ref iw, .ref ib])), (ib, .inl (cS, 1152, .inl (fs)))] ∧ nests U)) (va_Qv (fun _ : Unit => True) (fun (_ : Unit) (t : State) => ∃ (gs : Nat → Int32), va_P (dC, dI) cls_ [(h0, .inr (8, [.ref ki, .ref ko, .ref rx, .ref ry, .ref rn, .int (nI (rs)), .int (nI (be)), .int pp, .int pe, .int gb])), (ki, .inr (7, [.ref iw, .ref ib])), (ib, .inl (cS, 1152, .inl (gs)))] t.heap ∧ va_K (dC, dI) cls_ [(cS, .int)] t ∧ va_D (va_A [(h0, .inr (8, [.ref ki, .ref ko, .ref rx, .ref ry, .ref rn, .int (nI (rs)), .int (nI (be)), .int pp, .int pe, .int gb])), (ki, .inr (7, [.ref iw, .ref ib])), (ib, .inl (cS, 1152, .inl (fs)))] sz) [(h0, .inr (8, [.ref ki, .ref ko, .ref rx, .ref ry, .ref rn, .int (nI (rs)), .int (nI (be)), .int pp, .int pe, .int gb])), (ki, .inr (7, [.ref iw, .ref ib])), (ib, .inl (cS, 1152, .inl (gs)))]) (va_A [(h0, .inr (8, [.ref ki, .ref ko, .ref rx, .ref ry, .ref rn, .int (nI (rs)), .int (nI (be)), .int pp, .int pe, .int gb])), (ki, .inr (7, [.ref iw, .ref ib])), (ib, .inl (cS, 1152, .inl (fs)))] sz)) 0 0 (va_A [(h0, .inr (8, [.ref ki, .ref ko, .ref rx, .ref ry, .ref rn, .int (nI (rs)), .int (nI (be)), .int pp, .int pe, .int gb])), (ki, .inr (7, [.ref iw, .ref ib])), (ib, .inl (cS, 1152, .inl (fs)))] sz) := by
  refine Met.ofW (cc := b_BR_partCurve) (maxL := 14) (ret := none) (by decide) rfl ?_
  intro p e s m args below meth c s₁ B hml hv
  obtain ⟨rfl, hsz, hP, hK, hD0, hNs⟩ := hv
  have hx := B.exec
  have hb := B.bytes
  have hr := B.returns
  have hts := atoms_spec (ws := s_BR_partCurve) B.pre
  have hown : s.vm.findClass R_BR = some m.cls := findClass_of_methodNamed B.named
  have hlocks := B.notSynchronized
  subst hsz
  have hD := hD0.self (sz := s.heap.size)
  generalize hAe : va_A [(h0, .inr (8, [.ref ki, .ref ko, .ref rx, .ref ry, .ref rn, .int (nI (rs)), .int (nI (be)), .int pp, .int pe, .int gb])), (ki, .inr (7, [.ref iw, .ref ib])), (ib, .inl (cS, 1152, .inl (fs)))] s.heap.size = A at hD ⊢
  have hA : ∀ q : Nat, s.heap.size ≤ q → A q := fun q h => by rw [← hAe]; exact Or.inr h
  have hS : va_S A s.heap s.heap [] := va_S.rf
  have hP : va_P (dC, dI) cls_ [(h0, .inr (8, [.ref ki, .ref ko, .ref rx, .ref ry, .ref rn, .int (nI (rs)), .int (nI (be)), .int pp, .int pe, .int gb])), (ki, .inr (7, [.ref iw, .ref ib])), (ib, .inl (cS, 1152, .inl (fs)))] s.heap := hP
  have hl := lv_entry ([.ref h0, .int xp, .int yp, .int xq, .int yq, .int xr, .int yr, .int 3]) (n := 14) (Nat.le_of_ble_eq_true rfl)
  rw [lg_entry_eq]
  generalize (lg_sl ([.ref h0, .int xp, .int yp, .int xq, .int yq, .int xr, .int yr, .int 3]) ++ List.replicate (14 - (lg_sl ([.ref h0, .int xp, .int yp, .int xq, .int yq, .int xr, .int yr, .int 3])).length) Slot.unset).toArray = ls at hl ⊢
  have hl : lv_has ls 14 [(0, .ref h0), (1, .int xp), (2, .int yp), (3, .int xq), (4, .int yq), (5, .int xr), (6, .int yr), (7, .int 3)] := hl
  refine lv_iload_n hx hb d_BR_partCurve_0 rfl (lv_at hl 1 rfl) ?_
  refine lv_iload_n hx hb d_BR_partCurve_1 rfl (lv_at hl 3 rfl) ?_
  have hPc := hP.sub (ws' := []) [] rfl
  have hDc := hD.sub (ws' := []) [] (by decide) rfl
  have hKc := hK.sub (tys' := []) [] rfl
  have hFc := va_free (wc := []) hD hS hA [] rfl
  refine va_calli (va_runS (As := [.int xp, .int xq]) (rest := []) ⟨hx, hb, hml, hown, hts⟩ (g_BR_halfWay l dC dI xp xq s.heap.size) (cwS 2 hts (tw_inS w_794 w_795 w_10 w_796) rfl rfl rfl (by decide +kernel) ⟨Nat.le_of_ble_eq_true rfl, Nat.le_of_ble_eq_true rfl⟩) ⟨fun a U g mk q => by obtain ⟨q0, q1, qP, qK, qD⟩ := q; exact ⟨q0, q1, qP, va_K.moved (u := U) (U := U.calling g mk a) (Vm.Alike.refl U.vm) qK, qD⟩, fun U hU hW => ⟨rfl, by rw [hU], by rw [hU]; exact hPc, va_K.moved hW.alike hKc, hDc.weaken (fun _ _ _ _ => trivial)⟩⟩ rfl rfl hl.1 rfl (lv_room (Nat.le_of_ble_eq_true rfl)) d_BR_partCurve_2 ⟨Nat.le_of_ble_eq_true rfl, Nat.le_of_ble_eq_true rfl⟩) hS (fun q _ h => hFc q h) hFc (fun r5452 u t H1 locs ht hvm hw hB hz1 hk1 hS => ?_)
  have hP1 : va_P (dC, dI) cls_ [] H1 := fun k q h => by simp at h
  have hD1 : va_D (va_A [] s.heap.size) [] := ⟨fun i j p q h => by simp at h, fun k q h => by simp at h⟩
  obtain ⟨hP, hD⟩ := va_join (wr := [(h0, .inr (8, [.ref ki, .ref ko, .ref rx, .ref ry, .ref rn, .int (nI (rs)), .int (nI (be)), .int pp, .int pe, .int gb])), (ki, .inr (7, [.ref iw, .ref ib])), (ib, .inl (cS, 1152, .inl (fs)))]) (w1 := []) hP hD [] [0, 1, 2] rfl rfl (by decide) (by decide) hk1 hFc hP1 hD1
  generalize H1 = H at hP hS ⊢
  have hP : va_P (dC, dI) cls_ [(h0, .inr (8, [.ref ki, .ref ko, .ref rx, .ref ry, .ref rn, .int (nI (rs)), .int (nI (be)), .int pp, .int pe, .int gb])), (ki, .inr (7, [.ref iw, .ref ib])), (ib, .inl (cS, 1152, .inl (fs)))] H := hP
  have hD : va_D A [(h0, .inr (8, [.ref ki, .ref ko, .ref rx, .ref ry, .ref rn, .int (nI (rs)), .int (nI (be)), .int pp, .int pe, .int gb])), (ki, .inr (7, [.ref iw, .ref ib])), (ib, .inl (cS, 1152, .inl (fs)))] := hD
  have hw_r5452 := hw
  refine lv_istore (lv' := [(8, .int r5452), (0, .ref h0), (1, .int xp), (2, .int yp), (3, .int xq), (4, .int yq), (5, .int xr), (6, .int yr), (7, .int 3)]) hx hb d_BR_partCurve_5 hl (by decide) rfl (fun ls hl => ?_)
  refine lv_iload_n hx hb d_BR_partCurve_7 rfl (lv_at hl 3 rfl) ?_
  refine lv_iload hx hb d_BR_partCurve_8 (lv_at hl 5 rfl) ?_
  have hPc := hP.sub (ws' := []) [] rfl
  have hDc := hD.sub (ws' := []) [] (by decide) rfl
  have hKc := hK.sub (tys' := []) [] rfl
  have hFc := va_free (wc := []) hD hS hA [] rfl
  refine va_calli (va_runS (As := [.int yp, .int yq]) (rest := []) ⟨hx, hb, hml, hown, hts⟩ (g_BR_halfWay l dC dI yp yq H.size) (cwS 2 hts (tw_inS w_794 w_795 w_10 w_796) rfl rfl rfl (by decide +kernel) ⟨Nat.le_of_ble_eq_true rfl, Nat.le_of_ble_eq_true rfl⟩) ⟨fun a U g mk q => by obtain ⟨q0, q1, qP, qK, qD⟩ := q; exact ⟨q0, q1, qP, va_K.moved (u := U) (U := U.calling g mk a) (Vm.Alike.refl U.vm) qK, qD⟩, fun U hU hW => ⟨rfl, by rw [hU], by rw [hU]; exact hPc, va_K.moved hW.alike hKc, hDc.weaken (fun _ _ _ _ => trivial)⟩⟩ rfl rfl hl.1 rfl (lv_room (Nat.le_of_ble_eq_true rfl)) d_BR_partCurve_10 ⟨Nat.le_of_ble_eq_true rfl, Nat.le_of_ble_eq_true rfl⟩) hS (fun q _ h => hFc q h) hFc (fun r5453 u t H1 locs ht hvm hw hB hz1 hk1 hS => ?_)
  have hP1 : va_P (dC, dI) cls_ [] H1 := fun k q h => by simp at h
  have hD1 : va_D (va_A [] H.size) [] := ⟨fun i j p q h => by simp at h, fun k q h => by simp at h⟩
  obtain ⟨hP, hD⟩ := va_join (wr := [(h0, .inr (8, [.ref ki, .ref ko, .ref rx, .ref ry, .ref rn, .int (nI (rs)), .int (nI (be)), .int pp, .int pe, .int gb])), (ki, .inr (7, [.ref iw, .ref ib])), (ib, .inl (cS, 1152, .inl (fs)))]) (w1 := []) hP hD [] [0, 1, 2] rfl rfl (by decide) (by decide) hk1 hFc hP1 hD1
  generalize H1 = H at hP hS ⊢
  have hP : va_P (dC, dI) cls_ [(h0, .inr (8, [.ref ki, .ref ko, .ref rx, .ref ry, .ref rn, .int (nI (rs)), .int (nI (be)), .int pp, .int pe, .int gb])), (ki, .inr (7, [.ref iw, .ref ib])), (ib, .inl (cS, 1152, .inl (fs)))] H := hP
  have hD : va_D A [(h0, .inr (8, [.ref ki, .ref ko, .ref rx, .ref ry, .ref rn, .int (nI (rs)), .int (nI (be)), .int pp, .int pe, .int gb])), (ki, .inr (7, [.ref iw, .ref ib])), (ib, .inl (cS, 1152, .inl (fs)))] := hD
  have hw_r5453 := hw
  refine lv_istore (lv' := [(9, .int r5453), (8, .int r5452), (0, .ref h0), (1, .int xp), (2, .int yp), (3, .int xq), (4, .int yq), (5, .int xr), (6, .int yr), (7, .int 3)]) hx hb d_BR_partCurve_13 hl (by decide) rfl (fun ls hl => ?_)
  refine lv_iload_n hx hb d_BR_partCurve_15 rfl (lv_at hl 5 rfl) ?_
  refine lv_iload hx hb d_BR_partCurve_16 (lv_at hl 7 rfl) ?_
  have hPc := hP.sub (ws' := []) [] rfl
  have hDc := hD.sub (ws' := []) [] (by decide) rfl
  have hKc := hK.sub (tys' := []) [] rfl
  have hFc := va_free (wc := []) hD hS hA [] rfl
  refine va_calli (va_runS (As := [.int xq, .int xr]) (rest := []) ⟨hx, hb, hml, hown, hts⟩ (g_BR_halfWay l dC dI xq xr H.size) (cwS 2 hts (tw_inS w_794 w_795 w_10 w_796) rfl rfl rfl (by decide +kernel) ⟨Nat.le_of_ble_eq_true rfl, Nat.le_of_ble_eq_true rfl⟩) ⟨fun a U g mk q => by obtain ⟨q0, q1, qP, qK, qD⟩ := q; exact ⟨q0, q1, qP, va_K.moved (u := U) (U := U.calling g mk a) (Vm.Alike.refl U.vm) qK, qD⟩, fun U hU hW => ⟨rfl, by rw [hU], by rw [hU]; exact hPc, va_K.moved hW.alike hKc, hDc.weaken (fun _ _ _ _ => trivial)⟩⟩ rfl rfl hl.1 rfl (lv_room (Nat.le_of_ble_eq_true rfl)) d_BR_partCurve_18 ⟨Nat.le_of_ble_eq_true rfl, Nat.le_of_ble_eq_true rfl⟩) hS (fun q _ h => hFc q h) hFc (fun r5454 u t H1 locs ht hvm hw hB hz1 hk1 hS => ?_)
  have hP1 : va_P (dC, dI) cls_ [] H1 := fun k q h => by simp at h
  have hD1 : va_D (va_A [] H.size) [] := ⟨fun i j p q h => by simp at h, fun k q h => by simp at h⟩
  obtain ⟨hP, hD⟩ := va_join (wr := [(h0, .inr (8, [.ref ki, .ref ko, .ref rx, .ref ry, .ref rn, .int (nI (rs)), .int (nI (be)), .int pp, .int pe, .int gb])), (ki, .inr (7, [.ref iw, .ref ib])), (ib, .inl (cS, 1152, .inl (fs)))]) (w1 := []) hP hD [] [0, 1, 2] rfl rfl (by decide) (by decide) hk1 hFc hP1 hD1
  generalize H1 = H at hP hS ⊢
  have hP : va_P (dC, dI) cls_ [(h0, .inr (8, [.ref ki, .ref ko, .ref rx, .ref ry, .ref rn, .int (nI (rs)), .int (nI (be)), .int pp, .int pe, .int gb])), (ki, .inr (7, [.ref iw, .ref ib])), (ib, .inl (cS, 1152, .inl (fs)))] H := hP
  have hD : va_D A [(h0, .inr (8, [.ref ki, .ref ko, .ref rx, .ref ry, .ref rn, .int (nI (rs)), .int (nI (be)), .int pp, .int pe, .int gb])), (ki, .inr (7, [.ref iw, .ref ib])), (ib, .inl (cS, 1152, .inl (fs)))] := hD
  have hw_r5454 := hw
  refine lv_istore (lv' := [(10, .int r5454), (9, .int r5453), (8, .int r5452), (0, .ref h0), (1, .int xp), (2, .int yp), (3, .int xq), (4, .int yq), (5, .int xr), (6, .int yr), (7, .int 3)]) hx hb d_BR_partCurve_21 hl (by decide) rfl (fun ls hl => ?_)
  refine lv_iload hx hb d_BR_partCurve_23 (lv_at hl 7 rfl) ?_
  refine lv_iload hx hb d_BR_partCurve_25 (lv_at hl 9 rfl) ?_
  have hPc := hP.sub (ws' := []) [] rfl
  have hDc := hD.sub (ws' := []) [] (by decide) rfl
  have hKc := hK.sub (tys' := []) [] rfl
  have hFc := va_free (wc := []) hD hS hA [] rfl
  refine va_calli (va_runS (As := [.int yq, .int yr]) (rest := []) ⟨hx, hb, hml, hown, hts⟩ (g_BR_halfWay l dC dI yq yr H.size) (cwS 2 hts (tw_inS w_794 w_795 w_10 w_796) rfl rfl rfl (by decide +kernel) ⟨Nat.le_of_ble_eq_true rfl, Nat.le_of_ble_eq_true rfl⟩) ⟨fun a U g mk q => by obtain ⟨q0, q1, qP, qK, qD⟩ := q; exact ⟨q0, q1, qP, va_K.moved (u := U) (U := U.calling g mk a) (Vm.Alike.refl U.vm) qK, qD⟩, fun U hU hW => ⟨rfl, by rw [hU], by rw [hU]; exact hPc, va_K.moved hW.alike hKc, hDc.weaken (fun _ _ _ _ => trivial)⟩⟩ rfl rfl hl.1 rfl (lv_room (Nat.le_of_ble_eq_true rfl)) d_BR_partCurve_27 ⟨Nat.le_of_ble_eq_true rfl, Nat.le_of_ble_eq_true rfl⟩) hS (fun q _ h => hFc q h) hFc (fun r5455 u t H1 locs ht hvm hw hB hz1 hk1 hS => ?_)
  have hP1 : va_P (dC, dI) cls_ [] H1 := fun k q h => by simp at h
  have hD1 : va_D (va_A [] H.size) [] := ⟨fun i j p q h => by simp at h, fun k q h => by simp at h⟩
  obtain ⟨hP, hD⟩ := va_join (wr := [(h0, .inr (8, [.ref ki, .ref ko, .ref rx, .ref ry, .ref rn, .int (nI (rs)), .int (nI (be)), .int pp, .int pe, .int gb])), (ki, .inr (7, [.ref iw, .ref ib])), (ib, .inl (cS, 1152, .inl (fs)))]) (w1 := []) hP hD [] [0, 1, 2] rfl rfl (by decide) (by decide) hk1 hFc hP1 hD1
  generalize H1 = H at hP hS ⊢
  have hP : va_P (dC, dI) cls_ [(h0, .inr (8, [.ref ki, .ref ko, .ref rx, .ref ry, .ref rn, .int (nI (rs)), .int (nI (be)), .int pp, .int pe, .int gb])), (ki, .inr (7, [.ref iw, .ref ib])), (ib, .inl (cS, 1152, .inl (fs)))] H := hP
  have hD : va_D A [(h0, .inr (8, [.ref ki, .ref ko, .ref rx, .ref ry, .ref rn, .int (nI (rs)), .int (nI (be)), .int pp, .int pe, .int gb])), (ki, .inr (7, [.ref iw, .ref ib])), (ib, .inl (cS, 1152, .inl (fs)))] := hD
  have hw_r5455 := hw
  refine lv_istore (lv' := [(11, .int r5455), (10, .int r5454), (9, .int r5453), (8, .int r5452), (0, .ref h0), (1, .int xp), (2, .int yp), (3, .int xq), (4, .int yq), (5, .int xr), (6, .int yr), (7, .int 3)]) hx hb d_BR_partCurve_30 hl (by decide) rfl (fun ls hl => ?_)
  refine lv_iload hx hb d_BR_partCurve_32 (lv_at hl 3 rfl) ?_
  refine lv_iload hx hb d_BR_partCurve_34 (lv_at hl 1 rfl) ?_
  have hPc := hP.sub (ws' := []) [] rfl
  have hDc := hD.sub (ws' := []) [] (by decide) rfl
  have hKc := hK.sub (tys' := []) [] rfl
  have hFc := va_free (wc := []) hD hS hA [] rfl
  refine va_calli (va_runS (As := [.int r5452, .int r5454]) (rest := []) ⟨hx, hb, hml, hown, hts⟩ (g_BR_halfWay l dC dI r5452 r5454 H.size) (cwS 2 hts (tw_inS w_794 w_795 w_10 w_796) rfl rfl rfl (by decide +kernel) ⟨Nat.le_of_ble_eq_true rfl, Nat.le_of_ble_eq_true rfl⟩) ⟨fun a U g mk q => by obtain ⟨q0, q1, qP, qK, qD⟩ := q; exact ⟨q0, q1, qP, va_K.moved (u := U) (U := U.calling g mk a) (Vm.Alike.refl U.vm) qK, qD⟩, fun U hU hW => ⟨rfl, by rw [hU], by rw [hU]; exact hPc, va_K.moved hW.alike hKc, hDc.weaken (fun _ _ _ _ => trivial)⟩⟩ rfl rfl hl.1 rfl (lv_room (Nat.le_of_ble_eq_true rfl)) d_BR_partCurve_36 ⟨Nat.le_of_ble_eq_true rfl, Nat.le_of_ble_eq_true rfl⟩) hS (fun q _ h => hFc q h) hFc (fun r5456 u t H1 locs ht hvm hw hB hz1 hk1 hS => ?_)
  have hP1 : va_P (dC, dI) cls_ [] H1 := fun k q h => by simp at h
  have hD1 : va_D (va_A [] H.size) [] := ⟨fun i j p q h => by simp at h, fun k q h => by simp at h⟩
  obtain ⟨hP, hD⟩ := va_join (wr := [(h0, .inr (8, [.ref ki, .ref ko, .ref rx, .ref ry, .ref rn, .int (nI (rs)), .int (nI (be)), .int pp, .int pe, .int gb])), (ki, .inr (7, [.ref iw, .ref ib])), (ib, .inl (cS, 1152, .inl (fs)))]) (w1 := []) hP hD [] [0, 1, 2] rfl rfl (by decide) (by decide) hk1 hFc hP1 hD1
  generalize H1 = H at hP hS ⊢
  have hP : va_P (dC, dI) cls_ [(h0, .inr (8, [.ref ki, .ref ko, .ref rx, .ref ry, .ref rn, .int (nI (rs)), .int (nI (be)), .int pp, .int pe, .int gb])), (ki, .inr (7, [.ref iw, .ref ib])), (ib, .inl (cS, 1152, .inl (fs)))] H := hP
  have hD : va_D A [(h0, .inr (8, [.ref ki, .ref ko, .ref rx, .ref ry, .ref rn, .int (nI (rs)), .int (nI (be)), .int pp, .int pe, .int gb])), (ki, .inr (7, [.ref iw, .ref ib])), (ib, .inl (cS, 1152, .inl (fs)))] := hD
  have hw_r5456 := hw
  refine lv_istore (lv' := [(12, .int r5456), (11, .int r5455), (10, .int r5454), (9, .int r5453), (8, .int r5452), (0, .ref h0), (1, .int xp), (2, .int yp), (3, .int xq), (4, .int yq), (5, .int xr), (6, .int yr), (7, .int 3)]) hx hb d_BR_partCurve_39 hl (by decide) rfl (fun ls hl => ?_)
  refine lv_iload hx hb d_BR_partCurve_41 (lv_at hl 3 rfl) ?_
  refine lv_iload hx hb d_BR_partCurve_43 (lv_at hl 1 rfl) ?_
  have hPc := hP.sub (ws' := []) [] rfl
  have hDc := hD.sub (ws' := []) [] (by decide) rfl
  have hKc := hK.sub (tys' := []) [] rfl
  have hFc := va_free (wc := []) hD hS hA [] rfl
  refine va_calli (va_runS (As := [.int r5453, .int r5455]) (rest := []) ⟨hx, hb, hml, hown, hts⟩ (g_BR_halfWay l dC dI r5453 r5455 H.size) (cwS 2 hts (tw_inS w_794 w_795 w_10 w_796) rfl rfl rfl (by decide +kernel) ⟨Nat.le_of_ble_eq_true rfl, Nat.le_of_ble_eq_true rfl⟩) ⟨fun a U g mk q => by obtain ⟨q0, q1, qP, qK, qD⟩ := q; exact ⟨q0, q1, qP, va_K.moved (u := U) (U := U.calling g mk a) (Vm.Alike.refl U.vm) qK, qD⟩, fun U hU hW => ⟨rfl, by rw [hU], by rw [hU]; exact hPc, va_K.moved hW.alike hKc, hDc.weaken (fun _ _ _ _ => trivial)⟩⟩ rfl rfl hl.1 rfl (lv_room (Nat.le_of_ble_eq_true rfl)) d_BR_partCurve_45 ⟨Nat.le_of_ble_eq_true rfl, Nat.le_of_ble_eq_true rfl⟩) hS (fun q _ h => hFc q h) hFc (fun r5457 u t H1 locs ht hvm hw hB hz1 hk1 hS => ?_)
  have hP1 : va_P (dC, dI) cls_ [] H1 := fun k q h => by simp at h
  have hD1 : va_D (va_A [] H.size) [] := ⟨fun i j p q h => by simp at h, fun k q h => by simp at h⟩
  obtain ⟨hP, hD⟩ := va_join (wr := [(h0, .inr (8, [.ref ki, .ref ko, .ref rx, .ref ry, .ref rn, .int (nI (rs)), .int (nI (be)), .int pp, .int pe, .int gb])), (ki, .inr (7, [.ref iw, .ref ib])), (ib, .inl (cS, 1152, .inl (fs)))]) (w1 := []) hP hD [] [0, 1, 2] rfl rfl (by decide) (by decide) hk1 hFc hP1 hD1
  generalize H1 = H at hP hS ⊢
  have hP : va_P (dC, dI) cls_ [(h0, .inr (8, [.ref ki, .ref ko, .ref rx, .ref ry, .ref rn, .int (nI (rs)), .int (nI (be)), .int pp, .int pe, .int gb])), (ki, .inr (7, [.ref iw, .ref ib])), (ib, .inl (cS, 1152, .inl (fs)))] H := hP
  have hD : va_D A [(h0, .inr (8, [.ref ki, .ref ko, .ref rx, .ref ry, .ref rn, .int (nI (rs)), .int (nI (be)), .int pp, .int pe, .int gb])), (ki, .inr (7, [.ref iw, .ref ib])), (ib, .inl (cS, 1152, .inl (fs)))] := hD
  have hw_r5457 := hw
  refine lv_istore (lv' := [(13, .int r5457), (12, .int r5456), (11, .int r5455), (10, .int r5454), (9, .int r5453), (8, .int r5452), (0, .ref h0), (1, .int xp), (2, .int yp), (3, .int xq), (4, .int yq), (5, .int xr), (6, .int yr), (7, .int 3)]) hx hb d_BR_partCurve_48 hl (by decide) rfl (fun ls hl => ?_)
  refine lv_aload_n hx hb d_BR_partCurve_50 rfl (lv_at hl 6 rfl) ?_
  refine lv_iload_n hx hb d_BR_partCurve_51 rfl (lv_at hl 7 rfl) ?_
  refine lv_iload_n hx hb d_BR_partCurve_52 rfl (lv_at hl 8 rfl) ?_
  refine lv_iload hx hb d_BR_partCurve_53 (lv_at hl 5 rfl) ?_
  refine lv_iload hx hb d_BR_partCurve_55 (lv_at hl 4 rfl) ?_
  refine lv_iload hx hb d_BR_partCurve_57 (lv_at hl 1 rfl) ?_
  refine lv_iload hx hb d_BR_partCurve_59 (lv_at hl 0 rfl) ?_
  refine lv_iload hx hb d_BR_partCurve_61 (lv_at hl 13 rfl) ?_
  have hPc := hP.sub (ws' := [(h0, .inr (8, [.ref ki, .ref ko, .ref rx, .ref ry, .ref rn, .int (nI (rs)), .int (nI (be)), .int pp, .int pe, .int gb])), (ki, .inr (7, [.ref iw, .ref ib])), (ib, .inl (cS, 1152, .inl (fs)))]) [0, 1, 2] rfl
  have hDc := hD.sub (ws' := [(h0, .inr (8, [.ref ki, .ref ko, .ref rx, .ref ry, .ref rn, .int (nI (rs)), .int (nI (be)), .int pp, .int pe, .int gb])), (ki, .inr (7, [.ref iw, .ref ib])), (ib, .inl (cS, 1152, .inl (fs)))]) [0, 1, 2] (by decide) rfl
  have hKc := hK.sub (tys' := [(cS, .int)]) [0] rfl
  have hFc := va_free (wc := [(h0, .inr (8, [.ref ki, .ref ko, .ref rx, .ref ry, .ref rn, .int (nI (rs)), .int (nI (be)), .int pp, .int pe, .int gb])), (ki, .inr (7, [.ref iw, .ref ib])), (ib, .inl (cS, 1152, .inl (fs)))]) hD hS hA [0, 1, 2] rfl
  refine va_callv (va_runV (As := [.int xp, .int yp, .int r5452, .int r5453, .int r5456, .int r5457, .int 3]) (rest := []) ⟨hx, hb, hml, hown, hts⟩ (g_BR_paintCurve3 l dC dI h0 ki ko rx ry rn rs be pp pe gb iw ib cS fs xp yp r5452 r5453 r5456 r5457 H.size) (cwV 7 hts (tw_inV w_814 w_816 wp_32 w_10 w_817) rfl rfl rfl (by decide +kernel) ⟨Nat.le_of_ble_eq_true rfl, Nat.le_of_ble_eq_true rfl⟩) ⟨fun a U g mk q => by obtain ⟨q0, q1, qP, qK, qD, qE0⟩ := q; exact ⟨q0, q1, qP, va_K.moved (u := U) (U := U.calling g mk a) (Vm.Alike.refl U.vm) qK, qD, nests.call qE0⟩, va_recv (hK := hK) (hP := hP) (q0 := 0) (ci := 8) rfl rfl, fun U hU hW => ⟨rfl, by rw [hU], by rw [hU]; exact hPc, va_K.moved hW.alike hKc, hDc.weaken (fun _ _ _ _ => trivial), nests.warm hW hNs⟩⟩ rfl rfl hl.1 rfl (lv_room (Nat.le_of_ble_eq_true rfl)) d_BR_partCurve_63 ⟨Nat.le_of_ble_eq_true rfl, Nat.le_of_ble_eq_true rfl⟩) hS (fun q _ h => hFc q h) hFc (fun u t H1 locs ht hvm hw hB hz1 hk1 hS => ?_)
  obtain ⟨gs_5458, hP1, hK1, hD1⟩ := hB
  rw [ht] at hP1
  have hK1 := va_K.moved hvm.symm hK1
  obtain ⟨hP, hD⟩ := va_join (wr := []) (w1 := [(h0, .inr (8, [.ref ki, .ref ko, .ref rx, .ref ry, .ref rn, .int (nI (rs)), .int (nI (be)), .int pp, .int pe, .int gb])), (ki, .inr (7, [.ref iw, .ref ib])), (ib, .inl (cS, 1152, .inl (gs_5458)))]) hP hD [0, 1, 2] [] rfl rfl (by decide) (by decide) hk1 hFc hP1 hD1
  have hK := (hK.sub (tys' := []) [] rfl).app hK1
  generalize H1 = H at hP hS ⊢
  have hP : va_P (dC, dI) cls_ [(h0, .inr (8, [.ref ki, .ref ko, .ref rx, .ref ry, .ref rn, .int (nI (rs)), .int (nI (be)), .int pp, .int pe, .int gb])), (ki, .inr (7, [.ref iw, .ref ib])), (ib, .inl (cS, 1152, .inl (gs_5458)))] H := hP
  have hD : va_D A [(h0, .inr (8, [.ref ki, .ref ko, .ref rx, .ref ry, .ref rn, .int (nI (rs)), .int (nI (be)), .int pp, .int pe, .int gb])), (ki, .inr (7, [.ref iw, .ref ib])), (ib, .inl (cS, 1152, .inl (gs_5458)))] := hD
  have hK : va_K (dC, dI) cls_ [(cS, .int)] s := hK
  refine lv_aload_n hx hb d_BR_partCurve_66 rfl (lv_at hl 6 rfl) ?_
  refine lv_iload hx hb d_BR_partCurve_67 (lv_at hl 1 rfl) ?_
  refine lv_iload hx hb d_BR_partCurve_69 (lv_at hl 0 rfl) ?_
  refine lv_iload hx hb d_BR_partCurve_71 (lv_at hl 3 rfl) ?_
  refine lv_iload hx hb d_BR_partCurve_73 (lv_at hl 2 rfl) ?_
  refine lv_iload hx hb d_BR_partCurve_75 (lv_at hl 11 rfl) ?_
  refine lv_iload hx hb d_BR_partCurve_77 (lv_at hl 12 rfl) ?_
  refine lv_iload hx hb d_BR_partCurve_79 (lv_at hl 13 rfl) ?_
  have hPc := hP.sub (ws' := [(h0, .inr (8, [.ref ki, .ref ko, .ref rx, .ref ry, .ref rn, .int (nI (rs)), .int (nI (be)), .int pp, .int pe, .int gb])), (ki, .inr (7, [.ref iw, .ref ib])), (ib, .inl (cS, 1152, .inl (gs_5458)))]) [0, 1, 2] rfl
  have hDc := hD.sub (ws' := [(h0, .inr (8, [.ref ki, .ref ko, .ref rx, .ref ry, .ref rn, .int (nI (rs)), .int (nI (be)), .int pp, .int pe, .int gb])), (ki, .inr (7, [.ref iw, .ref ib])), (ib, .inl (cS, 1152, .inl (gs_5458)))]) [0, 1, 2] (by decide) rfl
  have hKc := hK.sub (tys' := [(cS, .int)]) [0] rfl
  have hFc := va_free (wc := [(h0, .inr (8, [.ref ki, .ref ko, .ref rx, .ref ry, .ref rn, .int (nI (rs)), .int (nI (be)), .int pp, .int pe, .int gb])), (ki, .inr (7, [.ref iw, .ref ib])), (ib, .inl (cS, 1152, .inl (gs_5458)))]) hD hS hA [0, 1, 2] rfl
  refine va_callv (va_runV (As := [.int r5456, .int r5457, .int r5454, .int r5455, .int xr, .int yr, .int 3]) (rest := []) ⟨hx, hb, hml, hown, hts⟩ (g_BR_paintCurve3 l dC dI h0 ki ko rx ry rn rs be pp pe gb iw ib cS gs_5458 r5456 r5457 r5454 r5455 xr yr H.size) (cwV 7 hts (tw_inV w_814 w_816 wp_32 w_10 w_817) rfl rfl rfl (by decide +kernel) ⟨Nat.le_of_ble_eq_true rfl, Nat.le_of_ble_eq_true rfl⟩) ⟨fun a U g mk q => by obtain ⟨q0, q1, qP, qK, qD, qE0⟩ := q; exact ⟨q0, q1, qP, va_K.moved (u := U) (U := U.calling g mk a) (Vm.Alike.refl U.vm) qK, qD, nests.call qE0⟩, va_recv (hK := hK) (hP := hP) (q0 := 0) (ci := 8) rfl rfl, fun U hU hW => ⟨rfl, by rw [hU], by rw [hU]; exact hPc, va_K.moved hW.alike hKc, hDc.weaken (fun _ _ _ _ => trivial), nests.warm hW hNs⟩⟩ rfl rfl hl.1 rfl (lv_room (Nat.le_of_ble_eq_true rfl)) d_BR_partCurve_81 ⟨Nat.le_of_ble_eq_true rfl, Nat.le_of_ble_eq_true rfl⟩) hS (fun q _ h => hFc q h) hFc (fun u t H1 locs ht hvm hw hB hz1 hk1 hS => ?_)
  obtain ⟨gs_5459, hP1, hK1, hD1⟩ := hB
  rw [ht] at hP1
  have hK1 := va_K.moved hvm.symm hK1
  obtain ⟨hP, hD⟩ := va_join (wr := []) (w1 := [(h0, .inr (8, [.ref ki, .ref ko, .ref rx, .ref ry, .ref rn, .int (nI (rs)), .int (nI (be)), .int pp, .int pe, .int gb])), (ki, .inr (7, [.ref iw, .ref ib])), (ib, .inl (cS, 1152, .inl (gs_5459)))]) hP hD [0, 1, 2] [] rfl rfl (by decide) (by decide) hk1 hFc hP1 hD1
  have hK := (hK.sub (tys' := []) [] rfl).app hK1
  generalize H1 = H at hP hS ⊢
  have hP : va_P (dC, dI) cls_ [(h0, .inr (8, [.ref ki, .ref ko, .ref rx, .ref ry, .ref rn, .int (nI (rs)), .int (nI (be)), .int pp, .int pe, .int gb])), (ki, .inr (7, [.ref iw, .ref ib])), (ib, .inl (cS, 1152, .inl (gs_5459)))] H := hP
  have hD : va_D A [(h0, .inr (8, [.ref ki, .ref ko, .ref rx, .ref ry, .ref rn, .int (nI (rs)), .int (nI (be)), .int pp, .int pe, .int gb])), (ki, .inr (7, [.ref iw, .ref ib])), (ib, .inl (cS, 1152, .inl (gs_5459)))] := hD
  have hK : va_K (dC, dI) cls_ [(cS, .int)] s := hK
  refine W.widen (k := 0) (n := 0) (Nat.le_of_ble_eq_true rfl) (Nat.le_of_ble_eq_true rfl) ?_
  have hP9 := hP.sub (ws' := [(h0, .inr (8, [.ref ki, .ref ko, .ref rx, .ref ry, .ref rn, .int (nI (rs)), .int (nI (be)), .int pp, .int pe, .int gb])), (ki, .inr (7, [.ref iw, .ref ib])), (ib, .inl (cS, 1152, .inl (gs_5459)))]) [0, 1, 2] rfl
  have hD9 := hD.sub (ws' := [(h0, .inr (8, [.ref ki, .ref ko, .ref rx, .ref ry, .ref rn, .int (nI (rs)), .int (nI (be)), .int pp, .int pe, .int gb])), (ki, .inr (7, [.ref iw, .ref ib])), (ib, .inl (cS, 1152, .inl (gs_5459)))]) [0, 1, 2] (by decide) rfl
  have hK9 := hK.sub (tys' := [(cS, .int)]) [0] rfl
  exact W.vret hx hb hr (fun t ht hW => ⟨⟨(), rfl, trivial, gs_5459, by rw [ht]; exact hP9, va_K.moved hW.alike hK9, hD9⟩, hS.F ht⟩) hS.2.2 d_BR_partCurve_84
set_option maxHeartbeats 4000000 in
set_option maxRecDepth 100000 in
/-- GlyphLines$Brush.paintCurve -/
theorem g_BR_paintCurve2 (l : Launch) (dC : Nat → ClassId) (dI : Nat → Nat → Nat) (h0 : Nat) (ki : Nat) (ko : Nat) (rx : Nat) (ry : Nat) (rn : Nat) (rs : Nat) (be : Nat) (pp : Int32) (pe : Int32) (gb : Int32) (iw : Nat) (ib : Nat) (cS : ClassId) (fs : Nat → Int32) (xp : Int32) (yp : Int32) (xq : Int32) (yq : Int32) (xr : Int32) (yr : Int32) (sz : Nat) : Met l y_BR_paintCurve s_BR_paintCurve ({ frames := 36, cells := 0, slots := 0, locals := 1240 }) (va_Pc [.ref h0, .int xp, .int yp, .int xq, .int yq, .int xr, .int yr, .int 2] (fun U => U.heap.size = sz ∧ va_P (dC, dI) cls_ [(h0, .inr (8, [.ref ki, .ref ko, .ref rx, .ref ry, .ref rn, .int (nI (rs)), .int (nI (be)), .int pp, .int pe, .int gb])), (ki, .inr (7, [.ref iw, .ref ib])), (ib, .inl (cS, 1152, .inl (fs)))] U.heap ∧ va_K (dC, dI) cls_ [(cS, .int)] U ∧ va_D (fun _ => True) [(h0, .inr (8, [.ref ki, .ref ko, .ref rx, .ref ry, .ref rn, .int (nI (rs)), .int (nI (be)), .int pp, .int pe, .int gb])), (ki, .inr (7, [.ref iw, .ref ib])), (ib, .inl (cS, 1152, .inl (fs)))] ∧ nests U)) (va_Qv (fun _ : Unit => True) (fun (_ : Unit) (t : State) => ∃ (gs : Nat → Int32), va_P (dC, dI) cls_ [(h0, .inr (8, [.ref ki, .ref ko, .ref rx, .ref ry, .ref rn, .int (nI (rs)), .int (nI (be)), .int pp, .int pe, .int gb])), (ki, .inr (7, [.ref iw, .ref ib])), (ib, .inl (cS, 1152, .inl (gs)))] t.heap ∧ va_K (dC, dI) cls_ [(cS, .int)] t ∧ va_D (va_A [(h0, .inr (8, [.ref ki, .ref ko, .ref rx, .ref ry, .ref rn, .int (nI (rs)), .int (nI (be)), .int pp, .int pe, .int gb])), (ki, .inr (7, [.ref iw, .ref ib])), (ib, .inl (cS, 1152, .inl (fs)))] sz) [(h0, .inr (8, [.ref ki, .ref ko, .ref rx, .ref ry, .ref rn, .int (nI (rs)), .int (nI (be)), .int pp, .int pe, .int gb])), (ki, .inr (7, [.ref iw, .ref ib])), (ib, .inl (cS, 1152, .inl (gs)))]) (va_A [(h0, .inr (8, [.ref ki, .ref ko, .ref rx, .ref ry, .ref rn, .int (nI (rs)), .int (nI (be)), .int pp, .int pe, .int gb])), (ki, .inr (7, [.ref iw, .ref ib])), (ib, .inl (cS, 1152, .inl (fs)))] sz)) 0 0 (va_A [(h0, .inr (8, [.ref ki, .ref ko, .ref rx, .ref ry, .ref rn, .int (nI (rs)), .int (nI (be)), .int pp, .int pe, .int gb])), (ki, .inr (7, [.ref iw, .ref ib])), (ib, .inl (cS, 1152, .inl (fs)))] sz) := by
  refine Met.ofW (cc := b_BR_paintCurve) (maxL := 8) (ret := none) (by decide) rfl ?_
  intro p e s m args below meth c s₁ B hml hv
  obtain ⟨rfl, hsz, hP, hK, hD0, hNs⟩ := hv
  have hx := B.exec
  have hb := B.bytes
  have hr := B.returns
  have hts := atoms_spec (ws := s_BR_paintCurve) B.pre
  have hown : s.vm.findClass R_BR = some m.cls := findClass_of_methodNamed B.named
  have hlocks := B.notSynchronized
  subst hsz
  have hD := hD0.self (sz := s.heap.size)
  generalize hAe : va_A [(h0, .inr (8, [.ref ki, .ref ko, .ref rx, .ref ry, .ref rn, .int (nI (rs)), .int (nI (be)), .int pp, .int pe, .int gb])), (ki, .inr (7, [.ref iw, .ref ib])), (ib, .inl (cS, 1152, .inl (fs)))] s.heap.size = A at hD ⊢
  have hA : ∀ q : Nat, s.heap.size ≤ q → A q := fun q h => by rw [← hAe]; exact Or.inr h
  have hS : va_S A s.heap s.heap [] := va_S.rf
  have hP : va_P (dC, dI) cls_ [(h0, .inr (8, [.ref ki, .ref ko, .ref rx, .ref ry, .ref rn, .int (nI (rs)), .int (nI (be)), .int pp, .int pe, .int gb])), (ki, .inr (7, [.ref iw, .ref ib])), (ib, .inl (cS, 1152, .inl (fs)))] s.heap := hP
  have hl := lv_entry ([.ref h0, .int xp, .int yp, .int xq, .int yq, .int xr, .int yr, .int 2]) (n := 8) (Nat.le_of_ble_eq_true rfl)
  rw [lg_entry_eq]
  generalize (lg_sl ([.ref h0, .int xp, .int yp, .int xq, .int yq, .int xr, .int yr, .int 2]) ++ List.replicate (8 - (lg_sl ([.ref h0, .int xp, .int yp, .int xq, .int yq, .int xr, .int yr, .int 2])).length) Slot.unset).toArray = ls at hl ⊢
  have hl : lv_has ls 8 [(0, .ref h0), (1, .int xp), (2, .int yp), (3, .int xq), (4, .int yq), (5, .int xr), (6, .int yr), (7, .int 2)] := hl
  refine lv_iload hx hb d_BR_paintCurve_0 (lv_at hl 7 rfl) ?_
  refine lv_bipush (v := 6) hx hb d_BR_paintCurve_2 (by decide) ?_
  refine lv_icmp_ge (tgt := 28) hx hb d_BR_paintCurve_4 (by decide) (fun hc => absurd hc (by decide +kernel)) (fun _ => ?_)
  refine lv_iload_n hx hb d_BR_paintCurve_7 rfl (lv_at hl 3 rfl) ?_
  refine lv_iload_n hx hb d_BR_paintCurve_8 rfl (lv_at hl 1 rfl) ?_
  refine lv_isub hx hb d_BR_paintCurve_9 ?_
  refine lv_topi (fun v5460 ev5460 => ?_)
  refine lv_iload hx hb d_BR_paintCurve_10 (lv_at hl 4 rfl) ?_
  refine lv_iload_n hx hb d_BR_paintCurve_12 rfl (lv_at hl 2 rfl) ?_
  refine lv_isub hx hb d_BR_paintCurve_13 ?_
  refine lv_topi (fun v5461 ev5461 => ?_)
  refine lv_iload hx hb d_BR_paintCurve_14 (lv_at hl 5 rfl) ?_
  refine lv_iload_n hx hb d_BR_paintCurve_16 rfl (lv_at hl 1 rfl) ?_
  refine lv_isub hx hb d_BR_paintCurve_17 ?_
  refine lv_topi (fun v5462 ev5462 => ?_)
  refine lv_iload hx hb d_BR_paintCurve_18 (lv_at hl 6 rfl) ?_
  refine lv_iload_n hx hb d_BR_paintCurve_20 rfl (lv_at hl 2 rfl) ?_
  refine lv_isub hx hb d_BR_paintCurve_21 ?_
  refine lv_topi (fun v5463 ev5463 => ?_)
  have hPc := hP.sub (ws' := []) [] rfl
  have hDc := hD.sub (ws' := []) [] (by decide) rfl
  have hKc := hK.sub (tys' := []) [] rfl
  have hFc := va_free (wc := []) hD hS hA [] rfl
  refine va_calli (va_runS (As := [.int v5460, .int v5461, .int v5462, .int v5463]) (rest := []) ⟨hx, hb, hml, hown, hts⟩ (g_BR_isFlat l dC dI v5460 v5461 v5462 v5463 s.heap.size) (cwS 4 hts (tw_inS w_818 w_819 w_10 w_820) rfl rfl rfl (by decide +kernel) ⟨Nat.le_of_ble_eq_true rfl, Nat.le_of_ble_eq_true rfl⟩) ⟨fun a U g mk q => by obtain ⟨q0, q1, qP, qK, qD⟩ := q; exact ⟨q0, q1, qP, va_K.moved (u := U) (U := U.calling g mk a) (Vm.Alike.refl U.vm) qK, qD⟩, fun U hU hW => ⟨rfl, by rw [hU], by rw [hU]; exact hPc, va_K.moved hW.alike hKc, hDc.weaken (fun _ _ _ _ => trivial)⟩⟩ rfl rfl hl.1 rfl (lv_room (Nat.le_of_ble_eq_true rfl)) d_BR_paintCurve_22 ⟨Nat.le_of_ble_eq_true rfl, Nat.le_of_ble_eq_true rfl⟩) hS (fun q _ h => hFc q h) hFc (fun r5464 u t H1 locs ht hvm hw hB hz1 hk1 hS => ?_)
  have hP1 : va_P (dC, dI) cls_ [] H1 := fun k q h => by simp at h
  have hD1 : va_D (va_A [] s.heap.size) [] := ⟨fun i j p q h => by simp at h, fun k q h => by simp at h⟩
  obtain ⟨hP, hD⟩ := va_join (wr := [(h0, .inr (8, [.ref ki, .ref ko, .ref rx, .ref ry, .ref rn, .int (nI (rs)), .int (nI (be)), .int pp, .int pe, .int gb])), (ki, .inr (7, [.ref iw, .ref ib])), (ib, .inl (cS, 1152, .inl (fs)))]) (w1 := []) hP hD [] [0, 1, 2] rfl rfl (by decide) (by decide) hk1 hFc hP1 hD1
  generalize H1 = H at hP hS ⊢
  have hP : va_P (dC, dI) cls_ [(h0, .inr (8, [.ref ki, .ref ko, .ref rx, .ref ry, .ref rn, .int (nI (rs)), .int (nI (be)), .int pp, .int pe, .int gb])), (ki, .inr (7, [.ref iw, .ref ib])), (ib, .inl (cS, 1152, .inl (fs)))] H := hP
  have hD : va_D A [(h0, .inr (8, [.ref ki, .ref ko, .ref rx, .ref ry, .ref rn, .int (nI (rs)), .int (nI (be)), .int pp, .int pe, .int gb])), (ki, .inr (7, [.ref iw, .ref ib])), (ib, .inl (cS, 1152, .inl (fs)))] := hD
  have hw_r5464 := hw
  obtain ⟨bb5465, rfl⟩ := hw_r5464
  refine lv_if_eq (tgt := 44) hx hb d_BR_paintCurve_25 (by decide) (fun hc5466 => ?_) (fun hc5466 => ?_)
  · skip
    have hc5466b : bb5465 = false := bI_0 hc5466
    refine lv_aload_n hx hb d_BR_paintCurve_44 rfl (lv_at hl 0 rfl) ?_
    refine lv_iload_n hx hb d_BR_paintCurve_45 rfl (lv_at hl 1 rfl) ?_
    refine lv_iload_n hx hb d_BR_paintCurve_46 rfl (lv_at hl 2 rfl) ?_
    refine lv_iload_n hx hb d_BR_paintCurve_47 rfl (lv_at hl 3 rfl) ?_
    refine lv_iload hx hb d_BR_paintCurve_48 (lv_at hl 4 rfl) ?_
    refine lv_iload hx hb d_BR_paintCurve_50 (lv_at hl 5 rfl) ?_
    refine lv_iload hx hb d_BR_paintCurve_52 (lv_at hl 6 rfl) ?_
    refine lv_iload hx hb d_BR_paintCurve_54 (lv_at hl 7 rfl) ?_
    refine lv_iconst (v := 1) hx hb d_BR_paintCurve_56 (by decide) ?_
    refine lv_iadd hx hb d_BR_paintCurve_57 ?_
    refine lv_ci (y := 3) (by decide +kernel) ?_
    have hPc := hP.sub (ws' := [(h0, .inr (8, [.ref ki, .ref ko, .ref rx, .ref ry, .ref rn, .int (nI (rs)), .int (nI (be)), .int pp, .int pe, .int gb])), (ki, .inr (7, [.ref iw, .ref ib])), (ib, .inl (cS, 1152, .inl (fs)))]) [0, 1, 2] rfl
    have hDc := hD.sub (ws' := [(h0, .inr (8, [.ref ki, .ref ko, .ref rx, .ref ry, .ref rn, .int (nI (rs)), .int (nI (be)), .int pp, .int pe, .int gb])), (ki, .inr (7, [.ref iw, .ref ib])), (ib, .inl (cS, 1152, .inl (fs)))]) [0, 1, 2] (by decide) rfl
    have hKc := hK.sub (tys' := [(cS, .int)]) [0] rfl
    have hFc := va_free (wc := [(h0, .inr (8, [.ref ki, .ref ko, .ref rx, .ref ry, .ref rn, .int (nI (rs)), .int (nI (be)), .int pp, .int pe, .int gb])), (ki, .inr (7, [.ref iw, .ref ib])), (ib, .inl (cS, 1152, .inl (fs)))]) hD hS hA [0, 1, 2] rfl
    refine va_callv (va_runV (As := [.int xp, .int yp, .int xq, .int yq, .int xr, .int yr, .int 3]) (rest := []) ⟨hx, hb, hml, hown, hts⟩ (g_BR_partCurve3 l dC dI h0 ki ko rx ry rn rs be pp pe gb iw ib cS fs xp yp xq yq xr yr H.size) (cwV 7 hts (tw_inV w_829 w_831 wp_33 w_10 w_832) rfl rfl rfl (by decide +kernel) ⟨Nat.le_of_ble_eq_true rfl, Nat.le_of_ble_eq_true rfl⟩) ⟨fun a U g mk q => by obtain ⟨q0, q1, qP, qK, qD, qE0⟩ := q; exact ⟨q0, q1, qP, va_K.moved (u := U) (U := U.calling g mk a) (Vm.Alike.refl U.vm) qK, qD, nests.call qE0⟩, va_recv (hK := hK) (hP := hP) (q0 := 0) (ci := 8) rfl rfl, fun U hU hW => ⟨rfl, by rw [hU], by rw [hU]; exact hPc, va_K.moved hW.alike hKc, hDc.weaken (fun _ _ _ _ => trivial), nests.warm hW hNs⟩⟩ rfl rfl hl.1 rfl (lv_room (Nat.le_of_ble_eq_true rfl)) d_BR_paintCurve_58 ⟨Nat.le_of_ble_eq_true rfl, Nat.le_of_ble_eq_true rfl⟩) hS (fun q _ h => hFc q h) hFc (fun u t H1 locs ht hvm hw hB hz1 hk1 hS => ?_)
    obtain ⟨gs_5467, hP1, hK1, hD1⟩ := hB
    rw [ht] at hP1
    have hK1 := va_K.moved hvm.symm hK1
    obtain ⟨hP, hD⟩ := va_join (wr := []) (w1 := [(h0, .inr (8, [.ref ki, .ref ko, .ref rx, .ref ry, .ref rn, .int (nI (rs)), .int (nI (be)), .int pp, .int pe, .int gb])), (ki, .inr (7, [.ref iw, .ref ib])), (ib, .inl (cS, 1152, .inl (gs_5467)))]) hP hD [0, 1, 2] [] rfl rfl (by decide) (by decide) hk1 hFc hP1 hD1
    have hK := (hK.sub (tys' := []) [] rfl).app hK1
    generalize H1 = H at hP hS ⊢
    have hP : va_P (dC, dI) cls_ [(h0, .inr (8, [.ref ki, .ref ko, .ref rx, .ref ry, .ref rn, .int (nI (rs)), .int (nI (be)), .int pp, .int pe, .int gb])), (ki, .inr (7, [.ref iw, .ref ib])), (ib, .inl (cS, 1152, .inl (gs_5467)))] H := hP
    have hD : va_D A [(h0, .inr (8, [.ref ki, .ref ko, .ref rx, .ref ry, .ref rn, .int (nI (rs)), .int (nI (be)), .int pp, .int pe, .int gb])), (ki, .inr (7, [.ref iw, .ref ib])), (ib, .inl (cS, 1152, .inl (gs_5467)))] := hD
    have hK : va_K (dC, dI) cls_ [(cS, .int)] s := hK
    refine W.widen (k := 0) (n := 0) (Nat.le_of_ble_eq_true rfl) (Nat.le_of_ble_eq_true rfl) ?_
    have hP9 := hP.sub (ws' := [(h0, .inr (8, [.ref ki, .ref ko, .ref rx, .ref ry, .ref rn, .int (nI (rs)), .int (nI (be)), .int pp, .int pe, .int gb])), (ki, .inr (7, [.ref iw, .ref ib])), (ib, .inl (cS, 1152, .inl (gs_5467)))]) [0, 1, 2] rfl
    have hD9 := hD.sub (ws' := [(h0, .inr (8, [.ref ki, .ref ko, .ref rx, .ref ry, .ref rn, .int (nI (rs)), .int (nI (be)), .int pp, .int pe, .int gb])), (ki, .inr (7, [.ref iw, .ref ib])), (ib, .inl (cS, 1152, .inl (gs_5467)))]) [0, 1, 2] (by decide) rfl
    have hK9 := hK.sub (tys' := [(cS, .int)]) [0] rfl
    exact W.vret hx hb hr (fun t ht hW => ⟨⟨(), rfl, trivial, gs_5467, by rw [ht]; exact hP9, va_K.moved hW.alike hK9, hD9⟩, hS.F ht⟩) hS.2.2 d_BR_paintCurve_61
  · skip
    have hc5466b : bb5465 = true := bI_1 hc5466
    refine lv_aload_n hx hb d_BR_paintCurve_28 rfl (lv_at hl 0 rfl) ?_
    refine va_get (D := (dC, dI)) (ci := 8) (v := .ref ki) (C := R_BR) (T := F_BR) (N := 10) hx hb hts in_BR hown hK hP 0 rfl rfl 0 (by decide) (hts _ (List.mem_cons_of_mem _ w_255)) (fun _ h9 => h9) rfl d_BR_paintCurve_29 ?_
    refine lv_iload_n hx hb d_BR_paintCurve_32 rfl (lv_at hl 1 rfl) ?_
    refine lv_iload_n hx hb d_BR_paintCurve_33 rfl (lv_at hl 2 rfl) ?_
    refine lv_iload hx hb d_BR_paintCurve_34 (lv_at hl 5 rfl) ?_
    refine lv_iload hx hb d_BR_paintCurve_36 (lv_at hl 6 rfl) ?_
    have hPc := hP.sub (ws' := [(ki, .inr (7, [.ref iw, .ref ib])), (ib, .inl (cS, 1152, .inl (fs)))]) [1, 2] rfl
    have hDc := hD.sub (ws' := [(ki, .inr (7, [.ref iw, .ref ib])), (ib, .inl (cS, 1152, .inl (fs)))]) [1, 2] (by decide) rfl
    have hKc := hK.sub (tys' := [(cS, .int)]) [0] rfl
    have hFc := va_free (wc := [(ki, .inr (7, [.ref iw, .ref ib])), (ib, .inl (cS, 1152, .inl (fs)))]) hD hS hA [1, 2] rfl
    refine va_callv (va_runV (As := [.int xp, .int yp, .int xr, .int yr]) (rest := []) ⟨hx, hb, hml, hown, hts⟩ (g_PI_addLine l dC dI ki iw ib cS fs xp yp xr yr H.size) (cwV 4 hts (tw_inV w_801 w_802 w_803 w_9 w_804) rfl rfl rfl (by decide +kernel) ⟨Nat.le_of_ble_eq_true rfl, Nat.le_of_ble_eq_true rfl⟩) ⟨fun a U g mk q => by obtain ⟨q0, q1, qP, qK, qD⟩ := q; exact ⟨q0, q1, qP, va_K.moved (u := U) (U := U.calling g mk a) (Vm.Alike.refl U.vm) qK, qD⟩, va_recv (hK := hK) (hP := hP) (q0 := 1) (ci := 7) rfl rfl, fun U hU hW => ⟨rfl, by rw [hU], by rw [hU]; exact hPc, va_K.moved hW.alike hKc, hDc.weaken (fun _ _ _ _ => trivial)⟩⟩ rfl rfl hl.1 rfl (lv_room (Nat.le_of_ble_eq_true rfl)) d_BR_paintCurve_38 ⟨Nat.le_of_ble_eq_true rfl, Nat.le_of_ble_eq_true rfl⟩) hS (fun q _ h => hFc q h) hFc (fun u t H1 locs ht hvm hw hB hz1 hk1 hS => ?_)
    obtain ⟨gs_5468, hP1, hK1, hD1⟩ := hB
    rw [ht] at hP1
    have hK1 := va_K.moved hvm.symm hK1
    obtain ⟨hP, hD⟩ := va_join (wr := [(h0, .inr (8, [.ref ki, .ref ko, .ref rx, .ref ry, .ref rn, .int (nI (rs)), .int (nI (be)), .int pp, .int pe, .int gb]))]) (w1 := [(ki, .inr (7, [.ref iw, .ref ib])), (ib, .inl (cS, 1152, .inl (gs_5468)))]) hP hD [1, 2] [0] rfl rfl (by decide) (by decide) hk1 hFc hP1 hD1
    have hK := (hK.sub (tys' := []) [] rfl).app hK1
    generalize H1 = H at hP hS ⊢
    have hP : va_P (dC, dI) cls_ [(h0, .inr (8, [.ref ki, .ref ko, .ref rx, .ref ry, .ref rn, .int (nI (rs)), .int (nI (be)), .int pp, .int pe, .int gb])), (ki, .inr (7, [.ref iw, .ref ib])), (ib, .inl (cS, 1152, .inl (gs_5468)))] H := hP
    have hD : va_D A [(h0, .inr (8, [.ref ki, .ref ko, .ref rx, .ref ry, .ref rn, .int (nI (rs)), .int (nI (be)), .int pp, .int pe, .int gb])), (ki, .inr (7, [.ref iw, .ref ib])), (ib, .inl (cS, 1152, .inl (gs_5468)))] := hD
    have hK : va_K (dC, dI) cls_ [(cS, .int)] s := hK
    refine lv_goto (tgt := 61) hx hb d_BR_paintCurve_41 (by decide) ?_
    refine W.widen (k := 0) (n := 0) (Nat.le_of_ble_eq_true rfl) (Nat.le_of_ble_eq_true rfl) ?_
    have hP9 := hP.sub (ws' := [(h0, .inr (8, [.ref ki, .ref ko, .ref rx, .ref ry, .ref rn, .int (nI (rs)), .int (nI (be)), .int pp, .int pe, .int gb])), (ki, .inr (7, [.ref iw, .ref ib])), (ib, .inl (cS, 1152, .inl (gs_5468)))]) [0, 1, 2] rfl
    have hD9 := hD.sub (ws' := [(h0, .inr (8, [.ref ki, .ref ko, .ref rx, .ref ry, .ref rn, .int (nI (rs)), .int (nI (be)), .int pp, .int pe, .int gb])), (ki, .inr (7, [.ref iw, .ref ib])), (ib, .inl (cS, 1152, .inl (gs_5468)))]) [0, 1, 2] (by decide) rfl
    have hK9 := hK.sub (tys' := [(cS, .int)]) [0] rfl
    exact W.vret hx hb hr (fun t ht hW => ⟨⟨(), rfl, trivial, gs_5468, by rw [ht]; exact hP9, va_K.moved hW.alike hK9, hD9⟩, hS.F ht⟩) hS.2.2 d_BR_paintCurve_61
set_option maxHeartbeats 4000000 in
set_option maxRecDepth 100000 in
/-- GlyphLines$Brush.partCurve -/
theorem g_BR_partCurve2 (l : Launch) (dC : Nat → ClassId) (dI : Nat → Nat → Nat) (h0 : Nat) (ki : Nat) (ko : Nat) (rx : Nat) (ry : Nat) (rn : Nat) (rs : Nat) (be : Nat) (pp : Int32) (pe : Int32) (gb : Int32) (iw : Nat) (ib : Nat) (cS : ClassId) (fs : Nat → Int32) (xp : Int32) (yp : Int32) (xq : Int32) (yq : Int32) (xr : Int32) (yr : Int32) (sz : Nat) : Met l y_BR_partCurve s_BR_partCurve ({ frames := 38, cells := 0, slots := 0, locals := 1300 }) (va_Pc [.ref h0, .int xp, .int yp, .int xq, .int yq, .int xr, .int yr, .int 2] (fun U => U.heap.size = sz ∧ va_P (dC, dI) cls_ [(h0, .inr (8, [.ref ki, .ref ko, .ref rx, .ref ry, .ref rn, .int (nI (rs)), .int (nI (be)), .int pp, .int pe, .int gb])), (ki, .inr (7, [.ref iw, .ref ib])), (ib, .inl (cS, 1152, .inl (fs)))] U.heap ∧ va_K (dC, dI) cls_ [(cS, .int)] U ∧ va_D (fun _ => True) [(h0, .inr (8, [.ref ki, .ref ko, .ref rx, .ref ry, .ref rn, .int (nI (rs)), .int (nI (be)), .int pp, .int pe, .int gb])), (ki, .inr (7, [.ref iw, .ref ib])), (ib, .inl (cS, 1152, .inl (fs)))] ∧ nests U)) (va_Qv (fun _ : Unit => True) (fun (_ : Unit) (t : State) => ∃ (gs : Nat → Int32), va_P (dC, dI) cls_ [(h0, .inr (8, [.ref ki, .ref ko, .ref rx, .ref ry, .ref rn, .int (nI (rs)), .int (nI (be)), .int pp, .int pe, .int gb])), (ki, .inr (7, [.ref iw, .ref ib])), (ib, .inl (cS, 1152, .inl (gs)))] t.heap ∧ va_K (dC, dI) cls_ [(cS, .int)] t ∧ va_D (va_A [(h0, .inr (8, [.ref ki, .ref ko, .ref rx, .ref ry, .ref rn, .int (nI (rs)), .int (nI (be)), .int pp, .int pe, .int gb])), (ki, .inr (7, [.ref iw, .ref ib])), (ib, .inl (cS, 1152, .inl (fs)))] sz) [(h0, .inr (8, [.ref ki, .ref ko, .ref rx, .ref ry, .ref rn, .int (nI (rs)), .int (nI (be)), .int pp, .int pe, .int gb])), (ki, .inr (7, [.ref iw, .ref ib])), (ib, .inl (cS, 1152, .inl (gs)))]) (va_A [(h0, .inr (8, [.ref ki, .ref ko, .ref rx, .ref ry, .ref rn, .int (nI (rs)), .int (nI (be)), .int pp, .int pe, .int gb])), (ki, .inr (7, [.ref iw, .ref ib])), (ib, .inl (cS, 1152, .inl (fs)))] sz)) 0 0 (va_A [(h0, .inr (8, [.ref ki, .ref ko, .ref rx, .ref ry, .ref rn, .int (nI (rs)), .int (nI (be)), .int pp, .int pe, .int gb])), (ki, .inr (7, [.ref iw, .ref ib])), (ib, .inl (cS, 1152, .inl (fs)))] sz) := by
  refine Met.ofW (cc := b_BR_partCurve) (maxL := 14) (ret := none) (by decide) rfl ?_
  intro p e s m args below meth c s₁ B hml hv
  obtain ⟨rfl, hsz, hP, hK, hD0, hNs⟩ := hv
  have hx := B.exec
  have hb := B.bytes
  have hr := B.returns
  have hts := atoms_spec (ws := s_BR_partCurve) B.pre
  have hown : s.vm.findClass R_BR = some m.cls := findClass_of_methodNamed B.named
  have hlocks := B.notSynchronized
  subst hsz
  have hD := hD0.self (sz := s.heap.size)
  generalize hAe : va_A [(h0, .inr (8, [.ref ki, .ref ko, .ref rx, .ref ry, .ref rn, .int (nI (rs)), .int (nI (be)), .int pp, .int pe, .int gb])), (ki, .inr (7, [.ref iw, .ref ib])), (ib, .inl (cS, 1152, .inl (fs)))] s.heap.size = A at hD ⊢
  have hA : ∀ q : Nat, s.heap.size ≤ q → A q := fun q h => by rw [← hAe]; exact Or.inr h
  have hS : va_S A s.heap s.heap [] := va_S.rf
  have hP : va_P (dC, dI) cls_ [(h0, .inr (8, [.ref ki, .ref ko, .ref rx, .ref ry, .ref rn, .int (nI (rs)), .int (nI (be)), .int pp, .int pe, .int gb])), (ki, .inr (7, [.ref iw, .ref ib])), (ib, .inl (cS, 1152, .inl (fs)))] s.heap := hP
  have hl := lv_entry ([.ref h0, .int xp, .int yp, .int xq, .int yq, .int xr, .int yr, .int 2]) (n := 14) (Nat.le_of_ble_eq_true rfl)
  rw [lg_entry_eq]
  generalize (lg_sl ([.ref h0, .int xp, .int yp, .int xq, .int yq, .int xr, .int yr, .int 2]) ++ List.replicate (14 - (lg_sl ([.ref h0, .int xp, .int yp, .int xq, .int yq, .int xr, .int yr, .int 2])).length) Slot.unset).toArray = ls at hl ⊢
  have hl : lv_has ls 14 [(0, .ref h0), (1, .int xp), (2, .int yp), (3, .int xq), (4, .int yq), (5, .int xr), (6, .int yr), (7, .int 2)] := hl
  refine lv_iload_n hx hb d_BR_partCurve_0 rfl (lv_at hl 1 rfl) ?_
  refine lv_iload_n hx hb d_BR_partCurve_1 rfl (lv_at hl 3 rfl) ?_
  have hPc := hP.sub (ws' := []) [] rfl
  have hDc := hD.sub (ws' := []) [] (by decide) rfl
  have hKc := hK.sub (tys' := []) [] rfl
  have hFc := va_free (wc := []) hD hS hA [] rfl
  refine va_calli (va_runS (As := [.int xp, .int xq]) (rest := []) ⟨hx, hb, hml, hown, hts⟩ (g_BR_halfWay l dC dI xp xq s.heap.size) (cwS 2 hts (tw_inS w_794 w_795 w_10 w_796) rfl rfl rfl (by decide +kernel) ⟨Nat.le_of_ble_eq_true rfl, Nat.le_of_ble_eq_true rfl⟩) ⟨fun a U g mk q => by obtain ⟨q0, q1, qP, qK, qD⟩ := q; exact ⟨q0, q1, qP, va_K.moved (u := U) (U := U.calling g mk a) (Vm.Alike.refl U.vm) qK, qD⟩, fun U hU hW => ⟨rfl, by rw [hU], by rw [hU]; exact hPc, va_K.moved hW.alike hKc, hDc.weaken (fun _ _ _ _ => trivial)⟩⟩ rfl rfl hl.1 rfl (lv_room (Nat.le_of_ble_eq_true rfl)) d_BR_partCurve_2 ⟨Nat.le_of_ble_eq_true rfl, Nat.le_of_ble_eq_true rfl⟩) hS (fun q _ h => hFc q h) hFc (fun r5469 u t H1 locs ht hvm hw hB hz1 hk1 hS => ?_)
  have hP1 : va_P (dC, dI) cls_ [] H1 := fun k q h => by simp at h
  have hD1 : va_D (va_A [] s.heap.size) [] := ⟨fun i j p q h => by simp at h, fun k q h => by simp at h⟩
  obtain ⟨hP, hD⟩ := va_join (wr := [(h0, .inr (8, [.ref ki, .ref ko, .ref rx, .ref ry, .ref rn, .int (nI (rs)), .int (nI (be)), .int pp, .int pe, .int gb])), (ki, .inr (7, [.ref iw, .ref ib])), (ib, .inl (cS, 1152, .inl (fs)))]) (w1 := []) hP hD [] [0, 1, 2] rfl rfl (by decide) (by decide) hk1 hFc hP1 hD1
  generalize H1 = H at hP hS ⊢
  have hP : va_P (dC, dI) cls_ [(h0, .inr (8, [.ref ki, .ref ko, .ref rx, .ref ry, .ref rn, .int (nI (rs)), .int (nI (be)), .int pp, .int pe, .int gb])), (ki, .inr (7, [.ref iw, .ref ib])), (ib, .inl (cS, 1152, .inl (fs)))] H := hP
  have hD : va_D A [(h0, .inr (8, [.ref ki, .ref ko, .ref rx, .ref ry, .ref rn, .int (nI (rs)), .int (nI (be)), .int pp, .int pe, .int gb])), (ki, .inr (7, [.ref iw, .ref ib])), (ib, .inl (cS, 1152, .inl (fs)))] := hD
  have hw_r5469 := hw
  refine lv_istore (lv' := [(8, .int r5469), (0, .ref h0), (1, .int xp), (2, .int yp), (3, .int xq), (4, .int yq), (5, .int xr), (6, .int yr), (7, .int 2)]) hx hb d_BR_partCurve_5 hl (by decide) rfl (fun ls hl => ?_)
  refine lv_iload_n hx hb d_BR_partCurve_7 rfl (lv_at hl 3 rfl) ?_
  refine lv_iload hx hb d_BR_partCurve_8 (lv_at hl 5 rfl) ?_
  have hPc := hP.sub (ws' := []) [] rfl
  have hDc := hD.sub (ws' := []) [] (by decide) rfl
  have hKc := hK.sub (tys' := []) [] rfl
  have hFc := va_free (wc := []) hD hS hA [] rfl
  refine va_calli (va_runS (As := [.int yp, .int yq]) (rest := []) ⟨hx, hb, hml, hown, hts⟩ (g_BR_halfWay l dC dI yp yq H.size) (cwS 2 hts (tw_inS w_794 w_795 w_10 w_796) rfl rfl rfl (by decide +kernel) ⟨Nat.le_of_ble_eq_true rfl, Nat.le_of_ble_eq_true rfl⟩) ⟨fun a U g mk q => by obtain ⟨q0, q1, qP, qK, qD⟩ := q; exact ⟨q0, q1, qP, va_K.moved (u := U) (U := U.calling g mk a) (Vm.Alike.refl U.vm) qK, qD⟩, fun U hU hW => ⟨rfl, by rw [hU], by rw [hU]; exact hPc, va_K.moved hW.alike hKc, hDc.weaken (fun _ _ _ _ => trivial)⟩⟩ rfl rfl hl.1 rfl (lv_room (Nat.le_of_ble_eq_true rfl)) d_BR_partCurve_10 ⟨Nat.le_of_ble_eq_true rfl, Nat.le_of_ble_eq_true rfl⟩) hS (fun q _ h => hFc q h) hFc (fun r5470 u t H1 locs ht hvm hw hB hz1 hk1 hS => ?_)
  have hP1 : va_P (dC, dI) cls_ [] H1 := fun k q h => by simp at h
  have hD1 : va_D (va_A [] H.size) [] := ⟨fun i j p q h => by simp at h, fun k q h => by simp at h⟩
  obtain ⟨hP, hD⟩ := va_join (wr := [(h0, .inr (8, [.ref ki, .ref ko, .ref rx, .ref ry, .ref rn, .int (nI (rs)), .int (nI (be)), .int pp, .int pe, .int gb])), (ki, .inr (7, [.ref iw, .ref ib])), (ib, .inl (cS, 1152, .inl (fs)))]) (w1 := []) hP hD [] [0, 1, 2] rfl rfl (by decide) (by decide) hk1 hFc hP1 hD1
  generalize H1 = H at hP hS ⊢
  have hP : va_P (dC, dI) cls_ [(h0, .inr (8, [.ref ki, .ref ko, .ref rx, .ref ry, .ref rn, .int (nI (rs)), .int (nI (be)), .int pp, .int pe, .int gb])), (ki, .inr (7, [.ref iw, .ref ib])), (ib, .inl (cS, 1152, .inl (fs)))] H := hP
  have hD : va_D A [(h0, .inr (8, [.ref ki, .ref ko, .ref rx, .ref ry, .ref rn, .int (nI (rs)), .int (nI (be)), .int pp, .int pe, .int gb])), (ki, .inr (7, [.ref iw, .ref ib])), (ib, .inl (cS, 1152, .inl (fs)))] := hD
  have hw_r5470 := hw
  refine lv_istore (lv' := [(9, .int r5470), (8, .int r5469), (0, .ref h0), (1, .int xp), (2, .int yp), (3, .int xq), (4, .int yq), (5, .int xr), (6, .int yr), (7, .int 2)]) hx hb d_BR_partCurve_13 hl (by decide) rfl (fun ls hl => ?_)
  refine lv_iload_n hx hb d_BR_partCurve_15 rfl (lv_at hl 5 rfl) ?_
  refine lv_iload hx hb d_BR_partCurve_16 (lv_at hl 7 rfl) ?_
  have hPc := hP.sub (ws' := []) [] rfl
  have hDc := hD.sub (ws' := []) [] (by decide) rfl
  have hKc := hK.sub (tys' := []) [] rfl
  have hFc := va_free (wc := []) hD hS hA [] rfl
  refine va_calli (va_runS (As := [.int xq, .int xr]) (rest := []) ⟨hx, hb, hml, hown, hts⟩ (g_BR_halfWay l dC dI xq xr H.size) (cwS 2 hts (tw_inS w_794 w_795 w_10 w_796) rfl rfl rfl (by decide +kernel) ⟨Nat.le_of_ble_eq_true rfl, Nat.le_of_ble_eq_true rfl⟩) ⟨fun a U g mk q => by obtain ⟨q0, q1, qP, qK, qD⟩ := q; exact ⟨q0, q1, qP, va_K.moved (u := U) (U := U.calling g mk a) (Vm.Alike.refl U.vm) qK, qD⟩, fun U hU hW => ⟨rfl, by rw [hU], by rw [hU]; exact hPc, va_K.moved hW.alike hKc, hDc.weaken (fun _ _ _ _ => trivial)⟩⟩ rfl rfl hl.1 rfl (lv_room (Nat.le_of_ble_eq_true rfl)) d_BR_partCurve_18 ⟨Nat.le_of_ble_eq_true rfl, Nat.le_of_ble_eq_true rfl⟩) hS (fun q _ h => hFc q h) hFc (fun r5471 u t H1 locs ht hvm hw hB hz1 hk1 hS => ?_)
  have hP1 : va_P (dC, dI) cls_ [] H1 := fun k q h => by simp at h
  have hD1 : va_D (va_A [] H.size) [] := ⟨fun i j p q h => by simp at h, fun k q h => by simp at h⟩
  obtain ⟨hP, hD⟩ := va_join (wr := [(h0, .inr (8, [.ref ki, .ref ko, .ref rx, .ref ry, .ref rn, .int (nI (rs)), .int (nI (be)), .int pp, .int pe, .int gb])), (ki, .inr (7, [.ref iw, .ref ib])), (ib, .inl (cS, 1152, .inl (fs)))]) (w1 := []) hP hD [] [0, 1, 2] rfl rfl (by decide) (by decide) hk1 hFc hP1 hD1
  generalize H1 = H at hP hS ⊢
  have hP : va_P (dC, dI) cls_ [(h0, .inr (8, [.ref ki, .ref ko, .ref rx, .ref ry, .ref rn, .int (nI (rs)), .int (nI (be)), .int pp, .int pe, .int gb])), (ki, .inr (7, [.ref iw, .ref ib])), (ib, .inl (cS, 1152, .inl (fs)))] H := hP
  have hD : va_D A [(h0, .inr (8, [.ref ki, .ref ko, .ref rx, .ref ry, .ref rn, .int (nI (rs)), .int (nI (be)), .int pp, .int pe, .int gb])), (ki, .inr (7, [.ref iw, .ref ib])), (ib, .inl (cS, 1152, .inl (fs)))] := hD
  have hw_r5471 := hw
  refine lv_istore (lv' := [(10, .int r5471), (9, .int r5470), (8, .int r5469), (0, .ref h0), (1, .int xp), (2, .int yp), (3, .int xq), (4, .int yq), (5, .int xr), (6, .int yr), (7, .int 2)]) hx hb d_BR_partCurve_21 hl (by decide) rfl (fun ls hl => ?_)
  refine lv_iload hx hb d_BR_partCurve_23 (lv_at hl 7 rfl) ?_
  refine lv_iload hx hb d_BR_partCurve_25 (lv_at hl 9 rfl) ?_
  have hPc := hP.sub (ws' := []) [] rfl
  have hDc := hD.sub (ws' := []) [] (by decide) rfl
  have hKc := hK.sub (tys' := []) [] rfl
  have hFc := va_free (wc := []) hD hS hA [] rfl
  refine va_calli (va_runS (As := [.int yq, .int yr]) (rest := []) ⟨hx, hb, hml, hown, hts⟩ (g_BR_halfWay l dC dI yq yr H.size) (cwS 2 hts (tw_inS w_794 w_795 w_10 w_796) rfl rfl rfl (by decide +kernel) ⟨Nat.le_of_ble_eq_true rfl, Nat.le_of_ble_eq_true rfl⟩) ⟨fun a U g mk q => by obtain ⟨q0, q1, qP, qK, qD⟩ := q; exact ⟨q0, q1, qP, va_K.moved (u := U) (U := U.calling g mk a) (Vm.Alike.refl U.vm) qK, qD⟩, fun U hU hW => ⟨rfl, by rw [hU], by rw [hU]; exact hPc, va_K.moved hW.alike hKc, hDc.weaken (fun _ _ _ _ => trivial)⟩⟩ rfl rfl hl.1 rfl (lv_room (Nat.le_of_ble_eq_true rfl)) d_BR_partCurve_27 ⟨Nat.le_of_ble_eq_true rfl, Nat.le_of_ble_eq_true rfl⟩) hS (fun q _ h => hFc q h) hFc (fun r5472 u t H1 locs ht hvm hw hB hz1 hk1 hS => ?_)
  have hP1 : va_P (dC, dI) cls_ [] H1 := fun k q h => by simp at h
  have hD1 : va_D (va_A [] H.size) [] := ⟨fun i j p q h => by simp at h, fun k q h => by simp at h⟩
  obtain ⟨hP, hD⟩ := va_join (wr := [(h0, .inr (8, [.ref ki, .ref ko, .ref rx, .ref ry, .ref rn, .int (nI (rs)), .int (nI (be)), .int pp, .int pe, .int gb])), (ki, .inr (7, [.ref iw, .ref ib])), (ib, .inl (cS, 1152, .inl (fs)))]) (w1 := []) hP hD [] [0, 1, 2] rfl rfl (by decide) (by decide) hk1 hFc hP1 hD1
  generalize H1 = H at hP hS ⊢
  have hP : va_P (dC, dI) cls_ [(h0, .inr (8, [.ref ki, .ref ko, .ref rx, .ref ry, .ref rn, .int (nI (rs)), .int (nI (be)), .int pp, .int pe, .int gb])), (ki, .inr (7, [.ref iw, .ref ib])), (ib, .inl (cS, 1152, .inl (fs)))] H := hP
  have hD : va_D A [(h0, .inr (8, [.ref ki, .ref ko, .ref rx, .ref ry, .ref rn, .int (nI (rs)), .int (nI (be)), .int pp, .int pe, .int gb])), (ki, .inr (7, [.ref iw, .ref ib])), (ib, .inl (cS, 1152, .inl (fs)))] := hD
  have hw_r5472 := hw
  refine lv_istore (lv' := [(11, .int r5472), (10, .int r5471), (9, .int r5470), (8, .int r5469), (0, .ref h0), (1, .int xp), (2, .int yp), (3, .int xq), (4, .int yq), (5, .int xr), (6, .int yr), (7, .int 2)]) hx hb d_BR_partCurve_30 hl (by decide) rfl (fun ls hl => ?_)
  refine lv_iload hx hb d_BR_partCurve_32 (lv_at hl 3 rfl) ?_
  refine lv_iload hx hb d_BR_partCurve_34 (lv_at hl 1 rfl) ?_
  have hPc := hP.sub (ws' := []) [] rfl
  have hDc := hD.sub (ws' := []) [] (by decide) rfl
  have hKc := hK.sub (tys' := []) [] rfl
  have hFc := va_free (wc := []) hD hS hA [] rfl
  refine va_calli (va_runS (As := [.int r5469, .int r5471]) (rest := []) ⟨hx, hb, hml, hown, hts⟩ (g_BR_halfWay l dC dI r5469 r5471 H.size) (cwS 2 hts (tw_inS w_794 w_795 w_10 w_796) rfl rfl rfl (by decide +kernel) ⟨Nat.le_of_ble_eq_true rfl, Nat.le_of_ble_eq_true rfl⟩) ⟨fun a U g mk q => by obtain ⟨q0, q1, qP, qK, qD⟩ := q; exact ⟨q0, q1, qP, va_K.moved (u := U) (U := U.calling g mk a) (Vm.Alike.refl U.vm) qK, qD⟩, fun U hU hW => ⟨rfl, by rw [hU], by rw [hU]; exact hPc, va_K.moved hW.alike hKc, hDc.weaken (fun _ _ _ _ => trivial)⟩⟩ rfl rfl hl.1 rfl (lv_room (Nat.le_of_ble_eq_true rfl)) d_BR_partCurve_36 ⟨Nat.le_of_ble_eq_true rfl, Nat.le_of_ble_eq_true rfl⟩) hS (fun q _ h => hFc q h) hFc (fun r5473 u t H1 locs ht hvm hw hB hz1 hk1 hS => ?_)
  have hP1 : va_P (dC, dI) cls_ [] H1 := fun k q h => by simp at h
  have hD1 : va_D (va_A [] H.size) [] := ⟨fun i j p q h => by simp at h, fun k q h => by simp at h⟩
  obtain ⟨hP, hD⟩ := va_join (wr := [(h0, .inr (8, [.ref ki, .ref ko, .ref rx, .ref ry, .ref rn, .int (nI (rs)), .int (nI (be)), .int pp, .int pe, .int gb])), (ki, .inr (7, [.ref iw, .ref ib])), (ib, .inl (cS, 1152, .inl (fs)))]) (w1 := []) hP hD [] [0, 1, 2] rfl rfl (by decide) (by decide) hk1 hFc hP1 hD1
  generalize H1 = H at hP hS ⊢
  have hP : va_P (dC, dI) cls_ [(h0, .inr (8, [.ref ki, .ref ko, .ref rx, .ref ry, .ref rn, .int (nI (rs)), .int (nI (be)), .int pp, .int pe, .int gb])), (ki, .inr (7, [.ref iw, .ref ib])), (ib, .inl (cS, 1152, .inl (fs)))] H := hP
  have hD : va_D A [(h0, .inr (8, [.ref ki, .ref ko, .ref rx, .ref ry, .ref rn, .int (nI (rs)), .int (nI (be)), .int pp, .int pe, .int gb])), (ki, .inr (7, [.ref iw, .ref ib])), (ib, .inl (cS, 1152, .inl (fs)))] := hD
  have hw_r5473 := hw
  refine lv_istore (lv' := [(12, .int r5473), (11, .int r5472), (10, .int r5471), (9, .int r5470), (8, .int r5469), (0, .ref h0), (1, .int xp), (2, .int yp), (3, .int xq), (4, .int yq), (5, .int xr), (6, .int yr), (7, .int 2)]) hx hb d_BR_partCurve_39 hl (by decide) rfl (fun ls hl => ?_)
  refine lv_iload hx hb d_BR_partCurve_41 (lv_at hl 3 rfl) ?_
  refine lv_iload hx hb d_BR_partCurve_43 (lv_at hl 1 rfl) ?_
  have hPc := hP.sub (ws' := []) [] rfl
  have hDc := hD.sub (ws' := []) [] (by decide) rfl
  have hKc := hK.sub (tys' := []) [] rfl
  have hFc := va_free (wc := []) hD hS hA [] rfl
  refine va_calli (va_runS (As := [.int r5470, .int r5472]) (rest := []) ⟨hx, hb, hml, hown, hts⟩ (g_BR_halfWay l dC dI r5470 r5472 H.size) (cwS 2 hts (tw_inS w_794 w_795 w_10 w_796) rfl rfl rfl (by decide +kernel) ⟨Nat.le_of_ble_eq_true rfl, Nat.le_of_ble_eq_true rfl⟩) ⟨fun a U g mk q => by obtain ⟨q0, q1, qP, qK, qD⟩ := q; exact ⟨q0, q1, qP, va_K.moved (u := U) (U := U.calling g mk a) (Vm.Alike.refl U.vm) qK, qD⟩, fun U hU hW => ⟨rfl, by rw [hU], by rw [hU]; exact hPc, va_K.moved hW.alike hKc, hDc.weaken (fun _ _ _ _ => trivial)⟩⟩ rfl rfl hl.1 rfl (lv_room (Nat.le_of_ble_eq_true rfl)) d_BR_partCurve_45 ⟨Nat.le_of_ble_eq_true rfl, Nat.le_of_ble_eq_true rfl⟩) hS (fun q _ h => hFc q h) hFc (fun r5474 u t H1 locs ht hvm hw hB hz1 hk1 hS => ?_)
  have hP1 : va_P (dC, dI) cls_ [] H1 := fun k q h => by simp at h
  have hD1 : va_D (va_A [] H.size) [] := ⟨fun i j p q h => by simp at h, fun k q h => by simp at h⟩
  obtain ⟨hP, hD⟩ := va_join (wr := [(h0, .inr (8, [.ref ki, .ref ko, .ref rx, .ref ry, .ref rn, .int (nI (rs)), .int (nI (be)), .int pp, .int pe, .int gb])), (ki, .inr (7, [.ref iw, .ref ib])), (ib, .inl (cS, 1152, .inl (fs)))]) (w1 := []) hP hD [] [0, 1, 2] rfl rfl (by decide) (by decide) hk1 hFc hP1 hD1
  generalize H1 = H at hP hS ⊢
  have hP : va_P (dC, dI) cls_ [(h0, .inr (8, [.ref ki, .ref ko, .ref rx, .ref ry, .ref rn, .int (nI (rs)), .int (nI (be)), .int pp, .int pe, .int gb])), (ki, .inr (7, [.ref iw, .ref ib])), (ib, .inl (cS, 1152, .inl (fs)))] H := hP
  have hD : va_D A [(h0, .inr (8, [.ref ki, .ref ko, .ref rx, .ref ry, .ref rn, .int (nI (rs)), .int (nI (be)), .int pp, .int pe, .int gb])), (ki, .inr (7, [.ref iw, .ref ib])), (ib, .inl (cS, 1152, .inl (fs)))] := hD
  have hw_r5474 := hw
  refine lv_istore (lv' := [(13, .int r5474), (12, .int r5473), (11, .int r5472), (10, .int r5471), (9, .int r5470), (8, .int r5469), (0, .ref h0), (1, .int xp), (2, .int yp), (3, .int xq), (4, .int yq), (5, .int xr), (6, .int yr), (7, .int 2)]) hx hb d_BR_partCurve_48 hl (by decide) rfl (fun ls hl => ?_)
  refine lv_aload_n hx hb d_BR_partCurve_50 rfl (lv_at hl 6 rfl) ?_
  refine lv_iload_n hx hb d_BR_partCurve_51 rfl (lv_at hl 7 rfl) ?_
  refine lv_iload_n hx hb d_BR_partCurve_52 rfl (lv_at hl 8 rfl) ?_
  refine lv_iload hx hb d_BR_partCurve_53 (lv_at hl 5 rfl) ?_
  refine lv_iload hx hb d_BR_partCurve_55 (lv_at hl 4 rfl) ?_
  refine lv_iload hx hb d_BR_partCurve_57 (lv_at hl 1 rfl) ?_
  refine lv_iload hx hb d_BR_partCurve_59 (lv_at hl 0 rfl) ?_
  refine lv_iload hx hb d_BR_partCurve_61 (lv_at hl 13 rfl) ?_
  have hPc := hP.sub (ws' := [(h0, .inr (8, [.ref ki, .ref ko, .ref rx, .ref ry, .ref rn, .int (nI (rs)), .int (nI (be)), .int pp, .int pe, .int gb])), (ki, .inr (7, [.ref iw, .ref ib])), (ib, .inl (cS, 1152, .inl (fs)))]) [0, 1, 2] rfl
  have hDc := hD.sub (ws' := [(h0, .inr (8, [.ref ki, .ref ko, .ref rx, .ref ry, .ref rn, .int (nI (rs)), .int (nI (be)), .int pp, .int pe, .int gb])), (ki, .inr (7, [.ref iw, .ref ib])), (ib, .inl (cS, 1152, .inl (fs)))]) [0, 1, 2] (by decide) rfl
  have hKc := hK.sub (tys' := [(cS, .int)]) [0] rfl
  have hFc := va_free (wc := [(h0, .inr (8, [.ref ki, .ref ko, .ref rx, .ref ry, .ref rn, .int (nI (rs)), .int (nI (be)), .int pp, .int pe, .int gb])), (ki, .inr (7, [.ref iw, .ref ib])), (ib, .inl (cS, 1152, .inl (fs)))]) hD hS hA [0, 1, 2] rfl
  refine va_callv (va_runV (As := [.int xp, .int yp, .int r5469, .int r5470, .int r5473, .int r5474, .int 2]) (rest := []) ⟨hx, hb, hml, hown, hts⟩ (g_BR_paintCurve2 l dC dI h0 ki ko rx ry rn rs be pp pe gb iw ib cS fs xp yp r5469 r5470 r5473 r5474 H.size) (cwV 7 hts (tw_inV w_814 w_816 wp_32 w_10 w_817) rfl rfl rfl (by decide +kernel) ⟨Nat.le_of_ble_eq_true rfl, Nat.le_of_ble_eq_true rfl⟩) ⟨fun a U g mk q => by obtain ⟨q0, q1, qP, qK, qD, qE0⟩ := q; exact ⟨q0, q1, qP, va_K.moved (u := U) (U := U.calling g mk a) (Vm.Alike.refl U.vm) qK, qD, nests.call qE0⟩, va_recv (hK := hK) (hP := hP) (q0 := 0) (ci := 8) rfl rfl, fun U hU hW => ⟨rfl, by rw [hU], by rw [hU]; exact hPc, va_K.moved hW.alike hKc, hDc.weaken (fun _ _ _ _ => trivial), nests.warm hW hNs⟩⟩ rfl rfl hl.1 rfl (lv_room (Nat.le_of_ble_eq_true rfl)) d_BR_partCurve_63 ⟨Nat.le_of_ble_eq_true rfl, Nat.le_of_ble_eq_true rfl⟩) hS (fun q _ h => hFc q h) hFc (fun u t H1 locs ht hvm hw hB hz1 hk1 hS => ?_)
  obtain ⟨gs_5475, hP1, hK1, hD1⟩ := hB
  rw [ht] at hP1
  have hK1 := va_K.moved hvm.symm hK1
  obtain ⟨hP, hD⟩ := va_join (wr := []) (w1 := [(h0, .inr (8, [.ref ki, .ref ko, .ref rx, .ref ry, .ref rn, .int (nI (rs)), .int (nI (be)), .int pp, .int pe, .int gb])), (ki, .inr (7, [.ref iw, .ref ib])), (ib, .inl (cS, 1152, .inl (gs_5475)))]) hP hD [0, 1, 2] [] rfl rfl (by decide) (by decide) hk1 hFc hP1 hD1
  have hK := (hK.sub (tys' := []) [] rfl).app hK1
  generalize H1 = H at hP hS ⊢
  have hP : va_P (dC, dI) cls_ [(h0, .inr (8, [.ref ki, .ref ko, .ref rx, .ref ry, .ref rn, .int (nI (rs)), .int (nI (be)), .int pp, .int pe, .int gb])), (ki, .inr (7, [.ref iw, .ref ib])), (ib, .inl (cS, 1152, .inl (gs_5475)))] H := hP
  have hD : va_D A [(h0, .inr (8, [.ref ki, .ref ko, .ref rx, .ref ry, .ref rn, .int (nI (rs)), .int (nI (be)), .int pp, .int pe, .int gb])), (ki, .inr (7, [.ref iw, .ref ib])), (ib, .inl (cS, 1152, .inl (gs_5475)))] := hD
  have hK : va_K (dC, dI) cls_ [(cS, .int)] s := hK
  refine lv_aload_n hx hb d_BR_partCurve_66 rfl (lv_at hl 6 rfl) ?_
  refine lv_iload hx hb d_BR_partCurve_67 (lv_at hl 1 rfl) ?_
  refine lv_iload hx hb d_BR_partCurve_69 (lv_at hl 0 rfl) ?_
  refine lv_iload hx hb d_BR_partCurve_71 (lv_at hl 3 rfl) ?_
  refine lv_iload hx hb d_BR_partCurve_73 (lv_at hl 2 rfl) ?_
  refine lv_iload hx hb d_BR_partCurve_75 (lv_at hl 11 rfl) ?_
  refine lv_iload hx hb d_BR_partCurve_77 (lv_at hl 12 rfl) ?_
  refine lv_iload hx hb d_BR_partCurve_79 (lv_at hl 13 rfl) ?_
  have hPc := hP.sub (ws' := [(h0, .inr (8, [.ref ki, .ref ko, .ref rx, .ref ry, .ref rn, .int (nI (rs)), .int (nI (be)), .int pp, .int pe, .int gb])), (ki, .inr (7, [.ref iw, .ref ib])), (ib, .inl (cS, 1152, .inl (gs_5475)))]) [0, 1, 2] rfl
  have hDc := hD.sub (ws' := [(h0, .inr (8, [.ref ki, .ref ko, .ref rx, .ref ry, .ref rn, .int (nI (rs)), .int (nI (be)), .int pp, .int pe, .int gb])), (ki, .inr (7, [.ref iw, .ref ib])), (ib, .inl (cS, 1152, .inl (gs_5475)))]) [0, 1, 2] (by decide) rfl
  have hKc := hK.sub (tys' := [(cS, .int)]) [0] rfl
  have hFc := va_free (wc := [(h0, .inr (8, [.ref ki, .ref ko, .ref rx, .ref ry, .ref rn, .int (nI (rs)), .int (nI (be)), .int pp, .int pe, .int gb])), (ki, .inr (7, [.ref iw, .ref ib])), (ib, .inl (cS, 1152, .inl (gs_5475)))]) hD hS hA [0, 1, 2] rfl
  refine va_callv (va_runV (As := [.int r5473, .int r5474, .int r5471, .int r5472, .int xr, .int yr, .int 2]) (rest := []) ⟨hx, hb, hml, hown, hts⟩ (g_BR_paintCurve2 l dC dI h0 ki ko rx ry rn rs be pp pe gb iw ib cS gs_5475 r5473 r5474 r5471 r5472 xr yr H.size) (cwV 7 hts (tw_inV w_814 w_816 wp_32 w_10 w_817) rfl rfl rfl (by decide +kernel) ⟨Nat.le_of_ble_eq_true rfl, Nat.le_of_ble_eq_true rfl⟩) ⟨fun a U g mk q => by obtain ⟨q0, q1, qP, qK, qD, qE0⟩ := q; exact ⟨q0, q1, qP, va_K.moved (u := U) (U := U.calling g mk a) (Vm.Alike.refl U.vm) qK, qD, nests.call qE0⟩, va_recv (hK := hK) (hP := hP) (q0 := 0) (ci := 8) rfl rfl, fun U hU hW => ⟨rfl, by rw [hU], by rw [hU]; exact hPc, va_K.moved hW.alike hKc, hDc.weaken (fun _ _ _ _ => trivial), nests.warm hW hNs⟩⟩ rfl rfl hl.1 rfl (lv_room (Nat.le_of_ble_eq_true rfl)) d_BR_partCurve_81 ⟨Nat.le_of_ble_eq_true rfl, Nat.le_of_ble_eq_true rfl⟩) hS (fun q _ h => hFc q h) hFc (fun u t H1 locs ht hvm hw hB hz1 hk1 hS => ?_)
  obtain ⟨gs_5476, hP1, hK1, hD1⟩ := hB
  rw [ht] at hP1
  have hK1 := va_K.moved hvm.symm hK1
  obtain ⟨hP, hD⟩ := va_join (wr := []) (w1 := [(h0, .inr (8, [.ref ki, .ref ko, .ref rx, .ref ry, .ref rn, .int (nI (rs)), .int (nI (be)), .int pp, .int pe, .int gb])), (ki, .inr (7, [.ref iw, .ref ib])), (ib, .inl (cS, 1152, .inl (gs_5476)))]) hP hD [0, 1, 2] [] rfl rfl (by decide) (by decide) hk1 hFc hP1 hD1
  have hK := (hK.sub (tys' := []) [] rfl).app hK1
  generalize H1 = H at hP hS ⊢
  have hP : va_P (dC, dI) cls_ [(h0, .inr (8, [.ref ki, .ref ko, .ref rx, .ref ry, .ref rn, .int (nI (rs)), .int (nI (be)), .int pp, .int pe, .int gb])), (ki, .inr (7, [.ref iw, .ref ib])), (ib, .inl (cS, 1152, .inl (gs_5476)))] H := hP
  have hD : va_D A [(h0, .inr (8, [.ref ki, .ref ko, .ref rx, .ref ry, .ref rn, .int (nI (rs)), .int (nI (be)), .int pp, .int pe, .int gb])), (ki, .inr (7, [.ref iw, .ref ib])), (ib, .inl (cS, 1152, .inl (gs_5476)))] := hD
  have hK : va_K (dC, dI) cls_ [(cS, .int)] s := hK
  refine W.widen (k := 0) (n := 0) (Nat.le_of_ble_eq_true rfl) (Nat.le_of_ble_eq_true rfl) ?_
  have hP9 := hP.sub (ws' := [(h0, .inr (8, [.ref ki, .ref ko, .ref rx, .ref ry, .ref rn, .int (nI (rs)), .int (nI (be)), .int pp, .int pe, .int gb])), (ki, .inr (7, [.ref iw, .ref ib])), (ib, .inl (cS, 1152, .inl (gs_5476)))]) [0, 1, 2] rfl
  have hD9 := hD.sub (ws' := [(h0, .inr (8, [.ref ki, .ref ko, .ref rx, .ref ry, .ref rn, .int (nI (rs)), .int (nI (be)), .int pp, .int pe, .int gb])), (ki, .inr (7, [.ref iw, .ref ib])), (ib, .inl (cS, 1152, .inl (gs_5476)))]) [0, 1, 2] (by decide) rfl
  have hK9 := hK.sub (tys' := [(cS, .int)]) [0] rfl
  exact W.vret hx hb hr (fun t ht hW => ⟨⟨(), rfl, trivial, gs_5476, by rw [ht]; exact hP9, va_K.moved hW.alike hK9, hD9⟩, hS.F ht⟩) hS.2.2 d_BR_partCurve_84
set_option maxHeartbeats 4000000 in
set_option maxRecDepth 100000 in
/-- GlyphLines$Brush.paintCurve -/
theorem g_BR_paintCurve1 (l : Launch) (dC : Nat → ClassId) (dI : Nat → Nat → Nat) (h0 : Nat) (ki : Nat) (ko : Nat) (rx : Nat) (ry : Nat) (rn : Nat) (rs : Nat) (be : Nat) (pp : Int32) (pe : Int32) (gb : Int32) (iw : Nat) (ib : Nat) (cS : ClassId) (fs : Nat → Int32) (xp : Int32) (yp : Int32) (xq : Int32) (yq : Int32) (xr : Int32) (yr : Int32) (sz : Nat) : Met l y_BR_paintCurve s_BR_paintCurve ({ frames := 40, cells := 0, slots := 0, locals := 1360 }) (va_Pc [.ref h0, .int xp, .int yp, .int xq, .int yq, .int xr, .int yr, .int 1] (fun U => U.heap.size = sz ∧ va_P (dC, dI) cls_ [(h0, .inr (8, [.ref ki, .ref ko, .ref rx, .ref ry, .ref rn, .int (nI (rs)), .int (nI (be)), .int pp, .int pe, .int gb])), (ki, .inr (7, [.ref iw, .ref ib])), (ib, .inl (cS, 1152, .inl (fs)))] U.heap ∧ va_K (dC, dI) cls_ [(cS, .int)] U ∧ va_D (fun _ => True) [(h0, .inr (8, [.ref ki, .ref ko, .ref rx, .ref ry, .ref rn, .int (nI (rs)), .int (nI (be)), .int pp, .int pe, .int gb])), (ki, .inr (7, [.ref iw, .ref ib])), (ib, .inl (cS, 1152, .inl (fs)))] ∧ nests U)) (va_Qv (fun _ : Unit => True) (fun (_ : Unit) (t : State) => ∃ (gs : Nat → Int32), va_P (dC, dI) cls_ [(h0, .inr (8, [.ref ki, .ref ko, .ref rx, .ref ry, .ref rn, .int (nI (rs)), .int (nI (be)), .int pp, .int pe, .int gb])), (ki, .inr (7, [.ref iw, .ref ib])), (ib, .inl (cS, 1152, .inl (gs)))] t.heap ∧ va_K (dC, dI) cls_ [(cS, .int)] t ∧ va_D (va_A [(h0, .inr (8, [.ref ki, .ref ko, .ref rx, .ref ry, .ref rn, .int (nI (rs)), .int (nI (be)), .int pp, .int pe, .int gb])), (ki, .inr (7, [.ref iw, .ref ib])), (ib, .inl (cS, 1152, .inl (fs)))] sz) [(h0, .inr (8, [.ref ki, .ref ko, .ref rx, .ref ry, .ref rn, .int (nI (rs)), .int (nI (be)), .int pp, .int pe, .int gb])), (ki, .inr (7, [.ref iw, .ref ib])), (ib, .inl (cS, 1152, .inl (gs)))]) (va_A [(h0, .inr (8, [.ref ki, .ref ko, .ref rx, .ref ry, .ref rn, .int (nI (rs)), .int (nI (be)), .int pp, .int pe, .int gb])), (ki, .inr (7, [.ref iw, .ref ib])), (ib, .inl (cS, 1152, .inl (fs)))] sz)) 0 0 (va_A [(h0, .inr (8, [.ref ki, .ref ko, .ref rx, .ref ry, .ref rn, .int (nI (rs)), .int (nI (be)), .int pp, .int pe, .int gb])), (ki, .inr (7, [.ref iw, .ref ib])), (ib, .inl (cS, 1152, .inl (fs)))] sz) := by
  refine Met.ofW (cc := b_BR_paintCurve) (maxL := 8) (ret := none) (by decide) rfl ?_
  intro p e s m args below meth c s₁ B hml hv
  obtain ⟨rfl, hsz, hP, hK, hD0, hNs⟩ := hv
  have hx := B.exec
  have hb := B.bytes
  have hr := B.returns
  have hts := atoms_spec (ws := s_BR_paintCurve) B.pre
  have hown : s.vm.findClass R_BR = some m.cls := findClass_of_methodNamed B.named
  have hlocks := B.notSynchronized
  subst hsz
  have hD := hD0.self (sz := s.heap.size)
  generalize hAe : va_A [(h0, .inr (8, [.ref ki, .ref ko, .ref rx, .ref ry, .ref rn, .int (nI (rs)), .int (nI (be)), .int pp, .int pe, .int gb])), (ki, .inr (7, [.ref iw, .ref ib])), (ib, .inl (cS, 1152, .inl (fs)))] s.heap.size = A at hD ⊢
  have hA : ∀ q : Nat, s.heap.size ≤ q → A q := fun q h => by rw [← hAe]; exact Or.inr h
  have hS : va_S A s.heap s.heap [] := va_S.rf
  have hP : va_P (dC, dI) cls_ [(h0, .inr (8, [.ref ki, .ref ko, .ref rx, .ref ry, .ref rn, .int (nI (rs)), .int (nI (be)), .int pp, .int pe, .int gb])), (ki, .inr (7, [.ref iw, .ref ib])), (ib, .inl (cS, 1152, .inl (fs)))] s.heap := hP
  have hl := lv_entry ([.ref h0, .int xp, .int yp, .int xq, .int yq, .int xr, .int yr, .int 1]) (n := 8) (Nat.le_of_ble_eq_true rfl)
  rw [lg_entry_eq]
  generalize (lg_sl ([.ref h0, .int xp, .int yp, .int xq, .int yq, .int xr, .int yr, .int 1]) ++ List.replicate (8 - (lg_sl ([.ref h0, .int xp, .int yp, .int xq, .int yq, .int xr, .int yr, .int 1])).length) Slot.unset).toArray = ls at hl ⊢
  have hl : lv_has ls 8 [(0, .ref h0), (1, .int xp), (2, .int yp), (3, .int xq), (4, .int yq), (5, .int xr), (6, .int yr), (7, .int 1)] := hl
  refine lv_iload hx hb d_BR_paintCurve_0 (lv_at hl 7 rfl) ?_
  refine lv_bipush (v := 6) hx hb d_BR_paintCurve_2 (by decide) ?_
  refine lv_icmp_ge (tgt := 28) hx hb d_BR_paintCurve_4 (by decide) (fun hc => absurd hc (by decide +kernel)) (fun _ => ?_)
  refine lv_iload_n hx hb d_BR_paintCurve_7 rfl (lv_at hl 3 rfl) ?_
  refine lv_iload_n hx hb d_BR_paintCurve_8 rfl (lv_at hl 1 rfl) ?_
  refine lv_isub hx hb d_BR_paintCurve_9 ?_
  refine lv_topi (fun v5477 ev5477 => ?_)
  refine lv_iload hx hb d_BR_paintCurve_10 (lv_at hl 4 rfl) ?_
  refine lv_iload_n hx hb d_BR_paintCurve_12 rfl (lv_at hl 2 rfl) ?_
  refine lv_isub hx hb d_BR_paintCurve_13 ?_
  refine lv_topi (fun v5478 ev5478 => ?_)
  refine lv_iload hx hb d_BR_paintCurve_14 (lv_at hl 5 rfl) ?_
  refine lv_iload_n hx hb d_BR_paintCurve_16 rfl (lv_at hl 1 rfl) ?_
  refine lv_isub hx hb d_BR_paintCurve_17 ?_
  refine lv_topi (fun v5479 ev5479 => ?_)
  refine lv_iload hx hb d_BR_paintCurve_18 (lv_at hl 6 rfl) ?_
  refine lv_iload_n hx hb d_BR_paintCurve_20 rfl (lv_at hl 2 rfl) ?_
  refine lv_isub hx hb d_BR_paintCurve_21 ?_
  refine lv_topi (fun v5480 ev5480 => ?_)
  have hPc := hP.sub (ws' := []) [] rfl
  have hDc := hD.sub (ws' := []) [] (by decide) rfl
  have hKc := hK.sub (tys' := []) [] rfl
  have hFc := va_free (wc := []) hD hS hA [] rfl
  refine va_calli (va_runS (As := [.int v5477, .int v5478, .int v5479, .int v5480]) (rest := []) ⟨hx, hb, hml, hown, hts⟩ (g_BR_isFlat l dC dI v5477 v5478 v5479 v5480 s.heap.size) (cwS 4 hts (tw_inS w_818 w_819 w_10 w_820) rfl rfl rfl (by decide +kernel) ⟨Nat.le_of_ble_eq_true rfl, Nat.le_of_ble_eq_true rfl⟩) ⟨fun a U g mk q => by obtain ⟨q0, q1, qP, qK, qD⟩ := q; exact ⟨q0, q1, qP, va_K.moved (u := U) (U := U.calling g mk a) (Vm.Alike.refl U.vm) qK, qD⟩, fun U hU hW => ⟨rfl, by rw [hU], by rw [hU]; exact hPc, va_K.moved hW.alike hKc, hDc.weaken (fun _ _ _ _ => trivial)⟩⟩ rfl rfl hl.1 rfl (lv_room (Nat.le_of_ble_eq_true rfl)) d_BR_paintCurve_22 ⟨Nat.le_of_ble_eq_true rfl, Nat.le_of_ble_eq_true rfl⟩) hS (fun q _ h => hFc q h) hFc (fun r5481 u t H1 locs ht hvm hw hB hz1 hk1 hS => ?_)
  have hP1 : va_P (dC, dI) cls_ [] H1 := fun k q h => by simp at h
  have hD1 : va_D (va_A [] s.heap.size) [] := ⟨fun i j p q h => by simp at h, fun k q h => by simp at h⟩
  obtain ⟨hP, hD⟩ := va_join (wr := [(h0, .inr (8, [.ref ki, .ref ko, .ref rx, .ref ry, .ref rn, .int (nI (rs)), .int (nI (be)), .int pp, .int pe, .int gb])), (ki, .inr (7, [.ref iw, .ref ib])), (ib, .inl (cS, 1152, .inl (fs)))]) (w1 := []) hP hD [] [0, 1, 2] rfl rfl (by decide) (by decide) hk1 hFc hP1 hD1
  generalize H1 = H at hP hS ⊢
  have hP : va_P (dC, dI) cls_ [(h0, .inr (8, [.ref ki, .ref ko, .ref rx, .ref ry, .ref rn, .int (nI (rs)), .int (nI (be)), .int pp, .int pe, .int gb])), (ki, .inr (7, [.ref iw, .ref ib])), (ib, .inl (cS, 1152, .inl (fs)))] H := hP
  have hD : va_D A [(h0, .inr (8, [.ref ki, .ref ko, .ref rx, .ref ry, .ref rn, .int (nI (rs)), .int (nI (be)), .int pp, .int pe, .int gb])), (ki, .inr (7, [.ref iw, .ref ib])), (ib, .inl (cS, 1152, .inl (fs)))] := hD
  have hw_r5481 := hw
  obtain ⟨bb5482, rfl⟩ := hw_r5481
  refine lv_if_eq (tgt := 44) hx hb d_BR_paintCurve_25 (by decide) (fun hc5483 => ?_) (fun hc5483 => ?_)
  · skip
    have hc5483b : bb5482 = false := bI_0 hc5483
    refine lv_aload_n hx hb d_BR_paintCurve_44 rfl (lv_at hl 0 rfl) ?_
    refine lv_iload_n hx hb d_BR_paintCurve_45 rfl (lv_at hl 1 rfl) ?_
    refine lv_iload_n hx hb d_BR_paintCurve_46 rfl (lv_at hl 2 rfl) ?_
    refine lv_iload_n hx hb d_BR_paintCurve_47 rfl (lv_at hl 3 rfl) ?_
    refine lv_iload hx hb d_BR_paintCurve_48 (lv_at hl 4 rfl) ?_
    refine lv_iload hx hb d_BR_paintCurve_50 (lv_at hl 5 rfl) ?_
    refine lv_iload hx hb d_BR_paintCurve_52 (lv_at hl 6 rfl) ?_
    refine lv_iload hx hb d_BR_paintCurve_54 (lv_at hl 7 rfl) ?_
    refine lv_iconst (v := 1) hx hb d_BR_paintCurve_56 (by decide) ?_
    refine lv_iadd hx hb d_BR_paintCurve_57 ?_
    refine lv_ci (y := 2) (by decide +kernel) ?_
    have hPc := hP.sub (ws' := [(h0, .inr (8, [.ref ki, .ref ko, .ref rx, .ref ry, .ref rn, .int (nI (rs)), .int (nI (be)), .int pp, .int pe, .int gb])), (ki, .inr (7, [.ref iw, .ref ib])), (ib, .inl (cS, 1152, .inl (fs)))]) [0, 1, 2] rfl
    have hDc := hD.sub (ws' := [(h0, .inr (8, [.ref ki, .ref ko, .ref rx, .ref ry, .ref rn, .int (nI (rs)), .int (nI (be)), .int pp, .int pe, .int gb])), (ki, .inr (7, [.ref iw, .ref ib])), (ib, .inl (cS, 1152, .inl (fs)))]) [0, 1, 2] (by decide) rfl
    have hKc := hK.sub (tys' := [(cS, .int)]) [0] rfl
    have hFc := va_free (wc := [(h0, .inr (8, [.ref ki, .ref ko, .ref rx, .ref ry, .ref rn, .int (nI (rs)), .int (nI (be)), .int pp, .int pe, .int gb])), (ki, .inr (7, [.ref iw, .ref ib])), (ib, .inl (cS, 1152, .inl (fs)))]) hD hS hA [0, 1, 2] rfl
    refine va_callv (va_runV (As := [.int xp, .int yp, .int xq, .int yq, .int xr, .int yr, .int 2]) (rest := []) ⟨hx, hb, hml, hown, hts⟩ (g_BR_partCurve2 l dC dI h0 ki ko rx ry rn rs be pp pe gb iw ib cS fs xp yp xq yq xr yr H.size) (cwV 7 hts (tw_inV w_829 w_831 wp_33 w_10 w_832) rfl rfl rfl (by decide +kernel) ⟨Nat.le_of_ble_eq_true rfl, Nat.le_of_ble_eq_true rfl⟩) ⟨fun a U g mk q => by obtain ⟨q0, q1, qP, qK, qD, qE0⟩ := q; exact ⟨q0, q1, qP, va_K.moved (u := U) (U := U.calling g mk a) (Vm.Alike.refl U.vm) qK, qD, nests.call qE0⟩, va_recv (hK := hK) (hP := hP) (q0 := 0) (ci := 8) rfl rfl, fun U hU hW => ⟨rfl, by rw [hU], by rw [hU]; exact hPc, va_K.moved hW.alike hKc, hDc.weaken (fun _ _ _ _ => trivial), nests.warm hW hNs⟩⟩ rfl rfl hl.1 rfl (lv_room (Nat.le_of_ble_eq_true rfl)) d_BR_paintCurve_58 ⟨Nat.le_of_ble_eq_true rfl, Nat.le_of_ble_eq_true rfl⟩) hS (fun q _ h => hFc q h) hFc (fun u t H1 locs ht hvm hw hB hz1 hk1 hS => ?_)
    obtain ⟨gs_5484, hP1, hK1, hD1⟩ := hB
    rw [ht] at hP1
    have hK1 := va_K.moved hvm.symm hK1
    obtain ⟨hP, hD⟩ := va_join (wr := []) (w1 := [(h0, .inr (8, [.ref ki, .ref ko, .ref rx, .ref ry, .ref rn, .int (nI (rs)), .int (nI (be)), .int pp, .int pe, .int gb])), (ki, .inr (7, [.ref iw, .ref ib])), (ib, .inl (cS, 1152, .inl (gs_5484)))]) hP hD [0, 1, 2] [] rfl rfl (by decide) (by decide) hk1 hFc hP1 hD1
    have hK := (hK.sub (tys' := []) [] rfl).app hK1
    generalize H1 = H at hP hS ⊢
    have hP : va_P (dC, dI) cls_ [(h0, .inr (8, [.ref ki, .ref ko, .ref rx, .ref ry, .ref rn, .int (nI (rs)), .int (nI (be)), .int pp, .int pe, .int gb])), (ki, .inr (7, [.ref iw, .ref ib])), (ib, .inl (cS, 1152, .inl (gs_5484)))] H := hP
    have hD : va_D A [(h0, .inr (8, [.ref ki, .ref ko, .ref rx, .ref ry, .ref rn, .int (nI (rs)), .int (nI (be)), .int pp, .int pe, .int gb])), (ki, .inr (7, [.ref iw, .ref ib])), (ib, .inl (cS, 1152, .inl (gs_5484)))] := hD
    have hK : va_K (dC, dI) cls_ [(cS, .int)] s := hK
    refine W.widen (k := 0) (n := 0) (Nat.le_of_ble_eq_true rfl) (Nat.le_of_ble_eq_true rfl) ?_
    have hP9 := hP.sub (ws' := [(h0, .inr (8, [.ref ki, .ref ko, .ref rx, .ref ry, .ref rn, .int (nI (rs)), .int (nI (be)), .int pp, .int pe, .int gb])), (ki, .inr (7, [.ref iw, .ref ib])), (ib, .inl (cS, 1152, .inl (gs_5484)))]) [0, 1, 2] rfl
    have hD9 := hD.sub (ws' := [(h0, .inr (8, [.ref ki, .ref ko, .ref rx, .ref ry, .ref rn, .int (nI (rs)), .int (nI (be)), .int pp, .int pe, .int gb])), (ki, .inr (7, [.ref iw, .ref ib])), (ib, .inl (cS, 1152, .inl (gs_5484)))]) [0, 1, 2] (by decide) rfl
    have hK9 := hK.sub (tys' := [(cS, .int)]) [0] rfl
    exact W.vret hx hb hr (fun t ht hW => ⟨⟨(), rfl, trivial, gs_5484, by rw [ht]; exact hP9, va_K.moved hW.alike hK9, hD9⟩, hS.F ht⟩) hS.2.2 d_BR_paintCurve_61
  · skip
    have hc5483b : bb5482 = true := bI_1 hc5483
    refine lv_aload_n hx hb d_BR_paintCurve_28 rfl (lv_at hl 0 rfl) ?_
    refine va_get (D := (dC, dI)) (ci := 8) (v := .ref ki) (C := R_BR) (T := F_BR) (N := 10) hx hb hts in_BR hown hK hP 0 rfl rfl 0 (by decide) (hts _ (List.mem_cons_of_mem _ w_255)) (fun _ h9 => h9) rfl d_BR_paintCurve_29 ?_
    refine lv_iload_n hx hb d_BR_paintCurve_32 rfl (lv_at hl 1 rfl) ?_
    refine lv_iload_n hx hb d_BR_paintCurve_33 rfl (lv_at hl 2 rfl) ?_
    refine lv_iload hx hb d_BR_paintCurve_34 (lv_at hl 5 rfl) ?_
    refine lv_iload hx hb d_BR_paintCurve_36 (lv_at hl 6 rfl) ?_
    have hPc := hP.sub (ws' := [(ki, .inr (7, [.ref iw, .ref ib])), (ib, .inl (cS, 1152, .inl (fs)))]) [1, 2] rfl
    have hDc := hD.sub (ws' := [(ki, .inr (7, [.ref iw, .ref ib])), (ib, .inl (cS, 1152, .inl (fs)))]) [1, 2] (by decide) rfl
    have hKc := hK.sub (tys' := [(cS, .int)]) [0] rfl
    have hFc := va_free (wc := [(ki, .inr (7, [.ref iw, .ref ib])), (ib, .inl (cS, 1152, .inl (fs)))]) hD hS hA [1, 2] rfl
    refine va_callv (va_runV (As := [.int xp, .int yp, .int xr, .int yr]) (rest := []) ⟨hx, hb, hml, hown, hts⟩ (g_PI_addLine l dC dI ki iw ib cS fs xp yp xr yr H.size) (cwV 4 hts (tw_inV w_801 w_802 w_803 w_9 w_804) rfl rfl rfl (by decide +kernel) ⟨Nat.le_of_ble_eq_true rfl, Nat.le_of_ble_eq_true rfl⟩) ⟨fun a U g mk q => by obtain ⟨q0, q1, qP, qK, qD⟩ := q; exact ⟨q0, q1, qP, va_K.moved (u := U) (U := U.calling g mk a) (Vm.Alike.refl U.vm) qK, qD⟩, va_recv (hK := hK) (hP := hP) (q0 := 1) (ci := 7) rfl rfl, fun U hU hW => ⟨rfl, by rw [hU], by rw [hU]; exact hPc, va_K.moved hW.alike hKc, hDc.weaken (fun _ _ _ _ => trivial)⟩⟩ rfl rfl hl.1 rfl (lv_room (Nat.le_of_ble_eq_true rfl)) d_BR_paintCurve_38 ⟨Nat.le_of_ble_eq_true rfl, Nat.le_of_ble_eq_true rfl⟩) hS (fun q _ h => hFc q h) hFc (fun u t H1 locs ht hvm hw hB hz1 hk1 hS => ?_)
    obtain ⟨gs_5485, hP1, hK1, hD1⟩ := hB
    rw [ht] at hP1
    have hK1 := va_K.moved hvm.symm hK1
    obtain ⟨hP, hD⟩ := va_join (wr := [(h0, .inr (8, [.ref ki, .ref ko, .ref rx, .ref ry, .ref rn, .int (nI (rs)), .int (nI (be)), .int pp, .int pe, .int gb]))]) (w1 := [(ki, .inr (7, [.ref iw, .ref ib])), (ib, .inl (cS, 1152, .inl (gs_5485)))]) hP hD [1, 2] [0] rfl rfl (by decide) (by decide) hk1 hFc hP1 hD1
    have hK := (hK.sub (tys' := []) [] rfl).app hK1
    generalize H1 = H at hP hS ⊢
    have hP : va_P (dC, dI) cls_ [(h0, .inr (8, [.ref ki, .ref ko, .ref rx, .ref ry, .ref rn, .int (nI (rs)), .int (nI (be)), .int pp, .int pe, .int gb])), (ki, .inr (7, [.ref iw, .ref ib])), (ib, .inl (cS, 1152, .inl (gs_5485)))] H := hP
    have hD : va_D A [(h0, .inr (8, [.ref ki, .ref ko, .ref rx, .ref ry, .ref rn, .int (nI (rs)), .int (nI (be)), .int pp, .int pe, .int gb])), (ki, .inr (7, [.ref iw, .ref ib])), (ib, .inl (cS, 1152, .inl (gs_5485)))] := hD
    have hK : va_K (dC, dI) cls_ [(cS, .int)] s := hK
    refine lv_goto (tgt := 61) hx hb d_BR_paintCurve_41 (by decide) ?_
    refine W.widen (k := 0) (n := 0) (Nat.le_of_ble_eq_true rfl) (Nat.le_of_ble_eq_true rfl) ?_
    have hP9 := hP.sub (ws' := [(h0, .inr (8, [.ref ki, .ref ko, .ref rx, .ref ry, .ref rn, .int (nI (rs)), .int (nI (be)), .int pp, .int pe, .int gb])), (ki, .inr (7, [.ref iw, .ref ib])), (ib, .inl (cS, 1152, .inl (gs_5485)))]) [0, 1, 2] rfl
    have hD9 := hD.sub (ws' := [(h0, .inr (8, [.ref ki, .ref ko, .ref rx, .ref ry, .ref rn, .int (nI (rs)), .int (nI (be)), .int pp, .int pe, .int gb])), (ki, .inr (7, [.ref iw, .ref ib])), (ib, .inl (cS, 1152, .inl (gs_5485)))]) [0, 1, 2] (by decide) rfl
    have hK9 := hK.sub (tys' := [(cS, .int)]) [0] rfl
    exact W.vret hx hb hr (fun t ht hW => ⟨⟨(), rfl, trivial, gs_5485, by rw [ht]; exact hP9, va_K.moved hW.alike hK9, hD9⟩, hS.F ht⟩) hS.2.2 d_BR_paintCurve_61
set_option maxHeartbeats 4000000 in
set_option maxRecDepth 100000 in
/-- GlyphLines$Brush.partCurve -/
theorem g_BR_partCurve1 (l : Launch) (dC : Nat → ClassId) (dI : Nat → Nat → Nat) (h0 : Nat) (ki : Nat) (ko : Nat) (rx : Nat) (ry : Nat) (rn : Nat) (rs : Nat) (be : Nat) (pp : Int32) (pe : Int32) (gb : Int32) (iw : Nat) (ib : Nat) (cS : ClassId) (fs : Nat → Int32) (xp : Int32) (yp : Int32) (xq : Int32) (yq : Int32) (xr : Int32) (yr : Int32) (sz : Nat) : Met l y_BR_partCurve s_BR_partCurve ({ frames := 42, cells := 0, slots := 0, locals := 1420 }) (va_Pc [.ref h0, .int xp, .int yp, .int xq, .int yq, .int xr, .int yr, .int 1] (fun U => U.heap.size = sz ∧ va_P (dC, dI) cls_ [(h0, .inr (8, [.ref ki, .ref ko, .ref rx, .ref ry, .ref rn, .int (nI (rs)), .int (nI (be)), .int pp, .int pe, .int gb])), (ki, .inr (7, [.ref iw, .ref ib])), (ib, .inl (cS, 1152, .inl (fs)))] U.heap ∧ va_K (dC, dI) cls_ [(cS, .int)] U ∧ va_D (fun _ => True) [(h0, .inr (8, [.ref ki, .ref ko, .ref rx, .ref ry, .ref rn, .int (nI (rs)), .int (nI (be)), .int pp, .int pe, .int gb])), (ki, .inr (7, [.ref iw, .ref ib])), (ib, .inl (cS, 1152, .inl (fs)))] ∧ nests U)) (va_Qv (fun _ : Unit => True) (fun (_ : Unit) (t : State) => ∃ (gs : Nat → Int32), va_P (dC, dI) cls_ [(h0, .inr (8, [.ref ki, .ref ko, .ref rx, .ref ry, .ref rn, .int (nI (rs)), .int (nI (be)), .int pp, .int pe, .int gb])), (ki, .inr (7, [.ref iw, .ref ib])), (ib, .inl (cS, 1152, .inl (gs)))] t.heap ∧ va_K (dC, dI) cls_ [(cS, .int)] t ∧ va_D (va_A [(h0, .inr (8, [.ref ki, .ref ko, .ref rx, .ref ry, .ref rn, .int (nI (rs)), .int (nI (be)), .int pp, .int pe, .int gb])), (ki, .inr (7, [.ref iw, .ref ib])), (ib, .inl (cS, 1152, .inl (fs)))] sz) [(h0, .inr (8, [.ref ki, .ref ko, .ref rx, .ref ry, .ref rn, .int (nI (rs)), .int (nI (be)), .int pp, .int pe, .int gb])), (ki, .inr (7, [.ref iw, .ref ib])), (ib, .inl (cS, 1152, .inl (gs)))]) (va_A [(h0, .inr (8, [.ref ki, .ref ko, .ref rx, .ref ry, .ref rn, .int (nI (rs)), .int (nI (be)), .int pp, .int pe, .int gb])), (ki, .inr (7, [.ref iw, .ref ib])), (ib, .inl (cS, 1152, .inl (fs)))] sz)) 0 0 (va_A [(h0, .inr (8, [.ref ki, .ref ko, .ref rx, .ref ry, .ref rn, .int (nI (rs)), .int (nI (be)), .int pp, .int pe, .int gb])), (ki, .inr (7, [.ref iw, .ref ib])), (ib, .inl (cS, 1152, .inl (fs)))] sz) := by
  refine Met.ofW (cc := b_BR_partCurve) (maxL := 14) (ret := none) (by decide) rfl ?_
  intro p e s m args below meth c s₁ B hml hv
  obtain ⟨rfl, hsz, hP, hK, hD0, hNs⟩ := hv
  have hx := B.exec
  have hb := B.bytes
  have hr := B.returns
  have hts := atoms_spec (ws := s_BR_partCurve) B.pre
  have hown : s.vm.findClass R_BR = some m.cls := findClass_of_methodNamed B.named
  have hlocks := B.notSynchronized
  subst hsz
  have hD := hD0.self (sz := s.heap.size)
  generalize hAe : va_A [(h0, .inr (8, [.ref ki, .ref ko, .ref rx, .ref ry, .ref rn, .int (nI (rs)), .int (nI (be)), .int pp, .int pe, .int gb])), (ki, .inr (7, [.ref iw, .ref ib])), (ib, .inl (cS, 1152, .inl (fs)))] s.heap.size = A at hD ⊢
  have hA : ∀ q : Nat, s.heap.size ≤ q → A q := fun q h => by rw [← hAe]; exact Or.inr h
  have hS : va_S A s.heap s.heap [] := va_S.rf
  have hP : va_P (dC, dI) cls_ [(h0, .inr (8, [.ref ki, .ref ko, .ref rx, .ref ry, .ref rn, .int (nI (rs)), .int (nI (be)), .int pp, .int pe, .int gb])), (ki, .inr (7, [.ref iw, .ref ib])), (ib, .inl (cS, 1152, .inl (fs)))] s.heap := hP
  have hl := lv_entry ([.ref h0, .int xp, .int yp, .int xq, .int yq, .int xr, .int yr, .int 1]) (n := 14) (Nat.le_of_ble_eq_true rfl)
  rw [lg_entry_eq]
  generalize (lg_sl ([.ref h0, .int xp, .int yp, .int xq, .int yq, .int xr, .int yr, .int 1]) ++ List.replicate (14 - (lg_sl ([.ref h0, .int xp, .int yp, .int xq, .int yq, .int xr, .int yr, .int 1])).length) Slot.unset).toArray = ls at hl ⊢
  have hl : lv_has ls 14 [(0, .ref h0), (1, .int xp), (2, .int yp), (3, .int xq), (4, .int yq), (5, .int xr), (6, .int yr), (7, .int 1)] := hl
  refine lv_iload_n hx hb d_BR_partCurve_0 rfl (lv_at hl 1 rfl) ?_
  refine lv_iload_n hx hb d_BR_partCurve_1 rfl (lv_at hl 3 rfl) ?_
  have hPc := hP.sub (ws' := []) [] rfl
  have hDc := hD.sub (ws' := []) [] (by decide) rfl
  have hKc := hK.sub (tys' := []) [] rfl
  have hFc := va_free (wc := []) hD hS hA [] rfl
  refine va_calli (va_runS (As := [.int xp, .int xq]) (rest := []) ⟨hx, hb, hml, hown, hts⟩ (g_BR_halfWay l dC dI xp xq s.heap.size) (cwS 2 hts (tw_inS w_794 w_795 w_10 w_796) rfl rfl rfl (by decide +kernel) ⟨Nat.le_of_ble_eq_true rfl, Nat.le_of_ble_eq_true rfl⟩) ⟨fun a U g mk q => by obtain ⟨q0, q1, qP, qK, qD⟩ := q; exact ⟨q0, q1, qP, va_K.moved (u := U) (U := U.calling g mk a) (Vm.Alike.refl U.vm) qK, qD⟩, fun U hU hW => ⟨rfl, by rw [hU], by rw [hU]; exact hPc, va_K.moved hW.alike hKc, hDc.weaken (fun _ _ _ _ => trivial)⟩⟩ rfl rfl hl.1 rfl (lv_room (Nat.le_of_ble_eq_true rfl)) d_BR_partCurve_2 ⟨Nat.le_of_ble_eq_true rfl, Nat.le_of_ble_eq_true rfl⟩) hS (fun q _ h => hFc q h) hFc (fun r5486 u t H1 locs ht hvm hw hB hz1 hk1 hS => ?_)
  have hP1 : va_P (dC, dI) cls_ [] H1 := fun k q h => by simp at h
  have hD1 : va_D (va_A [] s.heap.size) [] := ⟨fun i j p q h => by simp at h, fun k q h => by simp at h⟩
  obtain ⟨hP, hD⟩ := va_join (wr := [(h0, .inr (8, [.ref ki, .ref ko, .ref rx, .ref ry, .ref rn, .int (nI (rs)), .int (nI (be)), .int pp, .int pe, .int gb])), (ki, .inr (7, [.ref iw, .ref ib])), (ib, .inl (cS, 1152, .inl (fs)))]) (w1 := []) hP hD [] [0, 1, 2] rfl rfl (by decide) (by decide) hk1 hFc hP1 hD1
  generalize H1 = H at hP hS ⊢
  have hP : va_P (dC, dI) cls_ [(h0, .inr (8, [.ref ki, .ref ko, .ref rx, .ref ry, .ref rn, .int (nI (rs)), .int (nI (be)), .int pp, .int pe, .int gb])), (ki, .inr (7, [.ref iw, .ref ib])), (ib, .inl (cS, 1152, .inl (fs)))] H := hP
  have hD : va_D A [(h0, .inr (8, [.ref ki, .ref ko, .ref rx, .ref ry, .ref rn, .int (nI (rs)), .int (nI (be)), .int pp, .int pe, .int gb])), (ki, .inr (7, [.ref iw, .ref ib])), (ib, .inl (cS, 1152, .inl (fs)))] := hD
  have hw_r5486 := hw
  refine lv_istore (lv' := [(8, .int r5486), (0, .ref h0), (1, .int xp), (2, .int yp), (3, .int xq), (4, .int yq), (5, .int xr), (6, .int yr), (7, .int 1)]) hx hb d_BR_partCurve_5 hl (by decide) rfl (fun ls hl => ?_)
  refine lv_iload_n hx hb d_BR_partCurve_7 rfl (lv_at hl 3 rfl) ?_
  refine lv_iload hx hb d_BR_partCurve_8 (lv_at hl 5 rfl) ?_
  have hPc := hP.sub (ws' := []) [] rfl
  have hDc := hD.sub (ws' := []) [] (by decide) rfl
  have hKc := hK.sub (tys' := []) [] rfl
  have hFc := va_free (wc := []) hD hS hA [] rfl
  refine va_calli (va_runS (As := [.int yp, .int yq]) (rest := []) ⟨hx, hb, hml, hown, hts⟩ (g_BR_halfWay l dC dI yp yq H.size) (cwS 2 hts (tw_inS w_794 w_795 w_10 w_796) rfl rfl rfl (by decide +kernel) ⟨Nat.le_of_ble_eq_true rfl, Nat.le_of_ble_eq_true rfl⟩) ⟨fun a U g mk q => by obtain ⟨q0, q1, qP, qK, qD⟩ := q; exact ⟨q0, q1, qP, va_K.moved (u := U) (U := U.calling g mk a) (Vm.Alike.refl U.vm) qK, qD⟩, fun U hU hW => ⟨rfl, by rw [hU], by rw [hU]; exact hPc, va_K.moved hW.alike hKc, hDc.weaken (fun _ _ _ _ => trivial)⟩⟩ rfl rfl hl.1 rfl (lv_room (Nat.le_of_ble_eq_true rfl)) d_BR_partCurve_10 ⟨Nat.le_of_ble_eq_true rfl, Nat.le_of_ble_eq_true rfl⟩) hS (fun q _ h => hFc q h) hFc (fun r5487 u t H1 locs ht hvm hw hB hz1 hk1 hS => ?_)
  have hP1 : va_P (dC, dI) cls_ [] H1 := fun k q h => by simp at h
  have hD1 : va_D (va_A [] H.size) [] := ⟨fun i j p q h => by simp at h, fun k q h => by simp at h⟩
  obtain ⟨hP, hD⟩ := va_join (wr := [(h0, .inr (8, [.ref ki, .ref ko, .ref rx, .ref ry, .ref rn, .int (nI (rs)), .int (nI (be)), .int pp, .int pe, .int gb])), (ki, .inr (7, [.ref iw, .ref ib])), (ib, .inl (cS, 1152, .inl (fs)))]) (w1 := []) hP hD [] [0, 1, 2] rfl rfl (by decide) (by decide) hk1 hFc hP1 hD1
  generalize H1 = H at hP hS ⊢
  have hP : va_P (dC, dI) cls_ [(h0, .inr (8, [.ref ki, .ref ko, .ref rx, .ref ry, .ref rn, .int (nI (rs)), .int (nI (be)), .int pp, .int pe, .int gb])), (ki, .inr (7, [.ref iw, .ref ib])), (ib, .inl (cS, 1152, .inl (fs)))] H := hP
  have hD : va_D A [(h0, .inr (8, [.ref ki, .ref ko, .ref rx, .ref ry, .ref rn, .int (nI (rs)), .int (nI (be)), .int pp, .int pe, .int gb])), (ki, .inr (7, [.ref iw, .ref ib])), (ib, .inl (cS, 1152, .inl (fs)))] := hD
  have hw_r5487 := hw
  refine lv_istore (lv' := [(9, .int r5487), (8, .int r5486), (0, .ref h0), (1, .int xp), (2, .int yp), (3, .int xq), (4, .int yq), (5, .int xr), (6, .int yr), (7, .int 1)]) hx hb d_BR_partCurve_13 hl (by decide) rfl (fun ls hl => ?_)
  refine lv_iload_n hx hb d_BR_partCurve_15 rfl (lv_at hl 5 rfl) ?_
  refine lv_iload hx hb d_BR_partCurve_16 (lv_at hl 7 rfl) ?_
  have hPc := hP.sub (ws' := []) [] rfl
  have hDc := hD.sub (ws' := []) [] (by decide) rfl
  have hKc := hK.sub (tys' := []) [] rfl
  have hFc := va_free (wc := []) hD hS hA [] rfl
  refine va_calli (va_runS (As := [.int xq, .int xr]) (rest := []) ⟨hx, hb, hml, hown, hts⟩ (g_BR_halfWay l dC dI xq xr H.size) (cwS 2 hts (tw_inS w_794 w_795 w_10 w_796) rfl rfl rfl (by decide +kernel) ⟨Nat.le_of_ble_eq_true rfl, Nat.le_of_ble_eq_true rfl⟩) ⟨fun a U g mk q => by obtain ⟨q0, q1, qP, qK, qD⟩ := q; exact ⟨q0, q1, qP, va_K.moved (u := U) (U := U.calling g mk a) (Vm.Alike.refl U.vm) qK, qD⟩, fun U hU hW => ⟨rfl, by rw [hU], by rw [hU]; exact hPc, va_K.moved hW.alike hKc, hDc.weaken (fun _ _ _ _ => trivial)⟩⟩ rfl rfl hl.1 rfl (lv_room (Nat.le_of_ble_eq_true rfl)) d_BR_partCurve_18 ⟨Nat.le_of_ble_eq_true rfl, Nat.le_of_ble_eq_true rfl⟩) hS (fun q _ h => hFc q h) hFc (fun r5488 u t H1 locs ht hvm hw hB hz1 hk1 hS => ?_)
  have hP1 : va_P (dC, dI) cls_ [] H1 := fun k q h => by simp at h
  have hD1 : va_D (va_A [] H.size) [] := ⟨fun i j p q h => by simp at h, fun k q h => by simp at h⟩
  obtain ⟨hP, hD⟩ := va_join (wr := [(h0, .inr (8, [.ref ki, .ref ko, .ref rx, .ref ry, .ref rn, .int (nI (rs)), .int (nI (be)), .int pp, .int pe, .int gb])), (ki, .inr (7, [.ref iw, .ref ib])), (ib, .inl (cS, 1152, .inl (fs)))]) (w1 := []) hP hD [] [0, 1, 2] rfl rfl (by decide) (by decide) hk1 hFc hP1 hD1
  generalize H1 = H at hP hS ⊢
  have hP : va_P (dC, dI) cls_ [(h0, .inr (8, [.ref ki, .ref ko, .ref rx, .ref ry, .ref rn, .int (nI (rs)), .int (nI (be)), .int pp, .int pe, .int gb])), (ki, .inr (7, [.ref iw, .ref ib])), (ib, .inl (cS, 1152, .inl (fs)))] H := hP
  have hD : va_D A [(h0, .inr (8, [.ref ki, .ref ko, .ref rx, .ref ry, .ref rn, .int (nI (rs)), .int (nI (be)), .int pp, .int pe, .int gb])), (ki, .inr (7, [.ref iw, .ref ib])), (ib, .inl (cS, 1152, .inl (fs)))] := hD
  have hw_r5488 := hw
  refine lv_istore (lv' := [(10, .int r5488), (9, .int r5487), (8, .int r5486), (0, .ref h0), (1, .int xp), (2, .int yp), (3, .int xq), (4, .int yq), (5, .int xr), (6, .int yr), (7, .int 1)]) hx hb d_BR_partCurve_21 hl (by decide) rfl (fun ls hl => ?_)
  refine lv_iload hx hb d_BR_partCurve_23 (lv_at hl 7 rfl) ?_
  refine lv_iload hx hb d_BR_partCurve_25 (lv_at hl 9 rfl) ?_
  have hPc := hP.sub (ws' := []) [] rfl
  have hDc := hD.sub (ws' := []) [] (by decide) rfl
  have hKc := hK.sub (tys' := []) [] rfl
  have hFc := va_free (wc := []) hD hS hA [] rfl
  refine va_calli (va_runS (As := [.int yq, .int yr]) (rest := []) ⟨hx, hb, hml, hown, hts⟩ (g_BR_halfWay l dC dI yq yr H.size) (cwS 2 hts (tw_inS w_794 w_795 w_10 w_796) rfl rfl rfl (by decide +kernel) ⟨Nat.le_of_ble_eq_true rfl, Nat.le_of_ble_eq_true rfl⟩) ⟨fun a U g mk q => by obtain ⟨q0, q1, qP, qK, qD⟩ := q; exact ⟨q0, q1, qP, va_K.moved (u := U) (U := U.calling g mk a) (Vm.Alike.refl U.vm) qK, qD⟩, fun U hU hW => ⟨rfl, by rw [hU], by rw [hU]; exact hPc, va_K.moved hW.alike hKc, hDc.weaken (fun _ _ _ _ => trivial)⟩⟩ rfl rfl hl.1 rfl (lv_room (Nat.le_of_ble_eq_true rfl)) d_BR_partCurve_27 ⟨Nat.le_of_ble_eq_true rfl, Nat.le_of_ble_eq_true rfl⟩) hS (fun q _ h => hFc q h) hFc (fun r5489 u t H1 locs ht hvm hw hB hz1 hk1 hS => ?_)
  have hP1 : va_P (dC, dI) cls_ [] H1 := fun k q h => by simp at h
  have hD1 : va_D (va_A [] H.size) [] := ⟨fun i j p q h => by simp at h, fun k q h => by simp at h⟩
  obtain ⟨hP, hD⟩ := va_join (wr := [(h0, .inr (8, [.ref ki, .ref ko, .ref rx, .ref ry, .ref rn, .int (nI (rs)), .int (nI (be)), .int pp, .int pe, .int gb])), (ki, .inr (7, [.ref iw, .ref ib])), (ib, .inl (cS, 1152, .inl (fs)))]) (w1 := []) hP hD [] [0, 1, 2] rfl rfl (by decide) (by decide) hk1 hFc hP1 hD1
  generalize H1 = H at hP hS ⊢
  have hP : va_P (dC, dI) cls_ [(h0, .inr (8, [.ref ki, .ref ko, .ref rx, .ref ry, .ref rn, .int (nI (rs)), .int (nI (be)), .int pp, .int pe, .int gb])), (ki, .inr (7, [.ref iw, .ref ib])), (ib, .inl (cS, 1152, .inl (fs)))] H := hP
  have hD : va_D A [(h0, .inr (8, [.ref ki, .ref ko, .ref rx, .ref ry, .ref rn, .int (nI (rs)), .int (nI (be)), .int pp, .int pe, .int gb])), (ki, .inr (7, [.ref iw, .ref ib])), (ib, .inl (cS, 1152, .inl (fs)))] := hD
  have hw_r5489 := hw
  refine lv_istore (lv' := [(11, .int r5489), (10, .int r5488), (9, .int r5487), (8, .int r5486), (0, .ref h0), (1, .int xp), (2, .int yp), (3, .int xq), (4, .int yq), (5, .int xr), (6, .int yr), (7, .int 1)]) hx hb d_BR_partCurve_30 hl (by decide) rfl (fun ls hl => ?_)
  refine lv_iload hx hb d_BR_partCurve_32 (lv_at hl 3 rfl) ?_
  refine lv_iload hx hb d_BR_partCurve_34 (lv_at hl 1 rfl) ?_
  have hPc := hP.sub (ws' := []) [] rfl
  have hDc := hD.sub (ws' := []) [] (by decide) rfl
  have hKc := hK.sub (tys' := []) [] rfl
  have hFc := va_free (wc := []) hD hS hA [] rfl
  refine va_calli (va_runS (As := [.int r5486, .int r5488]) (rest := []) ⟨hx, hb, hml, hown, hts⟩ (g_BR_halfWay l dC dI r5486 r5488 H.size) (cwS 2 hts (tw_inS w_794 w_795 w_10 w_796) rfl rfl rfl (by decide +kernel) ⟨Nat.le_of_ble_eq_true rfl, Nat.le_of_ble_eq_true rfl⟩) ⟨fun a U g mk q => by obtain ⟨q0, q1, qP, qK, qD⟩ := q; exact ⟨q0, q1, qP, va_K.moved (u := U) (U := U.calling g mk a) (Vm.Alike.refl U.vm) qK, qD⟩, fun U hU hW => ⟨rfl, by rw [hU], by rw [hU]; exact hPc, va_K.moved hW.alike hKc, hDc.weaken (fun _ _ _ _ => trivial)⟩⟩ rfl rfl hl.1 rfl (lv_room (Nat.le_of_ble_eq_true rfl)) d_BR_partCurve_36 ⟨Nat.le_of_ble_eq_true rfl, Nat.le_of_ble_eq_true rfl⟩) hS (fun q _ h => hFc q h) hFc (fun r5490 u t H1 locs ht hvm hw hB hz1 hk1 hS => ?_)
  have hP1 : va_P (dC, dI) cls_ [] H1 := fun k q h => by simp at h
  have hD1 : va_D (va_A [] H.size) [] := ⟨fun i j p q h => by simp at h, fun k q h => by simp at h⟩
  obtain ⟨hP, hD⟩ := va_join (wr := [(h0, .inr (8, [.ref ki, .ref ko, .ref rx, .ref ry, .ref rn, .int (nI (rs)), .int (nI (be)), .int pp, .int pe, .int gb])), (ki, .inr (7, [.ref iw, .ref ib])), (ib, .inl (cS, 1152, .inl (fs)))]) (w1 := []) hP hD [] [0, 1, 2] rfl rfl (by decide) (by decide) hk1 hFc hP1 hD1
  generalize H1 = H at hP hS ⊢
  have hP : va_P (dC, dI) cls_ [(h0, .inr (8, [.ref ki, .ref ko, .ref rx, .ref ry, .ref rn, .int (nI (rs)), .int (nI (be)), .int pp, .int pe, .int gb])), (ki, .inr (7, [.ref iw, .ref ib])), (ib, .inl (cS, 1152, .inl (fs)))] H := hP
  have hD : va_D A [(h0, .inr (8, [.ref ki, .ref ko, .ref rx, .ref ry, .ref rn, .int (nI (rs)), .int (nI (be)), .int pp, .int pe, .int gb])), (ki, .inr (7, [.ref iw, .ref ib])), (ib, .inl (cS, 1152, .inl (fs)))] := hD
  have hw_r5490 := hw
  refine lv_istore (lv' := [(12, .int r5490), (11, .int r5489), (10, .int r5488), (9, .int r5487), (8, .int r5486), (0, .ref h0), (1, .int xp), (2, .int yp), (3, .int xq), (4, .int yq), (5, .int xr), (6, .int yr), (7, .int 1)]) hx hb d_BR_partCurve_39 hl (by decide) rfl (fun ls hl => ?_)
  refine lv_iload hx hb d_BR_partCurve_41 (lv_at hl 3 rfl) ?_
  refine lv_iload hx hb d_BR_partCurve_43 (lv_at hl 1 rfl) ?_
  have hPc := hP.sub (ws' := []) [] rfl
  have hDc := hD.sub (ws' := []) [] (by decide) rfl
  have hKc := hK.sub (tys' := []) [] rfl
  have hFc := va_free (wc := []) hD hS hA [] rfl
  refine va_calli (va_runS (As := [.int r5487, .int r5489]) (rest := []) ⟨hx, hb, hml, hown, hts⟩ (g_BR_halfWay l dC dI r5487 r5489 H.size) (cwS 2 hts (tw_inS w_794 w_795 w_10 w_796) rfl rfl rfl (by decide +kernel) ⟨Nat.le_of_ble_eq_true rfl, Nat.le_of_ble_eq_true rfl⟩) ⟨fun a U g mk q => by obtain ⟨q0, q1, qP, qK, qD⟩ := q; exact ⟨q0, q1, qP, va_K.moved (u := U) (U := U.calling g mk a) (Vm.Alike.refl U.vm) qK, qD⟩, fun U hU hW => ⟨rfl, by rw [hU], by rw [hU]; exact hPc, va_K.moved hW.alike hKc, hDc.weaken (fun _ _ _ _ => trivial)⟩⟩ rfl rfl hl.1 rfl (lv_room (Nat.le_of_ble_eq_true rfl)) d_BR_partCurve_45 ⟨Nat.le_of_ble_eq_true rfl, Nat.le_of_ble_eq_true rfl⟩) hS (fun q _ h => hFc q h) hFc (fun r5491 u t H1 locs ht hvm hw hB hz1 hk1 hS => ?_)
  have hP1 : va_P (dC, dI) cls_ [] H1 := fun k q h => by simp at h
  have hD1 : va_D (va_A [] H.size) [] := ⟨fun i j p q h => by simp at h, fun k q h => by simp at h⟩
  obtain ⟨hP, hD⟩ := va_join (wr := [(h0, .inr (8, [.ref ki, .ref ko, .ref rx, .ref ry, .ref rn, .int (nI (rs)), .int (nI (be)), .int pp, .int pe, .int gb])), (ki, .inr (7, [.ref iw, .ref ib])), (ib, .inl (cS, 1152, .inl (fs)))]) (w1 := []) hP hD [] [0, 1, 2] rfl rfl (by decide) (by decide) hk1 hFc hP1 hD1
  generalize H1 = H at hP hS ⊢
  have hP : va_P (dC, dI) cls_ [(h0, .inr (8, [.ref ki, .ref ko, .ref rx, .ref ry, .ref rn, .int (nI (rs)), .int (nI (be)), .int pp, .int pe, .int gb])), (ki, .inr (7, [.ref iw, .ref ib])), (ib, .inl (cS, 1152, .inl (fs)))] H := hP
  have hD : va_D A [(h0, .inr (8, [.ref ki, .ref ko, .ref rx, .ref ry, .ref rn, .int (nI (rs)), .int (nI (be)), .int pp, .int pe, .int gb])), (ki, .inr (7, [.ref iw, .ref ib])), (ib, .inl (cS, 1152, .inl (fs)))] := hD
  have hw_r5491 := hw
  refine lv_istore (lv' := [(13, .int r5491), (12, .int r5490), (11, .int r5489), (10, .int r5488), (9, .int r5487), (8, .int r5486), (0, .ref h0), (1, .int xp), (2, .int yp), (3, .int xq), (4, .int yq), (5, .int xr), (6, .int yr), (7, .int 1)]) hx hb d_BR_partCurve_48 hl (by decide) rfl (fun ls hl => ?_)
  refine lv_aload_n hx hb d_BR_partCurve_50 rfl (lv_at hl 6 rfl) ?_
  refine lv_iload_n hx hb d_BR_partCurve_51 rfl (lv_at hl 7 rfl) ?_
  refine lv_iload_n hx hb d_BR_partCurve_52 rfl (lv_at hl 8 rfl) ?_
  refine lv_iload hx hb d_BR_partCurve_53 (lv_at hl 5 rfl) ?_
  refine lv_iload hx hb d_BR_partCurve_55 (lv_at hl 4 rfl) ?_
  refine lv_iload hx hb d_BR_partCurve_57 (lv_at hl 1 rfl) ?_
  refine lv_iload hx hb d_BR_partCurve_59 (lv_at hl 0 rfl) ?_
  refine lv_iload hx hb d_BR_partCurve_61 (lv_at hl 13 rfl) ?_
  have hPc := hP.sub (ws' := [(h0, .inr (8, [.ref ki, .ref ko, .ref rx, .ref ry, .ref rn, .int (nI (rs)), .int (nI (be)), .int pp, .int pe, .int gb])), (ki, .inr (7, [.ref iw, .ref ib])), (ib, .inl (cS, 1152, .inl (fs)))]) [0, 1, 2] rfl
  have hDc := hD.sub (ws' := [(h0, .inr (8, [.ref ki, .ref ko, .ref rx, .ref ry, .ref rn, .int (nI (rs)), .int (nI (be)), .int pp, .int pe, .int gb])), (ki, .inr (7, [.ref iw, .ref ib])), (ib, .inl (cS, 1152, .inl (fs)))]) [0, 1, 2] (by decide) rfl
  have hKc := hK.sub (tys' := [(cS, .int)]) [0] rfl
  have hFc := va_free (wc := [(h0, .inr (8, [.ref ki, .ref ko, .ref rx, .ref ry, .ref rn, .int (nI (rs)), .int (nI (be)), .int pp, .int pe, .int gb])), (ki, .inr (7, [.ref iw, .ref ib])), (ib, .inl (cS, 1152, .inl (fs)))]) hD hS hA [0, 1, 2] rfl
  refine va_callv (va_runV (As := [.int xp, .int yp, .int r5486, .int r5487, .int r5490, .int r5491, .int 1]) (rest := []) ⟨hx, hb, hml, hown, hts⟩ (g_BR_paintCurve1 l dC dI h0 ki ko rx ry rn rs be pp pe gb iw ib cS fs xp yp r5486 r5487 r5490 r5491 H.size) (cwV 7 hts (tw_inV w_814 w_816 wp_32 w_10 w_817) rfl rfl rfl (by decide +kernel) ⟨Nat.le_of_ble_eq_true rfl, Nat.le_of_ble_eq_true rfl⟩) ⟨fun a U g mk q => by obtain ⟨q0, q1, qP, qK, qD, qE0⟩ := q; exact ⟨q0, q1, qP, va_K.moved (u := U) (U := U.calling g mk a) (Vm.Alike.refl U.vm) qK, qD, nests.call qE0⟩, va_recv (hK := hK) (hP := hP) (q0 := 0) (ci := 8) rfl rfl, fun U hU hW => ⟨rfl, by rw [hU], by rw [hU]; exact hPc, va_K.moved hW.alike hKc, hDc.weaken (fun _ _ _ _ => trivial), nests.warm hW hNs⟩⟩ rfl rfl hl.1 rfl (lv_room (Nat.le_of_ble_eq_true rfl)) d_BR_partCurve_63 ⟨Nat.le_of_ble_eq_true rfl, Nat.le_of_ble_eq_true rfl⟩) hS (fun q _ h => hFc q h) hFc (fun u t H1 locs ht hvm hw hB hz1 hk1 hS => ?_)
  obtain ⟨gs_5492, hP1, hK1, hD1⟩ := hB
  rw [ht] at hP1
  have hK1 := va_K.moved hvm.symm hK1
  obtain ⟨hP, hD⟩ := va_join (wr := []) (w1 := [(h0, .inr (8, [.ref ki, .ref ko, .ref rx, .ref ry, .ref rn, .int (nI (rs)), .int (nI (be)), .int pp, .int pe, .int gb])), (ki, .inr (7, [.ref iw, .ref ib])), (ib, .inl (cS, 1152, .inl (gs_5492)))]) hP hD [0, 1, 2] [] rfl rfl (by decide) (by decide) hk1 hFc hP1 hD1
  have hK := (hK.sub (tys' := []) [] rfl).app hK1
  generalize H1 = H at hP hS ⊢
  have hP : va_P (dC, dI) cls_ [(h0, .inr (8, [.ref ki, .ref ko, .ref rx, .ref ry, .ref rn, .int (nI (rs)), .int (nI (be)), .int pp, .int pe, .int gb])), (ki, .inr (7, [.ref iw, .ref ib])), (ib, .inl (cS, 1152, .inl (gs_5492)))] H := hP
  have hD : va_D A [(h0, .inr (8, [.ref ki, .ref ko, .ref rx, .ref ry, .ref rn, .int (nI (rs)), .int (nI (be)), .int pp, .int pe, .int gb])), (ki, .inr (7, [.ref iw, .ref ib])), (ib, .inl (cS, 1152, .inl (gs_5492)))] := hD
  have hK : va_K (dC, dI) cls_ [(cS, .int)] s := hK
  refine lv_aload_n hx hb d_BR_partCurve_66 rfl (lv_at hl 6 rfl) ?_
  refine lv_iload hx hb d_BR_partCurve_67 (lv_at hl 1 rfl) ?_
  refine lv_iload hx hb d_BR_partCurve_69 (lv_at hl 0 rfl) ?_
  refine lv_iload hx hb d_BR_partCurve_71 (lv_at hl 3 rfl) ?_
  refine lv_iload hx hb d_BR_partCurve_73 (lv_at hl 2 rfl) ?_
  refine lv_iload hx hb d_BR_partCurve_75 (lv_at hl 11 rfl) ?_
  refine lv_iload hx hb d_BR_partCurve_77 (lv_at hl 12 rfl) ?_
  refine lv_iload hx hb d_BR_partCurve_79 (lv_at hl 13 rfl) ?_
  have hPc := hP.sub (ws' := [(h0, .inr (8, [.ref ki, .ref ko, .ref rx, .ref ry, .ref rn, .int (nI (rs)), .int (nI (be)), .int pp, .int pe, .int gb])), (ki, .inr (7, [.ref iw, .ref ib])), (ib, .inl (cS, 1152, .inl (gs_5492)))]) [0, 1, 2] rfl
  have hDc := hD.sub (ws' := [(h0, .inr (8, [.ref ki, .ref ko, .ref rx, .ref ry, .ref rn, .int (nI (rs)), .int (nI (be)), .int pp, .int pe, .int gb])), (ki, .inr (7, [.ref iw, .ref ib])), (ib, .inl (cS, 1152, .inl (gs_5492)))]) [0, 1, 2] (by decide) rfl
  have hKc := hK.sub (tys' := [(cS, .int)]) [0] rfl
  have hFc := va_free (wc := [(h0, .inr (8, [.ref ki, .ref ko, .ref rx, .ref ry, .ref rn, .int (nI (rs)), .int (nI (be)), .int pp, .int pe, .int gb])), (ki, .inr (7, [.ref iw, .ref ib])), (ib, .inl (cS, 1152, .inl (gs_5492)))]) hD hS hA [0, 1, 2] rfl
  refine va_callv (va_runV (As := [.int r5490, .int r5491, .int r5488, .int r5489, .int xr, .int yr, .int 1]) (rest := []) ⟨hx, hb, hml, hown, hts⟩ (g_BR_paintCurve1 l dC dI h0 ki ko rx ry rn rs be pp pe gb iw ib cS gs_5492 r5490 r5491 r5488 r5489 xr yr H.size) (cwV 7 hts (tw_inV w_814 w_816 wp_32 w_10 w_817) rfl rfl rfl (by decide +kernel) ⟨Nat.le_of_ble_eq_true rfl, Nat.le_of_ble_eq_true rfl⟩) ⟨fun a U g mk q => by obtain ⟨q0, q1, qP, qK, qD, qE0⟩ := q; exact ⟨q0, q1, qP, va_K.moved (u := U) (U := U.calling g mk a) (Vm.Alike.refl U.vm) qK, qD, nests.call qE0⟩, va_recv (hK := hK) (hP := hP) (q0 := 0) (ci := 8) rfl rfl, fun U hU hW => ⟨rfl, by rw [hU], by rw [hU]; exact hPc, va_K.moved hW.alike hKc, hDc.weaken (fun _ _ _ _ => trivial), nests.warm hW hNs⟩⟩ rfl rfl hl.1 rfl (lv_room (Nat.le_of_ble_eq_true rfl)) d_BR_partCurve_81 ⟨Nat.le_of_ble_eq_true rfl, Nat.le_of_ble_eq_true rfl⟩) hS (fun q _ h => hFc q h) hFc (fun u t H1 locs ht hvm hw hB hz1 hk1 hS => ?_)
  obtain ⟨gs_5493, hP1, hK1, hD1⟩ := hB
  rw [ht] at hP1
  have hK1 := va_K.moved hvm.symm hK1
  obtain ⟨hP, hD⟩ := va_join (wr := []) (w1 := [(h0, .inr (8, [.ref ki, .ref ko, .ref rx, .ref ry, .ref rn, .int (nI (rs)), .int (nI (be)), .int pp, .int pe, .int gb])), (ki, .inr (7, [.ref iw, .ref ib])), (ib, .inl (cS, 1152, .inl (gs_5493)))]) hP hD [0, 1, 2] [] rfl rfl (by decide) (by decide) hk1 hFc hP1 hD1
  have hK := (hK.sub (tys' := []) [] rfl).app hK1
  generalize H1 = H at hP hS ⊢
  have hP : va_P (dC, dI) cls_ [(h0, .inr (8, [.ref ki, .ref ko, .ref rx, .ref ry, .ref rn, .int (nI (rs)), .int (nI (be)), .int pp, .int pe, .int gb])), (ki, .inr (7, [.ref iw, .ref ib])), (ib, .inl (cS, 1152, .inl (gs_5493)))] H := hP
  have hD : va_D A [(h0, .inr (8, [.ref ki, .ref ko, .ref rx, .ref ry, .ref rn, .int (nI (rs)), .int (nI (be)), .int pp, .int pe, .int gb])), (ki, .inr (7, [.ref iw, .ref ib])), (ib, .inl (cS, 1152, .inl (gs_5493)))] := hD
  have hK : va_K (dC, dI) cls_ [(cS, .int)] s := hK
  refine W.widen (k := 0) (n := 0) (Nat.le_of_ble_eq_true rfl) (Nat.le_of_ble_eq_true rfl) ?_
  have hP9 := hP.sub (ws' := [(h0, .inr (8, [.ref ki, .ref ko, .ref rx, .ref ry, .ref rn, .int (nI (rs)), .int (nI (be)), .int pp, .int pe, .int gb])), (ki, .inr (7, [.ref iw, .ref ib])), (ib, .inl (cS, 1152, .inl (gs_5493)))]) [0, 1, 2] rfl
  have hD9 := hD.sub (ws' := [(h0, .inr (8, [.ref ki, .ref ko, .ref rx, .ref ry, .ref rn, .int (nI (rs)), .int (nI (be)), .int pp, .int pe, .int gb])), (ki, .inr (7, [.ref iw, .ref ib])), (ib, .inl (cS, 1152, .inl (gs_5493)))]) [0, 1, 2] (by decide) rfl
  have hK9 := hK.sub (tys' := [(cS, .int)]) [0] rfl
  exact W.vret hx hb hr (fun t ht hW => ⟨⟨(), rfl, trivial, gs_5493, by rw [ht]; exact hP9, va_K.moved hW.alike hK9, hD9⟩, hS.F ht⟩) hS.2.2 d_BR_partCurve_84
set_option maxHeartbeats 4000000 in
set_option maxRecDepth 100000 in
/-- GlyphLines$Brush.paintCurve -/
theorem g_BR_paintCurve0 (l : Launch) (dC : Nat → ClassId) (dI : Nat → Nat → Nat) (h0 : Nat) (ki : Nat) (ko : Nat) (rx : Nat) (ry : Nat) (rn : Nat) (rs : Nat) (be : Nat) (pp : Int32) (pe : Int32) (gb : Int32) (iw : Nat) (ib : Nat) (cS : ClassId) (fs : Nat → Int32) (xp : Int32) (yp : Int32) (xq : Int32) (yq : Int32) (xr : Int32) (yr : Int32) (sz : Nat) : Met l y_BR_paintCurve s_BR_paintCurve ({ frames := 44, cells := 0, slots := 0, locals := 1480 }) (va_Pc [.ref h0, .int xp, .int yp, .int xq, .int yq, .int xr, .int yr, .int 0] (fun U => U.heap.size = sz ∧ va_P (dC, dI) cls_ [(h0, .inr (8, [.ref ki, .ref ko, .ref rx, .ref ry, .ref rn, .int (nI (rs)), .int (nI (be)), .int pp, .int pe, .int gb])), (ki, .inr (7, [.ref iw, .ref ib])), (ib, .inl (cS, 1152, .inl (fs)))] U.heap ∧ va_K (dC, dI) cls_ [(cS, .int)] U ∧ va_D (fun _ => True) [(h0, .inr (8, [.ref ki, .ref ko, .ref rx, .ref ry, .ref rn, .int (nI (rs)), .int (nI (be)), .int pp, .int pe, .int gb])), (ki, .inr (7, [.ref iw, .ref ib])), (ib, .inl (cS, 1152, .inl (fs)))] ∧ nests U)) (va_Qv (fun _ : Unit => True) (fun (_ : Unit) (t : State) => ∃ (gs : Nat → Int32), va_P (dC, dI) cls_ [(h0, .inr (8, [.ref ki, .ref ko, .ref rx, .ref ry, .ref rn, .int (nI (rs)), .int (nI (be)), .int pp, .int pe, .int gb])), (ki, .inr (7, [.ref iw, .ref ib])), (ib, .inl (cS, 1152, .inl (gs)))] t.heap ∧ va_K (dC, dI) cls_ [(cS, .int)] t ∧ va_D (va_A [(h0, .inr (8, [.ref ki, .ref ko, .ref rx, .ref ry, .ref rn, .int (nI (rs)), .int (nI (be)), .int pp, .int pe, .int gb])), (ki, .inr (7, [.ref iw, .ref ib])), (ib, .inl (cS, 1152, .inl (fs)))] sz) [(h0, .inr (8, [.ref ki, .ref ko, .ref rx, .ref ry, .ref rn, .int (nI (rs)), .int (nI (be)), .int pp, .int pe, .int gb])), (ki, .inr (7, [.ref iw, .ref ib])), (ib, .inl (cS, 1152, .inl (gs)))]) (va_A [(h0, .inr (8, [.ref ki, .ref ko, .ref rx, .ref ry, .ref rn, .int (nI (rs)), .int (nI (be)), .int pp, .int pe, .int gb])), (ki, .inr (7, [.ref iw, .ref ib])), (ib, .inl (cS, 1152, .inl (fs)))] sz)) 0 0 (va_A [(h0, .inr (8, [.ref ki, .ref ko, .ref rx, .ref ry, .ref rn, .int (nI (rs)), .int (nI (be)), .int pp, .int pe, .int gb])), (ki, .inr (7, [.ref iw, .ref ib])), (ib, .inl (cS, 1152, .inl (fs)))] sz) := by
  refine Met.ofW (cc := b_BR_paintCurve) (maxL := 8) (ret := none) (by decide) rfl ?_
  intro p e s m args below meth c s₁ B hml hv
  obtain ⟨rfl, hsz, hP, hK, hD0, hNs⟩ := hv
  have hx := B.exec
  have hb := B.bytes
  have hr := B.returns
  have hts := atoms_spec (ws := s_BR_paintCurve) B.pre
  have hown : s.vm.findClass R_BR = some m.cls := findClass_of_methodNamed B.named
  have hlocks := B.notSynchronized
  subst hsz
  have hD := hD0.self (sz := s.heap.size)
  generalize hAe : va_A [(h0, .inr (8, [.ref ki, .ref ko, .ref rx, .ref ry, .ref rn, .int (nI (rs)), .int (nI (be)), .int pp, .int pe, .int gb])), (ki, .inr (7, [.ref iw, .ref ib])), (ib, .inl (cS, 1152, .inl (fs)))] s.heap.size = A at hD ⊢
  have hA : ∀ q : Nat, s.heap.size ≤ q → A q := fun q h => by rw [← hAe]; exact Or.inr h
  have hS : va_S A s.heap s.heap [] := va_S.rf
  have hP : va_P (dC, dI) cls_ [(h0, .inr (8, [.ref ki, .ref ko, .ref rx, .ref ry, .ref rn, .int (nI (rs)), .int (nI (be)), .int pp, .int pe, .int gb])), (ki, .inr (7, [.ref iw, .ref ib])), (ib, .inl (cS, 1152, .inl (fs)))] s.heap := hP
  have hl := lv_entry ([.ref h0, .int xp, .int yp, .int xq, .int yq, .int xr, .int yr, .int 0]) (n := 8) (Nat.le_of_ble_eq_true rfl)
  rw [lg_entry_eq]
  generalize (lg_sl ([.ref h0, .int xp, .int yp, .int xq, .int yq, .int xr, .int yr, .int 0]) ++ List.replicate (8 - (lg_sl ([.ref h0, .int xp, .int yp, .int xq, .int yq, .int xr, .int yr, .int 0])).length) Slot.unset).toArray = ls at hl ⊢
  have hl : lv_has ls 8 [(0, .ref h0), (1, .int xp), (2, .int yp), (3, .int xq), (4, .int yq), (5, .int xr), (6, .int yr), (7, .int 0)] := hl
  refine lv_iload hx hb d_BR_paintCurve_0 (lv_at hl 7 rfl) ?_
  refine lv_bipush (v := 6) hx hb d_BR_paintCurve_2 (by decide) ?_
  refine lv_icmp_ge (tgt := 28) hx hb d_BR_paintCurve_4 (by decide) (fun hc => absurd hc (by decide +kernel)) (fun _ => ?_)
  refine lv_iload_n hx hb d_BR_paintCurve_7 rfl (lv_at hl 3 rfl) ?_
  refine lv_iload_n hx hb d_BR_paintCurve_8 rfl (lv_at hl 1 rfl) ?_
  refine lv_isub hx hb d_BR_paintCurve_9 ?_
  refine lv_topi (fun v5494 ev5494 => ?_)
  refine lv_iload hx hb d_BR_paintCurve_10 (lv_at hl 4 rfl) ?_
  refine lv_iload_n hx hb d_BR_paintCurve_12 rfl (lv_at hl 2 rfl) ?_
  refine lv_isub hx hb d_BR_paintCurve_13 ?_
  refine lv_topi (fun v5495 ev5495 => ?_)
  refine lv_iload hx hb d_BR_paintCurve_14 (lv_at hl 5 rfl) ?_
  refine lv_iload_n hx hb d_BR_paintCurve_16 rfl (lv_at hl 1 rfl) ?_
  refine lv_isub hx hb d_BR_paintCurve_17 ?_
  refine lv_topi (fun v5496 ev5496 => ?_)
  refine lv_iload hx hb d_BR_paintCurve_18 (lv_at hl 6 rfl) ?_
  refine lv_iload_n hx hb d_BR_paintCurve_20 rfl (lv_at hl 2 rfl) ?_
  refine lv_isub hx hb d_BR_paintCurve_21 ?_
  refine lv_topi (fun v5497 ev5497 => ?_)
  have hPc := hP.sub (ws' := []) [] rfl
  have hDc := hD.sub (ws' := []) [] (by decide) rfl
  have hKc := hK.sub (tys' := []) [] rfl
  have hFc := va_free (wc := []) hD hS hA [] rfl
  refine va_calli (va_runS (As := [.int v5494, .int v5495, .int v5496, .int v5497]) (rest := []) ⟨hx, hb, hml, hown, hts⟩ (g_BR_isFlat l dC dI v5494 v5495 v5496 v5497 s.heap.size) (cwS 4 hts (tw_inS w_818 w_819 w_10 w_820) rfl rfl rfl (by decide +kernel) ⟨Nat.le_of_ble_eq_true rfl, Nat.le_of_ble_eq_true rfl⟩) ⟨fun a U g mk q => by obtain ⟨q0, q1, qP, qK, qD⟩ := q; exact ⟨q0, q1, qP, va_K.moved (u := U) (U := U.calling g mk a) (Vm.Alike.refl U.vm) qK, qD⟩, fun U hU hW => ⟨rfl, by rw [hU], by rw [hU]; exact hPc, va_K.moved hW.alike hKc, hDc.weaken (fun _ _ _ _ => trivial)⟩⟩ rfl rfl hl.1 rfl (lv_room (Nat.le_of_ble_eq_true rfl)) d_BR_paintCurve_22 ⟨Nat.le_of_ble_eq_true rfl, Nat.le_of_ble_eq_true rfl⟩) hS (fun q _ h => hFc q h) hFc (fun r5498 u t H1 locs ht hvm hw hB hz1 hk1 hS => ?_)
  have hP1 : va_P (dC, dI) cls_ [] H1 := fun k q h => by simp at h
  have hD1 : va_D (va_A [] s.heap.size) [] := ⟨fun i j p q h => by simp at h, fun k q h => by simp at h⟩
  obtain ⟨hP, hD⟩ := va_join (wr := [(h0, .inr (8, [.ref ki, .ref ko, .ref rx, .ref ry, .ref rn, .int (nI (rs)), .int (nI (be)), .int pp, .int pe, .int gb])), (ki, .inr (7, [.ref iw, .ref ib])), (ib, .inl (cS, 1152, .inl (fs)))]) (w1 := []) hP hD [] [0, 1, 2] rfl rfl (by decide) (by decide) hk1 hFc hP1 hD1
  generalize H1 = H at hP hS ⊢
  have hP : va_P (dC, dI) cls_ [(h0, .inr (8, [.ref ki, .ref ko, .ref rx, .ref ry, .ref rn, .int (nI (rs)), .int (nI (be)), .int pp, .int pe, .int gb])), (ki, .inr (7, [.ref iw, .ref ib])), (ib, .inl (cS, 1152, .inl (fs)))] H := hP
  have hD : va_D A [(h0, .inr (8, [.ref ki, .ref ko, .ref rx, .ref ry, .ref rn, .int (nI (rs)), .int (nI (be)), .int pp, .int pe, .int gb])), (ki, .inr (7, [.ref iw, .ref ib])), (ib, .inl (cS, 1152, .inl (fs)))] := hD
  have hw_r5498 := hw
  obtain ⟨bb5499, rfl⟩ := hw_r5498
  refine lv_if_eq (tgt := 44) hx hb d_BR_paintCurve_25 (by decide) (fun hc5500 => ?_) (fun hc5500 => ?_)
  · skip
    have hc5500b : bb5499 = false := bI_0 hc5500
    refine lv_aload_n hx hb d_BR_paintCurve_44 rfl (lv_at hl 0 rfl) ?_
    refine lv_iload_n hx hb d_BR_paintCurve_45 rfl (lv_at hl 1 rfl) ?_
    refine lv_iload_n hx hb d_BR_paintCurve_46 rfl (lv_at hl 2 rfl) ?_
    refine lv_iload_n hx hb d_BR_paintCurve_47 rfl (lv_at hl 3 rfl) ?_
    refine lv_iload hx hb d_BR_paintCurve_48 (lv_at hl 4 rfl) ?_
    refine lv_iload hx hb d_BR_paintCurve_50 (lv_at hl 5 rfl) ?_
    refine lv_iload hx hb d_BR_paintCurve_52 (lv_at hl 6 rfl) ?_
    refine lv_iload hx hb d_BR_paintCurve_54 (lv_at hl 7 rfl) ?_
    refine lv_iconst (v := 1) hx hb d_BR_paintCurve_56 (by decide) ?_
    refine lv_iadd hx hb d_BR_paintCurve_57 ?_
    refine lv_ci (y := 1) (by decide +kernel) ?_
    have hPc := hP.sub (ws' := [(h0, .inr (8, [.ref ki, .ref ko, .ref rx, .ref ry, .ref rn, .int (nI (rs)), .int (nI (be)), .int pp, .int pe, .int gb])), (ki, .inr (7, [.ref iw, .ref ib])), (ib, .inl (cS, 1152, .inl (fs)))]) [0, 1, 2] rfl
    have hDc := hD.sub (ws' := [(h0, .inr (8, [.ref ki, .ref ko, .ref rx, .ref ry, .ref rn, .int (nI (rs)), .int (nI (be)), .int pp, .int pe, .int gb])), (ki, .inr (7, [.ref iw, .ref ib])), (ib, .inl (cS, 1152, .inl (fs)))]) [0, 1, 2] (by decide) rfl
    have hKc := hK.sub (tys' := [(cS, .int)]) [0] rfl
    have hFc := va_free (wc := [(h0, .inr (8, [.ref ki, .ref ko, .ref rx, .ref ry, .ref rn, .int (nI (rs)), .int (nI (be)), .int pp, .int pe, .int gb])), (ki, .inr (7, [.ref iw, .ref ib])), (ib, .inl (cS, 1152, .inl (fs)))]) hD hS hA [0, 1, 2] rfl
    refine va_callv (va_runV (As := [.int xp, .int yp, .int xq, .int yq, .int xr, .int yr, .int 1]) (rest := []) ⟨hx, hb, hml, hown, hts⟩ (g_BR_partCurve1 l dC dI h0 ki ko rx ry rn rs be pp pe gb iw ib cS fs xp yp xq yq xr yr H.size) (cwV 7 hts (tw_inV w_829 w_831 wp_33 w_10 w_832) rfl rfl rfl (by decide +kernel) ⟨Nat.le_of_ble_eq_true rfl, Nat.le_of_ble_eq_true rfl⟩) ⟨fun a U g mk q => by obtain ⟨q0, q1, qP, qK, qD, qE0⟩ := q; exact ⟨q0, q1, qP, va_K.moved (u := U) (U := U.calling g mk a) (Vm.Alike.refl U.vm) qK, qD, nests.call qE0⟩, va_recv (hK := hK) (hP := hP) (q0 := 0) (ci := 8) rfl rfl, fun U hU hW => ⟨rfl, by rw [hU], by rw [hU]; exact hPc, va_K.moved hW.alike hKc, hDc.weaken (fun _ _ _ _ => trivial), nests.warm hW hNs⟩⟩ rfl rfl hl.1 rfl (lv_room (Nat.le_of_ble_eq_true rfl)) d_BR_paintCurve_58 ⟨Nat.le_of_ble_eq_true rfl, Nat.le_of_ble_eq_true rfl⟩) hS (fun q _ h => hFc q h) hFc (fun u t H1 locs ht hvm hw hB hz1 hk1 hS => ?_)
    obtain ⟨gs_5501, hP1, hK1, hD1⟩ := hB
    rw [ht] at hP1
    have hK1 := va_K.moved hvm.symm hK1
    obtain ⟨hP, hD⟩ := va_join (wr := []) (w1 := [(h0, .inr (8, [.ref ki, .ref ko, .ref rx, .ref ry, .ref rn, .int (nI (rs)), .int (nI (be)), .int pp, .int pe, .int gb])), (ki, .inr (7, [.ref iw, .ref ib])), (ib, .inl (cS, 1152, .inl (gs_5501)))]) hP hD [0, 1, 2] [] rfl rfl (by decide) (by decide) hk1 hFc hP1 hD1
    have hK := (hK.sub (tys' := []) [] rfl).app hK1
    generalize H1 = H at hP hS ⊢
    have hP : va_P (dC, dI) cls_ [(h0, .inr (8, [.ref ki, .ref ko, .ref rx, .ref ry, .ref rn, .int (nI (rs)), .int (nI (be)), .int pp, .int pe, .int gb])), (ki, .inr (7, [.ref iw, .ref ib])), (ib, .inl (cS, 1152, .inl (gs_5501)))] H := hP
    have hD : va_D A [(h0, .inr (8, [.ref ki, .ref ko, .ref rx, .ref ry, .ref rn, .int (nI (rs)), .int (nI (be)), .int pp, .int pe, .int gb])), (ki, .inr (7, [.ref iw, .ref ib])), (ib, .inl (cS, 1152, .inl (gs_5501)))] := hD
    have hK : va_K (dC, dI) cls_ [(cS, .int)] s := hK
    refine W.widen (k := 0) (n := 0) (Nat.le_of_ble_eq_true rfl) (Nat.le_of_ble_eq_true rfl) ?_
    have hP9 := hP.sub (ws' := [(h0, .inr (8, [.ref ki, .ref ko, .ref rx, .ref ry, .ref rn, .int (nI (rs)), .int (nI (be)), .int pp, .int pe, .int gb])), (ki, .inr (7, [.ref iw, .ref ib])), (ib, .inl (cS, 1152, .inl (gs_5501)))]) [0, 1, 2] rfl
    have hD9 := hD.sub (ws' := [(h0, .inr (8, [.ref ki, .ref ko, .ref rx, .ref ry, .ref rn, .int (nI (rs)), .int (nI (be)), .int pp, .int pe, .int gb])), (ki, .inr (7, [.ref iw, .ref ib])), (ib, .inl (cS, 1152, .inl (gs_5501)))]) [0, 1, 2] (by decide) rfl
    have hK9 := hK.sub (tys' := [(cS, .int)]) [0] rfl
    exact W.vret hx hb hr (fun t ht hW => ⟨⟨(), rfl, trivial, gs_5501, by rw [ht]; exact hP9, va_K.moved hW.alike hK9, hD9⟩, hS.F ht⟩) hS.2.2 d_BR_paintCurve_61
  · skip
    have hc5500b : bb5499 = true := bI_1 hc5500
    refine lv_aload_n hx hb d_BR_paintCurve_28 rfl (lv_at hl 0 rfl) ?_
    refine va_get (D := (dC, dI)) (ci := 8) (v := .ref ki) (C := R_BR) (T := F_BR) (N := 10) hx hb hts in_BR hown hK hP 0 rfl rfl 0 (by decide) (hts _ (List.mem_cons_of_mem _ w_255)) (fun _ h9 => h9) rfl d_BR_paintCurve_29 ?_
    refine lv_iload_n hx hb d_BR_paintCurve_32 rfl (lv_at hl 1 rfl) ?_
    refine lv_iload_n hx hb d_BR_paintCurve_33 rfl (lv_at hl 2 rfl) ?_
    refine lv_iload hx hb d_BR_paintCurve_34 (lv_at hl 5 rfl) ?_
    refine lv_iload hx hb d_BR_paintCurve_36 (lv_at hl 6 rfl) ?_
    have hPc := hP.sub (ws' := [(ki, .inr (7, [.ref iw, .ref ib])), (ib, .inl (cS, 1152, .inl (fs)))]) [1, 2] rfl
    have hDc := hD.sub (ws' := [(ki, .inr (7, [.ref iw, .ref ib])), (ib, .inl (cS, 1152, .inl (fs)))]) [1, 2] (by decide) rfl
    have hKc := hK.sub (tys' := [(cS, .int)]) [0] rfl
    have hFc := va_free (wc := [(ki, .inr (7, [.ref iw, .ref ib])), (ib, .inl (cS, 1152, .inl (fs)))]) hD hS hA [1, 2] rfl
    refine va_callv (va_runV (As := [.int xp, .int yp, .int xr, .int yr]) (rest := []) ⟨hx, hb, hml, hown, hts⟩ (g_PI_addLine l dC dI ki iw ib cS fs xp yp xr yr H.size) (cwV 4 hts (tw_inV w_801 w_802 w_803 w_9 w_804) rfl rfl rfl (by decide +kernel) ⟨Nat.le_of_ble_eq_true rfl, Nat.le_of_ble_eq_true rfl⟩) ⟨fun a U g mk q => by obtain ⟨q0, q1, qP, qK, qD⟩ := q; exact ⟨q0, q1, qP, va_K.moved (u := U) (U := U.calling g mk a) (Vm.Alike.refl U.vm) qK, qD⟩, va_recv (hK := hK) (hP := hP) (q0 := 1) (ci := 7) rfl rfl, fun U hU hW => ⟨rfl, by rw [hU], by rw [hU]; exact hPc, va_K.moved hW.alike hKc, hDc.weaken (fun _ _ _ _ => trivial)⟩⟩ rfl rfl hl.1 rfl (lv_room (Nat.le_of_ble_eq_true rfl)) d_BR_paintCurve_38 ⟨Nat.le_of_ble_eq_true rfl, Nat.le_of_ble_eq_true rfl⟩) hS (fun q _ h => hFc q h) hFc (fun u t H1 locs ht hvm hw hB hz1 hk1 hS => ?_)
    obtain ⟨gs_5502, hP1, hK1, hD1⟩ := hB
    rw [ht] at hP1
    have hK1 := va_K.moved hvm.symm hK1
    obtain ⟨hP, hD⟩ := va_join (wr := [(h0, .inr (8, [.ref ki, .ref ko, .ref rx, .ref ry, .ref rn, .int (nI (rs)), .int (nI (be)), .int pp, .int pe, .int gb]))]) (w1 := [(ki, .inr (7, [.ref iw, .ref ib])), (ib, .inl (cS, 1152, .inl (gs_5502)))]) hP hD [1, 2] [0] rfl rfl (by decide) (by decide) hk1 hFc hP1 hD1
    have hK := (hK.sub (tys' := []) [] rfl).app hK1
    generalize H1 = H at hP hS ⊢
    have hP : va_P (dC, dI) cls_ [(h0, .inr (8, [.ref ki, .ref ko, .ref rx, .ref ry, .ref rn, .int (nI (rs)), .int (nI (be)), .int pp, .int pe, .int gb])), (ki, .inr (7, [.ref iw, .ref ib])), (ib, .inl (cS, 1152, .inl (gs_5502)))] H := hP
    have hD : va_D A [(h0, .inr (8, [.ref ki, .ref ko, .ref rx, .ref ry, .ref rn, .int (nI (rs)), .int (nI (be)), .int pp, .int pe, .int gb])), (ki, .inr (7, [.ref iw, .ref ib])), (ib, .inl (cS, 1152, .inl (gs_5502)))] := hD
    have hK : va_K (dC, dI) cls_ [(cS, .int)] s := hK
    refine lv_goto (tgt := 61) hx hb d_BR_paintCurve_41 (by decide) ?_
    refine W.widen (k := 0) (n := 0) (Nat.le_of_ble_eq_true rfl) (Nat.le_of_ble_eq_true rfl) ?_
    have hP9 := hP.sub (ws' := [(h0, .inr (8, [.ref ki, .ref ko, .ref rx, .ref ry, .ref rn, .int (nI (rs)), .int (nI (be)), .int pp, .int pe, .int gb])), (ki, .inr (7, [.ref iw, .ref ib])), (ib, .inl (cS, 1152, .inl (gs_5502)))]) [0, 1, 2] rfl
    have hD9 := hD.sub (ws' := [(h0, .inr (8, [.ref ki, .ref ko, .ref rx, .ref ry, .ref rn, .int (nI (rs)), .int (nI (be)), .int pp, .int pe, .int gb])), (ki, .inr (7, [.ref iw, .ref ib])), (ib, .inl (cS, 1152, .inl (gs_5502)))]) [0, 1, 2] (by decide) rfl
    have hK9 := hK.sub (tys' := [(cS, .int)]) [0] rfl
    exact W.vret hx hb hr (fun t ht hW => ⟨⟨(), rfl, trivial, gs_5502, by rw [ht]; exact hP9, va_K.moved hW.alike hK9, hD9⟩, hS.F ht⟩) hS.2.2 d_BR_paintCurve_61
